/-! what holds of the state before and behind every call -/
theorem csB_app {cs : List Pt} {a b : Int} (h : csB cs) (hw : owP a b) : csB (cs ++ [(a, b)]) := by
  intro j
  have hj := h j
  unfold owP at hw
  unfold cX cY at *
  rcases Nat.lt_trichotomy j cs.length with q | q | q
  · have e : (cs ++ [(a, b)]).getD j (0, 0) = cs.getD j (0, 0) := by rw [List.getD_eq_getElem?_getD, List.getD_eq_getElem?_getD, List.getElem?_append_left q]
    rw [e]
    exact hj
  · have e : (cs ++ [(a, b)]).getD j (0, 0) = (a, b) := by rw [List.getD_eq_getElem?_getD, q, List.getElem?_append_right (Nat.le_refl _), Nat.sub_self]; rfl
    rw [e]
    show (0 ≤ a ∧ a ≤ 4095) ∧ (0 ≤ b ∧ b ≤ 4095)
    omega
  · have e : (cs ++ [(a, b)]).getD j (0, 0) = (0, 0) := by rw [List.getD_eq_getElem?_getD, List.getElem?_eq_none (by simp only [List.length_append, List.length_cons, List.length_nil]; omega)]; rfl
    rw [e]
    exact ⟨⟨by decide, by decide⟩, ⟨by decide, by decide⟩⟩
theorem csB_nil : csB [] := fun j => ⟨⟨by simp [cX], by simp [cX]⟩, ⟨by simp [cY], by simp [cY]⟩⟩
theorem esL_nil : esL [] := ⟨⟨fun j hj => absurd hj (by simp), fun i j _ hj => absurd hj (by simp)⟩, by simp, fun j hj => absurd hj (by simp)⟩
theorem dB_iff {P : Prop} : dB P = true ↔ P := by unfold dB; exact @decide_eq_true_iff P (Classical.propDecidable P)
theorem sFe_ok {F : Ft} (h : sFe F = true) (hc : csB F.2.2) : fOk F := by
  unfold sFe at h
  rw [Bool.and_eq_true, dB_iff, dB_iff] at h
  exact ⟨h.1, h.2, hc⟩
theorem putL_ok {Fs : List Ft} {F : Ft} (h : esL Fs) (hF : fOk F) (hl : F.2.2.length ≤ 12) : esL (putL Fs F) := by
  obtain ⟨⟨h1, h2⟩, h3, h4⟩ := h
  have hp := plN_le Fs F.1.1
  have sp := plN_sp Fs F.1.1
  unfold putL
  generalize plN Fs F.1.1 = p at *
  split
  · rename_i q
    unfold itB at q
    rw [Bool.and_eq_true, decide_eq_true_eq, decide_eq_true_eq] at q
    obtain ⟨q1, q2⟩ := q
    refine ⟨⟨fun j hj => ?_, fun i j hij hj => ?_⟩, by rw [List.length_set]; exact h3, fun j hj => ?_⟩
    · rw [List.length_set] at hj
      rw [fA_set q1]
      split
      · exact hF
      · exact h1 j hj
    · rw [List.length_set] at hj
      have g := h2 i j hij hj
      rw [fA_set q1, fA_set q1]
      by_cases z1 : i = p
      · rw [if_pos z1, if_neg (by omega)]
        subst z1
        omega
      · rw [if_neg z1]
        by_cases z2 : j = p
        · rw [if_pos z2]
          subst z2
          omega
        · rw [if_neg z2]
          exact g
    · rw [List.length_set] at hj
      rw [fA_set q1]
      split
      · exact hl
      · exact h4 j hj
  · rename_i q
    split
    · rename_i q24
      have hlen := insL_len (F := F) hp
      refine ⟨⟨fun j hj => ?_, fun i j hij hj => ?_⟩, by rw [hlen]; omega, fun j hj => ?_⟩
      · rw [hlen] at hj
        rw [fA_ins hp]
        split
        · exact h1 j (by omega)
        · split
          · exact hF
          · exact h1 (j - 1) (by omega)
      · rw [hlen] at hj
        rw [fA_ins hp, fA_ins hp]
        have lo : ∀ t, t < p → (fA Fs t).1.1 < F.1.1 := fun t ht => sp.1 t ht
        have hi : ∀ t, p ≤ t → t < Fs.length → F.1.1 < (fA Fs t).1.1 := fun t ht ht2 => by
          have e0 := sp.2 (by omega)
          have e1 : (fA Fs p).1.1 ≠ F.1.1 := fun z => q (by unfold itB; rw [decide_eq_true (show p < Fs.length by omega), decide_eq_true z]; rfl)
          rcases Nat.lt_or_eq_of_le ht with y | y
          · have := h2 p t y ht2
            omega
          · subst y
            omega
        by_cases z1 : i < p
        · rw [if_pos z1]
          by_cases z2 : j < p
          · rw [if_pos z2]; exact h2 i j hij (by omega)
          · rw [if_neg z2]
            by_cases z3 : j = p
            · rw [if_pos z3]; exact lo i z1
            · rw [if_neg z3]; exact h2 i (j - 1) (by omega) (by omega)
        · rw [if_neg z1, if_neg (show ¬ j < p by omega), if_neg (show ¬ j = p by omega)]
          by_cases z3 : i = p
          · rw [if_pos z3]; exact hi (j - 1) (by omega) (by omega)
          · rw [if_neg z3]; exact h2 (i - 1) (j - 1) (by omega) (by omega)
      · rw [hlen] at hj
        rw [fA_ins hp]
        split
        · exact h4 j (by omega)
        · split
          · exact hl
          · exact h4 (j - 1) (by omega)
    · exact ⟨⟨h1, h2⟩, h3, h4⟩
theorem rmE_ok {Fs : List Ft} {n : Int} (h : esL Fs) : esL (rmE Fs n) := by
  obtain ⟨⟨h1, h2⟩, h3, h4⟩ := h
  unfold rmE
  split
  · rename_i q
    unfold itB at q
    rw [Bool.and_eq_true, decide_eq_true_eq, decide_eq_true_eq] at q
    generalize plN Fs n = p at *
    have hlen : (Fs.eraseIdx p).length = Fs.length - 1 := List.length_eraseIdx_of_lt q.1
    refine ⟨⟨fun j hj => ?_, fun i j hij hj => ?_⟩, by omega, fun j hj => ?_⟩
    · rw [hlen] at hj
      rw [fA_del]
      split
      · exact h1 j (by omega)
      · exact h1 (j + 1) (by omega)
    · rw [hlen] at hj
      rw [fA_del, fA_del]
      by_cases z1 : i < p
      · rw [if_pos z1]
        by_cases z2 : j < p
        · rw [if_pos z2]; exact h2 i j hij (by omega)
        · rw [if_neg z2]; exact h2 i (j + 1) (by omega) (by omega)
      · rw [if_neg z1, if_neg (show ¬ j < p by omega)]
        exact h2 (i + 1) (j + 1) (by omega) (by omega)
    · rw [hlen] at hj
      rw [fA_del]
      split
      · exact h4 j (by omega)
      · exact h4 (j + 1) (by omega)
  · exact ⟨⟨h1, h2⟩, h3, h4⟩
theorem es_iff (Fs : List Ft) : esL Fs ↔ (∀ F ∈ Fs, fOk F ∧ F.2.2.length ≤ 12) ∧ Fs.Pairwise (fun F G => F.1.1 < G.1.1) ∧ Fs.length ≤ 24 := by
  have ge : ∀ (j : Nat) (hj : j < Fs.length), fA Fs j = Fs[j] := fun j hj => by unfold fA; rw [List.getD_eq_getElem?_getD, List.getElem?_eq_getElem hj]; rfl
  constructor
  · rintro ⟨⟨h1, h2⟩, h3, h4⟩
    refine ⟨fun F hF => ?_, ?_, h3⟩
    · obtain ⟨j, hj, e⟩ := List.getElem_of_mem hF
      rw [← e, ← ge j hj]
      exact ⟨h1 j hj, h4 j hj⟩
    · rw [List.pairwise_iff_getElem]
      intro i j hi hj hij
      rw [← ge i hi, ← ge j hj]
      exact h2 i j hij hj
  · rintro ⟨h1, h2, h3⟩
    refine ⟨⟨fun j hj => ?_, fun i j hij hj => ?_⟩, h3, fun j hj => ?_⟩
    · rw [ge j hj]; exact (h1 _ (List.getElem_mem hj)).1
    · rw [ge i (by omega), ge j hj]
      exact List.pairwise_iff_getElem.mp h2 i j (by omega) hj hij
    · rw [ge j hj]; exact (h1 _ (List.getElem_mem hj)).2
theorem mtL_ok {R : Rg} {Gs : List Ft} (h : esL Gs) : esL (mtL R Gs) := by
  obtain ⟨h1, h2, h3⟩ := (es_iff Gs).mp h
  have hs : (mtL R Gs).Sublist Gs := List.filter_sublist
  exact (es_iff _).mpr ⟨fun F hF => h1 F (hs.subset hF), h2.sublist hs, Nat.le_trans hs.length_le h3⟩
theorem otk_b {pk : Option Pk} {z tx ty : Int} (h : ∀ D, pk = some D → tsOk D.2.2.2) : ∀ x ∈ otk pk z tx ty, x < 256 := by
  cases pk with
  | none => intro x hx; simp [otk] at hx
  | some D =>
    intro x hx
    have ok := h D rfl
    unfold otk at hx
    dsimp only at hx
    unfold tkB at hx
    rcases fndP_spec (tkF D.2.2.2 z tx ty) D.2.2.2.length 0 with ⟨c, g1, g2, g3, g4, g5⟩ | ⟨g1, g2⟩
    · rw [g1] at hx
      exact (ok c (by omega)).2.2.2.2.2 x hx
    · rw [g1] at hx
      simp [tkO] at hx
/-- the whole of it -/
def Inv (cs : List Pt) (Fs : List Ft) (kp : Nat → List Ft) (cl : Nat) (hb : List Nat) (rg : Option Rg) (pk : Option Pk) (df : Option (Pk × Pk)) : Prop := StOk cs Fs kp cl hb rg pk df ∧ (∀ R, rg = some R → rgO R) ∧ (∀ D, pk = some D → tsQ D.2.2.2) ∧ ∀ A B, df = some (A, B) → tsQ A.2.2.2 ∧ tsQ B.2.2.2
section IV
variable {cl : Nat} {cs : List Pt} {Fs : List Ft} {kp : Nat → List Ft} {hb : List Nat} {rg : Option Rg} {pk : Option Pk} {df : Option (Pk × Pk)}
theorem Inv.zero : Inv [] [] (fun _ => []) 0 [] none none none := ⟨⟨csB_nil, esL_nil, fun _ => esL_nil, by omega, (fun x hx => absurd hx (by simp)), (fun R hR => nomatch hR), (fun D hD => nomatch hD), (fun A B hD => nomatch hD)⟩, (fun R hR => nomatch hR), (fun D hD => nomatch hD), (fun A B hD => nomatch hD)⟩
theorem Inv.corner (h : Inv cs Fs kp cl hb rg pk df) {a b : Int} : Inv (iP (owP a b ∧ cs.length < 12) (cs ++ [(a, b)]) cs) Fs kp cl hb rg pk df := by
  obtain ⟨⟨h1, h2⟩, h3⟩ := h
  refine ⟨⟨?_, h2⟩, h3⟩
  unfold iP
  by_cases q : owP a b ∧ cs.length < 12
  · rw [if_pos q]; exact csB_app h1 q.1
  · rw [if_neg q]; exact h1
theorem Inv.feature (h : Inv cs Fs kp cl hb rg pk df) {d : Int × Int × Int × Int} {w : Int64} (hl : cs.length ≤ 12) : Inv [] (if sFe (d, w, cs) then putL Fs (d, w, cs) else Fs) kp cl hb rg pk df := by
  obtain ⟨⟨h1, h2, h3⟩, h4⟩ := h
  refine ⟨⟨csB_nil, ?_, h3⟩, h4⟩
  by_cases q : sFe (d, w, cs) = true
  · rw [if_pos q]; exact putL_ok h2 (sFe_ok q h1) hl
  · rw [if_neg q]; exact h2
theorem Inv.drop (h : Inv cs Fs kp cl hb rg pk df) {n : Int} : Inv cs (rmE Fs n) kp cl hb rg pk df := by
  obtain ⟨⟨h1, h2, h3⟩, h4⟩ := h
  exact ⟨⟨h1, rmE_ok h2, h3⟩, h4⟩
theorem Inv.edition (h : Inv cs Fs kp cl hb rg pk df) (hc : cl + 1 < 1000000000) : Inv cs Fs (kpU Fs kp cl) (cl + 1) hb rg pk df := by
  obtain ⟨⟨h1, h2, h3, h4, h5⟩, h6⟩ := h
  refine ⟨⟨h1, h2, fun i => ?_, hc, h5⟩, h6⟩
  unfold kpU
  split
  · exact h2
  · exact h3 i
theorem Inv.hand (h : Inv cs Fs kp cl hb rg pk df) {hb' : List Nat} (hh : ∀ x ∈ hb', x < 256) : Inv cs Fs kp cl hb' rg pk df := by
  obtain ⟨⟨h1, h2, h3, h4, h5, h6⟩, h7⟩ := h
  exact ⟨⟨h1, h2, h3, h4, hh, h6⟩, h7⟩
theorem Inv.tile (h : Inv cs Fs kp cl hb rg pk df) {n z tx ty : Int} {Gs : List Ft} (e : edF Fs kp cl n = some Gs) (ht : tlP z tx ty) : Inv cs Fs kp cl (tileB z Gs tx ty) rg pk df := by
  have esl := edF_ok h.1 e
  obtain ⟨⟨z1, z2⟩, ⟨x1, x2⟩, y1, y2⟩ := ht
  have p2 := p2_le ⟨z.toNat, by omega⟩
  dsimp only at p2
  have p3 : (2 : Int) ^ z.toNat ≤ 16 := by exact_mod_cast p2
  exact h.hand (tileB_b ⟨x1, by omega⟩ ⟨y1, by omega⟩ (fun j hj => ⟨esl.1.1 j hj, esl.2.2 j hj⟩))
theorem Inv.take (h : Inv cs Fs kp cl hb rg pk df) {z tx ty : Int} : Inv cs Fs kp cl (otk pk z tx ty) rg pk df := h.hand (otk_b (fun D hD => (h.1.2.2.2.2.2.2.1 D hD).2.2.1))
theorem Inv.region (h : Inv cs Fs kp cl hb rg pk df) {R : Rg} (hR : rgO R) : Inv cs Fs kp cl hb (some R) pk none := by
  obtain ⟨⟨h1, h2, h3, h4, h5, h6, h7, h8⟩, h9, h10, h11⟩ := h
  exact ⟨⟨h1, h2, h3, h4, h5, (fun R' e => by cases e; exact rgO_B hR), h7, (fun A B e => nomatch e)⟩, (fun R' e => by cases e; exact hR), h10, (fun A B e => nomatch e)⟩
theorem pkOk_fl {R : Rg} {Gs : List Ft} {n : Int} (hR : RgB R) (hG : esL Gs) (ht : tsOk (flP R Gs).2) (hn : R32 n) : pkOk (n, R, mtL R Gs, (flP R Gs).2) := ⟨hR, mtL_ok hG, ht, hn⟩
theorem Inv.extract (h : Inv cs Fs kp cl hb rg pk df) {n : Int} {Gs : List Ft} {R : Rg} (e : edF Fs kp cl n = some Gs) (hR : rg = some R) (ht : tsOk (flP R Gs).2) (hn : R32 n) : Inv cs Fs kp cl hb rg (some (n, R, mtL R Gs, (flP R Gs).2)) df := by
  have esl := edF_ok h.1 e
  obtain ⟨⟨h1, h2, h3, h4, h5, h6, h7, h8⟩, h9, h10, h11⟩ := h
  exact ⟨⟨h1, h2, h3, h4, h5, h6, fun D e => by cases e; exact pkOk_fl (h6 R hR) esl ht hn, h8⟩, h9, fun D e => by cases e; exact flP_q (h6 R hR), h11⟩
theorem Inv.diff (h : Inv cs Fs kp cl hb rg pk df) {n m : Int} {Gs Hs : List Ft} {R : Rg} (e : edF Fs kp cl n = some Gs) (e2 : edF Fs kp cl m = some Hs) (hR : rg = some R) (ht : tsOk (flP R Gs).2) (ht2 : tsOk (flP R Hs).2) (hn : R32 n) (hm : R32 m) : Inv cs Fs kp cl hb rg pk (some ((n, R, mtL R Gs, (flP R Gs).2), (m, R, mtL R Hs, (flP R Hs).2))) := by
  have esl := edF_ok h.1 e
  have esm := edF_ok h.1 e2
  obtain ⟨⟨h1, h2, h3, h4, h5, h6, h7, h8⟩, h9, h10, h11⟩ := h
  exact ⟨⟨h1, h2, h3, h4, h5, h6, h7, fun A B e => by cases e; exact ⟨pkOk_fl (h6 R hR) esl ht hn, pkOk_fl (h6 R hR) esm ht2 hm⟩⟩, h9, h10, fun A B e => by cases e; exact ⟨flP_q (h6 R hR), flP_q (h6 R hR)⟩⟩
theorem Inv.apply (h : Inv cs Fs kp cl hb rg pk df) {A B : Pk} (e : df = some (A, B)) : Inv cs Fs kp cl hb rg (some B) df := by
  obtain ⟨⟨h1, h2, h3, h4, h5, h6, h7, h8⟩, h9, h10, h11⟩ := h
  exact ⟨⟨h1, h2, h3, h4, h5, h6, fun D e2 => by cases e2; exact (h8 A B e).2, h8⟩, h9, fun D e2 => by cases e2; exact (h11 A B e).2, h11⟩
/-- both sides agree on whether a difference fits -/
theorem Inv.ap (h : Inv cs Fs kp cl hb rg pk df) : apM pk df ↔ apP pk df := by
  unfold apM apP
  constructor
  · rintro ⟨D, A, B, e1, e2, e3⟩
    exact ⟨D, A, B, e1, e2, (lk_bf (h.2.2.1 D e1) (h.2.2.2 A B e2).1).mpr e3⟩
  · rintro ⟨D, A, B, e1, e2, e3⟩
    exact ⟨D, A, B, e1, e2, (lk_bf (h.2.2.1 D e1) (h.2.2.2 A B e2).1).mp e3⟩
end IV
