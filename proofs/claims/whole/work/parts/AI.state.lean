/-! the reference: its state -/
def RgM (T : mT) (m : Nat) (R : Rg) : Prop := T.2.1 (m + 12) 0 = iI R.1 ∧ T.2.1 (m + 12) 1 = iI R.2.1 ∧ T.2.1 (m + 12) 2 = iI R.2.2.1 ∧ T.2.1 (m + 12) 3 = iI R.2.2.2.1 ∧ T.2.1 (m + 12) 4 = iI R.2.2.2.2
def TiM (T : mT) (m p : Nat) (ts : List Te) (sf : Nat → Nat) : Prop := (∀ k, k < ts.length → T.2.1 (m + 17) (100 * p + k) = iI (tE ts k).1.2.1) ∧ (∀ k, k < ts.length → T.2.1 (m + 18) (100 * p + k) = iI (tE ts k).1.2.2.1) ∧ (∀ k, k < ts.length → T.2.1 (m + 19) (100 * p + k) = iI (tE ts k).1.2.2.2) ∧ (∀ k, k < ts.length → T.2.1 (m + 20) (100 * p + k) = iI (tb ts k).length) ∧ (∀ k, k < ts.length → T.2.1 (m + 21) (100 * p + k) = iI (sf k)) ∧ (∀ k, k < ts.length → T.2.1 (m + 22) (100 * p + k) = iI (fstN ts k)) ∧ (∀ k, k < ts.length → sf k + (tb ts k).length ≤ stF ts ts.length) ∧ (∀ k i, k < ts.length → i < (tb ts k).length → T.2.1 (m + 24) (5000 * p + (sf k + i)) = b8 ((tb ts k).getD i 0))
def TnM (T : mT) (m p : Nat) (ts : List Te) : Prop := T.2.1 (m + 16) p = iI ts.length ∧ ts.length ≤ 100 ∧ T.2.1 (m + 23) p = iI (stF ts ts.length) ∧ stF ts ts.length ≤ 5000
def MeM (T : mT) (m p : Nat) (Gs : List Ft) : Prop := T.2.1 (m + 25) p = iI Gs.length ∧ Gs.length ≤ 24 ∧ (∀ k, k < Gs.length → T.2.1 (m + 26) (24 * p + k) = iI (fA Gs k).1.1) ∧ (∀ k, k < Gs.length → T.2.1 (m + 27) (24 * p + k) = iI (fA Gs k).1.2.1) ∧ (∀ k, k < Gs.length → T.2.1 (m + 28) (24 * p + k) = iI (fA Gs k).1.2.2.1) ∧ (∀ k, k < Gs.length → T.2.2.1 (m + 29) (24 * p + k) = (fA Gs k).2.1) ∧ (∀ k, k < Gs.length → T.2.1 (m + 30) (24 * p + k) = iI (cX (fA Gs k).2.2 0)) ∧ (∀ k, k < Gs.length → T.2.1 (m + 31) (24 * p + k) = iI (cY (fA Gs k).2.2 0))
def PrM (T : mT) (m p : Nat) (R : Rg) : Prop := T.2.1 (m + 15) (5 * p) = iI R.1 ∧ T.2.1 (m + 15) (5 * p + 1) = iI R.2.1 ∧ T.2.1 (m + 15) (5 * p + 2) = iI R.2.2.1 ∧ T.2.1 (m + 15) (5 * p + 3) = iI R.2.2.2.1 ∧ T.2.1 (m + 15) (5 * p + 4) = iI R.2.2.2.2
def PkM (T : mT) (m p : Nat) (D : Pk) : Prop := (∃ sf, TiM T m p D.2.2.2 sf) ∧ TnM T m p D.2.2.2 ∧ T.2.1 (m + 14) p = iI D.1 ∧ PrM T m p D.2.1 ∧ MeM T m p D.2.2.1
def pkS (m p : Nat) : Nat → Nat → Prop := fun b j => ((b = m + 14 ∨ b = m + 16 ∨ b = m + 23 ∨ b = m + 25) ∧ j = p) ∨ (b = m + 15 ∧ 5 * p ≤ j ∧ j < 5 * p + 5) ∨ ((m + 17 ≤ b ∧ b < m + 23) ∧ 100 * p ≤ j ∧ j < 100 * p + 100) ∨ (b = m + 24 ∧ 5000 * p ≤ j ∧ j < 5000 * p + 5000) ∨ ((m + 26 ≤ b ∧ b < m + 32) ∧ 24 * p ≤ j ∧ j < 24 * p + 24)
theorem TiM.mf {S : Nat → Nat → Prop} {T T2 : mT} {m p : Nat} {ts : List Te} {sf : Nat → Nat} (h : TiM T m p ts sf) (hl : ts.length ≤ 100) (hl2 : stF ts ts.length ≤ 5000) (hf : Mf S T T2) (hs : ∀ b j, pkS m p b j → ¬ S b j) : TiM T2 m p ts sf := by
  obtain ⟨h1, h2, h3, h4, h5, h6, h7, h8⟩ := h
  refine ⟨fun k hk => ?_, fun k hk => ?_, fun k hk => ?_, fun k hk => ?_, fun k hk => ?_, fun k hk => ?_, h7, fun k i hk hi => ?_⟩
  · rw [hf.I (hs (m + 17) (100 * p + k) (by simp only [pkS, and_true, true_and, true_or, or_true, Nat.le_refl] <;> omega))]; exact h1 k hk
  · rw [hf.I (hs (m + 18) (100 * p + k) (by simp only [pkS, and_true, true_and, true_or, or_true, Nat.le_refl] <;> omega))]; exact h2 k hk
  · rw [hf.I (hs (m + 19) (100 * p + k) (by simp only [pkS, and_true, true_and, true_or, or_true, Nat.le_refl] <;> omega))]; exact h3 k hk
  · rw [hf.I (hs (m + 20) (100 * p + k) (by simp only [pkS, and_true, true_and, true_or, or_true, Nat.le_refl] <;> omega))]; exact h4 k hk
  · rw [hf.I (hs (m + 21) (100 * p + k) (by simp only [pkS, and_true, true_and, true_or, or_true, Nat.le_refl] <;> omega))]; exact h5 k hk
  · rw [hf.I (hs (m + 22) (100 * p + k) (by simp only [pkS, and_true, true_and, true_or, or_true, Nat.le_refl] <;> omega))]; exact h6 k hk
  · have := h7 k hk
    rw [hf.I (hs (m + 24) (5000 * p + (sf k + i)) (by simp only [pkS, and_true, true_and, true_or, or_true, Nat.le_refl] <;> omega))]; exact h8 k i hk hi
theorem TnM.mf {S : Nat → Nat → Prop} {T T2 : mT} {m p : Nat} {ts : List Te} (h : TnM T m p ts) (hf : Mf S T T2) (hs : ∀ b j, pkS m p b j → ¬ S b j) : TnM T2 m p ts := ⟨by rw [hf.I (hs (m + 16) p (by simp only [pkS, and_true, true_and, true_or, or_true, Nat.le_refl] <;> omega))]; exact h.1, h.2.1, by rw [hf.I (hs (m + 23) p (by simp only [pkS, and_true, true_and, true_or, or_true, Nat.le_refl] <;> omega))]; exact h.2.2.1, h.2.2.2⟩
theorem PrM.mf {S : Nat → Nat → Prop} {T T2 : mT} {m p : Nat} {R : Rg} (h : PrM T m p R) (hf : Mf S T T2) (hs : ∀ b j, pkS m p b j → ¬ S b j) : PrM T2 m p R := by
  obtain ⟨h1, h2, h3, h4, h5⟩ := h
  exact ⟨by rw [hf.I (hs (m + 15) (5 * p) (by simp only [pkS, and_true, true_and, true_or, or_true, Nat.le_refl] <;> omega))]; exact h1, by rw [hf.I (hs (m + 15) (5 * p + 1) (by simp only [pkS, and_true, true_and, true_or, or_true, Nat.le_refl] <;> omega))]; exact h2, by rw [hf.I (hs (m + 15) (5 * p + 2) (by simp only [pkS, and_true, true_and, true_or, or_true, Nat.le_refl] <;> omega))]; exact h3, by rw [hf.I (hs (m + 15) (5 * p + 3) (by simp only [pkS, and_true, true_and, true_or, or_true, Nat.le_refl] <;> omega))]; exact h4, by rw [hf.I (hs (m + 15) (5 * p + 4) (by simp only [pkS, and_true, true_and, true_or, or_true, Nat.le_refl] <;> omega))]; exact h5⟩
theorem MeM.mf {S : Nat → Nat → Prop} {T T2 : mT} {m p : Nat} {Gs : List Ft} (h : MeM T m p Gs) (hf : Mf S T T2) (hs : ∀ b j, pkS m p b j → ¬ S b j) : MeM T2 m p Gs := by
  obtain ⟨h0, hl, h1, h2, h3, h4, h5, h6⟩ := h
  refine ⟨by rw [hf.I (hs (m + 25) p (by simp only [pkS, and_true, true_and, true_or, or_true, Nat.le_refl] <;> omega))]; exact h0, hl, fun k hk => ?_, fun k hk => ?_, fun k hk => ?_, fun k hk => ?_, fun k hk => ?_, fun k hk => ?_⟩
  · rw [hf.I (hs (m + 26) (24 * p + k) (by simp only [pkS, and_true, true_and, true_or, or_true, Nat.le_refl] <;> omega))]; exact h1 k hk
  · rw [hf.I (hs (m + 27) (24 * p + k) (by simp only [pkS, and_true, true_and, true_or, or_true, Nat.le_refl] <;> omega))]; exact h2 k hk
  · rw [hf.I (hs (m + 28) (24 * p + k) (by simp only [pkS, and_true, true_and, true_or, or_true, Nat.le_refl] <;> omega))]; exact h3 k hk
  · rw [hf.J (hs (m + 29) (24 * p + k) (by simp only [pkS, and_true, true_and, true_or, or_true, Nat.le_refl] <;> omega))]; exact h4 k hk
  · rw [hf.I (hs (m + 30) (24 * p + k) (by simp only [pkS, and_true, true_and, true_or, or_true, Nat.le_refl] <;> omega))]; exact h5 k hk
  · rw [hf.I (hs (m + 31) (24 * p + k) (by simp only [pkS, and_true, true_and, true_or, or_true, Nat.le_refl] <;> omega))]; exact h6 k hk
theorem PkM.mf {S : Nat → Nat → Prop} {T T2 : mT} {m p : Nat} {D : Pk} (h : PkM T m p D) (hf : Mf S T T2) (hs : ∀ b j, pkS m p b j → ¬ S b j) : PkM T2 m p D := by
  obtain ⟨⟨sf, h1⟩, h2, h3, h4, h5⟩ := h
  exact ⟨⟨sf, h1.mf h2.2.1 h2.2.2.2 hf hs⟩, h2.mf hf hs, by rw [hf.I (hs (m + 14) p (by simp only [pkS, and_true, true_and, true_or, or_true, Nat.le_refl] <;> omega))]; exact h3, h4.mf hf hs, h5.mf hf hs⟩
def RgQ (T : mT) (m : Nat) (rg : Option Rg) : Prop := T.2.1 m 15 = bI rg.isSome ∧ ∀ R, rg = some R → RgM T m R
def PkQ (T : mT) (m : Nat) (pk : Option Pk) : Prop := T.2.1 (m + 13) 0 = bI pk.isSome ∧ ∀ D, pk = some D → PkM T m 0 D
def DfQ (T : mT) (m : Nat) (df : Option (Pk × Pk)) : Prop := T.2.1 m 16 = bI df.isSome ∧ ∀ A B, df = some (A, B) → PkM T m 1 A ∧ PkM T m 2 B
def ModR (T : mT) (m : Nat) (cs : List Pt) (Fs : List Ft) (kp : Nat → List Ft) (cl : Nat) (hb : List Nat) (rg : Option Rg) (pk : Option Pk) (df : Option (Pk × Pk)) : Prop := ModK T m ∧ NxR T m cs ∧ SlR T m 0 Fs ∧ SlR T m 1 (kp 0) ∧ SlR T m 2 (kp 1) ∧ T.2.1 m 9 = iI cl ∧ HaR T m hb ∧ RgQ T m rg ∧ PkQ T m pk ∧ DfQ T m df
theorem ModR.re {S : Nat → Nat → Prop} {T T2 : mT} {m cl cl' : Nat} {cs cs' : List Pt} {Fs Fs' : List Ft} {kp kp' : Nat → List Ft} {hb hb' : List Nat} {rg rg' : Option Rg} {pk pk' : Option Pk} {df df' : Option (Pk × Pk)} (h : ModR T m cs Fs kp cl hb rg pk df) (hf : Mf S T T2)
    (c1 : ((∀ b j, nxS m b j → ¬ S b j) ∧ cs' = cs) ∨ NxR T2 m cs')
    (c2 : ((∀ b j, slS m 0 b j → ¬ S b j) ∧ Fs' = Fs) ∨ SlR T2 m 0 Fs')
    (c3 : ((∀ b j, slS m 1 b j → ¬ S b j) ∧ kp' 0 = kp 0) ∨ SlR T2 m 1 (kp' 0))
    (c4 : ((∀ b j, slS m 2 b j → ¬ S b j) ∧ kp' 1 = kp 1) ∨ SlR T2 m 2 (kp' 1))
    (c5 : ((∀ b j, (b = m ∧ j = 9) → ¬ S b j) ∧ cl' = cl) ∨ T2.2.1 m 9 = iI cl')
    (c6 : ((∀ b j, haS m b j → ¬ S b j) ∧ hb' = hb) ∨ HaR T2 m hb')
    (c7 : ((∀ b j, ((b = m ∧ j = 15) ∨ b = m + 12) → ¬ S b j) ∧ rg' = rg) ∨ RgQ T2 m rg')
    (c8 : ((∀ b j, ((b = m + 13 ∧ j = 0) ∨ pkS m 0 b j) → ¬ S b j) ∧ pk' = pk) ∨ PkQ T2 m pk')
    (c9 : ((∀ b j, ((b = m ∧ j = 16) ∨ pkS m 1 b j ∨ pkS m 2 b j) → ¬ S b j) ∧ df' = df) ∨ DfQ T2 m df') : ModR T2 m cs' Fs' kp' cl' hb' rg' pk' df' := by
  obtain ⟨h0, h1, h2, h3, h4, h5, h6, h7, h8, h9⟩ := h
  refine ⟨h0.mf hf, ?_, ?_, ?_, ?_, ?_, ?_, ?_, ?_, ?_⟩
  · rcases c1 with ⟨c, z⟩ | c
    · rw [z]; exact h1.mf hf c
    · exact c
  · rcases c2 with ⟨c, z⟩ | c
    · rw [z]; exact h2.mf hf c
    · exact c
  · rcases c3 with ⟨c, z⟩ | c
    · rw [z]; exact h3.mf hf c
    · exact c
  · rcases c4 with ⟨c, z⟩ | c
    · rw [z]; exact h4.mf hf c
    · exact c
  · rcases c5 with ⟨c, z⟩ | c
    · rw [z, hf.I (c _ _ ⟨rfl, rfl⟩)]; exact h5
    · exact c
  · rcases c6 with ⟨c, z⟩ | c
    · rw [z]; exact h6.mf hf c
    · exact c
  · rcases c7 with ⟨c, z⟩ | c
    · rw [z]
      refine ⟨by rw [hf.I (c _ _ (Or.inl ⟨rfl, rfl⟩))]; exact h7.1, fun R hR => ?_⟩
      obtain ⟨r1, r2, r3, r4, r5⟩ := h7.2 R hR
      exact ⟨by rw [hf.I (c _ _ (Or.inr rfl))]; exact r1, by rw [hf.I (c _ _ (Or.inr rfl))]; exact r2, by rw [hf.I (c _ _ (Or.inr rfl))]; exact r3, by rw [hf.I (c _ _ (Or.inr rfl))]; exact r4, by rw [hf.I (c _ _ (Or.inr rfl))]; exact r5⟩
    · exact c
  · rcases c8 with ⟨c, z⟩ | c
    · rw [z]; exact ⟨by rw [hf.I (c _ _ (Or.inl ⟨rfl, rfl⟩))]; exact h8.1, fun D hD => (h8.2 D hD).mf hf (fun b j q => c b j (Or.inr q))⟩
    · exact c
  · rcases c9 with ⟨c, z⟩ | c
    · rw [z]; exact ⟨by rw [hf.I (c _ _ (Or.inl ⟨rfl, rfl⟩))]; exact h9.1, fun A B hD => ⟨((h9.2 A B hD).1).mf hf (fun b j q => c b j (Or.inr (Or.inl q))), ((h9.2 A B hD).2).mf hf (fun b j q => c b j (Or.inr (Or.inr q)))⟩⟩
    · exact c
theorem ModR.fr {S : Nat → Prop} {T T2 : mT} {m cl : Nat} {cs : List Pt} {Fs : List Ft} {kp : Nat → List Ft} {hb : List Nat} {rg : Option Rg} {pk : Option Pk} {df : Option (Pk × Pk)} (h : ModR T m cs Fs kp cl hb rg pk df) (hf : Fr S T T2) (hs : ∀ b, iv m (m + 41) b → ¬ S b) : ModR T2 m cs Fs kp cl hb rg pk df := by
  -- the heap with everything but the model's cells as it was
  have hm : Mf (fun b _ => ¬ iv m (m + 41) b) T (T.1, T2.2.1, T2.2.2.1, T.2.2.2.1, T.2.2.2.2) := ⟨rfl, rfl, rfl, fun b j q => by
    have q' : iv m (m + 41) b := Classical.byContradiction q
    exact ⟨by show T2.2.1 b j = _; rw [hf.I (hs b q')], by show T2.2.2.1 b j = _; rw [hf.J (hs b q')]⟩⟩
  have h2 := h.re (cs' := cs) (Fs' := Fs) (kp' := kp) (cl' := cl) (hb' := hb) (rg' := rg) (pk' := pk) (df' := df) hm (Or.inl ⟨fun b j q1 q2 => by simp only [nxS, slS, haS, pkS, mtS, rdS, wkS, cvS, wtS, ouS, stS, smS, feS, ftS, iv] at q1 q2; omega, rfl⟩) (Or.inl ⟨fun b j q1 q2 => by simp only [nxS, slS, haS, pkS, mtS, rdS, wkS, cvS, wtS, ouS, stS, smS, feS, ftS, iv] at q1 q2; omega, rfl⟩) (Or.inl ⟨fun b j q1 q2 => by simp only [nxS, slS, haS, pkS, mtS, rdS, wkS, cvS, wtS, ouS, stS, smS, feS, ftS, iv] at q1 q2; omega, rfl⟩) (Or.inl ⟨fun b j q1 q2 => by simp only [nxS, slS, haS, pkS, mtS, rdS, wkS, cvS, wtS, ouS, stS, smS, feS, ftS, iv] at q1 q2; omega, rfl⟩) (Or.inl ⟨fun b j q1 q2 => by simp only [nxS, slS, haS, pkS, mtS, rdS, wkS, cvS, wtS, ouS, stS, smS, feS, ftS, iv] at q1 q2; omega, rfl⟩) (Or.inl ⟨fun b j q1 q2 => by simp only [nxS, slS, haS, pkS, mtS, rdS, wkS, cvS, wtS, ouS, stS, smS, feS, ftS, iv] at q1 q2; omega, rfl⟩) (Or.inl ⟨fun b j q1 q2 => by simp only [nxS, slS, haS, pkS, mtS, rdS, wkS, cvS, wtS, ouS, stS, smS, feS, ftS, iv] at q1 q2; omega, rfl⟩) (Or.inl ⟨fun b j q1 q2 => by simp only [nxS, slS, haS, pkS, mtS, rdS, wkS, cvS, wtS, ouS, stS, smS, feS, ftS, iv] at q1 q2; omega, rfl⟩) (Or.inl ⟨fun b j q1 q2 => by simp only [nxS, slS, haS, pkS, mtS, rdS, wkS, cvS, wtS, ouS, stS, smS, feS, ftS, iv] at q1 q2; omega, rfl⟩)
  obtain ⟨h0, hr⟩ := h2
  refine ⟨?_, hr⟩
  have h0' : ModK T m := h0
  unfold ModK at h0' ⊢
  rw [hf.1, hf.P (hs m ⟨by omega, by omega⟩)]
  exact h0'
