/-! Edition: remove, copies -/
def rmE (Fs : List Ft) (n : Int) : List Ft := if itB Fs (plN Fs n) n then Fs.eraseIdx (plN Fs n) else Fs
def adD (ad : Nat → Nat) (p i j : Nat) : Nat := if p ≤ j ∧ j + 1 < i then ad (j + 1) else ad j
def adE (ad : Nat → Nat) (p c j : Nat) : Nat := if j = c - 1 then ad p else adD ad p c j
theorem adE_key {ad : Nat → Nat} {p c j : Nat} (hp : p < c) (hc : c ≤ 24) (hj : j < 24) : ∃ s, s < 24 ∧ adE ad p c j = ad s ∧ (s = if j = c - 1 then p else if p ≤ j ∧ j + 1 < c then j + 1 else j) := by
  unfold adE adD
  split
  · exact ⟨p, by omega, rfl, rfl⟩
  · split
    · exact ⟨j + 1, by omega, rfl, rfl⟩
    · exact ⟨j, hj, rfl, rfl⟩
theorem adE_ok {e : Nat} {ad : Nat → Nat} {p c : Nat} (h : adK e ad) (hp : p < c) (hc : c ≤ 24) : adK e (adE ad p c) := by
  refine ⟨fun j hj => ?_, fun i j hi hj hij => ?_⟩
  · obtain ⟨s, h1, h2, _⟩ := adE_key (ad := ad) hp hc hj
    rw [h2]
    exact h.1 s h1
  · obtain ⟨s, h1, h2, h3⟩ := adE_key (ad := ad) hp hc hi
    obtain ⟨t, h4, h5, h6⟩ := adE_key (ad := ad) hp hc hj
    rw [h2, h5]
    refine h.2 s t h1 h4 (fun q => ?_)
    rw [h3, h6] at q
    repeat' split at q
    all_goals omega
theorem fA_app {Ls : List Ft} {F : Ft} (j : Nat) : fA (Ls ++ [F]) j = if j < Ls.length then fA Ls j else if j = Ls.length then F else dF := by
  unfold fA
  simp only [List.getD_eq_getElem?_getD]
  split
  · rename_i q
    rw [List.getElem?_append_left q]
  · rename_i q
    split
    · rename_i q2
      rw [q2]; simp
    · rw [List.getElem?_eq_none (by simp; omega)]
      rfl
theorem take_fA {Gs : List Ft} {i : Nat} (h : i < Gs.length) : Gs.take (i + 1) = Gs.take i ++ [fA Gs i] := by
  rw [List.take_succ_eq_append_getElem h]
  unfold fA
  simp [List.getElem?_eq_getElem h]
noncomputable def mtL (R : Rg) (Gs : List Ft) : List Ft := Gs.filter (fun F => dB (F.1.2.2.2 ≤ R.2.2.2.2 ∧ mtP R F))
section EX
variable {T : mT} {Q : mOut → mT → Prop} {e o a r : Nat} {ad ao : Nat → Nat} {Fs Gs Ls : List Ft} {F : Ft} {R : Rg}
theorem EdA.push {T2 : mT} (h : EdA T e ad Ls) (hl : Ls.length < 24) (hf : Fr (iv (ad Ls.length) (ad Ls.length + 3)) T T2) (hF : FeatR T2 (ad Ls.length) F) : EdA (mSI T2 e 1 (iI ((Ls.length + 1 : Nat) : Int))) e ad (Ls ++ [F]) := by
  obtain ⟨⟨h1, h2, h3, h4, h5⟩, h6, h7, h8, h9⟩ := h
  have a0 := h6.1 _ hl
  have ne0 : ¬ iv (ad Ls.length) (ad Ls.length + 3) e := fun q => by have := q.1; omega
  have ne1 : ¬ iv (ad Ls.length) (ad Ls.length + 3) (e + 1) := fun q => by have := q.1; omega
  have fs : Fr (iv e (e + 1)) T2 (mSI T2 e 1 (iI ((Ls.length + 1 : Nat) : Int))) := Fr.sI ⟨by omega, by omega⟩
  refine ⟨⟨by rw [mSI_K, hf.K]; exact h1, by rw [mSI_P, hf.P ne0]; exact h2, by rw [mSI_K, hf.K]; exact h3, fun j hj => by rw [mSI_P, hf.P ne1]; exact h4 j hj, fun j hj => ?_⟩, h6, by rw [mSI_I, mU_s, List.length_append]; rfl, by rw [List.length_append]; simp; omega, fun j hj => ?_⟩
  · have ak := h6.1 j hj
    by_cases q : j = Ls.length
    · subst q; exact hF.1
    · exact (show FeatK T2 (ad j) from (h5 j hj).fr hf (fun z => by have := h6.2 j _ hj hl q; have := z.1; have := z.2; omega))
  · rw [List.length_append] at hj
    simp only [List.length_cons, List.length_nil] at hj
    have ak := h6.1 j (by omega)
    rw [fA_app]
    by_cases q : j < Ls.length
    · rw [if_pos q]
      exact ((h9 j q).fr hf (fun b hb z => by have := h6.2 j _ (by omega) hl (by omega); have := z.1; have := z.2; have := hb.1; have := hb.2; omega)).fr fs (fun b hb z => by have := z.1; have := z.2; have := hb.1; have := hb.2; omega)
    · rw [if_neg q, if_pos (by omega), show j = Ls.length by omega]
      exact hF.fr fs (fun b hb z => by have := z.1; have := z.2; have := hb.1; have := hb.2; omega)
theorem l_rem {T0 : mT} {p c f : Nat} {n : Int} (h0 : EdK T0 e ad) (hcn : T0.2.1 e 1 = iI c) (hc : c ≤ 24) : ∀ (m i : Nat) (T : mT), c - i = m → p < i → i ≤ c → Fr (iv (e + 1) (e + 2)) T0 T → (∀ j, j < 24 → T.2.2.2.1 (e + 1) j = some (adD ad p i j)) →
    (∀ T2, Fr (iv (e + 1) (e + 2)) T0 T2 → (∀ j, j < 24 → T2.2.2.2.1 (e + 1) j = some (adD ad p c j)) → XW 5 60 [some (.ref e), some (.int (iI n)), some (.int (iI p)), some (.ref f), some (.int (iI c))] [] T2 Q) → XW 5 29 [some (.ref (e)), some (.int (iI (n))), some (.int (iI ((p : Nat) : Int))), some (.ref (f)), some (.int (iI ((i : Nat) : Int)))] [] T Q := by
  intro m
  obtain ⟨h1, h2, h3, h4, h5⟩ := h0
  induction m with
  | zero =>
    intro i T hi hpi hic hf hP hQ
    have : i = c := by omega
    subst this
    have k1 : T.1 e = (2, 0) := by rw [hf.K]; exact h1
    have k7 : T.2.1 e 1 = iI i := by rw [hf.I (fun q => by have := q.1; omega)]; exact hcn
    rw [e_5_29]
    simp (maxSteps := 4000000) (disch := first | (simp (disch := omega) only [XB_i, XB_n, va_rf_s, va_rf_n, mSI_K, mSI_I, mSI_J, mSI_P, mSI_N, mSJ_K, mSJ_I, mSJ_J, mSJ_P, mSJ_N, mSP_K, mSP_I, mSP_J, mSP_P, mSP_N, mNn, mNi, mNr, mN0, al20, al21, al22, al23, al25, true_or, or_true, and_self, if_true, if_false, mCat_n, mCat_i, mCat_r, mCat_l, mCat_0, Nat.reduceAdd, Nat.reduceLeDiff, Nat.reduceLT, true_and, and_true, Nat.zero_le, bI_01, mInB_J, mInB_Z, mInB_N, k1, k7]; done) | omega | (unfold R32 at *; omega)) only [e_5_31, e_5_31_n, e_5_32, e_5_35, XB_i, XB_n, va_rf_s, va_rf_n, mSI_K, mSI_I, mSI_J, mSI_P, mSI_N, mSJ_K, mSJ_I, mSJ_J, mSJ_P, mSJ_N, mSP_K, mSP_I, mSP_J, mSP_P, mSP_N, mNn, mNi, mNr, mN0, al20, al21, al22, al23, al25, true_or, or_true, and_self, if_true, if_false, mCat_n, mCat_i, mCat_r, mCat_l, mCat_0, Nat.reduceAdd, Nat.reduceLeDiff, Nat.reduceLT, true_and, and_true, Nat.zero_le, bI_01, bI_0, iI_add, iI_sub, iI_mul, iI_neg, iI_add1, iI_sub1, iI_m1, nc1, ncm1, iI_clJ, iI_cl0, iI_clN, Int.toNat_natCast, mU_n, mU_s, p_min, p_max, p_abs, ni_2, ni_3, ni_4, ni_7, ni_8, ni_9, ni_12, ni_24, ni_97, ni_100, ni_122, ni_200, ni_256, ni_4096, ni_5000, ni_9999, iI_lt, iI_le, iI_eq, iz_eq, iz_lt, iz_le, iz_gt, iz_ge, iy_eq, iy_lt, iy_le, iI_ltN, iI_leN, iI_eqN, if_pos, if_neg, k1, k7]
    exact hQ T hf hP
  | succ m ih =>
    intro i T hi hpi hic hf hP hQ
    have k1 : T.1 e = (2, 0) := by rw [hf.K]; exact h1
    have k2 : T.2.2.2.1 e 0 = some (e + 1) := by rw [hf.P (fun q => by have := q.1; omega)]; exact h2
    have k3 : T.1 (e + 1) = (25, 24) := by rw [hf.K]; exact h3
    have k7 : T.2.1 e 1 = iI c := by rw [hf.I (fun q => by have := q.1; omega)]; exact hcn
    have k4 : adD ad p i i = ad i := by unfold adD; rw [if_neg (by omega)]
    have k5 : T.1 (ad i) = (3, 0) := by rw [hf.K]; exact (h5 i (by omega)).1
    rw [e_5_29]
    simp (maxSteps := 4000000) (disch := first | (simp (disch := omega) only [XB_i, XB_n, va_rf_s, va_rf_n, mSI_K, mSI_I, mSI_J, mSI_P, mSI_N, mSJ_K, mSJ_I, mSJ_J, mSJ_P, mSJ_N, mSP_K, mSP_I, mSP_J, mSP_P, mSP_N, mNn, mNi, mNr, mN0, al20, al21, al22, al23, al25, true_or, or_true, and_self, if_true, if_false, mCat_n, mCat_i, mCat_r, mCat_l, mCat_0, Nat.reduceAdd, Nat.reduceLeDiff, Nat.reduceLT, true_and, and_true, Nat.zero_le, bI_01, mInB_J, mInB_Z, mInB_N, k1, k2, k3, k7, hP, k4, k5, mCo25]; done) | omega | (unfold R32 at *; omega)) only [e_5_31, e_5_31_n, e_5_32, e_5_35, e_5_38, e_5_38_n, e_5_39, e_5_42, e_5_44, e_5_45, e_5_46, e_5_46_n, e_5_47, e_5_50, e_5_52, e_5_53, e_5_54, e_5_57, XB_i, XB_n, va_rf_s, va_rf_n, mSI_K, mSI_I, mSI_J, mSI_P, mSI_N, mSJ_K, mSJ_I, mSJ_J, mSJ_P, mSJ_N, mSP_K, mSP_I, mSP_J, mSP_P, mSP_N, mNn, mNi, mNr, mN0, al20, al21, al22, al23, al25, true_or, or_true, and_self, if_true, if_false, mCat_n, mCat_i, mCat_r, mCat_l, mCat_0, Nat.reduceAdd, Nat.reduceLeDiff, Nat.reduceLT, true_and, and_true, Nat.zero_le, bI_01, bI_0, iI_add, iI_sub, iI_mul, iI_neg, iI_add1, iI_sub1, iI_m1, nc1, ncm1, iI_clJ, iI_cl0, iI_clN, Int.toNat_natCast, mU_n, mU_s, p_min, p_max, p_abs, ni_2, ni_3, ni_4, ni_7, ni_8, ni_9, ni_12, ni_24, ni_97, ni_100, ni_122, ni_200, ni_256, ni_4096, ni_5000, ni_9999, iI_lt, iI_le, iI_eq, iz_eq, iz_lt, iz_le, iz_gt, iz_ge, iy_eq, iy_lt, iy_le, iI_ltN, iI_leN, iI_eqN, if_pos, if_neg, k1, k2, k3, k7, hP, k4, k5, mCo25]
    refine ih (i + 1) _ (by omega) (by omega) (by omega) (hf.iP ⟨by omega, by omega⟩) (fun j hj => ?_) hQ
    rw [mSP_P]
    by_cases q : j = i - 1
    · subst q
      rw [mU_s]
      unfold adD
      rw [if_pos (by omega), show i - 1 + 1 = i by omega]
    · rw [mU_n _ _ (by omega), hP j hj]
      unfold adD
      by_cases q2 : p ≤ j ∧ j + 1 < i
      · rw [if_pos q2, if_pos (by omega)]
      · rw [if_neg q2, if_neg (by omega)]
theorem ct_remove {n : Int} (h : EdA T e ad Fs) (ok : esOk Fs) (rn : R32 n) (hQ : ∀ T2, EdR T2 e (rmE Fs n) → Fr (iv e (e + 74)) T T2 → Q (.inl (some (.int (bI (itB Fs (plN Fs n) n))))) T2) : XW 5 0 [some (.ref (e)), some (.int (iI (n))), none, none, none] [] T Q := by
  obtain ⟨⟨h1, h2, h3, h4, h5⟩, h6, h7, h8, h9⟩ := id h
  have hple := plN_le Fs n
  unfold rmE at hQ
  by_cases q : itB Fs (plN Fs n) n = true
  · have qp : plN Fs n < Fs.length := by unfold itB at q; simp at q; exact q.1
    rw [if_pos q, q] at hQ
    have h10 : ¬ (true = false) := by decide
    simp (maxSteps := 4000000) (disch := first | (simp (disch := omega) only [XB_i, XB_n, va_rf_s, va_rf_n, mSI_K, mSI_I, mSI_J, mSI_P, mSI_N, mSJ_K, mSJ_I, mSJ_J, mSJ_P, mSJ_N, mSP_K, mSP_I, mSP_J, mSP_P, mSP_N, mNn, mNi, mNr, mN0, al20, al21, al22, al23, al25, true_or, or_true, and_self, if_true, if_false, mCat_n, mCat_i, mCat_r, mCat_l, mCat_0, Nat.reduceAdd, Nat.reduceLeDiff, Nat.reduceLT, true_and, and_true, Nat.zero_le, bI_01, mInB_J, mInB_Z, mInB_N, h1, h2, h3, h4, q, h10]; done) | omega | (unfold R32 at *; omega)) only [e_5_0, e_5_0_n, e_5_1, e_5_5, e_5_6, e_5_6_n, e_5_7, e_5_8, e_5_12, e_5_15, e_5_16, e_5_17, e_5_17_n, e_5_18, e_5_21, e_5_22, e_5_23, e_5_23_n, e_5_24, e_5_25, e_5_26, e_5_27, d_5_2, d_5_9, XB_i, XB_n, va_rf_s, va_rf_n, mSI_K, mSI_I, mSI_J, mSI_P, mSI_N, mSJ_K, mSJ_I, mSJ_J, mSJ_P, mSJ_N, mSP_K, mSP_I, mSP_J, mSP_P, mSP_N, mNn, mNi, mNr, mN0, al20, al21, al22, al23, al25, true_or, or_true, and_self, if_true, if_false, mCat_n, mCat_i, mCat_r, mCat_l, mCat_0, Nat.reduceAdd, Nat.reduceLeDiff, Nat.reduceLT, true_and, and_true, Nat.zero_le, bI_01, bI_0, iI_add, iI_sub, iI_mul, iI_neg, iI_add1, iI_sub1, iI_m1, nc1, ncm1, iI_clJ, iI_cl0, iI_clN, Int.toNat_natCast, mU_n, mU_s, p_min, p_max, p_abs, ni_2, ni_3, ni_4, ni_7, ni_8, ni_9, ni_12, ni_24, ni_97, ni_100, ni_122, ni_200, ni_256, ni_4096, ni_5000, ni_9999, iI_lt, iI_le, iI_eq, iz_eq, iz_lt, iz_le, iz_gt, iz_ge, iy_eq, iy_lt, iy_le, iI_ltN, iI_leN, iI_eqN, if_pos, if_neg, h1, h2, h3, h4, p_place h ok rn, p_isAt h ok rn hple, q, h10]
    refine l_rem (c := Fs.length) h.1 h7 h8 _ (plN Fs n + 1) T rfl (by omega) (by omega) Fr.rf (fun j hj => ?_) (fun T2 f2 hP => ?_)
    · rw [h4 j hj]
      unfold adD
      rw [if_neg (by omega)]
    · have k1 : T2.1 e = (2, 0) := by rw [f2.K]; exact h1
      have k2 : T2.2.2.2.1 e 0 = some (e + 1) := by rw [f2.P (fun q => by have := q.1; omega)]; exact h2
      have k3 : T2.1 (e + 1) = (25, 24) := by rw [f2.K]; exact h3
      have k5 : T2.1 (ad (plN Fs n)) = (3, 0) := by rw [f2.K]; exact (h5 _ (by omega)).1
      have k7 : T2.2.1 e 1 = iI Fs.length := by rw [f2.I (fun q => by have := q.1; omega)]; exact h7
      simp (maxSteps := 4000000) (disch := first | (simp (disch := omega) only [XB_i, XB_n, va_rf_s, va_rf_n, mSI_K, mSI_I, mSI_J, mSI_P, mSI_N, mSJ_K, mSJ_I, mSJ_J, mSJ_P, mSJ_N, mSP_K, mSP_I, mSP_J, mSP_P, mSP_N, mNn, mNi, mNr, mN0, al20, al21, al22, al23, al25, true_or, or_true, and_self, if_true, if_false, mCat_n, mCat_i, mCat_r, mCat_l, mCat_0, Nat.reduceAdd, Nat.reduceLeDiff, Nat.reduceLT, true_and, and_true, Nat.zero_le, bI_01, mInB_J, mInB_Z, mInB_N, k1, k2, k3, k5, k7, mCo25]; done) | omega | (unfold R32 at *; omega)) only [e_5_60, e_5_60_n, e_5_61, e_5_61_i, e_5_62, e_5_65, e_5_66, e_5_67, e_5_70, e_5_70_n, e_5_71, e_5_74, e_5_74_n, e_5_75, e_5_78, e_5_78_n, e_5_79, e_5_80, e_5_81, XB_i, XB_n, va_rf_s, va_rf_n, mSI_K, mSI_I, mSI_J, mSI_P, mSI_N, mSJ_K, mSJ_I, mSJ_J, mSJ_P, mSJ_N, mSP_K, mSP_I, mSP_J, mSP_P, mSP_N, mNn, mNi, mNr, mN0, al20, al21, al22, al23, al25, true_or, or_true, and_self, if_true, if_false, mCat_n, mCat_i, mCat_r, mCat_l, mCat_0, Nat.reduceAdd, Nat.reduceLeDiff, Nat.reduceLT, true_and, and_true, Nat.zero_le, bI_01, bI_0, iI_add, iI_sub, iI_mul, iI_neg, iI_add1, iI_sub1, iI_m1, nc1, ncm1, iI_clJ, iI_cl0, iI_clN, Int.toNat_natCast, mU_n, mU_s, p_min, p_max, p_abs, ni_2, ni_3, ni_4, ni_7, ni_8, ni_9, ni_12, ni_24, ni_97, ni_100, ni_122, ni_200, ni_256, ni_4096, ni_5000, ni_9999, iI_lt, iI_le, iI_eq, iz_eq, iz_lt, iz_le, iz_gt, iz_ge, iy_eq, iy_lt, iy_le, iI_ltN, iI_leN, iI_eqN, if_pos, if_neg, k1, k2, k3, k5, k7, mCo25]
      have f4 : Fr (iv e (e + 2)) T (mSP (mSI T2 e 1 (iI ((Fs.length - 1 : Nat) : Int))) (e + 1) (Fs.length - 1) (some (ad (plN Fs n)))) := ((f2.mono (fun b hb => ⟨by have := hb.1; omega, by have := hb.2; omega⟩)).iI ⟨by omega, by omega⟩).iP ⟨by omega, by omega⟩
      have hel : (Fs.eraseIdx (plN Fs n)).length = Fs.length - 1 := List.length_eraseIdx_of_lt qp
      refine hQ _ ⟨adE ad (plN Fs n) Fs.length, ⟨k1, ?_, k3, fun j hj => ?_, fun j hj => ?_⟩, adE_ok h6 qp h8, ?_, by rw [hel]; omega, fun j hj => ?_⟩ (f4.mono (fun b hb => ⟨by have := hb.1; omega, by have := hb.2; omega⟩))
      · rw [mSP_P, mSI_P, mU_n _ _ (by omega)]; exact k2
      · rw [mSP_P, mSI_P]
        unfold adE
        by_cases q : j = Fs.length - 1
        · rw [q, mU_s, if_pos rfl]
        · rw [mU_n _ _ (by omega), if_neg q, hP j hj]
      · obtain ⟨s, hs, he, _⟩ := adE_key (ad := ad) qp h8 hj
        rw [he]
        exact (h5 s hs).fr f4 (fun z => by have := h6.1 s hs; have := z.1; have := z.2; omega)
      · rw [hel, mSP_I, mSI_I, mU_s]
      · rw [hel] at hj
        obtain ⟨s, hs, he, hse⟩ := adE_key (ad := ad) qp h8 (show j < 24 by omega)
        rw [he, fA_del]
        rw [if_neg (by omega)] at hse
        have tr : ∀ s, s < Fs.length → FeatR (mSP (mSI T2 e 1 (iI ((Fs.length - 1 : Nat) : Int))) (e + 1) (Fs.length - 1) (some (ad (plN Fs n)))) (ad s) (fA Fs s) := by
          intro s hs
          exact (h9 s hs).fr f4 (fun b hb z => by have := h6.1 s (by omega); have := z.1; have := z.2; have := hb.1; have := hb.2; omega)
        by_cases q : j < plN Fs n
        · rw [if_pos q]
          rw [if_neg (by omega)] at hse
          rw [hse]
          exact tr j (by omega)
        · rw [if_neg q]
          rw [if_pos (by omega)] at hse
          rw [hse]
          exact tr (j + 1) (by omega)
  · have qf : itB Fs (plN Fs n) n = false := by simpa using q
    rw [if_neg q, qf] at hQ
    simp (maxSteps := 4000000) (disch := first | (simp (disch := omega) only [XB_i, XB_n, va_rf_s, va_rf_n, mSI_K, mSI_I, mSI_J, mSI_P, mSI_N, mSJ_K, mSJ_I, mSJ_J, mSJ_P, mSJ_N, mSP_K, mSP_I, mSP_J, mSP_P, mSP_N, mNn, mNi, mNr, mN0, al20, al21, al22, al23, al25, true_or, or_true, and_self, if_true, if_false, mCat_n, mCat_i, mCat_r, mCat_l, mCat_0, Nat.reduceAdd, Nat.reduceLeDiff, Nat.reduceLT, true_and, and_true, Nat.zero_le, bI_01, mInB_J, mInB_Z, mInB_N, h1, h2, h3, h4, qf]; done) | omega | (unfold R32 at *; omega)) only [e_5_0, e_5_0_n, e_5_1, e_5_5, e_5_6, e_5_6_n, e_5_7, e_5_8, e_5_12, e_5_15, e_5_16, d_5_2, d_5_9, XB_i, XB_n, va_rf_s, va_rf_n, mSI_K, mSI_I, mSI_J, mSI_P, mSI_N, mSJ_K, mSJ_I, mSJ_J, mSJ_P, mSJ_N, mSP_K, mSP_I, mSP_J, mSP_P, mSP_N, mNn, mNi, mNr, mN0, al20, al21, al22, al23, al25, true_or, or_true, and_self, if_true, if_false, mCat_n, mCat_i, mCat_r, mCat_l, mCat_0, Nat.reduceAdd, Nat.reduceLeDiff, Nat.reduceLT, true_and, and_true, Nat.zero_le, bI_01, bI_0, iI_add, iI_sub, iI_mul, iI_neg, iI_add1, iI_sub1, iI_m1, nc1, ncm1, iI_clJ, iI_cl0, iI_clN, Int.toNat_natCast, mU_n, mU_s, p_min, p_max, p_abs, ni_2, ni_3, ni_4, ni_7, ni_8, ni_9, ni_12, ni_24, ni_97, ni_100, ni_122, ni_200, ni_256, ni_4096, ni_5000, ni_9999, iI_lt, iI_le, iI_eq, iz_eq, iz_lt, iz_le, iz_gt, iz_ge, iy_eq, iy_lt, iy_le, iI_ltN, iI_leN, iI_eqN, if_pos, if_neg, h1, h2, h3, h4, p_place h ok rn, p_isAt h ok rn hple, qf]
    exact hQ T ⟨ad, h⟩ Fr.rf
theorem l_edcopy {T0 : mT} (dis : e + 74 ≤ o ∨ o + 74 ≤ e) (hG : EdA T0 o ao Gs) : ∀ (m i : Nat) (T : mT), Gs.length - i = m → i ≤ Gs.length → Fr (iv e (e + 74)) T0 T → EdK T e ad → adK e ad → T.2.1 e 1 = iI Gs.length → (∀ j, j < i → FeatR T (ad j) (fA Gs j)) →
    (∀ T2, EdA T2 e ad Gs → Fr (iv e (e + 74)) T0 T2 → Q (.inl none) T2) → XW 8 10 [some (.ref (e)), some (.ref (o)), some (.int (iI ((i : Nat) : Int)))] [] T Q := by
  intro m
  induction m with
  | zero =>
    intro i T hi hil hf hK hA hcn hFs hQ
    have k1 := hK.1
    have g24 := hG.2.2.2.1
    have : i = Gs.length := by omega
    subst this
    rw [e_8_10]
    simp (maxSteps := 4000000) (disch := first | (simp (disch := omega) only [XB_i, XB_n, va_rf_s, va_rf_n, mSI_K, mSI_I, mSI_J, mSI_P, mSI_N, mSJ_K, mSJ_I, mSJ_J, mSJ_P, mSJ_N, mSP_K, mSP_I, mSP_J, mSP_P, mSP_N, mNn, mNi, mNr, mN0, al20, al21, al22, al23, al25, true_or, or_true, and_self, if_true, if_false, mCat_n, mCat_i, mCat_r, mCat_l, mCat_0, Nat.reduceAdd, Nat.reduceLeDiff, Nat.reduceLT, true_and, and_true, Nat.zero_le, bI_01, mInB_J, mInB_Z, mInB_N, k1, hcn]; done) | omega | (unfold R32 at *; omega)) only [e_8_0, e_8_0_n, e_8_1, e_8_1_n, e_8_2, e_8_5, e_8_8, e_8_9, e_8_11, e_8_11_n, e_8_12, e_8_15, e_8_18, e_8_18_n, e_8_19, e_8_22, e_8_23, e_8_24, e_8_24_n, e_8_25, e_8_28, e_8_29, e_8_33, e_8_36, e_8_39, XB_i, XB_n, va_rf_s, va_rf_n, mSI_K, mSI_I, mSI_J, mSI_P, mSI_N, mSJ_K, mSJ_I, mSJ_J, mSJ_P, mSJ_N, mSP_K, mSP_I, mSP_J, mSP_P, mSP_N, mNn, mNi, mNr, mN0, al20, al21, al22, al23, al25, true_or, or_true, and_self, if_true, if_false, mCat_n, mCat_i, mCat_r, mCat_l, mCat_0, Nat.reduceAdd, Nat.reduceLeDiff, Nat.reduceLT, true_and, and_true, Nat.zero_le, bI_01, bI_0, iI_add, iI_sub, iI_mul, iI_neg, iI_add1, iI_sub1, iI_m1, nc1, ncm1, iI_clJ, iI_cl0, iI_clN, Int.toNat_natCast, mU_n, mU_s, p_min, p_max, p_abs, ni_2, ni_3, ni_4, ni_7, ni_8, ni_9, ni_12, ni_24, ni_97, ni_100, ni_122, ni_200, ni_256, ni_4096, ni_5000, ni_9999, iI_lt, iI_le, iI_eq, iz_eq, iz_lt, iz_le, iz_gt, iz_ge, iy_eq, iy_lt, iy_le, iI_ltN, iI_leN, iI_eqN, if_pos, if_neg, k1, hcn]
    exact hQ T ⟨hK, hA, hcn, hG.2.2.2.1, hFs⟩ hf
  | succ m ih =>
    intro i T hi hil hf hK hA hcn hFs hQ
    obtain ⟨h1, h2, h3, h4, h5⟩ := id hK
    have hg : EdA T o ao Gs := hG.fr hf (fun b hb z => by have := z.1; have := z.2; have := hb.1; have := hb.2; omega)
    obtain ⟨⟨g1, g2, g3, g4, g5⟩, g6, g7, g8, g9⟩ := id hg
    have ka := (h5 i (by omega)).1
    have aK := hA.1 i (by omega)
    have oK := g6.1 i (by omega)
    rw [e_8_10]
    simp (maxSteps := 4000000) (disch := first | (simp (disch := omega) only [XB_i, XB_n, va_rf_s, va_rf_n, mSI_K, mSI_I, mSI_J, mSI_P, mSI_N, mSJ_K, mSJ_I, mSJ_J, mSJ_P, mSJ_N, mSP_K, mSP_I, mSP_J, mSP_P, mSP_N, mNn, mNi, mNr, mN0, al20, al21, al22, al23, al25, true_or, or_true, and_self, if_true, if_false, mCat_n, mCat_i, mCat_r, mCat_l, mCat_0, Nat.reduceAdd, Nat.reduceLeDiff, Nat.reduceLT, true_and, and_true, Nat.zero_le, bI_01, mInB_J, mInB_Z, mInB_N, h1, h2, h3, h4, hcn, g1, g2, g3, g4]; done) | omega | (unfold R32 at *; omega)) only [e_8_11, e_8_11_n, e_8_12, e_8_15, e_8_18, e_8_18_n, e_8_19, e_8_22, e_8_23, e_8_24, e_8_24_n, e_8_25, e_8_28, e_8_29, XB_i, XB_n, va_rf_s, va_rf_n, mSI_K, mSI_I, mSI_J, mSI_P, mSI_N, mSJ_K, mSJ_I, mSJ_J, mSJ_P, mSJ_N, mSP_K, mSP_I, mSP_J, mSP_P, mSP_N, mNn, mNi, mNr, mN0, al20, al21, al22, al23, al25, true_or, or_true, and_self, if_true, if_false, mCat_n, mCat_i, mCat_r, mCat_l, mCat_0, Nat.reduceAdd, Nat.reduceLeDiff, Nat.reduceLT, true_and, and_true, Nat.zero_le, bI_01, bI_0, iI_add, iI_sub, iI_mul, iI_neg, iI_add1, iI_sub1, iI_m1, nc1, ncm1, iI_clJ, iI_cl0, iI_clN, Int.toNat_natCast, mU_n, mU_s, p_min, p_max, p_abs, ni_2, ni_3, ni_4, ni_7, ni_8, ni_9, ni_12, ni_24, ni_97, ni_100, ni_122, ni_200, ni_256, ni_4096, ni_5000, ni_9999, iI_lt, iI_le, iI_eq, iz_eq, iz_lt, iz_le, iz_gt, iz_ge, iy_eq, iy_lt, iy_le, iI_ltN, iI_leN, iI_eqN, if_pos, if_neg, h1, h2, h3, h4, hcn, g1, g2, g3, g4]
    refine c_8_30 (by simp only [XB_i, XB_n, va_rf_s, va_rf_n, mSI_K, mSI_I, mSI_J, mSI_P, mSI_N, mSJ_K, mSJ_I, mSJ_J, mSJ_P, mSJ_N, mSP_K, mSP_I, mSP_J, mSP_P, mSP_N, mNn, mNi, mNr, mN0, al20, al21, al22, al23, al25, true_or, or_true, and_self, if_true, if_false, mCat_n, mCat_i, mCat_r, mCat_l, mCat_0, Nat.reduceAdd, Nat.reduceLeDiff, Nat.reduceLT, true_and, and_true, Nat.zero_le, bI_01]) (by rw [ka]) (ct_feat_copy (h5 i (by omega)) (g9 i (by omega)) (by omega) (fun T2 hT2 f2 => ?_))
    simp (maxSteps := 4000000) (disch := first | (simp (disch := omega) only [XB_i, XB_n, va_rf_s, va_rf_n, mSI_K, mSI_I, mSI_J, mSI_P, mSI_N, mSJ_K, mSJ_I, mSJ_J, mSJ_P, mSJ_N, mSP_K, mSP_I, mSP_J, mSP_P, mSP_N, mNn, mNi, mNr, mN0, al20, al21, al22, al23, al25, true_or, or_true, and_self, if_true, if_false, mCat_n, mCat_i, mCat_r, mCat_l, mCat_0, Nat.reduceAdd, Nat.reduceLeDiff, Nat.reduceLT, true_and, and_true, Nat.zero_le, bI_01, mInB_J, mInB_Z, mInB_N]; done) | omega | (unfold R32 at *; omega)) only [e_8_33, e_8_36, XB_i, XB_n, va_rf_s, va_rf_n, mSI_K, mSI_I, mSI_J, mSI_P, mSI_N, mSJ_K, mSJ_I, mSJ_J, mSJ_P, mSJ_N, mSP_K, mSP_I, mSP_J, mSP_P, mSP_N, mNn, mNi, mNr, mN0, al20, al21, al22, al23, al25, true_or, or_true, and_self, if_true, if_false, mCat_n, mCat_i, mCat_r, mCat_l, mCat_0, Nat.reduceAdd, Nat.reduceLeDiff, Nat.reduceLT, true_and, and_true, Nat.zero_le, bI_01, bI_0, iI_add, iI_sub, iI_mul, iI_neg, iI_add1, iI_sub1, iI_m1, nc1, ncm1, iI_clJ, iI_cl0, iI_clN, Int.toNat_natCast, mU_n, mU_s, p_min, p_max, p_abs, ni_2, ni_3, ni_4, ni_7, ni_8, ni_9, ni_12, ni_24, ni_97, ni_100, ni_122, ni_200, ni_256, ni_4096, ni_5000, ni_9999, iI_lt, iI_le, iI_eq, iz_eq, iz_lt, iz_le, iz_gt, iz_ge, iy_eq, iy_lt, iy_le, iI_ltN, iI_leN, iI_eqN, if_pos, if_neg]
    have ne0 : ¬ iv (ad i) (ad i + 3) e := fun q => by have := q.1; omega
    have ne1 : ¬ iv (ad i) (ad i + 3) (e + 1) := fun q => by have := q.1; omega
    refine ih (i + 1) T2 (by omega) (by omega) (hf.tr (f2.mono (fun b hb => ⟨by have := hb.1; omega, by have := hb.2; omega⟩))) ⟨by rw [f2.K]; exact h1, by rw [f2.P ne0]; exact h2, by rw [f2.K]; exact h3, fun j hj => by rw [f2.P ne1]; exact h4 j hj, fun j hj => ?_⟩ hA (by rw [f2.I ne0]; exact hcn) (fun j hj => ?_) hQ
    · by_cases q : j = i
      · rw [q]; exact hT2.1
      · exact (h5 j hj).fr f2 (fun z => by have := hA.2 j i hj (by omega) q; have := z.1; have := z.2; omega)
    · by_cases q : j = i
      · rw [q]; exact hT2
      · exact (hFs j (by omega)).fr f2 (fun b hb z => by have := hA.2 j i (by omega) (by omega) q; have := z.1; have := z.2; have := hb.1; have := hb.2; omega)
theorem ct_ed_copy (dis : e + 74 ≤ o ∨ o + 74 ≤ e) (hE : EdA T e ad Fs) (hG : EdA T o ao Gs) (hQ : ∀ T2, EdA T2 e ad Gs → Fr (iv e (e + 74)) T T2 → Q (.inl none) T2) : XW 8 0 [some (.ref (e)), some (.ref (o)), none] [] T Q := by
  obtain ⟨⟨h1, h2, h3, h4, h5⟩, h6, h7, h8, h9⟩ := id hE
  obtain ⟨⟨g1, g2, g3, g4, g5⟩, g6, g7, g8, g9⟩ := id hG
  simp (maxSteps := 4000000) (disch := first | (simp (disch := omega) only [XB_i, XB_n, va_rf_s, va_rf_n, mSI_K, mSI_I, mSI_J, mSI_P, mSI_N, mSJ_K, mSJ_I, mSJ_J, mSJ_P, mSJ_N, mSP_K, mSP_I, mSP_J, mSP_P, mSP_N, mNn, mNi, mNr, mN0, al20, al21, al22, al23, al25, true_or, or_true, and_self, if_true, if_false, mCat_n, mCat_i, mCat_r, mCat_l, mCat_0, Nat.reduceAdd, Nat.reduceLeDiff, Nat.reduceLT, true_and, and_true, Nat.zero_le, bI_01, mInB_J, mInB_Z, mInB_N, h1, g1, g7]; done) | omega | (unfold R32 at *; omega)) only [e_8_0, e_8_0_n, e_8_1, e_8_1_n, e_8_2, e_8_5, e_8_8, e_8_9, XB_i, XB_n, va_rf_s, va_rf_n, mSI_K, mSI_I, mSI_J, mSI_P, mSI_N, mSJ_K, mSJ_I, mSJ_J, mSJ_P, mSJ_N, mSP_K, mSP_I, mSP_J, mSP_P, mSP_N, mNn, mNi, mNr, mN0, al20, al21, al22, al23, al25, true_or, or_true, and_self, if_true, if_false, mCat_n, mCat_i, mCat_r, mCat_l, mCat_0, Nat.reduceAdd, Nat.reduceLeDiff, Nat.reduceLT, true_and, and_true, Nat.zero_le, bI_01, bI_0, iI_add, iI_sub, iI_mul, iI_neg, iI_add1, iI_sub1, iI_m1, nc1, ncm1, iI_clJ, iI_cl0, iI_clN, Int.toNat_natCast, mU_n, mU_s, p_min, p_max, p_abs, ni_2, ni_3, ni_4, ni_7, ni_8, ni_9, ni_12, ni_24, ni_97, ni_100, ni_122, ni_200, ni_256, ni_4096, ni_5000, ni_9999, iI_lt, iI_le, iI_eq, iz_eq, iz_lt, iz_le, iz_gt, iz_ge, iy_eq, iy_lt, iy_le, iI_ltN, iI_leN, iI_eqN, if_pos, if_neg, h1, g1, g7]
  exact l_edcopy dis hG _ 0 _ rfl (by omega) (Fr.sI ⟨by omega, by omega⟩) ⟨h1, h2, h3, h4, h5⟩ h6 (by (simp (disch := omega) only [mSI_I, mSI_J, mSI_P, mSJ_I, mSJ_J, mSJ_P, mSP_I, mSP_J, mSP_P, mU_n, mU_s] <;> first | done | rfl | assumption)) (fun j hj => by omega) hQ
theorem l_edmeet {T0 : mT} (dis : e + 74 ≤ o ∨ o + 74 ≤ e) (disr : r < e ∨ e + 74 ≤ r) (hG : EdA T0 o ao Gs) (ok : esOk Gs) (hR : RegR T0 r R) (bR : RgB R) : ∀ (m i : Nat) (T : mT) (l4 : Option Value), Gs.length - i = m → i ≤ Gs.length → Fr (iv e (e + 74)) T0 T → EdA T e ad (mtL R (Gs.take i)) →
    (∀ T2, EdA T2 e ad (mtL R Gs) → Fr (iv e (e + 74)) T0 T2 → Q (.inl none) T2) → XW 9 7 [some (.ref (e)), some (.ref (o)), some (.ref (r)), some (.int (iI ((i : Nat) : Int))), l4] [] T Q := by
  intro m
  induction m with
  | zero =>
    intro i T l4 hi hil hf hE hQ
    have hg : EdA T o ao Gs := hG.fr hf (fun b hb z => by have := z.1; have := z.2; have := hb.1; have := hb.2; omega)
    obtain ⟨⟨g1, g2, g3, g4, g5⟩, g6, g7, g8, g9⟩ := id hg
    have : i = Gs.length := by omega
    subst this
    rw [List.take_length] at hE
    rw [e_9_7]
    simp (maxSteps := 4000000) (disch := first | (simp (disch := omega) only [XB_i, XB_n, va_rf_s, va_rf_n, mSI_K, mSI_I, mSI_J, mSI_P, mSI_N, mSJ_K, mSJ_I, mSJ_J, mSJ_P, mSJ_N, mSP_K, mSP_I, mSP_J, mSP_P, mSP_N, mNn, mNi, mNr, mN0, al20, al21, al22, al23, al25, true_or, or_true, and_self, if_true, if_false, mCat_n, mCat_i, mCat_r, mCat_l, mCat_0, Nat.reduceAdd, Nat.reduceLeDiff, Nat.reduceLT, true_and, and_true, Nat.zero_le, bI_01, mInB_J, mInB_Z, mInB_N, g1, g7]; done) | omega | (unfold R32 at *; omega)) only [e_9_0, e_9_0_n, e_9_1, e_9_2, e_9_5, e_9_6, e_9_8, e_9_8_n, e_9_9, e_9_12, e_9_15, e_9_15_n, e_9_16, e_9_19, e_9_20, e_9_21, e_9_21_n, e_9_23, e_9_23_n, e_9_25, e_9_28, e_9_28_n, e_9_29, e_9_32, e_9_35, e_9_35_n, e_9_36, e_9_36_n, e_9_41, e_9_44, e_9_44_n, e_9_45, e_9_48, e_9_48_n, e_9_49, e_9_52, e_9_53, e_9_53_n, e_9_58, e_9_58_n, e_9_59, e_9_59_i, e_9_60, e_9_63, e_9_64, e_9_65, e_9_68, e_9_71, e_9_74, XB_i, XB_n, va_rf_s, va_rf_n, mSI_K, mSI_I, mSI_J, mSI_P, mSI_N, mSJ_K, mSJ_I, mSJ_J, mSJ_P, mSJ_N, mSP_K, mSP_I, mSP_J, mSP_P, mSP_N, mNn, mNi, mNr, mN0, al20, al21, al22, al23, al25, true_or, or_true, and_self, if_true, if_false, mCat_n, mCat_i, mCat_r, mCat_l, mCat_0, Nat.reduceAdd, Nat.reduceLeDiff, Nat.reduceLT, true_and, and_true, Nat.zero_le, bI_01, bI_0, iI_add, iI_sub, iI_mul, iI_neg, iI_add1, iI_sub1, iI_m1, nc1, ncm1, iI_clJ, iI_cl0, iI_clN, Int.toNat_natCast, mU_n, mU_s, p_min, p_max, p_abs, ni_2, ni_3, ni_4, ni_7, ni_8, ni_9, ni_12, ni_24, ni_97, ni_100, ni_122, ni_200, ni_256, ni_4096, ni_5000, ni_9999, iI_lt, iI_le, iI_eq, iz_eq, iz_lt, iz_le, iz_gt, iz_ge, iy_eq, iy_lt, iy_le, iI_ltN, iI_leN, iI_eqN, if_pos, if_neg, g1, g7]
    exact hQ T hE hf
  | succ m ih =>
    intro i T l4 hi hil hf hE hQ
    have hg : EdA T o ao Gs := hG.fr hf (fun b hb z => by have := z.1; have := z.2; have := hb.1; have := hb.2; omega)
    have hr : RegR T r R := hR.fr hf (fun z => by have := z.1; have := z.2; omega)
    obtain ⟨⟨h1, h2, h3, h4, h5⟩, h6, h7, h8, h9⟩ := id hE
    obtain ⟨⟨g1, g2, g3, g4, g5⟩, g6, g7, g8, g9⟩ := id hg
    have go := g9 i (by omega)
    have fo := ok.1 i (by omega)
    have kg := go.1.1
    have kl := go.2.1.2.2.2.1
    have r1 := hr.1
    have r4 := hr.2.2.2.2.2
    have bl := fo.l
    have bz := bR.2.2.2.2
    have oK := g6.1 i (by omega)
    have hlt : (mtL R (Gs.take i)).length ≤ i := Nat.le_trans (List.length_filter_le _ _) (by rw [List.length_take]; omega)
    have aK := h6.1 (mtL R (Gs.take i)).length (by omega)
    have ka := (h5 (mtL R (Gs.take i)).length (by omega)).1
    have skip : dB ((fA Gs i).1.2.2.2 ≤ R.2.2.2.2 ∧ mtP R (fA Gs i)) = false → mtL R (Gs.take (i + 1)) = mtL R (Gs.take i) := by
      intro q
      rw [take_fA (by omega)]
      unfold mtL
      rw [List.filter_append, List.filter_cons_of_neg (by simp [q])]
      simp
    have nx : ∀ l4 : Option Value, mtL R (Gs.take (i + 1)) = mtL R (Gs.take i) → XW 9 7 [some (.ref (e)), some (.ref (o)), some (.ref (r)), some (.int (iI ((i + 1 : Nat) : Int))), l4] [] T Q := by
      intro l4 q
      exact ih (i + 1) T l4 (by omega) (by omega) hf (by rw [q]; exact hE) hQ
    rw [e_9_7]
    by_cases q1 : (fA Gs i).1.2.2.2 ≤ R.2.2.2.2
    · by_cases q2 : mtP R (fA Gs i)
      · have d2 := dB_t q2
        have h10 : ¬ (true = false) := by decide
        simp (maxSteps := 4000000) (disch := first | (simp (disch := omega) only [XB_i, XB_n, va_rf_s, va_rf_n, mSI_K, mSI_I, mSI_J, mSI_P, mSI_N, mSJ_K, mSJ_I, mSJ_J, mSJ_P, mSJ_N, mSP_K, mSP_I, mSP_J, mSP_P, mSP_N, mNn, mNi, mNr, mN0, al20, al21, al22, al23, al25, true_or, or_true, and_self, if_true, if_false, mCat_n, mCat_i, mCat_r, mCat_l, mCat_0, Nat.reduceAdd, Nat.reduceLeDiff, Nat.reduceLT, true_and, and_true, Nat.zero_le, bI_01, mInB_J, mInB_Z, mInB_N, g1, g2, g3, g4, g7, kg, kl, r1, r4, d2, h10, h1, h2, h3, h4, h7]; done) | omega | (unfold R32 at *; omega)) only [e_9_8, e_9_8_n, e_9_9, e_9_12, e_9_15, e_9_15_n, e_9_16, e_9_19, e_9_20, e_9_21, e_9_21_n, e_9_23, e_9_23_n, e_9_25, e_9_28, e_9_28_n, e_9_29, e_9_32, e_9_35, e_9_35_n, e_9_36, e_9_36_n, e_9_41, e_9_44, e_9_44_n, e_9_45, e_9_48, e_9_48_n, e_9_49, e_9_52, e_9_53, e_9_53_n, d_9_38, XB_i, XB_n, va_rf_s, va_rf_n, mSI_K, mSI_I, mSI_J, mSI_P, mSI_N, mSJ_K, mSJ_I, mSJ_J, mSJ_P, mSJ_N, mSP_K, mSP_I, mSP_J, mSP_P, mSP_N, mNn, mNi, mNr, mN0, al20, al21, al22, al23, al25, true_or, or_true, and_self, if_true, if_false, mCat_n, mCat_i, mCat_r, mCat_l, mCat_0, Nat.reduceAdd, Nat.reduceLeDiff, Nat.reduceLT, true_and, and_true, Nat.zero_le, bI_01, bI_0, iI_add, iI_sub, iI_mul, iI_neg, iI_add1, iI_sub1, iI_m1, nc1, ncm1, iI_clJ, iI_cl0, iI_clN, Int.toNat_natCast, mU_n, mU_s, p_min, p_max, p_abs, ni_2, ni_3, ni_4, ni_7, ni_8, ni_9, ni_12, ni_24, ni_97, ni_100, ni_122, ni_200, ni_256, ni_4096, ni_5000, ni_9999, iI_lt, iI_le, iI_eq, iz_eq, iz_lt, iz_le, iz_gt, iz_ge, iy_eq, iy_lt, iy_le, iI_ltN, iI_leN, iI_eqN, if_pos, if_neg, g1, g2, g3, g4, g7, kg, kl, r1, r4, p_meets hr bR go fo.b fo.c fo.k, d2, h10, h1, h2, h3, h4, h7]
        refine c_9_55 (by simp only [XB_i, XB_n, va_rf_s, va_rf_n, mSI_K, mSI_I, mSI_J, mSI_P, mSI_N, mSJ_K, mSJ_I, mSJ_J, mSJ_P, mSJ_N, mSP_K, mSP_I, mSP_J, mSP_P, mSP_N, mNn, mNi, mNr, mN0, al20, al21, al22, al23, al25, true_or, or_true, and_self, if_true, if_false, mCat_n, mCat_i, mCat_r, mCat_l, mCat_0, Nat.reduceAdd, Nat.reduceLeDiff, Nat.reduceLT, true_and, and_true, Nat.zero_le, bI_01]) (by rw [ka]) (ct_feat_copy (h5 _ (by omega)) go (by omega) (fun T2 hT2 f2 => ?_))
        have ne0 : ¬ iv (ad (mtL R (Gs.take i)).length) (ad (mtL R (Gs.take i)).length + 3) e := fun q => by have := q.1; omega
        have k1 : T2.1 e = (2, 0) := by rw [f2.K]; exact h1
        have k7 : T2.2.1 e 1 = iI (mtL R (Gs.take i)).length := by rw [f2.I ne0]; exact h7
        simp (maxSteps := 4000000) (disch := first | (simp (disch := omega) only [XB_i, XB_n, va_rf_s, va_rf_n, mSI_K, mSI_I, mSI_J, mSI_P, mSI_N, mSJ_K, mSJ_I, mSJ_J, mSJ_P, mSJ_N, mSP_K, mSP_I, mSP_J, mSP_P, mSP_N, mNn, mNi, mNr, mN0, al20, al21, al22, al23, al25, true_or, or_true, and_self, if_true, if_false, mCat_n, mCat_i, mCat_r, mCat_l, mCat_0, Nat.reduceAdd, Nat.reduceLeDiff, Nat.reduceLT, true_and, and_true, Nat.zero_le, bI_01, mInB_J, mInB_Z, mInB_N, k1, k7]; done) | omega | (unfold R32 at *; omega)) only [e_9_58, e_9_58_n, e_9_59, e_9_59_i, e_9_60, e_9_63, e_9_64, e_9_65, e_9_68, e_9_71, XB_i, XB_n, va_rf_s, va_rf_n, mSI_K, mSI_I, mSI_J, mSI_P, mSI_N, mSJ_K, mSJ_I, mSJ_J, mSJ_P, mSJ_N, mSP_K, mSP_I, mSP_J, mSP_P, mSP_N, mNn, mNi, mNr, mN0, al20, al21, al22, al23, al25, true_or, or_true, and_self, if_true, if_false, mCat_n, mCat_i, mCat_r, mCat_l, mCat_0, Nat.reduceAdd, Nat.reduceLeDiff, Nat.reduceLT, true_and, and_true, Nat.zero_le, bI_01, bI_0, iI_add, iI_sub, iI_mul, iI_neg, iI_add1, iI_sub1, iI_m1, nc1, ncm1, iI_clJ, iI_cl0, iI_clN, Int.toNat_natCast, mU_n, mU_s, p_min, p_max, p_abs, ni_2, ni_3, ni_4, ni_7, ni_8, ni_9, ni_12, ni_24, ni_97, ni_100, ni_122, ni_200, ni_256, ni_4096, ni_5000, ni_9999, iI_lt, iI_le, iI_eq, iz_eq, iz_lt, iz_le, iz_gt, iz_ge, iy_eq, iy_lt, iy_le, iI_ltN, iI_leN, iI_eqN, if_pos, if_neg, k1, k7]
        refine ih (i + 1) _ _ (by omega) (by omega) ((hf.tr (f2.mono (fun b hb => ⟨by have := hb.1; omega, by have := hb.2; omega⟩))).iI ⟨by omega, by omega⟩) ?_ hQ
        have : mtL R (Gs.take (i + 1)) = mtL R (Gs.take i) ++ [fA Gs i] := by
          rw [take_fA (by omega)]
          unfold mtL
          rw [List.filter_append, List.filter_cons_of_pos (p := fun F => dB (F.1.2.2.2 ≤ R.2.2.2.2 ∧ mtP R F)) (dB_t ⟨q1, q2⟩)]
          rfl
        rw [this]
        exact hE.push (by omega) f2 hT2
      · have d2 := dB_f q2
        simp (maxSteps := 4000000) (disch := first | (simp (disch := omega) only [XB_i, XB_n, va_rf_s, va_rf_n, mSI_K, mSI_I, mSI_J, mSI_P, mSI_N, mSJ_K, mSJ_I, mSJ_J, mSJ_P, mSJ_N, mSP_K, mSP_I, mSP_J, mSP_P, mSP_N, mNn, mNi, mNr, mN0, al20, al21, al22, al23, al25, true_or, or_true, and_self, if_true, if_false, mCat_n, mCat_i, mCat_r, mCat_l, mCat_0, Nat.reduceAdd, Nat.reduceLeDiff, Nat.reduceLT, true_and, and_true, Nat.zero_le, bI_01, mInB_J, mInB_Z, mInB_N, g1, g2, g3, g4, g7, kg, kl, r1, r4, d2]; done) | omega | (unfold R32 at *; omega)) only [e_9_8, e_9_8_n, e_9_9, e_9_12, e_9_15, e_9_15_n, e_9_16, e_9_19, e_9_20, e_9_21, e_9_21_n, e_9_23, e_9_23_n, e_9_25, e_9_28, e_9_28_n, e_9_29, e_9_32, e_9_35, e_9_35_n, e_9_36, e_9_36_n, e_9_41, e_9_44, e_9_44_n, e_9_45, e_9_48, e_9_48_n, e_9_49, e_9_52, e_9_53, e_9_53_n, e_9_58, e_9_58_n, e_9_59, e_9_59_i, e_9_60, e_9_63, e_9_64, e_9_65, e_9_68, e_9_71, d_9_38, XB_i, XB_n, va_rf_s, va_rf_n, mSI_K, mSI_I, mSI_J, mSI_P, mSI_N, mSJ_K, mSJ_I, mSJ_J, mSJ_P, mSJ_N, mSP_K, mSP_I, mSP_J, mSP_P, mSP_N, mNn, mNi, mNr, mN0, al20, al21, al22, al23, al25, true_or, or_true, and_self, if_true, if_false, mCat_n, mCat_i, mCat_r, mCat_l, mCat_0, Nat.reduceAdd, Nat.reduceLeDiff, Nat.reduceLT, true_and, and_true, Nat.zero_le, bI_01, bI_0, iI_add, iI_sub, iI_mul, iI_neg, iI_add1, iI_sub1, iI_m1, nc1, ncm1, iI_clJ, iI_cl0, iI_clN, Int.toNat_natCast, mU_n, mU_s, p_min, p_max, p_abs, ni_2, ni_3, ni_4, ni_7, ni_8, ni_9, ni_12, ni_24, ni_97, ni_100, ni_122, ni_200, ni_256, ni_4096, ni_5000, ni_9999, iI_lt, iI_le, iI_eq, iz_eq, iz_lt, iz_le, iz_gt, iz_ge, iy_eq, iy_lt, iy_le, iI_ltN, iI_leN, iI_eqN, if_pos, if_neg, g1, g2, g3, g4, g7, kg, kl, r1, r4, p_meets hr bR go fo.b fo.c fo.k, d2]
        exact nx _ (skip (dB_f (fun h => q2 h.2)))
    · simp (maxSteps := 4000000) (disch := first | (simp (disch := omega) only [XB_i, XB_n, va_rf_s, va_rf_n, mSI_K, mSI_I, mSI_J, mSI_P, mSI_N, mSJ_K, mSJ_I, mSJ_J, mSJ_P, mSJ_N, mSP_K, mSP_I, mSP_J, mSP_P, mSP_N, mNn, mNi, mNr, mN0, al20, al21, al22, al23, al25, true_or, or_true, and_self, if_true, if_false, mCat_n, mCat_i, mCat_r, mCat_l, mCat_0, Nat.reduceAdd, Nat.reduceLeDiff, Nat.reduceLT, true_and, and_true, Nat.zero_le, bI_01, mInB_J, mInB_Z, mInB_N, g1, g2, g3, g4, g7, kg, kl, r1, r4]; done) | omega | (unfold R32 at *; omega)) only [e_9_8, e_9_8_n, e_9_9, e_9_12, e_9_15, e_9_15_n, e_9_16, e_9_19, e_9_20, e_9_21, e_9_21_n, e_9_23, e_9_23_n, e_9_25, e_9_28, e_9_28_n, e_9_29, e_9_32, e_9_35, e_9_35_n, e_9_36, e_9_36_n, e_9_41, e_9_44, e_9_44_n, e_9_45, e_9_48, e_9_48_n, e_9_49, e_9_52, e_9_53, e_9_53_n, e_9_58, e_9_58_n, e_9_59, e_9_59_i, e_9_60, e_9_63, e_9_64, e_9_65, e_9_68, e_9_71, d_9_38, XB_i, XB_n, va_rf_s, va_rf_n, mSI_K, mSI_I, mSI_J, mSI_P, mSI_N, mSJ_K, mSJ_I, mSJ_J, mSJ_P, mSJ_N, mSP_K, mSP_I, mSP_J, mSP_P, mSP_N, mNn, mNi, mNr, mN0, al20, al21, al22, al23, al25, true_or, or_true, and_self, if_true, if_false, mCat_n, mCat_i, mCat_r, mCat_l, mCat_0, Nat.reduceAdd, Nat.reduceLeDiff, Nat.reduceLT, true_and, and_true, Nat.zero_le, bI_01, bI_0, iI_add, iI_sub, iI_mul, iI_neg, iI_add1, iI_sub1, iI_m1, nc1, ncm1, iI_clJ, iI_cl0, iI_clN, Int.toNat_natCast, mU_n, mU_s, p_min, p_max, p_abs, ni_2, ni_3, ni_4, ni_7, ni_8, ni_9, ni_12, ni_24, ni_97, ni_100, ni_122, ni_200, ni_256, ni_4096, ni_5000, ni_9999, iI_lt, iI_le, iI_eq, iz_eq, iz_lt, iz_le, iz_gt, iz_ge, iy_eq, iy_lt, iy_le, iI_ltN, iI_leN, iI_eqN, if_pos, if_neg, g1, g2, g3, g4, g7, kg, kl, r1, r4]
      exact nx _ (skip (dB_f (fun h => q1 h.1)))
theorem ct_ed_meet (dis : e + 74 ≤ o ∨ o + 74 ≤ e) (disr : r < e ∨ e + 74 ≤ r) (hE : EdA T e ad Fs) (hG : EdA T o ao Gs) (ok : esOk Gs) (hR : RegR T r R) (bR : RgB R) (hQ : ∀ T2, EdA T2 e ad (mtL R Gs) → Fr (iv e (e + 74)) T T2 → Q (.inl none) T2) : XW 9 0 [some (.ref (e)), some (.ref (o)), some (.ref (r)), none, none] [] T Q := by
  obtain ⟨⟨h1, h2, h3, h4, h5⟩, h6, h7, h8, h9⟩ := id hE
  simp (maxSteps := 4000000) (disch := first | (simp (disch := omega) only [XB_i, XB_n, va_rf_s, va_rf_n, mSI_K, mSI_I, mSI_J, mSI_P, mSI_N, mSJ_K, mSJ_I, mSJ_J, mSJ_P, mSJ_N, mSP_K, mSP_I, mSP_J, mSP_P, mSP_N, mNn, mNi, mNr, mN0, al20, al21, al22, al23, al25, true_or, or_true, and_self, if_true, if_false, mCat_n, mCat_i, mCat_r, mCat_l, mCat_0, Nat.reduceAdd, Nat.reduceLeDiff, Nat.reduceLT, true_and, and_true, Nat.zero_le, bI_01, mInB_J, mInB_Z, mInB_N, h1]; done) | omega | (unfold R32 at *; omega)) only [e_9_0, e_9_0_n, e_9_1, e_9_2, e_9_5, e_9_6, XB_i, XB_n, va_rf_s, va_rf_n, mSI_K, mSI_I, mSI_J, mSI_P, mSI_N, mSJ_K, mSJ_I, mSJ_J, mSJ_P, mSJ_N, mSP_K, mSP_I, mSP_J, mSP_P, mSP_N, mNn, mNi, mNr, mN0, al20, al21, al22, al23, al25, true_or, or_true, and_self, if_true, if_false, mCat_n, mCat_i, mCat_r, mCat_l, mCat_0, Nat.reduceAdd, Nat.reduceLeDiff, Nat.reduceLT, true_and, and_true, Nat.zero_le, bI_01, bI_0, iI_add, iI_sub, iI_mul, iI_neg, iI_add1, iI_sub1, iI_m1, nc1, ncm1, iI_clJ, iI_cl0, iI_clN, Int.toNat_natCast, mU_n, mU_s, p_min, p_max, p_abs, ni_2, ni_3, ni_4, ni_7, ni_8, ni_9, ni_12, ni_24, ni_97, ni_100, ni_122, ni_200, ni_256, ni_4096, ni_5000, ni_9999, iI_lt, iI_le, iI_eq, iz_eq, iz_lt, iz_le, iz_gt, iz_ge, iy_eq, iy_lt, iy_le, iI_ltN, iI_leN, iI_eqN, if_pos, if_neg, h1]
  exact l_edmeet dis disr hG ok hR bR _ 0 _ none rfl (by omega) (Fr.sI ⟨by omega, by omega⟩) ⟨⟨h1, h2, h3, h4, h5⟩, h6, by (simp (disch := omega) only [mSI_I, mSI_J, mSI_P, mSJ_I, mSJ_J, mSJ_P, mSP_I, mSP_J, mSP_P, mU_n, mU_s] <;> first | done | rfl | assumption), Nat.zero_le _, fun j hj => absurd hj (Nat.not_lt_zero j)⟩ hQ
end EX
