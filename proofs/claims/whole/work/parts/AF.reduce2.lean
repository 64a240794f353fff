/-! the reference: reduce, whole -/
theorem sm_rd {m b j : Nat} (h : smS m b j) : rdS m b j := h.elim (fun z => Or.inl (Or.inl z)) Or.inr
theorem cv_rd {m b j : Nat} (h : cvS m b j) : rdS m b j := Or.inl (Or.inl h)
theorem CwR.none {T : mT} {m : Nat} (h : T.2.1 m 43 = 0) : CwR T m [] := ⟨h, fun j hj => by simp at hj, fun j hj => by simp at hj, fun j hj => by simp at hj⟩
theorem bas_len {z : Int} {F : Ft} : (basC z F).length = F.2.2.length + (if F.1.2.1 = 2 then 1 else 0) := by
  unfold basC
  rw [List.length_append, sfL_len]
  split <;> rfl
theorem bas_not2 {z : Int} {F : Ft} (h : F.1.2.1 ≠ 2) : basC z F = sfL z F.2.2 F.2.2.length := by
  unfold basC
  rw [if_neg h, List.append_nil]
section MZ
variable {T : mT} {Q : mOut → mT → Prop} {m f : Nat} {F : Ft} {z tx ty : Int}
/-- the end -/
theorem lm_redend {T0 : mT} {cn : List Cn} {k : Nat} {l6 l8 : Option Value} (hM : ModK T m) (hF : FtM T m f F) (hf : f < 72) (hk : F.1.2.1 = (k : Int)) (hk2 : k ≤ 2) (hC : CwR T m cn) (hl : cn.length ≤ 60) (hB : ∀ c ∈ cn, cB c) (hfb : FB cn) (h0 : k = 0 → cn.length ≤ 1) (hQ : ∀ T2, CwR T2 m (tidyS k cn) → Mf (rdS m) T T2 → Q (.inl none) T2) : XW 144 331 [some (.ref (m)), some (.int (iI ((f : Nat) : Int))), some (.int (iI (z))), some (.int (iI (tx))), some (.int (iI (ty))), some (.int (bI (decide (k = 2)))), l6, some (.int (iI ((4 : Nat) : Int))), l8] [] T Q := by
  have hkd := hF.2.1
  rw [hk] at hkd
  have hR : ∀ c ∈ cn, R32 c.1 ∧ R32 c.2.1 := fun c hc => by have := hB c hc; unfold cB at this; exact ⟨⟨by omega, by omega⟩, ⟨by omega, by omega⟩⟩
  have hg0 : cn ≠ [] → pG cn 0 = true := by
    intro z
    cases cn with
    | nil => exact absurd rfl z
    | cons c r => exact hfb c r rfl
  have hkc : k = 0 ∨ k = 1 ∨ k = 2 := by omega
  rcases hkc with e | e | e
  · subst e
    have e0 : iI ((0 : Nat) : Int) = 0 := rfl
    rw [e0] at hkd
    simp (maxSteps := 4000000) (disch := first | (simp (disch := omega) only [XB_i, XB_n, va_rf_s, va_rf_n, mSI_K, mSI_I, mSI_J, mSI_P, mSI_N, mSJ_K, mSJ_I, mSJ_J, mSJ_P, mSJ_N, mSP_K, mSP_I, mSP_J, mSP_P, mSP_N, mNn, mNi, mNr, mN0, al20, al21, al22, al23, al25, true_or, or_true, and_self, if_true, if_false, mCat_n, mCat_i, mCat_r, mCat_l, mCat_0, Nat.reduceAdd, Nat.reduceLeDiff, Nat.reduceLT, true_and, and_true, Nat.zero_le, bI_01, mInB_J, mInB_Z, mInB_N, hM.k, hM.r2, hM.a2, hkd]; done) | omega | (unfold R32 at *; omega)) only [e_144_331, e_144_331_n, e_144_332, e_144_335, e_144_336, e_144_337, e_144_340, XB_i, XB_n, va_rf_s, va_rf_n, mSI_K, mSI_I, mSI_J, mSI_P, mSI_N, mSJ_K, mSJ_I, mSJ_J, mSJ_P, mSJ_N, mSP_K, mSP_I, mSP_J, mSP_P, mSP_N, mNn, mNi, mNr, mN0, al20, al21, al22, al23, al25, true_or, or_true, and_self, if_true, if_false, mCat_n, mCat_i, mCat_r, mCat_l, mCat_0, Nat.reduceAdd, Nat.reduceLeDiff, Nat.reduceLT, true_and, and_true, Nat.zero_le, bI_01, bI_0, i10, tf0, iI_add, iI_sub, iI_mul, iI_neg, iI_add1, iI_sub1, iI_m1, nca, nc1, ncm1, iI_clJ, iI_cl0, iI_clN, Int.toNat_natCast, mU_n, mU_s, p_min, p_max, p_abs, ni_2, ni_3, ni_4, ni_7, ni_8, ni_9, ni_12, ni_24, ni_97, ni_100, ni_122, ni_200, ni_256, ni_4096, ni_5000, ni_9999, iI_lt, iI_le, iI_eq, iz_eq, iz_lt, iz_le, iz_gt, iz_ge, iy_eq, iy_lt, iy_le, iI_ltN, iI_leN, iI_eqN, if_pos, if_neg, hM.k, hM.r2, hM.a2, hkd]
    exact hQ T (by rw [tidyS_pt (h0 rfl)]; exact hC) Mf.rf
  · subst e
    have i1 : bI (decide ((1 : Nat) = 2)) = bI false := rfl
    rw [i1]
    simp (maxSteps := 4000000) (disch := first | (simp (disch := omega) only [XB_i, XB_n, va_rf_s, va_rf_n, mSI_K, mSI_I, mSI_J, mSI_P, mSI_N, mSJ_K, mSJ_I, mSJ_J, mSJ_P, mSJ_N, mSP_K, mSP_I, mSP_J, mSP_P, mSP_N, mNn, mNi, mNr, mN0, al20, al21, al22, al23, al25, true_or, or_true, and_self, if_true, if_false, mCat_n, mCat_i, mCat_r, mCat_l, mCat_0, Nat.reduceAdd, Nat.reduceLeDiff, Nat.reduceLT, true_and, and_true, Nat.zero_le, bI_01, mInB_J, mInB_Z, mInB_N, hM.k, hM.r2, hM.a2, hkd]; done) | omega | (unfold R32 at *; omega)) only [e_144_331, e_144_331_n, e_144_332, e_144_335, e_144_336, e_144_337, e_144_341, e_144_341_n, e_144_342, XB_i, XB_n, va_rf_s, va_rf_n, mSI_K, mSI_I, mSI_J, mSI_P, mSI_N, mSJ_K, mSJ_I, mSJ_J, mSJ_P, mSJ_N, mSP_K, mSP_I, mSP_J, mSP_P, mSP_N, mNn, mNi, mNr, mN0, al20, al21, al22, al23, al25, true_or, or_true, and_self, if_true, if_false, mCat_n, mCat_i, mCat_r, mCat_l, mCat_0, Nat.reduceAdd, Nat.reduceLeDiff, Nat.reduceLT, true_and, and_true, Nat.zero_le, bI_01, bI_0, i10, tf0, iI_add, iI_sub, iI_mul, iI_neg, iI_add1, iI_sub1, iI_m1, nca, nc1, ncm1, iI_clJ, iI_cl0, iI_clN, Int.toNat_natCast, mU_n, mU_s, p_min, p_max, p_abs, ni_2, ni_3, ni_4, ni_7, ni_8, ni_9, ni_12, ni_24, ni_97, ni_100, ni_122, ni_200, ni_256, ni_4096, ni_5000, ni_9999, iI_lt, iI_le, iI_eq, iz_eq, iz_lt, iz_le, iz_gt, iz_ge, iy_eq, iy_lt, iy_le, iI_ltN, iI_leN, iI_eqN, if_pos, if_neg, hM.k, hM.r2, hM.a2, hkd]
    refine c_144_344 (by simp only [XB_i, XB_n, va_rf_s, va_rf_n, mSI_K, mSI_I, mSI_J, mSI_P, mSI_N, mSJ_K, mSJ_I, mSJ_J, mSJ_P, mSJ_N, mSP_K, mSP_I, mSP_J, mSP_P, mSP_N, mNn, mNi, mNr, mN0, al20, al21, al22, al23, al25, true_or, or_true, and_self, if_true, if_false, mCat_n, mCat_i, mCat_r, mCat_l, mCat_0, Nat.reduceAdd, Nat.reduceLeDiff, Nat.reduceLT, true_and, and_true, Nat.zero_le, bI_01]) (by rw [hM.k]) (m_once (ring := false) hM hC (by omega) hR hg0 (fun T2 h2 f2 => ?_))
    have hM2 := hM.mf f2
    have et : tdC false (mrg [] cn) = mrg [] cn := tidyC_1 _
    rw [et] at h2
    have ml := (mrg_sub cn []).length_le
    simp (maxSteps := 4000000) (disch := first | (simp (disch := omega) only [XB_i, XB_n, va_rf_s, va_rf_n, mSI_K, mSI_I, mSI_J, mSI_P, mSI_N, mSJ_K, mSJ_I, mSJ_J, mSJ_P, mSJ_N, mSP_K, mSP_I, mSP_J, mSP_P, mSP_N, mNn, mNi, mNr, mN0, al20, al21, al22, al23, al25, true_or, or_true, and_self, if_true, if_false, mCat_n, mCat_i, mCat_r, mCat_l, mCat_0, Nat.reduceAdd, Nat.reduceLeDiff, Nat.reduceLT, true_and, and_true, Nat.zero_le, bI_01, mInB_J, mInB_Z, mInB_N, bI_f]; done) | omega | (unfold R32 at *; omega)) only [e_144_347, e_144_349, e_144_352, e_144_352_n, e_144_353, e_144_356, e_144_357, e_144_360, e_144_360_n, e_144_361, e_144_362, e_144_365, e_144_367, e_144_370, e_144_370_n, XB_i, XB_n, va_rf_s, va_rf_n, mSI_K, mSI_I, mSI_J, mSI_P, mSI_N, mSJ_K, mSJ_I, mSJ_J, mSJ_P, mSJ_N, mSP_K, mSP_I, mSP_J, mSP_P, mSP_N, mNn, mNi, mNr, mN0, al20, al21, al22, al23, al25, true_or, or_true, and_self, if_true, if_false, mCat_n, mCat_i, mCat_r, mCat_l, mCat_0, Nat.reduceAdd, Nat.reduceLeDiff, Nat.reduceLT, true_and, and_true, Nat.zero_le, bI_01, bI_0, i10, tf0, iI_add, iI_sub, iI_mul, iI_neg, iI_add1, iI_sub1, iI_m1, nca, nc1, ncm1, iI_clJ, iI_cl0, iI_clN, Int.toNat_natCast, mU_n, mU_s, p_min, p_max, p_abs, ni_2, ni_3, ni_4, ni_7, ni_8, ni_9, ni_12, ni_24, ni_97, ni_100, ni_122, ni_200, ni_256, ni_4096, ni_5000, ni_9999, iI_lt, iI_le, iI_eq, iz_eq, iz_lt, iz_le, iz_gt, iz_ge, iy_eq, iy_lt, iy_le, iI_ltN, iI_leN, iI_eqN, if_pos, if_neg, bI_f]
    refine c_144_371 (by simp only [XB_i, XB_n, va_rf_s, va_rf_n, mSI_K, mSI_I, mSI_J, mSI_P, mSI_N, mSJ_K, mSJ_I, mSJ_J, mSJ_P, mSJ_N, mSP_K, mSP_I, mSP_J, mSP_P, mSP_N, mNn, mNi, mNr, mN0, al20, al21, al22, al23, al25, true_or, or_true, and_self, if_true, if_false, mCat_n, mCat_i, mCat_r, mCat_l, mCat_0, Nat.reduceAdd, Nat.reduceLeDiff, Nat.reduceLT, true_and, and_true, Nat.zero_le, bI_01]) (by rw [hM2.k]) (m_single hM2 h2 (by simp at ml; omega) (fun T3 h3 f3 => ?_))
    simp (maxSteps := 4000000) (disch := first | (simp (disch := omega) only [XB_i, XB_n, va_rf_s, va_rf_n, mSI_K, mSI_I, mSI_J, mSI_P, mSI_N, mSJ_K, mSJ_I, mSJ_J, mSJ_P, mSJ_N, mSP_K, mSP_I, mSP_J, mSP_P, mSP_N, mNn, mNi, mNr, mN0, al20, al21, al22, al23, al25, true_or, or_true, and_self, if_true, if_false, mCat_n, mCat_i, mCat_r, mCat_l, mCat_0, Nat.reduceAdd, Nat.reduceLeDiff, Nat.reduceLT, true_and, and_true, Nat.zero_le, bI_01, mInB_J, mInB_Z, mInB_N]; done) | omega | (unfold R32 at *; omega)) only [e_144_374, XB_i, XB_n, va_rf_s, va_rf_n, mSI_K, mSI_I, mSI_J, mSI_P, mSI_N, mSJ_K, mSJ_I, mSJ_J, mSJ_P, mSJ_N, mSP_K, mSP_I, mSP_J, mSP_P, mSP_N, mNn, mNi, mNr, mN0, al20, al21, al22, al23, al25, true_or, or_true, and_self, if_true, if_false, mCat_n, mCat_i, mCat_r, mCat_l, mCat_0, Nat.reduceAdd, Nat.reduceLeDiff, Nat.reduceLT, true_and, and_true, Nat.zero_le, bI_01, bI_0, i10, tf0, iI_add, iI_sub, iI_mul, iI_neg, iI_add1, iI_sub1, iI_m1, nca, nc1, ncm1, iI_clJ, iI_cl0, iI_clN, Int.toNat_natCast, mU_n, mU_s, p_min, p_max, p_abs, ni_2, ni_3, ni_4, ni_7, ni_8, ni_9, ni_12, ni_24, ni_97, ni_100, ni_122, ni_200, ni_256, ni_4096, ni_5000, ni_9999, iI_lt, iI_le, iI_eq, iz_eq, iz_lt, iz_le, iz_gt, iz_ge, iy_eq, iy_lt, iy_le, iI_ltN, iI_leN, iI_eqN, if_pos, if_neg]
    exact hQ T3 (by rw [tidyS_line hfb]; exact h3) ((f2.mono (fun b j h => wk_rd h)).tr (f3.mono (fun b j h => wk_rd h)))
  · subst e
    have i1 : bI (decide ((2 : Nat) = 2)) = bI true := rfl
    rw [i1]
    simp (maxSteps := 4000000) (disch := first | (simp (disch := omega) only [XB_i, XB_n, va_rf_s, va_rf_n, mSI_K, mSI_I, mSI_J, mSI_P, mSI_N, mSJ_K, mSJ_I, mSJ_J, mSJ_P, mSJ_N, mSP_K, mSP_I, mSP_J, mSP_P, mSP_N, mNn, mNi, mNr, mN0, al20, al21, al22, al23, al25, true_or, or_true, and_self, if_true, if_false, mCat_n, mCat_i, mCat_r, mCat_l, mCat_0, Nat.reduceAdd, Nat.reduceLeDiff, Nat.reduceLT, true_and, and_true, Nat.zero_le, bI_01, mInB_J, mInB_Z, mInB_N, hM.k, hM.r2, hM.a2, hkd]; done) | omega | (unfold R32 at *; omega)) only [e_144_331, e_144_331_n, e_144_332, e_144_335, e_144_336, e_144_337, e_144_341, e_144_341_n, e_144_342, XB_i, XB_n, va_rf_s, va_rf_n, mSI_K, mSI_I, mSI_J, mSI_P, mSI_N, mSJ_K, mSJ_I, mSJ_J, mSJ_P, mSJ_N, mSP_K, mSP_I, mSP_J, mSP_P, mSP_N, mNn, mNi, mNr, mN0, al20, al21, al22, al23, al25, true_or, or_true, and_self, if_true, if_false, mCat_n, mCat_i, mCat_r, mCat_l, mCat_0, Nat.reduceAdd, Nat.reduceLeDiff, Nat.reduceLT, true_and, and_true, Nat.zero_le, bI_01, bI_0, i10, tf0, iI_add, iI_sub, iI_mul, iI_neg, iI_add1, iI_sub1, iI_m1, nca, nc1, ncm1, iI_clJ, iI_cl0, iI_clN, Int.toNat_natCast, mU_n, mU_s, p_min, p_max, p_abs, ni_2, ni_3, ni_4, ni_7, ni_8, ni_9, ni_12, ni_24, ni_97, ni_100, ni_122, ni_200, ni_256, ni_4096, ni_5000, ni_9999, iI_lt, iI_le, iI_eq, iz_eq, iz_lt, iz_le, iz_gt, iz_ge, iy_eq, iy_lt, iy_le, iI_ltN, iI_leN, iI_eqN, if_pos, if_neg, hM.k, hM.r2, hM.a2, hkd]
    refine c_144_344 (by simp only [XB_i, XB_n, va_rf_s, va_rf_n, mSI_K, mSI_I, mSI_J, mSI_P, mSI_N, mSJ_K, mSJ_I, mSJ_J, mSJ_P, mSJ_N, mSP_K, mSP_I, mSP_J, mSP_P, mSP_N, mNn, mNi, mNr, mN0, al20, al21, al22, al23, al25, true_or, or_true, and_self, if_true, if_false, mCat_n, mCat_i, mCat_r, mCat_l, mCat_0, Nat.reduceAdd, Nat.reduceLeDiff, Nat.reduceLT, true_and, and_true, Nat.zero_le, bI_01]) (by rw [hM.k]) (m_once (ring := true) hM hC (by omega) hR hg0 (fun T2 h2 f2 => ?_))
    have hM2 := hM.mf f2
    have k2 := hM2.k
    have c1 := h2.1
    have tl := tdC_len true (mrg [] cn)
    have ml := (mrg_sub cn []).length_le
    simp only [List.nil_append] at ml
    have f2' := f2.mono (fun b j h => wk_rd h)
    rw [tidyS_two] at hQ
    by_cases q : (tdC true (mrg [] cn)).length < 3
    · rw [if_pos q] at hQ
      simp (maxSteps := 4000000) (disch := first | (simp (disch := omega) only [XB_i, XB_n, va_rf_s, va_rf_n, mSI_K, mSI_I, mSI_J, mSI_P, mSI_N, mSJ_K, mSJ_I, mSJ_J, mSJ_P, mSJ_N, mSP_K, mSP_I, mSP_J, mSP_P, mSP_N, mNn, mNi, mNr, mN0, al20, al21, al22, al23, al25, true_or, or_true, and_self, if_true, if_false, mCat_n, mCat_i, mCat_r, mCat_l, mCat_0, Nat.reduceAdd, Nat.reduceLeDiff, Nat.reduceLT, true_and, and_true, Nat.zero_le, bI_01, mInB_J, mInB_Z, mInB_N, bI_t, k2, c1]; done) | omega | (unfold R32 at *; omega)) only [e_144_347, e_144_349, e_144_352, e_144_352_n, e_144_353, e_144_356, e_144_357, e_144_360, e_144_360_n, e_144_361, e_144_362, e_144_365, e_144_367, e_144_370, e_144_370_n, e_144_374, XB_i, XB_n, va_rf_s, va_rf_n, mSI_K, mSI_I, mSI_J, mSI_P, mSI_N, mSJ_K, mSJ_I, mSJ_J, mSJ_P, mSJ_N, mSP_K, mSP_I, mSP_J, mSP_P, mSP_N, mNn, mNi, mNr, mN0, al20, al21, al22, al23, al25, true_or, or_true, and_self, if_true, if_false, mCat_n, mCat_i, mCat_r, mCat_l, mCat_0, Nat.reduceAdd, Nat.reduceLeDiff, Nat.reduceLT, true_and, and_true, Nat.zero_le, bI_01, bI_0, i10, tf0, iI_add, iI_sub, iI_mul, iI_neg, iI_add1, iI_sub1, iI_m1, nca, nc1, ncm1, iI_clJ, iI_cl0, iI_clN, Int.toNat_natCast, mU_n, mU_s, p_min, p_max, p_abs, ni_2, ni_3, ni_4, ni_7, ni_8, ni_9, ni_12, ni_24, ni_97, ni_100, ni_122, ni_200, ni_256, ni_4096, ni_5000, ni_9999, iI_lt, iI_le, iI_eq, iz_eq, iz_lt, iz_le, iz_gt, iz_ge, iy_eq, iy_lt, iy_le, iI_ltN, iI_leN, iI_eqN, if_pos, if_neg, bI_t, k2, c1]
      exact hQ _ (CwR.none (by (simp (disch := omega) only [mSI_I, mSI_J, mSI_P, mSJ_I, mSJ_J, mSJ_P, mSP_I, mSP_J, mSP_P, mU_n, mU_s] <;> first | done | rfl | assumption))) (f2'.sI (cv_rd (Or.inl ⟨rfl, rfl⟩)))
    · rw [if_neg q] at hQ
      simp (maxSteps := 4000000) (disch := first | (simp (disch := omega) only [XB_i, XB_n, va_rf_s, va_rf_n, mSI_K, mSI_I, mSI_J, mSI_P, mSI_N, mSJ_K, mSJ_I, mSJ_J, mSJ_P, mSJ_N, mSP_K, mSP_I, mSP_J, mSP_P, mSP_N, mNn, mNi, mNr, mN0, al20, al21, al22, al23, al25, true_or, or_true, and_self, if_true, if_false, mCat_n, mCat_i, mCat_r, mCat_l, mCat_0, Nat.reduceAdd, Nat.reduceLeDiff, Nat.reduceLT, true_and, and_true, Nat.zero_le, bI_01, mInB_J, mInB_Z, mInB_N, bI_t, k2, c1]; done) | omega | (unfold R32 at *; omega)) only [e_144_347, e_144_349, e_144_352, e_144_352_n, e_144_353, e_144_356, e_144_357, e_144_360, e_144_360_n, e_144_361, e_144_362, e_144_365, e_144_367, e_144_370, e_144_370_n, e_144_374, XB_i, XB_n, va_rf_s, va_rf_n, mSI_K, mSI_I, mSI_J, mSI_P, mSI_N, mSJ_K, mSJ_I, mSJ_J, mSJ_P, mSJ_N, mSP_K, mSP_I, mSP_J, mSP_P, mSP_N, mNn, mNi, mNr, mN0, al20, al21, al22, al23, al25, true_or, or_true, and_self, if_true, if_false, mCat_n, mCat_i, mCat_r, mCat_l, mCat_0, Nat.reduceAdd, Nat.reduceLeDiff, Nat.reduceLT, true_and, and_true, Nat.zero_le, bI_01, bI_0, i10, tf0, iI_add, iI_sub, iI_mul, iI_neg, iI_add1, iI_sub1, iI_m1, nca, nc1, ncm1, iI_clJ, iI_cl0, iI_clN, Int.toNat_natCast, mU_n, mU_s, p_min, p_max, p_abs, ni_2, ni_3, ni_4, ni_7, ni_8, ni_9, ni_12, ni_24, ni_97, ni_100, ni_122, ni_200, ni_256, ni_4096, ni_5000, ni_9999, iI_lt, iI_le, iI_eq, iz_eq, iz_lt, iz_le, iz_gt, iz_ge, iy_eq, iy_lt, iy_le, iI_ltN, iI_leN, iI_eqN, if_pos, if_neg, bI_t, k2, c1]
      exact hQ T2 h2 f2'
theorem m_reduce {k : Nat} (hM : ModK T m) (hF : FtM T m f F) (hf : f < 72) (ok : fOk F) (hz : 0 ≤ z ∧ z ≤ 4) (hx : 0 ≤ tx ∧ tx ≤ 15) (hy : 0 ≤ ty ∧ ty ≤ 15) (hk : F.1.2.1 = (k : Int)) (hQ : ∀ T2, CwR T2 m (cutT k (256 * tx) (256 * ty) (shpC z F)) → Mf (rdS m) T T2 → Q (.inl none) T2) : XW 144 0 [some (.ref (m)), some (.int (iI ((f : Nat) : Int))), some (.int (iI (z))), some (.int (iI (tx))), some (.int (iI (ty))), none, none, none, none] [] T Q := by
  have l12 := hF.2.2.2.2.2.2.1
  have hl6 := hF.2.2.2.2.2.1
  have kb := ok.k
  have hk2 : k ≤ 2 := by omega
  have lc := ok.c
  have hkT : F.1.2.1.toNat = k := by omega
  have shl := shpC_len ok l12 z
  have shW := shpC_W ok.b z
  have sh1 := shp_oneP (z := z) ok
  obtain ⟨b1, _⟩ := cutN_box (k := k) (left := 256 * tx) (top := 256 * ty) shW (by omega) (by omega)
  obtain ⟨_, _, _, m4⟩ := cutN_len (k := k) (left := 256 * tx) (top := 256 * ty) shl
  -- from the shape on
  have fin : ∀ (T1 : mT) (l6 : Option Value), mNL l6 = true → Mf (rdS m) T T1 → CwR T1 m (shpC z F) → XW 144 224 [some (.ref (m)), some (.int (iI ((f : Nat) : Int))), some (.int (iI (z))), some (.int (iI (tx))), some (.int (iI (ty))), some (.int (bI (decide (k = 2)))), l6, some (.int (iI ((0 : Nat) : Int))), none] [] T1 Q := by
    intro T1 l6 h6 f1 h1
    have hl1 : k = 1 → (shpC z F).length ≠ 1 := by
      intro e
      unfold shpC
      rw [hkT, e, tidyS_one (kepC_oneP (basC_oneP lc))]
      split
      · simp
      · omega
    have hl0 : k = 0 → (shpC z F).length ≤ 1 := by
      intro e
      have hb : (basC z F).length = 1 := by
        rw [bas_len, if_neg (by omega)]
        rcases ok.2.1 with s | s | s
        · have := s.2; omega
        · have := s.1; omega
        · have := s.1; omega
      have e1 := (tidyS_subl F.1.2.1.toNat (kepC (basC z F))).length_le
      have e2 := (kepC_subl (basC z F)).length_le
      unfold shpC
      omega
    refine lm_sides (k := k) (sh := shpC z F) (hM.mf f1) (hF.rd f1) hf hk hk2 hx hy sh1 shl hl1 hl0 shW _ 0 T1 none rfl (by omega) Mf.rf h1 (fun T2 l8 f2 h2 => ?_) h6
    refine lm_redend (T0 := T) (cn := cutN k (256 * tx) (256 * ty) 4 (shpC z F)) ((hM.mf f1).mf f2) ((hF.rd f1).rd f2) hf hk hk2 h2 m4 (fun c hc => by have := b1 4 c hc; unfold bxI at this; unfold cB; omega) ?_ ?_ (fun T3 h3 f3 => hQ T3 h3 (f1.tr (f2.tr f3)))
    · have hkc : k = 0 ∨ k = 1 ∨ k = 2 := by omega
      rcases hkc with e | e | e
      · subst e
        have s : ∀ v, FB (cutN 0 (256 * tx) (256 * ty) v (shpC z F)) := by
          intro v
          induction v with
          | zero => exact sh1.fb
          | succ v ih => exact cutS_FB ih
        exact s 4
      · rw [e]; exact cutN_FB sh1.fb 4
      · rw [e]; exact (cutN_oneP sh1 4).fb
    · intro e
      have := cutN_len1 (k := k) (left := 256 * tx) (top := 256 * ty) (hl0 e)
      exact this
  simp (maxSteps := 4000000) (disch := first | (simp (disch := omega) only [XB_i, XB_n, va_rf_s, va_rf_n, mSI_K, mSI_I, mSI_J, mSI_P, mSI_N, mSJ_K, mSJ_I, mSJ_J, mSJ_P, mSJ_N, mSP_K, mSP_I, mSP_J, mSP_P, mSP_N, mNn, mNi, mNr, mN0, al20, al21, al22, al23, al25, true_or, or_true, and_self, if_true, if_false, mCat_n, mCat_i, mCat_r, mCat_l, mCat_0, Nat.reduceAdd, Nat.reduceLeDiff, Nat.reduceLT, true_and, and_true, Nat.zero_le, bI_01, mInB_J, mInB_Z, mInB_N, hM.k, hM.r6, hM.a6, hl6]; done) | omega | (unfold R32 at *; omega)) only [e_144_0, e_144_0_n, e_144_1, e_144_1_n, e_144_2, e_144_5, e_144_6, e_144_7, e_144_10, e_144_11, XB_i, XB_n, va_rf_s, va_rf_n, mSI_K, mSI_I, mSI_J, mSI_P, mSI_N, mSJ_K, mSJ_I, mSJ_J, mSJ_P, mSJ_N, mSP_K, mSP_I, mSP_J, mSP_P, mSP_N, mNn, mNi, mNr, mN0, al20, al21, al22, al23, al25, true_or, or_true, and_self, if_true, if_false, mCat_n, mCat_i, mCat_r, mCat_l, mCat_0, Nat.reduceAdd, Nat.reduceLeDiff, Nat.reduceLT, true_and, and_true, Nat.zero_le, bI_01, bI_0, i10, tf0, iI_add, iI_sub, iI_mul, iI_neg, iI_add1, iI_sub1, iI_m1, nca, nc1, ncm1, iI_clJ, iI_cl0, iI_clN, Int.toNat_natCast, mU_n, mU_s, p_min, p_max, p_abs, ni_2, ni_3, ni_4, ni_7, ni_8, ni_9, ni_12, ni_24, ni_97, ni_100, ni_122, ni_200, ni_256, ni_4096, ni_5000, ni_9999, iI_lt, iI_le, iI_eq, iz_eq, iz_lt, iz_le, iz_gt, iz_ge, iy_eq, iy_lt, iy_le, iI_ltN, iI_leN, iI_eqN, if_pos, if_neg, hM.k, hM.r6, hM.a6, hl6]
  refine lm_base hM hF hf ok hz _ 0 _ rfl (by omega) (Mf.rf.sI (Or.inl ⟨rfl, rfl⟩)) (by (simp (disch := omega) only [mSI_I, mSI_J, mSI_P, mSJ_I, mSJ_J, mSJ_P, mSP_I, mSP_J, mSP_P, mU_n, mU_s] <;> first | done | rfl | assumption)) (fun j hj => by omega) (fun T1 h1 f1 => ?_)
  have hM1 := hM.mf f1
  have f1' := f1.mono (fun b j h => cv_rd h)
  have hF1 := hF.rd f1'
  have hkd := hF1.2.1
  rw [hk] at hkd
  have k1 := hM1.k
  have r2 := hM1.r2
  have a2 := hM1.a2
  have c1 := h1.1
  rw [sfL_len] at c1
  have hkc : k = 0 ∨ k = 1 ∨ k = 2 := by omega
  rcases hkc with e | e | e
  · subst e
    have e0 : iI ((0 : Nat) : Int) = 0 := rfl
    rw [e0] at hkd
    have fin' : ∀ (T1 : mT) (l6 : Option Value), mNL l6 = true → Mf (rdS m) T T1 → CwR T1 m (shpC z F) → XW 144 224 [some (.ref (m)), some (.int (iI ((f : Nat) : Int))), some (.int (iI (z))), some (.int (iI (tx))), some (.int (iI (ty))), some (.int (0)), l6, some (.int (0)), none] [] T1 Q := fin
    have hl1 : F.2.2.length = 1 := by
      rcases ok.2.1 with s | s | s
      · exact s.2
      · have := s.1; omega
      · have := s.1; omega
    have es : shpC z F = sfL z F.2.2 F.2.2.length := by
      unfold shpC
      rw [hkT, bas_not2 (by omega)]
      unfold kepC
      rw [if_neg (by rw [sfL_len]; omega), tidyS_pt (by rw [sfL_len]; omega)]
    rw [hl1] at c1
    have c1' : T1.2.1 m 43 = 1 := c1
    simp (maxSteps := 4000000) (disch := first | (simp (disch := omega) only [XB_i, XB_n, va_rf_s, va_rf_n, mSI_K, mSI_I, mSI_J, mSI_P, mSI_N, mSJ_K, mSJ_I, mSJ_J, mSJ_P, mSJ_N, mSP_K, mSP_I, mSP_J, mSP_P, mSP_N, mNn, mNi, mNr, mN0, al20, al21, al22, al23, al25, true_or, or_true, and_self, if_true, if_false, mCat_n, mCat_i, mCat_r, mCat_l, mCat_0, Nat.reduceAdd, Nat.reduceLeDiff, Nat.reduceLT, true_and, and_true, Nat.zero_le, bI_01, mInB_J, mInB_Z, mInB_N, k1, r2, a2, hkd, c1']; done) | omega | (unfold R32 at *; omega)) only [e_144_91, e_144_91_n, e_144_92, e_144_95, e_144_96, e_144_97, e_144_98, e_144_101, e_144_102, e_144_105, e_144_106, e_144_108, e_144_108_n, e_144_109, e_144_112, e_144_113, e_144_114, e_144_117, e_144_118, e_144_121, e_144_123, e_144_126, e_144_127, e_144_130, e_144_131, e_144_133, e_144_135, e_144_138, e_144_138_n, e_144_139, e_144_142, e_144_142_n, e_144_143, e_144_146, e_144_146_n, e_144_147, e_144_150, e_144_151, e_144_152, e_144_153, e_144_153_n, e_144_154, e_144_157, e_144_157_n, e_144_158, e_144_161, e_144_161_n, e_144_162, e_144_165, e_144_166, e_144_167, e_144_168, e_144_168_n, e_144_169, e_144_172, e_144_172_n, e_144_173, e_144_176, e_144_177, e_144_177_z, e_144_178, e_144_178_n, e_144_179, e_144_179_i, e_144_180, e_144_183, e_144_184, e_144_185, e_144_188, e_144_188_n, e_144_189, e_144_192, e_144_193, e_144_194, e_144_197, e_144_197_n, e_144_201, e_144_201_n, e_144_202, e_144_207, e_144_207_n, e_144_208, e_144_211, e_144_213, e_144_216, e_144_216_n, e_144_217, e_144_218, e_144_221, e_144_222, XB_i, XB_n, va_rf_s, va_rf_n, mSI_K, mSI_I, mSI_J, mSI_P, mSI_N, mSJ_K, mSJ_I, mSJ_J, mSJ_P, mSJ_N, mSP_K, mSP_I, mSP_J, mSP_P, mSP_N, mNn, mNi, mNr, mN0, al20, al21, al22, al23, al25, true_or, or_true, and_self, if_true, if_false, mCat_n, mCat_i, mCat_r, mCat_l, mCat_0, Nat.reduceAdd, Nat.reduceLeDiff, Nat.reduceLT, true_and, and_true, Nat.zero_le, bI_01, bI_0, i10, tf0, iI_add, iI_sub, iI_mul, iI_neg, iI_add1, iI_sub1, iI_m1, nca, nc1, ncm1, iI_clJ, iI_cl0, iI_clN, Int.toNat_natCast, mU_n, mU_s, p_min, p_max, p_abs, ni_2, ni_3, ni_4, ni_7, ni_8, ni_9, ni_12, ni_24, ni_97, ni_100, ni_122, ni_200, ni_256, ni_4096, ni_5000, ni_9999, iI_lt, iI_le, iI_eq, iz_eq, iz_lt, iz_le, iz_gt, iz_ge, iy_eq, iy_lt, iy_le, iI_ltN, iI_leN, iI_eqN, if_pos, if_neg, k1, r2, a2, hkd, c1']
    exact fin' T1 _ (mNi _) f1' (by rw [es]; exact h1)
  · subst e
    have e1 : iI ((1 : Nat) : Int) = 1 := rfl
    rw [e1] at hkd
    have fin' : ∀ (T1 : mT) (l6 : Option Value), mNL l6 = true → Mf (rdS m) T T1 → CwR T1 m (shpC z F) → XW 144 224 [some (.ref (m)), some (.int (iI ((f : Nat) : Int))), some (.int (iI (z))), some (.int (iI (tx))), some (.int (iI (ty))), some (.int (0)), l6, some (.int (0)), none] [] T1 Q := fin
    have hl2 : 2 ≤ F.2.2.length := by
      rcases ok.2.1 with s | s | s
      · have := s.1; omega
      · exact s.2.1
      · have := s.1; omega
    have ea := bas_not2 (z := z) (F := F) (by omega)
    rw [← ea] at h1
    have bl : (basC z F).length = F.2.2.length := by rw [ea, sfL_len]
    have bW := basC_W ok.b z
    simp (maxSteps := 4000000) (disch := first | (simp (disch := omega) only [XB_i, XB_n, va_rf_s, va_rf_n, mSI_K, mSI_I, mSI_J, mSI_P, mSI_N, mSJ_K, mSJ_I, mSJ_J, mSJ_P, mSJ_N, mSP_K, mSP_I, mSP_J, mSP_P, mSP_N, mNn, mNi, mNr, mN0, al20, al21, al22, al23, al25, true_or, or_true, and_self, if_true, if_false, mCat_n, mCat_i, mCat_r, mCat_l, mCat_0, Nat.reduceAdd, Nat.reduceLeDiff, Nat.reduceLT, true_and, and_true, Nat.zero_le, bI_01, mInB_J, mInB_Z, mInB_N, k1, r2, a2, hkd]; done) | omega | (unfold R32 at *; omega)) only [e_144_91, e_144_91_n, e_144_92, e_144_95, e_144_96, e_144_97, e_144_98, e_144_101, e_144_102, e_144_105, e_144_106, e_144_108, e_144_108_n, e_144_109, e_144_112, e_144_113, e_144_114, e_144_117, e_144_118, e_144_121, e_144_123, e_144_126, e_144_127, e_144_130, e_144_131, e_144_133, e_144_135, e_144_138, e_144_138_n, e_144_139, e_144_142, e_144_142_n, e_144_143, e_144_146, e_144_146_n, e_144_147, e_144_150, e_144_151, e_144_152, e_144_153, e_144_153_n, e_144_154, e_144_157, e_144_157_n, e_144_158, e_144_161, e_144_161_n, e_144_162, e_144_165, e_144_166, e_144_167, e_144_168, e_144_168_n, e_144_169, e_144_172, e_144_172_n, e_144_173, e_144_176, e_144_177, e_144_177_z, e_144_178, e_144_178_n, e_144_179, e_144_179_i, e_144_180, e_144_183, e_144_184, e_144_185, e_144_188, e_144_188_n, e_144_189, e_144_192, e_144_193, e_144_194, e_144_197, e_144_197_n, XB_i, XB_n, va_rf_s, va_rf_n, mSI_K, mSI_I, mSI_J, mSI_P, mSI_N, mSJ_K, mSJ_I, mSJ_J, mSJ_P, mSJ_N, mSP_K, mSP_I, mSP_J, mSP_P, mSP_N, mNn, mNi, mNr, mN0, al20, al21, al22, al23, al25, true_or, or_true, and_self, if_true, if_false, mCat_n, mCat_i, mCat_r, mCat_l, mCat_0, Nat.reduceAdd, Nat.reduceLeDiff, Nat.reduceLT, true_and, and_true, Nat.zero_le, bI_01, bI_0, i10, tf0, iI_add, iI_sub, iI_mul, iI_neg, iI_add1, iI_sub1, iI_m1, nca, nc1, ncm1, iI_clJ, iI_cl0, iI_clN, Int.toNat_natCast, mU_n, mU_s, p_min, p_max, p_abs, ni_2, ni_3, ni_4, ni_7, ni_8, ni_9, ni_12, ni_24, ni_97, ni_100, ni_122, ni_200, ni_256, ni_4096, ni_5000, ni_9999, iI_lt, iI_le, iI_eq, iz_eq, iz_lt, iz_le, iz_gt, iz_ge, iy_eq, iy_lt, iy_le, iI_ltN, iI_leN, iI_eqN, if_pos, if_neg, k1, r2, a2, hkd]
    refine c_144_198 (by simp only [XB_i, XB_n, va_rf_s, va_rf_n, mSI_K, mSI_I, mSI_J, mSI_P, mSI_N, mSJ_K, mSJ_I, mSJ_J, mSJ_P, mSJ_N, mSP_K, mSP_I, mSP_J, mSP_P, mSP_N, mNn, mNi, mNr, mN0, al20, al21, al22, al23, al25, true_or, or_true, and_self, if_true, if_false, mCat_n, mCat_i, mCat_r, mCat_l, mCat_0, Nat.reduceAdd, Nat.reduceLeDiff, Nat.reduceLT, true_and, and_true, Nat.zero_le, bI_01]) (by rw [k1]) (m_simplify hM1 h1 (wB_of bW) (basC_oneP lc) (by omega) (by omega) (fun T2 h2 f2 => ?_))
    rw [← kepC_2 (by omega)] at h2
    have hM2 := hM1.mf f2
    have kl := (kepC_subl (basC z F)).length_le
    have hR : ∀ c ∈ kepC (basC z F), R32 c.1 ∧ R32 c.2.1 := fun c hc => by have := bW c (kepC_mem hc); unfold inW at this; exact ⟨⟨by omega, by omega⟩, ⟨by omega, by omega⟩⟩
    have ko := kepC_oneP (basC_oneP (z := z) lc)
    simp (maxSteps := 4000000) (disch := first | (simp (disch := omega) only [XB_i, XB_n, va_rf_s, va_rf_n, mSI_K, mSI_I, mSI_J, mSI_P, mSI_N, mSJ_K, mSJ_I, mSJ_J, mSJ_P, mSJ_N, mSP_K, mSP_I, mSP_J, mSP_P, mSP_N, mNn, mNi, mNr, mN0, al20, al21, al22, al23, al25, true_or, or_true, and_self, if_true, if_false, mCat_n, mCat_i, mCat_r, mCat_l, mCat_0, Nat.reduceAdd, Nat.reduceLeDiff, Nat.reduceLT, true_and, and_true, Nat.zero_le, bI_01, mInB_J, mInB_Z, mInB_N]; done) | omega | (unfold R32 at *; omega)) only [e_144_201, e_144_201_n, e_144_202, XB_i, XB_n, va_rf_s, va_rf_n, mSI_K, mSI_I, mSI_J, mSI_P, mSI_N, mSJ_K, mSJ_I, mSJ_J, mSJ_P, mSJ_N, mSP_K, mSP_I, mSP_J, mSP_P, mSP_N, mNn, mNi, mNr, mN0, al20, al21, al22, al23, al25, true_or, or_true, and_self, if_true, if_false, mCat_n, mCat_i, mCat_r, mCat_l, mCat_0, Nat.reduceAdd, Nat.reduceLeDiff, Nat.reduceLT, true_and, and_true, Nat.zero_le, bI_01, bI_0, i10, tf0, iI_add, iI_sub, iI_mul, iI_neg, iI_add1, iI_sub1, iI_m1, nca, nc1, ncm1, iI_clJ, iI_cl0, iI_clN, Int.toNat_natCast, mU_n, mU_s, p_min, p_max, p_abs, ni_2, ni_3, ni_4, ni_7, ni_8, ni_9, ni_12, ni_24, ni_97, ni_100, ni_122, ni_200, ni_256, ni_4096, ni_5000, ni_9999, iI_lt, iI_le, iI_eq, iz_eq, iz_lt, iz_le, iz_gt, iz_ge, iy_eq, iy_lt, iy_le, iI_ltN, iI_leN, iI_eqN, if_pos, if_neg]
    have := c_144_204 (lv := [some (.ref (m)), some (.int (iI ((f : Nat) : Int))), some (.int (iI (z))), some (.int (iI (tx))), some (.int (iI (ty))), some (.int (0)), some (.int (iI (2))), none, none]) (st := []) (Q := Q) (by simp only [XB_i, XB_n, va_rf_s, va_rf_n, mSI_K, mSI_I, mSI_J, mSI_P, mSI_N, mSJ_K, mSJ_I, mSJ_J, mSJ_P, mSJ_N, mSP_K, mSP_I, mSP_J, mSP_P, mSP_N, mNn, mNi, mNr, mN0, al20, al21, al22, al23, al25, true_or, or_true, and_self, if_true, if_false, mCat_n, mCat_i, mCat_r, mCat_l, mCat_0, Nat.reduceAdd, Nat.reduceLeDiff, Nat.reduceLT, true_and, and_true, Nat.zero_le, bI_01]) (by rw [hM2.k]) (m_once (ring := false) hM2 h2 (by omega) hR (fun z => by cases hk : kepC (basC _ F) with | nil => exact absurd hk z | cons c r => rw [hk] at ko; exact ko.1) (fun T3 h3 f3 => ?_))
    · exact this
    · have et : tdC false (mrg [] (kepC (basC z F))) = mrg [] (kepC (basC z F)) := tidyC_1 _
      rw [et] at h3
      have hM3 := hM2.mf f3
      have k3 := hM3.k
      have c3 := h3.1
      have ml := (mrg_sub (kepC (basC z F)) []).length_le
      have f3' : Mf (rdS m) T T3 := f1'.tr ((f2.mono (fun b j h => sm_rd h)).tr (f3.mono (fun b j h => wk_rd h)))
      have es : shpC z F = if (mrg [] (kepC (basC z F))).length < 2 then [] else mrg [] (kepC (basC z F)) := by
        unfold shpC
        rw [hkT, tidyS_one ko]
      simp only [List.nil_append] at ml
      by_cases q : (mrg [] (kepC (basC z F))).length < 2
      · rw [if_pos q] at es
        simp (maxSteps := 4000000) (disch := first | (simp (disch := omega) only [XB_i, XB_n, va_rf_s, va_rf_n, mSI_K, mSI_I, mSI_J, mSI_P, mSI_N, mSJ_K, mSJ_I, mSJ_J, mSJ_P, mSJ_N, mSP_K, mSP_I, mSP_J, mSP_P, mSP_N, mNn, mNi, mNr, mN0, al20, al21, al22, al23, al25, true_or, or_true, and_self, if_true, if_false, mCat_n, mCat_i, mCat_r, mCat_l, mCat_0, Nat.reduceAdd, Nat.reduceLeDiff, Nat.reduceLT, true_and, and_true, Nat.zero_le, bI_01, mInB_J, mInB_Z, mInB_N, k3, c3]; done) | omega | (unfold R32 at *; omega)) only [e_144_207, e_144_207_n, e_144_208, e_144_211, e_144_213, e_144_216, e_144_216_n, e_144_217, e_144_218, e_144_221, e_144_222, XB_i, XB_n, va_rf_s, va_rf_n, mSI_K, mSI_I, mSI_J, mSI_P, mSI_N, mSJ_K, mSJ_I, mSJ_J, mSJ_P, mSJ_N, mSP_K, mSP_I, mSP_J, mSP_P, mSP_N, mNn, mNi, mNr, mN0, al20, al21, al22, al23, al25, true_or, or_true, and_self, if_true, if_false, mCat_n, mCat_i, mCat_r, mCat_l, mCat_0, Nat.reduceAdd, Nat.reduceLeDiff, Nat.reduceLT, true_and, and_true, Nat.zero_le, bI_01, bI_0, i10, tf0, iI_add, iI_sub, iI_mul, iI_neg, iI_add1, iI_sub1, iI_m1, nca, nc1, ncm1, iI_clJ, iI_cl0, iI_clN, Int.toNat_natCast, mU_n, mU_s, p_min, p_max, p_abs, ni_2, ni_3, ni_4, ni_7, ni_8, ni_9, ni_12, ni_24, ni_97, ni_100, ni_122, ni_200, ni_256, ni_4096, ni_5000, ni_9999, iI_lt, iI_le, iI_eq, iz_eq, iz_lt, iz_le, iz_gt, iz_ge, iy_eq, iy_lt, iy_le, iI_ltN, iI_leN, iI_eqN, if_pos, if_neg, k3, c3]
        exact fin' _ _ (mNi _) (f3'.sI (cv_rd (Or.inl ⟨rfl, rfl⟩))) (by rw [es]; exact CwR.none (by (simp (disch := omega) only [mSI_I, mSI_J, mSI_P, mSJ_I, mSJ_J, mSJ_P, mSP_I, mSP_J, mSP_P, mU_n, mU_s] <;> first | done | rfl | assumption)))
      · rw [if_neg q] at es
        simp (maxSteps := 4000000) (disch := first | (simp (disch := omega) only [XB_i, XB_n, va_rf_s, va_rf_n, mSI_K, mSI_I, mSI_J, mSI_P, mSI_N, mSJ_K, mSJ_I, mSJ_J, mSJ_P, mSJ_N, mSP_K, mSP_I, mSP_J, mSP_P, mSP_N, mNn, mNi, mNr, mN0, al20, al21, al22, al23, al25, true_or, or_true, and_self, if_true, if_false, mCat_n, mCat_i, mCat_r, mCat_l, mCat_0, Nat.reduceAdd, Nat.reduceLeDiff, Nat.reduceLT, true_and, and_true, Nat.zero_le, bI_01, mInB_J, mInB_Z, mInB_N, k3, c3]; done) | omega | (unfold R32 at *; omega)) only [e_144_207, e_144_207_n, e_144_208, e_144_211, e_144_213, e_144_216, e_144_216_n, e_144_217, e_144_218, e_144_221, e_144_222, XB_i, XB_n, va_rf_s, va_rf_n, mSI_K, mSI_I, mSI_J, mSI_P, mSI_N, mSJ_K, mSJ_I, mSJ_J, mSJ_P, mSJ_N, mSP_K, mSP_I, mSP_J, mSP_P, mSP_N, mNn, mNi, mNr, mN0, al20, al21, al22, al23, al25, true_or, or_true, and_self, if_true, if_false, mCat_n, mCat_i, mCat_r, mCat_l, mCat_0, Nat.reduceAdd, Nat.reduceLeDiff, Nat.reduceLT, true_and, and_true, Nat.zero_le, bI_01, bI_0, i10, tf0, iI_add, iI_sub, iI_mul, iI_neg, iI_add1, iI_sub1, iI_m1, nca, nc1, ncm1, iI_clJ, iI_cl0, iI_clN, Int.toNat_natCast, mU_n, mU_s, p_min, p_max, p_abs, ni_2, ni_3, ni_4, ni_7, ni_8, ni_9, ni_12, ni_24, ni_97, ni_100, ni_122, ni_200, ni_256, ni_4096, ni_5000, ni_9999, iI_lt, iI_le, iI_eq, iz_eq, iz_lt, iz_le, iz_gt, iz_ge, iy_eq, iy_lt, iy_le, iI_ltN, iI_leN, iI_eqN, if_pos, if_neg, k3, c3]
        exact fin' _ _ (mNi _) f3' (by rw [es]; exact h3)
  · subst e
    have fin' : ∀ (T1 : mT) (l6 : Option Value), mNL l6 = true → Mf (rdS m) T T1 → CwR T1 m (shpC z F) → XW 144 224 [some (.ref (m)), some (.int (iI ((f : Nat) : Int))), some (.int (iI (z))), some (.int (iI (tx))), some (.int (iI (ty))), some (.int (1)), l6, some (.int (0)), none] [] T1 Q := fin
    have hl3 : 3 ≤ F.2.2.length := by
      rcases ok.2.1 with s | s | s
      · have := s.1; omega
      · have := s.1; omega
      · exact s.2.1
    have ea : basC z F = sfL z F.2.2 F.2.2.length ++ [((sfC z F.2.2 0).1, (sfC z F.2.2 0).2.1, false)] := by unfold basC; rw [if_pos (show F.1.2.1 = 2 from hk)]
    have bl : (basC z F).length = F.2.2.length + 1 := by rw [bas_len, if_pos (show F.1.2.1 = 2 from hk)]
    have bW := basC_W ok.b z
    have r40 := hM1.r40
    have r41 := hM1.r41
    have r42 := hM1.r42
    have a40 := hM1.a40
    have a41 := hM1.a41
    have a42 := hM1.a42
    have x0 := h1.2.1 0 (by rw [sfL_len]; omega)
    have y0 := h1.2.2.1 0 (by rw [sfL_len]; omega)
    have px0 : pX (sfL z F.2.2 F.2.2.length) 0 = (sfC z F.2.2 0).1 := by unfold pX; rw [sfL_p (by omega)]
    have py0 : pY (sfL z F.2.2 F.2.2.length) 0 = (sfC z F.2.2 0).2.1 := by unfold pY; rw [sfL_p (by omega)]
    rw [px0] at x0
    rw [py0] at y0
    have i0 : mInB 0 400 = true := mInB_Z (by omega) (by omega)
    simp (maxSteps := 4000000) (disch := first | (simp (disch := omega) only [XB_i, XB_n, va_rf_s, va_rf_n, mSI_K, mSI_I, mSI_J, mSI_P, mSI_N, mSJ_K, mSJ_I, mSJ_J, mSJ_P, mSJ_N, mSP_K, mSP_I, mSP_J, mSP_P, mSP_N, mNn, mNi, mNr, mN0, al20, al21, al22, al23, al25, true_or, or_true, and_self, if_true, if_false, mCat_n, mCat_i, mCat_r, mCat_l, mCat_0, Nat.reduceAdd, Nat.reduceLeDiff, Nat.reduceLT, true_and, and_true, Nat.zero_le, bI_01, mInB_J, mInB_Z, mInB_N, k1, r2, a2, hkd, c1, r40, r41, r42, a40, a41, a42, x0, y0, i0, iI_cl0]; done) | omega | (unfold R32 at *; omega)) only [e_144_91, e_144_91_n, e_144_92, e_144_95, e_144_96, e_144_97, e_144_98, e_144_101, e_144_102, e_144_105, e_144_106, e_144_108, e_144_108_n, e_144_109, e_144_112, e_144_113, e_144_114, e_144_117, e_144_118, e_144_121, e_144_123, e_144_126, e_144_127, e_144_130, e_144_131, e_144_133, e_144_135, e_144_138, e_144_138_n, e_144_139, e_144_142, e_144_142_n, e_144_143, e_144_146, e_144_146_n, e_144_147, e_144_150, e_144_151, e_144_152, e_144_153, e_144_153_n, e_144_154, e_144_157, e_144_157_n, e_144_158, e_144_161, e_144_161_n, e_144_162, e_144_165, e_144_166, e_144_167, e_144_168, e_144_168_n, e_144_169, e_144_172, e_144_172_n, e_144_173, e_144_176, e_144_177, e_144_177_z, e_144_178, e_144_178_n, e_144_179, e_144_179_i, e_144_180, e_144_183, e_144_184, e_144_185, e_144_188, e_144_188_n, e_144_189, e_144_192, e_144_193, e_144_194, e_144_197, e_144_197_n, XB_i, XB_n, va_rf_s, va_rf_n, mSI_K, mSI_I, mSI_J, mSI_P, mSI_N, mSJ_K, mSJ_I, mSJ_J, mSJ_P, mSJ_N, mSP_K, mSP_I, mSP_J, mSP_P, mSP_N, mNn, mNi, mNr, mN0, al20, al21, al22, al23, al25, true_or, or_true, and_self, if_true, if_false, mCat_n, mCat_i, mCat_r, mCat_l, mCat_0, Nat.reduceAdd, Nat.reduceLeDiff, Nat.reduceLT, true_and, and_true, Nat.zero_le, bI_01, bI_0, i10, tf0, iI_add, iI_sub, iI_mul, iI_neg, iI_add1, iI_sub1, iI_m1, nca, nc1, ncm1, iI_clJ, iI_cl0, iI_clN, Int.toNat_natCast, mU_n, mU_s, p_min, p_max, p_abs, ni_2, ni_3, ni_4, ni_7, ni_8, ni_9, ni_12, ni_24, ni_97, ni_100, ni_122, ni_200, ni_256, ni_4096, ni_5000, ni_9999, iI_lt, iI_le, iI_eq, iz_eq, iz_lt, iz_le, iz_gt, iz_ge, iy_eq, iy_lt, iy_le, iI_ltN, iI_leN, iI_eqN, if_pos, if_neg, k1, r2, a2, hkd, c1, r40, r41, r42, a40, a41, a42, x0, y0, i0, iI_cl0]
    have h1b : CwR (mSI (mSI (mSI (mSI T1 (m + 34) F.2.2.length (iI (sfC z F.2.2 0).1)) (m + 35) F.2.2.length (iI (sfC z F.2.2 0).2.1)) (m + 36) F.2.2.length 0) m 43 (iI ((F.2.2.length + 1 : Nat) : Int))) m (basC z F) := by
      have hn : (sfL z F.2.2 F.2.2.length).length = F.2.2.length := sfL_len _ _ _
      obtain ⟨d1, d2, d3, d4⟩ := id h1
      rw [ea]
      have hL : (sfL z F.2.2 F.2.2.length ++ [((sfC z F.2.2 0).1, (sfC z F.2.2 0).2.1, false)]).length = F.2.2.length + 1 := by rw [List.length_append, hn]; rfl
      obtain ⟨p1, p2, p3⟩ := pX_end (sfL z F.2.2 F.2.2.length) ((sfC z F.2.2 0).1, (sfC z F.2.2 0).2.1, false)
      rw [hn] at p1 p2 p3
      refine ⟨by rw [hL]; (simp (disch := omega) only [mSI_I, mSI_J, mSI_P, mSJ_I, mSJ_J, mSJ_P, mSP_I, mSP_J, mSP_P, mU_n, mU_s] <;> first | done | rfl | assumption), fun j hj => ?_, fun j hj => ?_, fun j hj => ?_⟩
      · rw [hL] at hj
        by_cases e : j = F.2.2.length
        · rw [e, p1]; (simp (disch := omega) only [mSI_I, mSI_J, mSI_P, mSJ_I, mSJ_J, mSJ_P, mSP_I, mSP_J, mSP_P, mU_n, mU_s] <;> first | done | rfl | assumption)
        · rw [(pX_app (by rw [hn]; omega)).1, ← d2 j (by rw [hn]; omega)]; (simp (disch := omega) only [mSI_I, mSI_J, mSI_P, mSJ_I, mSJ_J, mSJ_P, mSP_I, mSP_J, mSP_P, mU_n, mU_s] <;> first | done | rfl | assumption)
      · rw [hL] at hj
        by_cases e : j = F.2.2.length
        · rw [e, p2]; (simp (disch := omega) only [mSI_I, mSI_J, mSI_P, mSJ_I, mSJ_J, mSJ_P, mSP_I, mSP_J, mSP_P, mU_n, mU_s] <;> first | done | rfl | assumption)
        · rw [(pX_app (by rw [hn]; omega)).2.1, ← d3 j (by rw [hn]; omega)]; (simp (disch := omega) only [mSI_I, mSI_J, mSI_P, mSJ_I, mSJ_J, mSJ_P, mSP_I, mSP_J, mSP_P, mU_n, mU_s] <;> first | done | rfl | assumption)
      · rw [hL] at hj
        by_cases e : j = F.2.2.length
        · rw [e, p3]; show _ = (0 : Int32); (simp (disch := omega) only [mSI_I, mSI_J, mSI_P, mSJ_I, mSJ_J, mSJ_P, mSP_I, mSP_J, mSP_P, mU_n, mU_s] <;> first | done | rfl | assumption)
        · rw [(pX_app (by rw [hn]; omega)).2.2, ← d4 j (by rw [hn]; omega)]; (simp (disch := omega) only [mSI_I, mSI_J, mSI_P, mSJ_I, mSJ_J, mSJ_P, mSP_I, mSP_J, mSP_P, mU_n, mU_s] <;> first | done | rfl | assumption)
    have f1b : Mf (cvS m) T1 (mSI (mSI (mSI (mSI T1 (m + 34) F.2.2.length (iI (sfC z F.2.2 0).1)) (m + 35) F.2.2.length (iI (sfC z F.2.2 0).2.1)) (m + 36) F.2.2.length 0) m 43 (iI ((F.2.2.length + 1 : Nat) : Int))) := (((Mf.rf.sI (Or.inr ⟨by omega, by omega⟩)).sI (Or.inr ⟨by omega, by omega⟩)).sI (Or.inr ⟨by omega, by omega⟩)).sI (Or.inl ⟨rfl, rfl⟩)
    refine c_144_198 (by simp only [XB_i, XB_n, va_rf_s, va_rf_n, mSI_K, mSI_I, mSI_J, mSI_P, mSI_N, mSJ_K, mSJ_I, mSJ_J, mSJ_P, mSJ_N, mSP_K, mSP_I, mSP_J, mSP_P, mSP_N, mNn, mNi, mNr, mN0, al20, al21, al22, al23, al25, true_or, or_true, and_self, if_true, if_false, mCat_n, mCat_i, mCat_r, mCat_l, mCat_0, Nat.reduceAdd, Nat.reduceLeDiff, Nat.reduceLT, true_and, and_true, Nat.zero_le, bI_01]) (by simp only [mSI_K]; rw [k1]) (m_simplify (hM1.mf f1b) h1b (wB_of bW) (basC_oneP lc) (by omega) (by omega) (fun T2 h2 f2 => ?_))
    rw [← kepC_2 (by omega)] at h2
    have hM2 := (hM1.mf f1b).mf f2
    have kl := (kepC_subl (basC z F)).length_le
    have hR : ∀ c ∈ kepC (basC z F), R32 c.1 ∧ R32 c.2.1 := fun c hc => by have := bW c (kepC_mem hc); unfold inW at this; exact ⟨⟨by omega, by omega⟩, ⟨by omega, by omega⟩⟩
    have ko := kepC_oneP (basC_oneP (z := z) lc)
    simp (maxSteps := 4000000) (disch := first | (simp (disch := omega) only [XB_i, XB_n, va_rf_s, va_rf_n, mSI_K, mSI_I, mSI_J, mSI_P, mSI_N, mSJ_K, mSJ_I, mSJ_J, mSJ_P, mSJ_N, mSP_K, mSP_I, mSP_J, mSP_P, mSP_N, mNn, mNi, mNr, mN0, al20, al21, al22, al23, al25, true_or, or_true, and_self, if_true, if_false, mCat_n, mCat_i, mCat_r, mCat_l, mCat_0, Nat.reduceAdd, Nat.reduceLeDiff, Nat.reduceLT, true_and, and_true, Nat.zero_le, bI_01, mInB_J, mInB_Z, mInB_N]; done) | omega | (unfold R32 at *; omega)) only [e_144_201, e_144_201_n, e_144_202, XB_i, XB_n, va_rf_s, va_rf_n, mSI_K, mSI_I, mSI_J, mSI_P, mSI_N, mSJ_K, mSJ_I, mSJ_J, mSJ_P, mSJ_N, mSP_K, mSP_I, mSP_J, mSP_P, mSP_N, mNn, mNi, mNr, mN0, al20, al21, al22, al23, al25, true_or, or_true, and_self, if_true, if_false, mCat_n, mCat_i, mCat_r, mCat_l, mCat_0, Nat.reduceAdd, Nat.reduceLeDiff, Nat.reduceLT, true_and, and_true, Nat.zero_le, bI_01, bI_0, i10, tf0, iI_add, iI_sub, iI_mul, iI_neg, iI_add1, iI_sub1, iI_m1, nca, nc1, ncm1, iI_clJ, iI_cl0, iI_clN, Int.toNat_natCast, mU_n, mU_s, p_min, p_max, p_abs, ni_2, ni_3, ni_4, ni_7, ni_8, ni_9, ni_12, ni_24, ni_97, ni_100, ni_122, ni_200, ni_256, ni_4096, ni_5000, ni_9999, iI_lt, iI_le, iI_eq, iz_eq, iz_lt, iz_le, iz_gt, iz_ge, iy_eq, iy_lt, iy_le, iI_ltN, iI_leN, iI_eqN, if_pos, if_neg]
    have := c_144_204 (lv := [some (.ref (m)), some (.int (iI ((f : Nat) : Int))), some (.int (iI (z))), some (.int (iI (tx))), some (.int (iI (ty))), some (.int (1)), some (.int (iI (3))), none, none]) (st := []) (Q := Q) (by simp only [XB_i, XB_n, va_rf_s, va_rf_n, mSI_K, mSI_I, mSI_J, mSI_P, mSI_N, mSJ_K, mSJ_I, mSJ_J, mSJ_P, mSJ_N, mSP_K, mSP_I, mSP_J, mSP_P, mSP_N, mNn, mNi, mNr, mN0, al20, al21, al22, al23, al25, true_or, or_true, and_self, if_true, if_false, mCat_n, mCat_i, mCat_r, mCat_l, mCat_0, Nat.reduceAdd, Nat.reduceLeDiff, Nat.reduceLT, true_and, and_true, Nat.zero_le, bI_01]) (by rw [hM2.k]) (m_once (ring := true) hM2 h2 (by omega) hR (fun z => by cases hk : kepC (basC _ F) with | nil => exact absurd hk z | cons c r => rw [hk] at ko; exact ko.1) (fun T3 h3 f3 => ?_))
    · exact this
    · have hM3 := hM2.mf f3
      have k3 := hM3.k
      have c3 := h3.1
      have ml := (mrg_sub (kepC (basC z F)) []).length_le
      have tl := tdC_len true (mrg [] (kepC (basC z F)))
      have f3' : Mf (rdS m) T T3 := f1'.tr ((f1b.mono (fun b j h => cv_rd h)).tr ((f2.mono (fun b j h => sm_rd h)).tr (f3.mono (fun b j h => wk_rd h))))
      have es : shpC z F = if (tdC true (mrg [] (kepC (basC z F)))).length < 3 then [] else tdC true (mrg [] (kepC (basC z F))) := by
        unfold shpC
        rw [hkT, tidyS_two]
      simp only [List.nil_append] at ml
      by_cases q : (tdC true (mrg [] (kepC (basC z F)))).length < 3
      · rw [if_pos q] at es
        simp (maxSteps := 4000000) (disch := first | (simp (disch := omega) only [XB_i, XB_n, va_rf_s, va_rf_n, mSI_K, mSI_I, mSI_J, mSI_P, mSI_N, mSJ_K, mSJ_I, mSJ_J, mSJ_P, mSJ_N, mSP_K, mSP_I, mSP_J, mSP_P, mSP_N, mNn, mNi, mNr, mN0, al20, al21, al22, al23, al25, true_or, or_true, and_self, if_true, if_false, mCat_n, mCat_i, mCat_r, mCat_l, mCat_0, Nat.reduceAdd, Nat.reduceLeDiff, Nat.reduceLT, true_and, and_true, Nat.zero_le, bI_01, mInB_J, mInB_Z, mInB_N, k3, c3]; done) | omega | (unfold R32 at *; omega)) only [e_144_207, e_144_207_n, e_144_208, e_144_211, e_144_213, e_144_216, e_144_216_n, e_144_217, e_144_218, e_144_221, e_144_222, XB_i, XB_n, va_rf_s, va_rf_n, mSI_K, mSI_I, mSI_J, mSI_P, mSI_N, mSJ_K, mSJ_I, mSJ_J, mSJ_P, mSJ_N, mSP_K, mSP_I, mSP_J, mSP_P, mSP_N, mNn, mNi, mNr, mN0, al20, al21, al22, al23, al25, true_or, or_true, and_self, if_true, if_false, mCat_n, mCat_i, mCat_r, mCat_l, mCat_0, Nat.reduceAdd, Nat.reduceLeDiff, Nat.reduceLT, true_and, and_true, Nat.zero_le, bI_01, bI_0, i10, tf0, iI_add, iI_sub, iI_mul, iI_neg, iI_add1, iI_sub1, iI_m1, nca, nc1, ncm1, iI_clJ, iI_cl0, iI_clN, Int.toNat_natCast, mU_n, mU_s, p_min, p_max, p_abs, ni_2, ni_3, ni_4, ni_7, ni_8, ni_9, ni_12, ni_24, ni_97, ni_100, ni_122, ni_200, ni_256, ni_4096, ni_5000, ni_9999, iI_lt, iI_le, iI_eq, iz_eq, iz_lt, iz_le, iz_gt, iz_ge, iy_eq, iy_lt, iy_le, iI_ltN, iI_leN, iI_eqN, if_pos, if_neg, k3, c3]
        exact fin' _ _ (mNi _) (f3'.sI (cv_rd (Or.inl ⟨rfl, rfl⟩))) (by rw [es]; exact CwR.none (by (simp (disch := omega) only [mSI_I, mSI_J, mSI_P, mSJ_I, mSJ_J, mSJ_P, mSP_I, mSP_J, mSP_P, mU_n, mU_s] <;> first | done | rfl | assumption)))
      · rw [if_neg q] at es
        simp (maxSteps := 4000000) (disch := first | (simp (disch := omega) only [XB_i, XB_n, va_rf_s, va_rf_n, mSI_K, mSI_I, mSI_J, mSI_P, mSI_N, mSJ_K, mSJ_I, mSJ_J, mSJ_P, mSJ_N, mSP_K, mSP_I, mSP_J, mSP_P, mSP_N, mNn, mNi, mNr, mN0, al20, al21, al22, al23, al25, true_or, or_true, and_self, if_true, if_false, mCat_n, mCat_i, mCat_r, mCat_l, mCat_0, Nat.reduceAdd, Nat.reduceLeDiff, Nat.reduceLT, true_and, and_true, Nat.zero_le, bI_01, mInB_J, mInB_Z, mInB_N, k3, c3]; done) | omega | (unfold R32 at *; omega)) only [e_144_207, e_144_207_n, e_144_208, e_144_211, e_144_213, e_144_216, e_144_216_n, e_144_217, e_144_218, e_144_221, e_144_222, XB_i, XB_n, va_rf_s, va_rf_n, mSI_K, mSI_I, mSI_J, mSI_P, mSI_N, mSJ_K, mSJ_I, mSJ_J, mSJ_P, mSJ_N, mSP_K, mSP_I, mSP_J, mSP_P, mSP_N, mNn, mNi, mNr, mN0, al20, al21, al22, al23, al25, true_or, or_true, and_self, if_true, if_false, mCat_n, mCat_i, mCat_r, mCat_l, mCat_0, Nat.reduceAdd, Nat.reduceLeDiff, Nat.reduceLT, true_and, and_true, Nat.zero_le, bI_01, bI_0, i10, tf0, iI_add, iI_sub, iI_mul, iI_neg, iI_add1, iI_sub1, iI_m1, nca, nc1, ncm1, iI_clJ, iI_cl0, iI_clN, Int.toNat_natCast, mU_n, mU_s, p_min, p_max, p_abs, ni_2, ni_3, ni_4, ni_7, ni_8, ni_9, ni_12, ni_24, ni_97, ni_100, ni_122, ni_200, ni_256, ni_4096, ni_5000, ni_9999, iI_lt, iI_le, iI_eq, iz_eq, iz_lt, iz_le, iz_gt, iz_ge, iy_eq, iy_lt, iy_le, iI_ltN, iI_leN, iI_eqN, if_pos, if_neg, k3, c3]
        exact fin' _ _ (mNi _) f3' (by rw [es]; exact h3)
end MZ
