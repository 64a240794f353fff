/-! the reference: makeTile, tile, octet, region -/
def mtS (m : Nat) : Nat → Nat → Prop := fun b j => rdS m b j ∨ ouS m b j
theorem mtS_b {m b j : Nat} (h : mtS m b j) : (b = m ∧ (j = 37 ∨ j = 43 ∨ j = 47)) ∨ b = m + 32 ∨ iv (m + 34) (m + 41) b := by
  rcases h with (((⟨z, y⟩ | z) | (⟨z, y⟩ | z)) | z) | (⟨z, y⟩ | z)
  · exact Or.inl ⟨z, by omega⟩
  · exact Or.inr (Or.inr ⟨z.1, by have := z.2; omega⟩)
  · exact Or.inl ⟨z, by omega⟩
  · exact Or.inr (Or.inr ⟨by have := z.1; omega, by have := z.2; omega⟩)
  · exact Or.inr (Or.inr ⟨by omega, by omega⟩)
  · exact Or.inl ⟨z, by omega⟩
  · exact Or.inr (Or.inl z)
theorem sl_mt {m s b j : Nat} (h : slS m s b j) : ¬ mtS m b j := by
  intro z
  rcases mtS_b z with ⟨y, _⟩ | y | y <;> rcases h with ⟨q, _⟩ | ⟨q, _⟩ | ⟨q, _⟩
  all_goals first | omega | (have := q.1; have := q.2; omega) | (have := y.1; omega) | (have := q.1; have := q.2; have := y.1; omega)
theorem ou_rd {m b j : Nat} (h : ouS m b j) : ¬ rdS m b j := by
  rintro (((⟨z, y⟩ | z) | (⟨z, y⟩ | z)) | z) <;> rcases h with ⟨q, r⟩ | q
  all_goals first | omega | (have := z.1; omega)
section TI
variable {T : mT} {Q : mOut → mT → Prop} {m s : Nat} {Fs : List Ft} {z tx ty : Int}
theorem lm_mk {T0 : mT} (hM0 : ModK T0 m) (hS0 : SlR T0 m s Fs) (hs : s < 3) (ok : esOk Fs) (hz : 0 ≤ z ∧ z ≤ 4) (hx : 0 ≤ tx ∧ tx ≤ 15) (hy : 0 ≤ ty ∧ ty ≤ 15) : ∀ (n i : Nat) (T : mT) (bf : Int) (bs : List Nat) (l7 : Option Value), Fs.length - i = n → i ≤ Fs.length → Mf (mtS m) T0 T → OuR T m bs → bs.length ≤ 245 * i → (0 ≤ bf ∧ ∀ j, i ≤ j → j < Fs.length → bf < (fA Fs j).1.1) →
    (∀ T2, OuR T2 m (mkF z Fs (256 * tx) (256 * ty) n i bf bs) → (mkF z Fs (256 * tx) (256 * ty) n i bf bs).length ≤ 5880 → Mf (mtS m) T0 T2 → Q (.inl none) T2) → XW 149 11 [some (.ref (m)), some (.int (iI ((s : Nat) : Int))), some (.int (iI (z))), some (.int (iI (tx))), some (.int (iI (ty))), some (.int (iI (bf))), some (.int (iI ((i : Nat) : Int))), l7] [] T Q := by
  have l24 := hS0.2.1
  intro n
  induction n with
  | zero =>
    intro i T bf bs l7 hn hi hT hO hbl hbf hQ
    have hM := hM0.mf hT
    have c1 := (hS0.mf hT (fun b j h => sl_mt h)).1
    have : i = Fs.length := by omega
    subst this
    rw [e_149_11]
    simp (maxSteps := 4000000) (disch := first | (simp (disch := omega) only [XB_i, XB_n, va_rf_s, va_rf_n, mSI_K, mSI_I, mSI_J, mSI_P, mSI_N, mSJ_K, mSJ_I, mSJ_J, mSJ_P, mSJ_N, mSP_K, mSP_I, mSP_J, mSP_P, mSP_N, mNn, mNi, mNr, mN0, al20, al21, al22, al23, al25, true_or, or_true, and_self, if_true, if_false, mCat_n, mCat_i, mCat_r, mCat_l, mCat_0, Nat.reduceAdd, Nat.reduceLeDiff, Nat.reduceLT, true_and, and_true, Nat.zero_le, bI_01, mInB_J, mInB_Z, mInB_N, hM.k, hM.r0, hM.a0, c1]; done) | omega | (unfold R32 at *; omega)) only [e_149_13, e_149_13_n, e_149_14, e_149_17, e_149_18, e_149_19, e_149_85, XB_i, XB_n, va_rf_s, va_rf_n, mSI_K, mSI_I, mSI_J, mSI_P, mSI_N, mSJ_K, mSJ_I, mSJ_J, mSJ_P, mSJ_N, mSP_K, mSP_I, mSP_J, mSP_P, mSP_N, mNn, mNi, mNr, mN0, al20, al21, al22, al23, al25, true_or, or_true, and_self, if_true, if_false, mCat_n, mCat_i, mCat_r, mCat_l, mCat_0, Nat.reduceAdd, Nat.reduceLeDiff, Nat.reduceLT, true_and, and_true, Nat.zero_le, bI_01, bI_0, i10, tf0, iI_add, iI_sub, iI_mul, iI_neg, iI_add1, iI_sub1, iI_m1, nca, nc1, ncm1, iI_clJ, iI_cl0, iI_clN, Int.toNat_natCast, mU_n, mU_s, p_min, p_max, p_abs, ni_2, ni_3, ni_4, ni_7, ni_8, ni_9, ni_12, ni_24, ni_97, ni_100, ni_122, ni_200, ni_256, ni_4096, ni_5000, ni_9999, iI_lt, iI_le, iI_eq, iz_eq, iz_lt, iz_le, iz_gt, iz_ge, iy_eq, iy_lt, iy_le, iI_ltN, iI_leN, iI_eqN, if_pos, if_neg, hM.k, hM.r0, hM.a0, c1]
    exact hQ T hO (by show bs.length ≤ 5880; omega) hT
  | succ n ih =>
    intro i T bf bs l7 hn hi hT hO hbl hbf hQ
    have hM := hM0.mf hT
    have hS := hS0.mf hT (fun b j h => sl_mt h)
    have c1 := hS.1
    have hF := hS.2.2 i (by omega)
    have fo := ok.1 i (by omega)
    have bl := fo.l
    have bn := fo.n
    have bK := fo.k
    have bS := fo.s
    have hbi := hbf.2 i (Nat.le_refl i) (by omega)
    have f4 := hF.2.2.2.1
    have l12 := hF.2.2.2.2.2.2.1
    obtain ⟨kk, hkk⟩ : ∃ kk : Nat, (fA Fs i).1.2.1 = (kk : Int) := ⟨(fA Fs i).1.2.1.toNat, by omega⟩
    obtain ⟨ss, hss⟩ : ∃ ss : Nat, (fA Fs i).1.2.2.1 = (ss : Int) := ⟨(fA Fs i).1.2.2.1.toNat, by omega⟩
    have skip : ∀ (T1 : mT) (l7 : Option Value), cutT kk (256 * tx) (256 * ty) (shE z Fs i) = [] → Mf (mtS m) T0 T1 → OuR T1 m bs → XW 149 79 [some (.ref (m)), some (.int (iI ((s : Nat) : Int))), some (.int (iI (z))), some (.int (iI (tx))), some (.int (iI (ty))), some (.int (iI (bf))), some (.int (iI ((i : Nat) : Int))), l7] [] T1 Q := by
      intro T1 l7 q hT1 hO1
      simp (maxSteps := 4000000) (disch := first | (simp (disch := omega) only [XB_i, XB_n, va_rf_s, va_rf_n, mSI_K, mSI_I, mSI_J, mSI_P, mSI_N, mSJ_K, mSJ_I, mSJ_J, mSJ_P, mSJ_N, mSP_K, mSP_I, mSP_J, mSP_P, mSP_N, mNn, mNi, mNr, mN0, al20, al21, al22, al23, al25, true_or, or_true, and_self, if_true, if_false, mCat_n, mCat_i, mCat_r, mCat_l, mCat_0, Nat.reduceAdd, Nat.reduceLeDiff, Nat.reduceLT, true_and, and_true, Nat.zero_le, bI_01, mInB_J, mInB_Z, mInB_N]; done) | omega | (unfold R32 at *; omega)) only [e_149_79, e_149_82, XB_i, XB_n, va_rf_s, va_rf_n, mSI_K, mSI_I, mSI_J, mSI_P, mSI_N, mSJ_K, mSJ_I, mSJ_J, mSJ_P, mSJ_N, mSP_K, mSP_I, mSP_J, mSP_P, mSP_N, mNn, mNi, mNr, mN0, al20, al21, al22, al23, al25, true_or, or_true, and_self, if_true, if_false, mCat_n, mCat_i, mCat_r, mCat_l, mCat_0, Nat.reduceAdd, Nat.reduceLeDiff, Nat.reduceLT, true_and, and_true, Nat.zero_le, bI_01, bI_0, i10, tf0, iI_add, iI_sub, iI_mul, iI_neg, iI_add1, iI_sub1, iI_m1, nca, nc1, ncm1, iI_clJ, iI_cl0, iI_clN, Int.toNat_natCast, mU_n, mU_s, p_min, p_max, p_abs, ni_2, ni_3, ni_4, ni_7, ni_8, ni_9, ni_12, ni_24, ni_97, ni_100, ni_122, ni_200, ni_256, ni_4096, ni_5000, ni_9999, iI_lt, iI_le, iI_eq, iz_eq, iz_lt, iz_le, iz_gt, iz_ge, iy_eq, iy_lt, iy_le, iI_ltN, iI_leN, iI_eqN, if_pos, if_neg]
      have e : mkF z Fs (256 * tx) (256 * ty) (n + 1) i bf bs = mkF z Fs (256 * tx) (256 * ty) n (i + 1) bf bs := by
        show (if cutT (fA Fs i).1.2.1.toNat (256 * tx) (256 * ty) (shE z Fs i) = [] then _ else _) = _
        rw [hkk, Int.toNat_natCast, if_pos q]
      exact ih (i + 1) T1 bf bs l7 (by omega) (by omega) hT1 hO1 (by omega) ⟨hbf.1, fun j h1 h2 => hbf.2 j (by omega) h2⟩ (by rw [← e]; exact hQ)
    rw [e_149_11]
    by_cases q : (fA Fs i).1.2.2.2 ≤ z
    · have es : shE z Fs i = shpC z (fA Fs i) := by unfold shE; rw [if_pos q]
      simp (maxSteps := 4000000) (disch := first | (simp (disch := omega) only [XB_i, XB_n, va_rf_s, va_rf_n, mSI_K, mSI_I, mSI_J, mSI_P, mSI_N, mSJ_K, mSJ_I, mSJ_J, mSJ_P, mSJ_N, mSP_K, mSP_I, mSP_J, mSP_P, mSP_N, mNn, mNi, mNr, mN0, al20, al21, al22, al23, al25, true_or, or_true, and_self, if_true, if_false, mCat_n, mCat_i, mCat_r, mCat_l, mCat_0, Nat.reduceAdd, Nat.reduceLeDiff, Nat.reduceLT, true_and, and_true, Nat.zero_le, bI_01, mInB_J, mInB_Z, mInB_N, hM.k, hM.r0, hM.a0, hM.r4, hM.a4, c1, f4]; done) | omega | (unfold R32 at *; omega)) only [e_149_13, e_149_13_n, e_149_14, e_149_17, e_149_18, e_149_19, e_149_22, e_149_24, e_149_25, e_149_26, e_149_28, e_149_29, e_149_31, e_149_31_n, e_149_32, e_149_35, e_149_37, e_149_38, e_149_39, e_149_42, e_149_42_n, e_149_43, e_149_45, e_149_46, e_149_47, nx24, XB_i, XB_n, va_rf_s, va_rf_n, mSI_K, mSI_I, mSI_J, mSI_P, mSI_N, mSJ_K, mSJ_I, mSJ_J, mSJ_P, mSJ_N, mSP_K, mSP_I, mSP_J, mSP_P, mSP_N, mNn, mNi, mNr, mN0, al20, al21, al22, al23, al25, true_or, or_true, and_self, if_true, if_false, mCat_n, mCat_i, mCat_r, mCat_l, mCat_0, Nat.reduceAdd, Nat.reduceLeDiff, Nat.reduceLT, true_and, and_true, Nat.zero_le, bI_01, bI_0, i10, tf0, iI_add, iI_sub, iI_mul, iI_neg, iI_add1, iI_sub1, iI_m1, nca, nc1, ncm1, iI_clJ, iI_cl0, iI_clN, Int.toNat_natCast, mU_n, mU_s, p_min, p_max, p_abs, ni_2, ni_3, ni_4, ni_7, ni_8, ni_9, ni_12, ni_24, ni_97, ni_100, ni_122, ni_200, ni_256, ni_4096, ni_5000, ni_9999, iI_lt, iI_le, iI_eq, iz_eq, iz_lt, iz_le, iz_gt, iz_ge, iy_eq, iy_lt, iy_le, iI_ltN, iI_leN, iI_eqN, if_pos, if_neg, hM.k, hM.r0, hM.a0, hM.r4, hM.a4, c1, f4]
      refine c_149_49 (by simp only [XB_i, XB_n, va_rf_s, va_rf_n, mSI_K, mSI_I, mSI_J, mSI_P, mSI_N, mSJ_K, mSJ_I, mSJ_J, mSJ_P, mSJ_N, mSP_K, mSP_I, mSP_J, mSP_P, mSP_N, mNn, mNi, mNr, mN0, al20, al21, al22, al23, al25, true_or, or_true, and_self, if_true, if_false, mCat_n, mCat_i, mCat_r, mCat_l, mCat_0, Nat.reduceAdd, Nat.reduceLeDiff, Nat.reduceLT, true_and, and_true, Nat.zero_le, bI_01]) (by rw [hM.k]) (m_reduce hM hF (by omega) fo hz hx hy hkk (fun T2 h2 f2 => ?_))
      have hT2 : Mf (mtS m) T0 T2 := hT.tr (f2.mono (fun b j h => Or.inl h))
      have hM2 := hM0.mf hT2
      have hO2 := hO.mf f2 (fun b j h => ou_rd h)
      have d1 := h2.1
      have k2 := hM2.k
      obtain ⟨w1, w2, w3⟩ := cutT_all fo l12 (z := z) (left := 256 * tx) (top := 256 * ty) (by omega) (by omega) hkk rfl
      by_cases qc : cutT kk (256 * tx) (256 * ty) (shpC z (fA Fs i)) = []
      · rw [qc] at d1
        have d1' : T2.2.1 m 43 = 0 := d1
        simp (maxSteps := 4000000) (disch := first | (simp (disch := omega) only [XB_i, XB_n, va_rf_s, va_rf_n, mSI_K, mSI_I, mSI_J, mSI_P, mSI_N, mSJ_K, mSJ_I, mSJ_J, mSJ_P, mSJ_N, mSP_K, mSP_I, mSP_J, mSP_P, mSP_N, mNn, mNi, mNr, mN0, al20, al21, al22, al23, al25, true_or, or_true, and_self, if_true, if_false, mCat_n, mCat_i, mCat_r, mCat_l, mCat_0, Nat.reduceAdd, Nat.reduceLeDiff, Nat.reduceLT, true_and, and_true, Nat.zero_le, bI_01, mInB_J, mInB_Z, mInB_N, k2, d1']; done) | omega | (unfold R32 at *; omega)) only [e_149_52, e_149_52_n, e_149_53, e_149_56, XB_i, XB_n, va_rf_s, va_rf_n, mSI_K, mSI_I, mSI_J, mSI_P, mSI_N, mSJ_K, mSJ_I, mSJ_J, mSJ_P, mSJ_N, mSP_K, mSP_I, mSP_J, mSP_P, mSP_N, mNn, mNi, mNr, mN0, al20, al21, al22, al23, al25, true_or, or_true, and_self, if_true, if_false, mCat_n, mCat_i, mCat_r, mCat_l, mCat_0, Nat.reduceAdd, Nat.reduceLeDiff, Nat.reduceLT, true_and, and_true, Nat.zero_le, bI_01, bI_0, i10, tf0, iI_add, iI_sub, iI_mul, iI_neg, iI_add1, iI_sub1, iI_m1, nca, nc1, ncm1, iI_clJ, iI_cl0, iI_clN, Int.toNat_natCast, mU_n, mU_s, p_min, p_max, p_abs, ni_2, ni_3, ni_4, ni_7, ni_8, ni_9, ni_12, ni_24, ni_97, ni_100, ni_122, ni_200, ni_256, ni_4096, ni_5000, ni_9999, iI_lt, iI_le, iI_eq, iz_eq, iz_lt, iz_le, iz_gt, iz_ge, iy_eq, iy_lt, iy_le, iI_ltN, iI_leN, iI_eqN, if_pos, if_neg, k2, d1']
        exact skip T2 _ (by rw [es]; exact qc) hT2 hO2
      · have qc' : 0 < (cutT kk (256 * tx) (256 * ty) (shpC z (fA Fs i))).length := List.length_pos_iff.mpr qc
        have hF2 := (hS0.mf hT2 (fun b j h => sl_mt h)).2.2 i (by omega)
        obtain ⟨st, hst⟩ : ∃ st : Nat, (fA Fs i).1.1 - bf = (st : Int) := ⟨((fA Fs i).1.1 - bf).toNat, by omega⟩
        have wl := wrB_len fo l12 (z := z) (left := 256 * tx) (top := 256 * ty) (by omega) (by omega) (s := ss) (step := st) hkk (by omega)
        simp (maxSteps := 4000000) (disch := first | (simp (disch := omega) only [XB_i, XB_n, va_rf_s, va_rf_n, mSI_K, mSI_I, mSI_J, mSI_P, mSI_N, mSJ_K, mSJ_I, mSJ_J, mSJ_P, mSJ_N, mSP_K, mSP_I, mSP_J, mSP_P, mSP_N, mNn, mNi, mNr, mN0, al20, al21, al22, al23, al25, true_or, or_true, and_self, if_true, if_false, mCat_n, mCat_i, mCat_r, mCat_l, mCat_0, Nat.reduceAdd, Nat.reduceLeDiff, Nat.reduceLT, true_and, and_true, Nat.zero_le, bI_01, mInB_J, mInB_Z, mInB_N, k2, d1]; done) | omega | (unfold R32 at *; omega)) only [e_149_52, e_149_52_n, e_149_53, e_149_56, e_149_59, e_149_59_n, e_149_60, e_149_62, e_149_64, e_149_65, XB_i, XB_n, va_rf_s, va_rf_n, mSI_K, mSI_I, mSI_J, mSI_P, mSI_N, mSJ_K, mSJ_I, mSJ_J, mSJ_P, mSJ_N, mSP_K, mSP_I, mSP_J, mSP_P, mSP_N, mNn, mNi, mNr, mN0, al20, al21, al22, al23, al25, true_or, or_true, and_self, if_true, if_false, mCat_n, mCat_i, mCat_r, mCat_l, mCat_0, Nat.reduceAdd, Nat.reduceLeDiff, Nat.reduceLT, true_and, and_true, Nat.zero_le, bI_01, bI_0, i10, tf0, iI_add, iI_sub, iI_mul, iI_neg, iI_add1, iI_sub1, iI_m1, nca, nc1, ncm1, iI_clJ, iI_cl0, iI_clN, Int.toNat_natCast, mU_n, mU_s, p_min, p_max, p_abs, ni_2, ni_3, ni_4, ni_7, ni_8, ni_9, ni_12, ni_24, ni_97, ni_100, ni_122, ni_200, ni_256, ni_4096, ni_5000, ni_9999, iI_lt, iI_le, iI_eq, iz_eq, iz_lt, iz_le, iz_gt, iz_ge, iy_eq, iy_lt, iy_le, iI_ltN, iI_leN, iI_eqN, if_pos, if_neg, k2, d1]
        refine c_149_67 (by simp only [XB_i, XB_n, va_rf_s, va_rf_n, mSI_K, mSI_I, mSI_J, mSI_P, mSI_N, mSJ_K, mSJ_I, mSJ_J, mSJ_P, mSJ_N, mSP_K, mSP_I, mSP_J, mSP_P, mSP_N, mNn, mNi, mNr, mN0, al20, al21, al22, al23, al25, true_or, or_true, and_self, if_true, if_false, mCat_n, mCat_i, mCat_r, mCat_l, mCat_0, Nat.reduceAdd, Nat.reduceLeDiff, Nat.reduceLT, true_and, and_true, Nat.zero_le, bI_01]) (by rw [k2]) (m_write (xa := 0) (xb := 0) (ya := 0) (yb := 0) hM2 hF2 (by omega) h2 hO2 hkk hss hst (by omega) (by omega) (by omega) (by omega) hx hy w3 (fun T3 h3 f3 => ?_))
        have hT3 : Mf (mtS m) T0 T3 := hT2.tr (f3.mono (fun b j h => Or.inr h))
        have hM3 := hM0.mf hT3
        have hF3 := (hS0.mf hT3 (fun b j h => sl_mt h)).2.2 i (by omega)
        have g1 := hF3.1
        have k3 := hM3.k
        have r1 := hM3.r1
        have a1 := hM3.a1
        simp (maxSteps := 4000000) (disch := first | (simp (disch := omega) only [XB_i, XB_n, va_rf_s, va_rf_n, mSI_K, mSI_I, mSI_J, mSI_P, mSI_N, mSJ_K, mSJ_I, mSJ_J, mSJ_P, mSJ_N, mSP_K, mSP_I, mSP_J, mSP_P, mSP_N, mNn, mNi, mNr, mN0, al20, al21, al22, al23, al25, true_or, or_true, and_self, if_true, if_false, mCat_n, mCat_i, mCat_r, mCat_l, mCat_0, Nat.reduceAdd, Nat.reduceLeDiff, Nat.reduceLT, true_and, and_true, Nat.zero_le, bI_01, mInB_J, mInB_Z, mInB_N, k3, r1, a1, g1]; done) | omega | (unfold R32 at *; omega)) only [e_149_70, e_149_70_n, e_149_71, e_149_74, e_149_76, e_149_77, e_149_79, e_149_82, XB_i, XB_n, va_rf_s, va_rf_n, mSI_K, mSI_I, mSI_J, mSI_P, mSI_N, mSJ_K, mSJ_I, mSJ_J, mSJ_P, mSJ_N, mSP_K, mSP_I, mSP_J, mSP_P, mSP_N, mNn, mNi, mNr, mN0, al20, al21, al22, al23, al25, true_or, or_true, and_self, if_true, if_false, mCat_n, mCat_i, mCat_r, mCat_l, mCat_0, Nat.reduceAdd, Nat.reduceLeDiff, Nat.reduceLT, true_and, and_true, Nat.zero_le, bI_01, bI_0, i10, tf0, iI_add, iI_sub, iI_mul, iI_neg, iI_add1, iI_sub1, iI_m1, nca, nc1, ncm1, iI_clJ, iI_cl0, iI_clN, Int.toNat_natCast, mU_n, mU_s, p_min, p_max, p_abs, ni_2, ni_3, ni_4, ni_7, ni_8, ni_9, ni_12, ni_24, ni_97, ni_100, ni_122, ni_200, ni_256, ni_4096, ni_5000, ni_9999, iI_lt, iI_le, iI_eq, iz_eq, iz_lt, iz_le, iz_gt, iz_ge, iy_eq, iy_lt, iy_le, iI_ltN, iI_leN, iI_eqN, if_pos, if_neg, k3, r1, a1, g1]
        have e : mkF z Fs (256 * tx) (256 * ty) (n + 1) i bf bs = mkF z Fs (256 * tx) (256 * ty) n (i + 1) (fA Fs i).1.1 (bs ++ wrB st kk ss (256 * tx) (256 * ty) (cutT kk (256 * tx) (256 * ty) (shpC z (fA Fs i)))) := by
          rw [← es] at qc ⊢
          show (if cutT (fA Fs i).1.2.1.toNat (256 * tx) (256 * ty) (shE z Fs i) = [] then _ else _) = _
          rw [hkk, hss, hst, Int.toNat_natCast, Int.toNat_natCast, Int.toNat_natCast, if_neg qc]
        exact ih (i + 1) T3 (fA Fs i).1.1 _ _ (by omega) (by omega) hT3 h3 (by rw [List.length_append]; omega) ⟨by omega, fun j h1 h2 => ok.2 i j (by omega) h2⟩ (by rw [← e]; exact hQ)
    · have es : shE z Fs i = [] := by unfold shE; rw [if_neg q]
      simp (maxSteps := 4000000) (disch := first | (simp (disch := omega) only [XB_i, XB_n, va_rf_s, va_rf_n, mSI_K, mSI_I, mSI_J, mSI_P, mSI_N, mSJ_K, mSJ_I, mSJ_J, mSJ_P, mSJ_N, mSP_K, mSP_I, mSP_J, mSP_P, mSP_N, mNn, mNi, mNr, mN0, al20, al21, al22, al23, al25, true_or, or_true, and_self, if_true, if_false, mCat_n, mCat_i, mCat_r, mCat_l, mCat_0, Nat.reduceAdd, Nat.reduceLeDiff, Nat.reduceLT, true_and, and_true, Nat.zero_le, bI_01, mInB_J, mInB_Z, mInB_N, hM.k, hM.r0, hM.a0, hM.r4, hM.a4, c1, f4]; done) | omega | (unfold R32 at *; omega)) only [e_149_13, e_149_13_n, e_149_14, e_149_17, e_149_18, e_149_19, e_149_22, e_149_24, e_149_25, e_149_26, e_149_28, e_149_29, e_149_31, e_149_31_n, e_149_32, e_149_35, e_149_37, e_149_38, e_149_39, nx24, XB_i, XB_n, va_rf_s, va_rf_n, mSI_K, mSI_I, mSI_J, mSI_P, mSI_N, mSJ_K, mSJ_I, mSJ_J, mSJ_P, mSJ_N, mSP_K, mSP_I, mSP_J, mSP_P, mSP_N, mNn, mNi, mNr, mN0, al20, al21, al22, al23, al25, true_or, or_true, and_self, if_true, if_false, mCat_n, mCat_i, mCat_r, mCat_l, mCat_0, Nat.reduceAdd, Nat.reduceLeDiff, Nat.reduceLT, true_and, and_true, Nat.zero_le, bI_01, bI_0, i10, tf0, iI_add, iI_sub, iI_mul, iI_neg, iI_add1, iI_sub1, iI_m1, nca, nc1, ncm1, iI_clJ, iI_cl0, iI_clN, Int.toNat_natCast, mU_n, mU_s, p_min, p_max, p_abs, ni_2, ni_3, ni_4, ni_7, ni_8, ni_9, ni_12, ni_24, ni_97, ni_100, ni_122, ni_200, ni_256, ni_4096, ni_5000, ni_9999, iI_lt, iI_le, iI_eq, iz_eq, iz_lt, iz_le, iz_gt, iz_ge, iy_eq, iy_lt, iy_le, iI_ltN, iI_leN, iI_eqN, if_pos, if_neg, hM.k, hM.r0, hM.a0, hM.r4, hM.a4, c1, f4]
      exact skip T _ (by rw [es]; exact cutT_nil _ _ _) hT hO
theorem m_makeTile (hM : ModK T m) (hS : SlR T m s Fs) (hs : s < 3) (ok : esOk Fs) (hz : 0 ≤ z ∧ z ≤ 4) (hx : 0 ≤ tx ∧ tx ≤ 15) (hy : 0 ≤ ty ∧ ty ≤ 15) (hQ : ∀ T2, OuR T2 m (tileB z Fs tx ty) → (tileB z Fs tx ty).length ≤ 5880 → Mf (mtS m) T T2 → Q (.inl none) T2) : XW 149 0 [some (.ref (m)), some (.int (iI ((s : Nat) : Int))), some (.int (iI (z))), some (.int (iI (tx))), some (.int (iI (ty))), none, none, none] [] T Q := by
  have f1 : Mf (mtS m) T (mSI T m 37 0) := Mf.rf.sI (Or.inr (Or.inl ⟨rfl, rfl⟩))
  simp (maxSteps := 4000000) (disch := first | (simp (disch := omega) only [XB_i, XB_n, va_rf_s, va_rf_n, mSI_K, mSI_I, mSI_J, mSI_P, mSI_N, mSJ_K, mSJ_I, mSJ_J, mSJ_P, mSJ_N, mSP_K, mSP_I, mSP_J, mSP_P, mSP_N, mNn, mNi, mNr, mN0, al20, al21, al22, al23, al25, true_or, or_true, and_self, if_true, if_false, mCat_n, mCat_i, mCat_r, mCat_l, mCat_0, Nat.reduceAdd, Nat.reduceLeDiff, Nat.reduceLT, true_and, and_true, Nat.zero_le, bI_01, mInB_J, mInB_Z, mInB_N, hM.k]; done) | omega | (unfold R32 at *; omega)) only [e_149_0, e_149_0_n, e_149_1, e_149_2, e_149_5, e_149_6, e_149_8, e_149_9, XB_i, XB_n, va_rf_s, va_rf_n, mSI_K, mSI_I, mSI_J, mSI_P, mSI_N, mSJ_K, mSJ_I, mSJ_J, mSJ_P, mSJ_N, mSP_K, mSP_I, mSP_J, mSP_P, mSP_N, mNn, mNi, mNr, mN0, al20, al21, al22, al23, al25, true_or, or_true, and_self, if_true, if_false, mCat_n, mCat_i, mCat_r, mCat_l, mCat_0, Nat.reduceAdd, Nat.reduceLeDiff, Nat.reduceLT, true_and, and_true, Nat.zero_le, bI_01, bI_0, i10, tf0, iI_add, iI_sub, iI_mul, iI_neg, iI_add1, iI_sub1, iI_m1, nca, nc1, ncm1, iI_clJ, iI_cl0, iI_clN, Int.toNat_natCast, mU_n, mU_s, p_min, p_max, p_abs, ni_2, ni_3, ni_4, ni_7, ni_8, ni_9, ni_12, ni_24, ni_97, ni_100, ni_122, ni_200, ni_256, ni_4096, ni_5000, ni_9999, iI_lt, iI_le, iI_eq, iz_eq, iz_lt, iz_le, iz_gt, iz_ge, iy_eq, iy_lt, iy_le, iI_ltN, iI_leN, iI_eqN, if_pos, if_neg, hM.k]
  exact lm_mk hM hS hs ok hz hx hy _ 0 (mSI T m 37 0) 0 [] none rfl (by omega) f1 ⟨by (simp (disch := omega) only [mSI_I, mSI_J, mSI_P, mSJ_I, mSJ_J, mSJ_P, mSP_I, mSP_J, mSP_P, mU_n, mU_s] <;> first | done | rfl | assumption), fun j hj => by simp at hj⟩ (by simp) ⟨by omega, fun j _ hj => by have := (ok.1 j hj).n; omega⟩ hQ
/-- the bytes in hand -/
def HaR (T : mT) (m : Nat) (bs : List Nat) : Prop := T.2.1 m 39 = iI bs.length ∧ bs.length ≤ 5880 ∧ ∀ j, j < bs.length → T.2.1 (m + 33) j = iI ((bs.getD j 0 : Nat) : Int)
def haS (m : Nat) : Nat → Nat → Prop := fun b j => (b = m ∧ j = 39) ∨ b = m + 33
theorem HaR.mf {S : Nat → Nat → Prop} {T T2 : mT} {m : Nat} {bs : List Nat} (h : HaR T m bs) (hf : Mf S T T2) (hs : ∀ b j, haS m b j → ¬ S b j) : HaR T2 m bs := ⟨by rw [hf.I (hs _ _ (Or.inl ⟨rfl, rfl⟩))]; exact h.1, h.2.1, fun j hj => by rw [hf.I (hs _ _ (Or.inr rfl))]; exact h.2.2 j hj⟩
theorem lm_hand {T0 : mT} {bs : List Nat} {a1 a2 a3 a4 g : Int32} (hM0 : ModK T0 m) (hO : OuR T0 m bs) (hl : bs.length ≤ 5880) (h39 : T0.2.1 m 39 = iI bs.length) : ∀ (n i : Nat) (T : mT), bs.length - i = n → i ≤ bs.length → Mf (fun b _ => b = m + 33) T0 T → (∀ j, j < i → T.2.1 (m + 33) j = iI ((bs.getD j 0 : Nat) : Int)) →
    (∀ T2, HaR T2 m bs → Mf (fun b _ => b = m + 33) T0 T2 → Q (.inl (some (.int (iI bs.length)))) T2) → XW 150 104 [some (.ref (m)), some (.int (a1)), some (.int (a2)), some (.int (a3)), some (.int (a4)), some (.int (g)), some (.int (iI ((i : Nat) : Int)))] [] T Q := by
  intro n
  induction n with
  | zero =>
    intro i T hn hi hT hc hQ
    have hM := hM0.mf hT
    have : i = bs.length := by omega
    subst this
    have o1 : T.2.1 m 37 = iI bs.length := by rw [hT.I (by omega)]; exact hO.1
    have h1 : T.2.1 m 39 = iI bs.length := by rw [hT.I (by omega)]; exact h39
    rw [e_150_104]
    simp (maxSteps := 4000000) (disch := first | (simp (disch := omega) only [XB_i, XB_n, va_rf_s, va_rf_n, mSI_K, mSI_I, mSI_J, mSI_P, mSI_N, mSJ_K, mSJ_I, mSJ_J, mSJ_P, mSJ_N, mSP_K, mSP_I, mSP_J, mSP_P, mSP_N, mNn, mNi, mNr, mN0, al20, al21, al22, al23, al25, true_or, or_true, and_self, if_true, if_false, mCat_n, mCat_i, mCat_r, mCat_l, mCat_0, Nat.reduceAdd, Nat.reduceLeDiff, Nat.reduceLT, true_and, and_true, Nat.zero_le, bI_01, mInB_J, mInB_Z, mInB_N, hM.k, o1, h1]; done) | omega | (unfold R32 at *; omega)) only [e_150_106, e_150_106_n, e_150_107, e_150_110, e_150_133, e_150_133_n, e_150_134, e_150_137, XB_i, XB_n, va_rf_s, va_rf_n, mSI_K, mSI_I, mSI_J, mSI_P, mSI_N, mSJ_K, mSJ_I, mSJ_J, mSJ_P, mSJ_N, mSP_K, mSP_I, mSP_J, mSP_P, mSP_N, mNn, mNi, mNr, mN0, al20, al21, al22, al23, al25, true_or, or_true, and_self, if_true, if_false, mCat_n, mCat_i, mCat_r, mCat_l, mCat_0, Nat.reduceAdd, Nat.reduceLeDiff, Nat.reduceLT, true_and, and_true, Nat.zero_le, bI_01, bI_0, i10, tf0, iI_add, iI_sub, iI_mul, iI_neg, iI_add1, iI_sub1, iI_m1, nca, nc1, ncm1, iI_clJ, iI_cl0, iI_clN, Int.toNat_natCast, mU_n, mU_s, p_min, p_max, p_abs, ni_2, ni_3, ni_4, ni_7, ni_8, ni_9, ni_12, ni_24, ni_97, ni_100, ni_122, ni_200, ni_256, ni_4096, ni_5000, ni_9999, iI_lt, iI_le, iI_eq, iz_eq, iz_lt, iz_le, iz_gt, iz_ge, iy_eq, iy_lt, iy_le, iI_ltN, iI_leN, iI_eqN, if_pos, if_neg, hM.k, o1, h1]
    exact hQ T ⟨h1, hl, hc⟩ hT
  | succ n ih =>
    intro i T hn hi hT hc hQ
    have hM := hM0.mf hT
    have o1 : T.2.1 m 37 = iI bs.length := by rw [hT.I (by omega)]; exact hO.1
    have o2 : T.2.1 (m + 32) i = iI ((bs.getD i 0 : Nat) : Int) := by rw [hT.I (by omega)]; exact hO.2 i (by omega)
    rw [e_150_104]
    simp (maxSteps := 4000000) (disch := first | (simp (disch := omega) only [XB_i, XB_n, va_rf_s, va_rf_n, mSI_K, mSI_I, mSI_J, mSI_P, mSI_N, mSJ_K, mSJ_I, mSJ_J, mSJ_P, mSJ_N, mSP_K, mSP_I, mSP_J, mSP_P, mSP_N, mNn, mNi, mNr, mN0, al20, al21, al22, al23, al25, true_or, or_true, and_self, if_true, if_false, mCat_n, mCat_i, mCat_r, mCat_l, mCat_0, Nat.reduceAdd, Nat.reduceLeDiff, Nat.reduceLT, true_and, and_true, Nat.zero_le, bI_01, mInB_J, mInB_Z, mInB_N, hM.k, hM.r36, hM.a36, hM.r38, hM.a38, o1, o2]; done) | omega | (unfold R32 at *; omega)) only [e_150_106, e_150_106_n, e_150_107, e_150_110, e_150_113, e_150_113_n, e_150_114, e_150_117, e_150_119, e_150_119_n, e_150_120, e_150_123, e_150_125, e_150_126, e_150_127, e_150_130, XB_i, XB_n, va_rf_s, va_rf_n, mSI_K, mSI_I, mSI_J, mSI_P, mSI_N, mSJ_K, mSJ_I, mSJ_J, mSJ_P, mSJ_N, mSP_K, mSP_I, mSP_J, mSP_P, mSP_N, mNn, mNi, mNr, mN0, al20, al21, al22, al23, al25, true_or, or_true, and_self, if_true, if_false, mCat_n, mCat_i, mCat_r, mCat_l, mCat_0, Nat.reduceAdd, Nat.reduceLeDiff, Nat.reduceLT, true_and, and_true, Nat.zero_le, bI_01, bI_0, i10, tf0, iI_add, iI_sub, iI_mul, iI_neg, iI_add1, iI_sub1, iI_m1, nca, nc1, ncm1, iI_clJ, iI_cl0, iI_clN, Int.toNat_natCast, mU_n, mU_s, p_min, p_max, p_abs, ni_2, ni_3, ni_4, ni_7, ni_8, ni_9, ni_12, ni_24, ni_97, ni_100, ni_122, ni_200, ni_256, ni_4096, ni_5000, ni_9999, iI_lt, iI_le, iI_eq, iz_eq, iz_lt, iz_le, iz_gt, iz_ge, iy_eq, iy_lt, iy_le, iI_ltN, iI_leN, iI_eqN, if_pos, if_neg, hM.k, hM.r36, hM.a36, hM.r38, hM.a38, o1, o2]
    refine ih (i + 1) _ (by omega) (by omega) (hT.sI rfl) (fun j hj => ?_) hQ
    by_cases e : j = i
    · rw [e]; (simp (disch := omega) only [mSI_I, mSI_J, mSI_P, mSJ_I, mSJ_J, mSJ_P, mSP_I, mSP_J, mSP_P, mU_n, mU_s] <;> first | done | rfl | assumption)
    · rw [← hc j (by omega)]; (simp (disch := omega) only [mSI_I, mSI_J, mSI_P, mSJ_I, mSJ_J, mSJ_P, mSP_I, mSP_J, mSP_P, mU_n, mU_s] <;> first | done | rfl | assumption)
end TI
