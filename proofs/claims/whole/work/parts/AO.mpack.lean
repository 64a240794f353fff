/-! the reference: addMembers, makePack -/
def meS (m p : Nat) : Nat → Nat → Prop := fun b j => (b = m + 25 ∧ j = p) ∨ ((m + 26 ≤ b ∧ b < m + 32) ∧ 24 * p ≤ j ∧ j < 24 * p + 24)
theorem mtL_take {R : Rg} {Gs : List Ft} {i : Nat} (h : i < Gs.length) : mtL R (Gs.take (i + 1)) = mtL R (Gs.take i) ++ (if dB ((fA Gs i).1.2.2.2 ≤ R.2.2.2.2 ∧ mtP R (fA Gs i)) then [fA Gs i] else []) := by
  unfold mtL
  rw [take_fA h, List.filter_append]
  simp only [List.filter_cons, List.filter_nil]
theorem mtL_len {R : Rg} {Gs : List Ft} (i : Nat) : (mtL R (Gs.take i)).length ≤ i := by
  unfold mtL
  refine Nat.le_trans (List.length_filter_le _ _) ?_
  rw [List.length_take]
  omega
theorem fA_a {Ls : List Ft} {F : Ft} {j : Nat} (h : j < Ls.length) : fA (Ls ++ [F]) j = fA Ls j := by rw [fA_app, if_pos h]
theorem fA_e {Ls : List Ft} {F : Ft} : fA (Ls ++ [F]) Ls.length = F := by rw [fA_app, if_neg (by omega), if_pos rfl]
section MP
variable {T : mT} {Q : mOut → mT → Prop} {m p s : Nat} {Gs : List Ft} {R : Rg}
theorem lm_am {T0 : mT} (hM0 : ModK T0 m) (hS0 : SlR T0 m s Gs) (hs : s < 3) (hp : p < 5) (ok : esOk Gs) (hR0 : RgM T0 m R) (bR : rgO R) : ∀ (n i : Nat) (T : mT) (l4 l5 : Option Value), Gs.length - i = n → i ≤ Gs.length → Mf (meS m p) T0 T → MeM T m p (mtL R (Gs.take i)) →
    (∀ T2, MeM T2 m p (mtL R Gs) → Mf (meS m p) T0 T2 → Q (.inl none) T2) → XW 159 9 [some (.ref (m)), some (.int (iI ((p : Nat) : Int))), some (.int (iI ((s : Nat) : Int))), some (.int (iI ((i : Nat) : Int))), l4, l5] [] T Q := by
  have l24 := hS0.2.1
  intro n
  induction n with
  | zero =>
    intro i T l4 l5 hn hi hT hC hQ
    have hM := hM0.mf hT
    have c1 := (hS0.mf hT (fun b j q1 q2 => by simp only [slS, meS, iv] at q1 q2; omega)).1
    have : i = Gs.length := by omega
    subst this
    rw [e_159_9]
    simp (maxSteps := 4000000) (disch := first | (simp (disch := omega) only [XB_i, XB_n, va_rf_s, va_rf_n, mSI_K, mSI_I, mSI_J, mSI_P, mSI_N, mSJ_K, mSJ_I, mSJ_J, mSJ_P, mSJ_N, mSP_K, mSP_I, mSP_J, mSP_P, mSP_N, mNn, mNi, mNr, mN0, al20, al21, al22, al23, al25, true_or, or_true, and_self, if_true, if_false, mCat_n, mCat_i, mCat_r, mCat_l, mCat_0, Nat.reduceAdd, Nat.reduceLeDiff, Nat.reduceLT, true_and, and_true, Nat.zero_le, bI_01, mInB_J, mInB_Z, mInB_N, hM.k, hM.r0, hM.a0, c1]; done) | omega | (unfold R32 at *; omega)) only [e_159_10, e_159_10_n, e_159_11, e_159_14, e_159_15, e_159_16, e_159_171, XB_i, XB_n, va_rf_s, va_rf_n, mSI_K, mSI_I, mSI_J, mSI_P, mSI_N, mSJ_K, mSJ_I, mSJ_J, mSJ_P, mSJ_N, mSP_K, mSP_I, mSP_J, mSP_P, mSP_N, mNn, mNi, mNr, mN0, al20, al21, al22, al23, al25, true_or, or_true, and_self, if_true, if_false, mCat_n, mCat_i, mCat_r, mCat_l, mCat_0, Nat.reduceAdd, Nat.reduceLeDiff, Nat.reduceLT, true_and, and_true, Nat.zero_le, bI_01, bI_0, i10, tf0, iI_add, iI_sub, iI_mul, iI_neg, iI_add1, iI_sub1, iI_m1, nca, nc1, ncm1, iI_clJ, iI_cl0, iI_clN, Int.toNat_natCast, mU_n, mU_s, p_min, p_max, p_abs, ni_2, ni_3, ni_4, ni_7, ni_8, ni_9, ni_12, ni_24, ni_97, ni_100, ni_122, ni_200, ni_256, ni_4096, ni_5000, ni_9999, iI_lt, iI_le, iI_eq, iz_eq, iz_lt, iz_le, iz_gt, iz_ge, iy_eq, iy_lt, iy_le, iI_ltN, iI_leN, iI_eqN, if_pos, if_neg, hM.k, hM.r0, hM.a0, c1]
    rw [List.take_length] at hC
    exact hQ T hC hT
  | succ n ih =>
    intro i T l4 l5 hn hi hT hC hQ
    have hM := hM0.mf hT
    have hS := hS0.mf hT (fun b j q1 q2 => by simp only [slS, meS, iv] at q1 q2; omega)
    have c1 := hS.1
    have hF := hS.2.2 i (by omega)
    have fo := ok.1 i (by omega)
    have bl := fo.l
    have lc := fo.c
    obtain ⟨f1, f2, f3, f4, f5, f6, f7, f8, f9⟩ := id hF
    have x0 := f8 0 (by omega)
    have y0 := f9 0 (by omega)
    rw [Nat.add_zero] at x0 y0
    have hRT : RgM T m R := by
      obtain ⟨a0, a1, a2, a3, a4⟩ := hR0
      exact ⟨by rw [hT.I (by simp only [meS]; omega)]; exact a0, by rw [hT.I (by simp only [meS]; omega)]; exact a1, by rw [hT.I (by simp only [meS]; omega)]; exact a2, by rw [hT.I (by simp only [meS]; omega)]; exact a3, by rw [hT.I (by simp only [meS]; omega)]; exact a4⟩
    have r4 := hRT.2.2.2.2
    have bz := (rgO_B bR).2.2.2.2
    have t4 : (4 : Int).toNat = 4 := rfl
    have pm := fun Q => @m_meets T Q m (24 * s + i) R (fA Gs i) hM hF (by omega) fo hRT bR
    have ml := mtL_len (R := R) (Gs := Gs) i
    have et := mtL_take (R := R) (show i < Gs.length by omega)
    obtain ⟨g0, gl, g1, g2, g3, g4, g5, g6⟩ := id hC
    have skip : dB ((fA Gs i).1.2.2.2 ≤ R.2.2.2.2 ∧ mtP R (fA Gs i)) = false → ∀ l4 l5, XW 159 165 [some (.ref (m)), some (.int (iI ((p : Nat) : Int))), some (.int (iI ((s : Nat) : Int))), some (.int (iI ((i : Nat) : Int))), l4, l5] [] T Q := by
      intro z l4 l5
      rw [z, if_neg (by decide), List.append_nil] at et
      simp (maxSteps := 4000000) (disch := first | (simp (disch := omega) only [XB_i, XB_n, va_rf_s, va_rf_n, mSI_K, mSI_I, mSI_J, mSI_P, mSI_N, mSJ_K, mSJ_I, mSJ_J, mSJ_P, mSJ_N, mSP_K, mSP_I, mSP_J, mSP_P, mSP_N, mNn, mNi, mNr, mN0, al20, al21, al22, al23, al25, true_or, or_true, and_self, if_true, if_false, mCat_n, mCat_i, mCat_r, mCat_l, mCat_0, Nat.reduceAdd, Nat.reduceLeDiff, Nat.reduceLT, true_and, and_true, Nat.zero_le, bI_01, mInB_J, mInB_Z, mInB_N]; done) | omega | (unfold R32 at *; omega)) only [e_159_165, e_159_168, XB_i, XB_n, va_rf_s, va_rf_n, mSI_K, mSI_I, mSI_J, mSI_P, mSI_N, mSJ_K, mSJ_I, mSJ_J, mSJ_P, mSJ_N, mSP_K, mSP_I, mSP_J, mSP_P, mSP_N, mNn, mNi, mNr, mN0, al20, al21, al22, al23, al25, true_or, or_true, and_self, if_true, if_false, mCat_n, mCat_i, mCat_r, mCat_l, mCat_0, Nat.reduceAdd, Nat.reduceLeDiff, Nat.reduceLT, true_and, and_true, Nat.zero_le, bI_01, bI_0, i10, tf0, iI_add, iI_sub, iI_mul, iI_neg, iI_add1, iI_sub1, iI_m1, nca, nc1, ncm1, iI_clJ, iI_cl0, iI_clN, Int.toNat_natCast, mU_n, mU_s, p_min, p_max, p_abs, ni_2, ni_3, ni_4, ni_7, ni_8, ni_9, ni_12, ni_24, ni_97, ni_100, ni_122, ni_200, ni_256, ni_4096, ni_5000, ni_9999, iI_lt, iI_le, iI_eq, iz_eq, iz_lt, iz_le, iz_gt, iz_ge, iy_eq, iy_lt, iy_le, iI_ltN, iI_leN, iI_eqN, if_pos, if_neg]
      exact ih (i + 1) T l4 l5 (by omega) (by omega) hT (by rw [et]; exact hC) hQ
    rw [e_159_9]
    by_cases q1 : (fA Gs i).1.2.2.2 ≤ R.2.2.2.2
    · by_cases q2 : mtP R (fA Gs i)
      · rw [bP_t q2] at pm
        rw [dB_t ⟨q1, q2⟩, if_pos rfl] at et
        generalize mtL R (Gs.take i) = Ls at *
        generalize fA Gs i = F at *
        have eL : (Ls ++ [F]).length = Ls.length + 1 := by simp
        simp (maxSteps := 4000000) (disch := first | (simp (disch := omega) only [XB_i, XB_n, va_rf_s, va_rf_n, mSI_K, mSI_I, mSI_J, mSI_P, mSI_N, mSJ_K, mSJ_I, mSJ_J, mSJ_P, mSJ_N, mSP_K, mSP_I, mSP_J, mSP_P, mSP_N, mNn, mNi, mNr, mN0, al20, al21, al22, al23, al25, true_or, or_true, and_self, if_true, if_false, mCat_n, mCat_i, mCat_r, mCat_l, mCat_0, Nat.reduceAdd, Nat.reduceLeDiff, Nat.reduceLT, true_and, and_true, Nat.zero_le, bI_01, mInB_J, mInB_Z, mInB_N, hM.k, hM.r0, hM.a0, hM.r1, hM.a1, hM.r2, hM.a2, hM.r3, hM.a3, hM.r4, hM.a4, hM.r5, hM.a5, hM.r7, hM.a7, hM.r8, hM.a8, hM.r14, hM.a14, hM.r29, hM.a29, hM.r30, hM.a30, hM.r31, hM.a31, hM.r32, hM.a32, hM.r33, hM.a33, hM.r34, hM.a34, hM.r35, hM.a35, c1, f1, f2, f3, f4, f5, x0, y0, r4, t4, pm, g0]; done) | omega | (unfold R32 at *; omega)) only [e_159_10, e_159_10_n, e_159_11, e_159_14, e_159_15, e_159_16, e_159_19, e_159_21, e_159_22, e_159_23, e_159_24, e_159_25, e_159_27, e_159_27_n, e_159_28, e_159_31, e_159_33, e_159_34, e_159_34_n, e_159_35, e_159_38, e_159_39, e_159_40, e_159_43, e_159_43_n, e_159_44, e_159_49, e_159_52, e_159_54, e_159_55, e_159_56, e_159_56_n, e_159_57, e_159_60, e_159_61, e_159_62, e_159_63, e_159_65, e_159_65_n, e_159_66, e_159_69, e_159_71, e_159_71_n, e_159_72, e_159_75, e_159_77, e_159_78, e_159_79, e_159_79_n, e_159_80, e_159_83, e_159_85, e_159_85_n, e_159_86, e_159_89, e_159_91, e_159_92, e_159_93, e_159_93_n, e_159_94, e_159_97, e_159_99, e_159_99_n, e_159_100, e_159_103, e_159_105, e_159_106, e_159_107, e_159_107_n, e_159_108, e_159_111, e_159_113, e_159_113_n, e_159_114, e_159_117, e_159_119, e_159_120, e_159_121, e_159_121_n, e_159_122, e_159_125, e_159_127, e_159_127_n, e_159_128, e_159_131, e_159_133, e_159_135, e_159_136, e_159_137, e_159_138, e_159_138_n, e_159_139, e_159_142, e_159_144, e_159_144_n, e_159_145, e_159_148, e_159_150, e_159_152, e_159_153, e_159_154, e_159_155, e_159_155_n, e_159_156, e_159_159, e_159_160, e_159_161, e_159_162, e_159_163, e_159_164, e_159_165, e_159_168, d_159_46, nx24, nx12, XB_i, XB_n, va_rf_s, va_rf_n, mSI_K, mSI_I, mSI_J, mSI_P, mSI_N, mSJ_K, mSJ_I, mSJ_J, mSJ_P, mSJ_N, mSP_K, mSP_I, mSP_J, mSP_P, mSP_N, mNn, mNi, mNr, mN0, al20, al21, al22, al23, al25, true_or, or_true, and_self, if_true, if_false, mCat_n, mCat_i, mCat_r, mCat_l, mCat_0, Nat.reduceAdd, Nat.reduceLeDiff, Nat.reduceLT, true_and, and_true, Nat.zero_le, bI_01, bI_0, i10, tf0, iI_add, iI_sub, iI_mul, iI_neg, iI_add1, iI_sub1, iI_m1, nca, nc1, ncm1, iI_clJ, iI_cl0, iI_clN, Int.toNat_natCast, mU_n, mU_s, p_min, p_max, p_abs, ni_2, ni_3, ni_4, ni_7, ni_8, ni_9, ni_12, ni_24, ni_97, ni_100, ni_122, ni_200, ni_256, ni_4096, ni_5000, ni_9999, iI_lt, iI_le, iI_eq, iz_eq, iz_lt, iz_le, iz_gt, iz_ge, iy_eq, iy_lt, iy_le, iI_ltN, iI_leN, iI_eqN, if_pos, if_neg, hM.k, hM.r0, hM.a0, hM.r1, hM.a1, hM.r2, hM.a2, hM.r3, hM.a3, hM.r4, hM.a4, hM.r5, hM.a5, hM.r7, hM.a7, hM.r8, hM.a8, hM.r14, hM.a14, hM.r29, hM.a29, hM.r30, hM.a30, hM.r31, hM.a31, hM.r32, hM.a32, hM.r33, hM.a33, hM.r34, hM.a34, hM.r35, hM.a35, c1, f1, f2, f3, f4, f5, x0, y0, r4, t4, pm, g0]
        refine ih (i + 1) _ _ _ (by omega) (by omega) (((((((hT.sI (by simp only [meS]; omega)).sI (by simp only [meS]; omega)).sI (by simp only [meS]; omega)).sJ (by simp only [meS]; omega)).sI (by simp only [meS]; omega)).sI (by simp only [meS]; omega)).sI (Or.inl ⟨rfl, rfl⟩)) ?_ hQ
        rw [et]
        refine ⟨by rw [eL]; (simp (disch := omega) only [mSI_I, mSI_J, mSI_P, mSJ_I, mSJ_J, mSJ_P, mSP_I, mSP_J, mSP_P, mU_n, mU_s] <;> first | done | rfl | assumption), by rw [eL]; omega, fun k hk => ?_, fun k hk => ?_, fun k hk => ?_, fun k hk => ?_, fun k hk => ?_, fun k hk => ?_⟩
        · rw [eL] at hk
          by_cases e : k = Ls.length
          · rw [e, fA_e]; (simp (disch := omega) only [mSI_I, mSI_J, mSI_P, mSJ_I, mSJ_J, mSJ_P, mSP_I, mSP_J, mSP_P, mU_n, mU_s] <;> first | done | rfl | assumption)
          · rw [fA_a (by omega), ← g1 k (by omega)]; (simp (disch := omega) only [mSI_I, mSI_J, mSI_P, mSJ_I, mSJ_J, mSJ_P, mSP_I, mSP_J, mSP_P, mU_n, mU_s] <;> first | done | rfl | assumption)
        · rw [eL] at hk
          by_cases e : k = Ls.length
          · rw [e, fA_e]; (simp (disch := omega) only [mSI_I, mSI_J, mSI_P, mSJ_I, mSJ_J, mSJ_P, mSP_I, mSP_J, mSP_P, mU_n, mU_s] <;> first | done | rfl | assumption)
          · rw [fA_a (by omega), ← g2 k (by omega)]; (simp (disch := omega) only [mSI_I, mSI_J, mSI_P, mSJ_I, mSJ_J, mSJ_P, mSP_I, mSP_J, mSP_P, mU_n, mU_s] <;> first | done | rfl | assumption)
        · rw [eL] at hk
          by_cases e : k = Ls.length
          · rw [e, fA_e]; (simp (disch := omega) only [mSI_I, mSI_J, mSI_P, mSJ_I, mSJ_J, mSJ_P, mSP_I, mSP_J, mSP_P, mU_n, mU_s] <;> first | done | rfl | assumption)
          · rw [fA_a (by omega), ← g3 k (by omega)]; (simp (disch := omega) only [mSI_I, mSI_J, mSI_P, mSJ_I, mSJ_J, mSJ_P, mSP_I, mSP_J, mSP_P, mU_n, mU_s] <;> first | done | rfl | assumption)
        · rw [eL] at hk
          by_cases e : k = Ls.length
          · rw [e, fA_e]; (simp (disch := omega) only [mSI_I, mSI_J, mSI_P, mSJ_I, mSJ_J, mSJ_P, mSP_I, mSP_J, mSP_P, mU_n, mU_s] <;> first | done | rfl | assumption)
          · rw [fA_a (by omega), ← g4 k (by omega)]; (simp (disch := omega) only [mSI_I, mSI_J, mSI_P, mSJ_I, mSJ_J, mSJ_P, mSP_I, mSP_J, mSP_P, mU_n, mU_s] <;> first | done | rfl | assumption)
        · rw [eL] at hk
          by_cases e : k = Ls.length
          · rw [e, fA_e]; (simp (disch := omega) only [mSI_I, mSI_J, mSI_P, mSJ_I, mSJ_J, mSJ_P, mSP_I, mSP_J, mSP_P, mU_n, mU_s] <;> first | done | rfl | assumption)
          · rw [fA_a (by omega), ← g5 k (by omega)]; (simp (disch := omega) only [mSI_I, mSI_J, mSI_P, mSJ_I, mSJ_J, mSJ_P, mSP_I, mSP_J, mSP_P, mU_n, mU_s] <;> first | done | rfl | assumption)
        · rw [eL] at hk
          by_cases e : k = Ls.length
          · rw [e, fA_e]; (simp (disch := omega) only [mSI_I, mSI_J, mSI_P, mSJ_I, mSJ_J, mSJ_P, mSP_I, mSP_J, mSP_P, mU_n, mU_s] <;> first | done | rfl | assumption)
          · rw [fA_a (by omega), ← g6 k (by omega)]; (simp (disch := omega) only [mSI_I, mSI_J, mSI_P, mSJ_I, mSJ_J, mSJ_P, mSP_I, mSP_J, mSP_P, mU_n, mU_s] <;> first | done | rfl | assumption)
      · rw [bP_f q2] at pm
        simp (maxSteps := 4000000) (disch := first | (simp (disch := omega) only [XB_i, XB_n, va_rf_s, va_rf_n, mSI_K, mSI_I, mSI_J, mSI_P, mSI_N, mSJ_K, mSJ_I, mSJ_J, mSJ_P, mSJ_N, mSP_K, mSP_I, mSP_J, mSP_P, mSP_N, mNn, mNi, mNr, mN0, al20, al21, al22, al23, al25, true_or, or_true, and_self, if_true, if_false, mCat_n, mCat_i, mCat_r, mCat_l, mCat_0, Nat.reduceAdd, Nat.reduceLeDiff, Nat.reduceLT, true_and, and_true, Nat.zero_le, bI_01, mInB_J, mInB_Z, mInB_N, hM.k, hM.r0, hM.a0, hM.r4, hM.a4, hM.r14, hM.a14, c1, f4, r4, t4, pm]; done) | omega | (unfold R32 at *; omega)) only [e_159_10, e_159_10_n, e_159_11, e_159_14, e_159_15, e_159_16, e_159_19, e_159_21, e_159_22, e_159_23, e_159_24, e_159_25, e_159_27, e_159_27_n, e_159_28, e_159_31, e_159_33, e_159_34, e_159_34_n, e_159_35, e_159_38, e_159_39, e_159_40, e_159_43, e_159_43_n, e_159_44, e_159_49, d_159_46, nx24, XB_i, XB_n, va_rf_s, va_rf_n, mSI_K, mSI_I, mSI_J, mSI_P, mSI_N, mSJ_K, mSJ_I, mSJ_J, mSJ_P, mSJ_N, mSP_K, mSP_I, mSP_J, mSP_P, mSP_N, mNn, mNi, mNr, mN0, al20, al21, al22, al23, al25, true_or, or_true, and_self, if_true, if_false, mCat_n, mCat_i, mCat_r, mCat_l, mCat_0, Nat.reduceAdd, Nat.reduceLeDiff, Nat.reduceLT, true_and, and_true, Nat.zero_le, bI_01, bI_0, i10, tf0, iI_add, iI_sub, iI_mul, iI_neg, iI_add1, iI_sub1, iI_m1, nca, nc1, ncm1, iI_clJ, iI_cl0, iI_clN, Int.toNat_natCast, mU_n, mU_s, p_min, p_max, p_abs, ni_2, ni_3, ni_4, ni_7, ni_8, ni_9, ni_12, ni_24, ni_97, ni_100, ni_122, ni_200, ni_256, ni_4096, ni_5000, ni_9999, iI_lt, iI_le, iI_eq, iz_eq, iz_lt, iz_le, iz_gt, iz_ge, iy_eq, iy_lt, iy_le, iI_ltN, iI_leN, iI_eqN, if_pos, if_neg, hM.k, hM.r0, hM.a0, hM.r4, hM.a4, hM.r14, hM.a14, c1, f4, r4, t4, pm]
        exact skip (dB_f (fun z => q2 z.2)) _ _
    · simp (maxSteps := 4000000) (disch := first | (simp (disch := omega) only [XB_i, XB_n, va_rf_s, va_rf_n, mSI_K, mSI_I, mSI_J, mSI_P, mSI_N, mSJ_K, mSJ_I, mSJ_J, mSJ_P, mSJ_N, mSP_K, mSP_I, mSP_J, mSP_P, mSP_N, mNn, mNi, mNr, mN0, al20, al21, al22, al23, al25, true_or, or_true, and_self, if_true, if_false, mCat_n, mCat_i, mCat_r, mCat_l, mCat_0, Nat.reduceAdd, Nat.reduceLeDiff, Nat.reduceLT, true_and, and_true, Nat.zero_le, bI_01, mInB_J, mInB_Z, mInB_N, hM.k, hM.r0, hM.a0, hM.r4, hM.a4, hM.r14, hM.a14, c1, f4, r4, t4]; done) | omega | (unfold R32 at *; omega)) only [e_159_10, e_159_10_n, e_159_11, e_159_14, e_159_15, e_159_16, e_159_19, e_159_21, e_159_22, e_159_23, e_159_24, e_159_25, e_159_27, e_159_27_n, e_159_28, e_159_31, e_159_33, e_159_34, e_159_34_n, e_159_35, e_159_38, e_159_39, e_159_40, nx24, XB_i, XB_n, va_rf_s, va_rf_n, mSI_K, mSI_I, mSI_J, mSI_P, mSI_N, mSJ_K, mSJ_I, mSJ_J, mSJ_P, mSJ_N, mSP_K, mSP_I, mSP_J, mSP_P, mSP_N, mNn, mNi, mNr, mN0, al20, al21, al22, al23, al25, true_or, or_true, and_self, if_true, if_false, mCat_n, mCat_i, mCat_r, mCat_l, mCat_0, Nat.reduceAdd, Nat.reduceLeDiff, Nat.reduceLT, true_and, and_true, Nat.zero_le, bI_01, bI_0, i10, tf0, iI_add, iI_sub, iI_mul, iI_neg, iI_add1, iI_sub1, iI_m1, nca, nc1, ncm1, iI_clJ, iI_cl0, iI_clN, Int.toNat_natCast, mU_n, mU_s, p_min, p_max, p_abs, ni_2, ni_3, ni_4, ni_7, ni_8, ni_9, ni_12, ni_24, ni_97, ni_100, ni_122, ni_200, ni_256, ni_4096, ni_5000, ni_9999, iI_lt, iI_le, iI_eq, iz_eq, iz_lt, iz_le, iz_gt, iz_ge, iy_eq, iy_lt, iy_le, iI_ltN, iI_leN, iI_eqN, if_pos, if_neg, hM.k, hM.r0, hM.a0, hM.r4, hM.a4, hM.r14, hM.a14, c1, f4, r4, t4]
      exact skip (dB_f (fun z => q1 z.1)) _ _
theorem m_addMembers (hM : ModK T m) (hS : SlR T m s Gs) (hs : s < 3) (hp : p < 5) (ok : esOk Gs) (hR : RgM T m R) (bR : rgO R) (hQ : ∀ T2, MeM T2 m p (mtL R Gs) → Mf (meS m p) T T2 → Q (.inl none) T2) : XW 159 0 [some (.ref (m)), some (.int (iI ((p : Nat) : Int))), some (.int (iI ((s : Nat) : Int))), none, none, none] [] T Q := by
  have f1 : Mf (meS m p) T (mSI T (m + 25) p 0) := Mf.rf.sI (Or.inl ⟨rfl, rfl⟩)
  simp (maxSteps := 4000000) (disch := first | (simp (disch := omega) only [XB_i, XB_n, va_rf_s, va_rf_n, mSI_K, mSI_I, mSI_J, mSI_P, mSI_N, mSJ_K, mSJ_I, mSJ_J, mSJ_P, mSJ_N, mSP_K, mSP_I, mSP_J, mSP_P, mSP_N, mNn, mNi, mNr, mN0, al20, al21, al22, al23, al25, true_or, or_true, and_self, if_true, if_false, mCat_n, mCat_i, mCat_r, mCat_l, mCat_0, Nat.reduceAdd, Nat.reduceLeDiff, Nat.reduceLT, true_and, and_true, Nat.zero_le, bI_01, mInB_J, mInB_Z, mInB_N, hM.k, hM.r29, hM.a29]; done) | omega | (unfold R32 at *; omega)) only [e_159_0, e_159_0_n, e_159_1, e_159_4, e_159_5, e_159_6, e_159_7, e_159_8, XB_i, XB_n, va_rf_s, va_rf_n, mSI_K, mSI_I, mSI_J, mSI_P, mSI_N, mSJ_K, mSJ_I, mSJ_J, mSJ_P, mSJ_N, mSP_K, mSP_I, mSP_J, mSP_P, mSP_N, mNn, mNi, mNr, mN0, al20, al21, al22, al23, al25, true_or, or_true, and_self, if_true, if_false, mCat_n, mCat_i, mCat_r, mCat_l, mCat_0, Nat.reduceAdd, Nat.reduceLeDiff, Nat.reduceLT, true_and, and_true, Nat.zero_le, bI_01, bI_0, i10, tf0, iI_add, iI_sub, iI_mul, iI_neg, iI_add1, iI_sub1, iI_m1, nca, nc1, ncm1, iI_clJ, iI_cl0, iI_clN, Int.toNat_natCast, mU_n, mU_s, p_min, p_max, p_abs, ni_2, ni_3, ni_4, ni_7, ni_8, ni_9, ni_12, ni_24, ni_97, ni_100, ni_122, ni_200, ni_256, ni_4096, ni_5000, ni_9999, iI_lt, iI_le, iI_eq, iz_eq, iz_lt, iz_le, iz_gt, iz_ge, iy_eq, iy_lt, iy_le, iI_ltN, iI_leN, iI_eqN, if_pos, if_neg, hM.k, hM.r29, hM.a29]
  have e0 : mtL R (Gs.take 0) = [] := rfl
  refine lm_am hM hS hs hp ok hR bR _ 0 _ none none rfl (by omega) f1 (by rw [e0]; exact ⟨by (simp (disch := omega) only [mSI_I, mSI_J, mSI_P, mSJ_I, mSJ_J, mSJ_P, mSP_I, mSP_J, mSP_P, mU_n, mU_s] <;> first | done | rfl | assumption), by simp, fun k hk => by simp at hk, fun k hk => by simp at hk, fun k hk => by simp at hk, fun k hk => by simp at hk, fun k hk => by simp at hk, fun k hk => by simp at hk⟩) hQ
end MP
