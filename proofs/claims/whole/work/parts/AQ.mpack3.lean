/-! the reference: makePack from its beginning; extract -/
def mkQ (m p : Nat) : Nat → Nat → Prop := fun b j => mtS m b j ∨ pkS m p b j ∨ (b = m + 13 ∧ j = p)
section MR2
variable {T : mT} {Q : mOut → mT → Prop} {m p s cl : Nat} {Gs : List Ft} {R : Rg} {ed : Int}
theorem lm_mpR {T0 : mT} (hM0 : ModK T0 m) (hp : p < 5) (hR : RgM T0 m R) : ∀ (n i : Nat) (T : mT), 5 - i = n → i ≤ 5 → Mf (fun b j => b = m + 15 ∧ 5 * p ≤ j ∧ j < 5 * p + 5) T0 T → (∀ j, j < i → T.2.1 (m + 15) (5 * p + j) = T0.2.1 (m + 12) j) →
    (∀ T2, Mf (fun b j => b = m + 15 ∧ 5 * p ≤ j ∧ j < 5 * p + 5) T0 T2 → PrM T2 m p R → XW 160 60 [some (.ref (m)), some (.int (iI ((p : Nat) : Int))), some (.int (iI (ed))), some (.int (iI ((s : Nat) : Int))), some (.int (iI ((5 : Nat) : Int))), none, none, none, none] [] T2 Q) → XW 160 30 [some (.ref (m)), some (.int (iI ((p : Nat) : Int))), some (.int (iI (ed))), some (.int (iI ((s : Nat) : Int))), some (.int (iI ((i : Nat) : Int))), none, none, none, none] [] T Q := by
  have n5 : (5 : Int32) = iI 5 := rfl
  intro n
  induction n with
  | zero =>
    intro i T hn hi hT hc hQ
    have : i = 5 := by omega
    subst this
    obtain ⟨r0, r1, r2, r3, r4⟩ := hR
    rw [e_160_30]
    simp (maxSteps := 4000000) (disch := first | (simp (disch := omega) only [XB_i, XB_n, va_rf_s, va_rf_n, mSI_K, mSI_I, mSI_J, mSI_P, mSI_N, mSJ_K, mSJ_I, mSJ_J, mSJ_P, mSJ_N, mSP_K, mSP_I, mSP_J, mSP_P, mSP_N, mNn, mNi, mNr, mN0, al20, al21, al22, al23, al25, true_or, or_true, and_self, if_true, if_false, mCat_n, mCat_i, mCat_r, mCat_l, mCat_0, Nat.reduceAdd, Nat.reduceLeDiff, Nat.reduceLT, true_and, and_true, Nat.zero_le, bI_01, mInB_J, mInB_Z, mInB_N, n5]; done) | omega | (unfold R32 at *; omega)) only [e_160_32, e_160_33, XB_i, XB_n, va_rf_s, va_rf_n, mSI_K, mSI_I, mSI_J, mSI_P, mSI_N, mSJ_K, mSJ_I, mSJ_J, mSJ_P, mSJ_N, mSP_K, mSP_I, mSP_J, mSP_P, mSP_N, mNn, mNi, mNr, mN0, al20, al21, al22, al23, al25, true_or, or_true, and_self, if_true, if_false, mCat_n, mCat_i, mCat_r, mCat_l, mCat_0, Nat.reduceAdd, Nat.reduceLeDiff, Nat.reduceLT, true_and, and_true, Nat.zero_le, bI_01, bI_0, i10, tf0, iI_add, iI_sub, iI_mul, iI_neg, iI_add1, iI_sub1, iI_m1, nca, nc1, ncm1, iI_clJ, iI_cl0, iI_clN, Int.toNat_natCast, mU_n, mU_s, p_min, p_max, p_abs, ni_2, ni_3, ni_4, ni_7, ni_8, ni_9, ni_12, ni_24, ni_97, ni_100, ni_122, ni_200, ni_256, ni_4096, ni_5000, ni_9999, iI_lt, iI_le, iI_eq, iz_eq, iz_lt, iz_le, iz_gt, iz_ge, iy_eq, iy_lt, iy_le, iI_ltN, iI_leN, iI_eqN, if_pos, if_neg, n5]
    have h0 : T.2.1 (m + 15) (5 * p) = T0.2.1 (m + 12) 0 := hc 0 (by omega)
    exact hQ T hT ⟨by rw [h0]; exact r0, by rw [hc 1 (by omega)]; exact r1, by rw [hc 2 (by omega)]; exact r2, by rw [hc 3 (by omega)]; exact r3, by rw [hc 4 (by omega)]; exact r4⟩
  | succ n ih =>
    intro i T hn hi hT hc hQ
    have hM := hM0.mf hT
    have x1 := hT.I (b := m + 12) (j := i) (by omega)
    rw [e_160_30]
    simp (maxSteps := 4000000) (disch := first | (simp (disch := omega) only [XB_i, XB_n, va_rf_s, va_rf_n, mSI_K, mSI_I, mSI_J, mSI_P, mSI_N, mSJ_K, mSJ_I, mSJ_J, mSJ_P, mSJ_N, mSP_K, mSP_I, mSP_J, mSP_P, mSP_N, mNn, mNi, mNr, mN0, al20, al21, al22, al23, al25, true_or, or_true, and_self, if_true, if_false, mCat_n, mCat_i, mCat_r, mCat_l, mCat_0, Nat.reduceAdd, Nat.reduceLeDiff, Nat.reduceLT, true_and, and_true, Nat.zero_le, bI_01, mInB_J, mInB_Z, mInB_N, hM.k, hM.r14, hM.a14, hM.r19, hM.a19, n5, x1]; done) | omega | (unfold R32 at *; omega)) only [e_160_32, e_160_33, e_160_36, e_160_36_n, e_160_37, e_160_40, e_160_41, e_160_42, e_160_43, e_160_45, e_160_46, e_160_46_n, e_160_47, e_160_50, e_160_52, e_160_53, e_160_54, e_160_57, nx5, XB_i, XB_n, va_rf_s, va_rf_n, mSI_K, mSI_I, mSI_J, mSI_P, mSI_N, mSJ_K, mSJ_I, mSJ_J, mSJ_P, mSJ_N, mSP_K, mSP_I, mSP_J, mSP_P, mSP_N, mNn, mNi, mNr, mN0, al20, al21, al22, al23, al25, true_or, or_true, and_self, if_true, if_false, mCat_n, mCat_i, mCat_r, mCat_l, mCat_0, Nat.reduceAdd, Nat.reduceLeDiff, Nat.reduceLT, true_and, and_true, Nat.zero_le, bI_01, bI_0, i10, tf0, iI_add, iI_sub, iI_mul, iI_neg, iI_add1, iI_sub1, iI_m1, nca, nc1, ncm1, iI_clJ, iI_cl0, iI_clN, Int.toNat_natCast, mU_n, mU_s, p_min, p_max, p_abs, ni_2, ni_3, ni_4, ni_7, ni_8, ni_9, ni_12, ni_24, ni_97, ni_100, ni_122, ni_200, ni_256, ni_4096, ni_5000, ni_9999, iI_lt, iI_le, iI_eq, iz_eq, iz_lt, iz_le, iz_gt, iz_ge, iy_eq, iy_lt, iy_le, iI_ltN, iI_leN, iI_eqN, if_pos, if_neg, hM.k, hM.r14, hM.a14, hM.r19, hM.a19, n5, x1]
    refine ih (i + 1) _ (by omega) (by omega) (hT.sI ⟨rfl, by omega, by omega⟩) (fun j hj => ?_) hQ
    by_cases e : j = i
    · subst e; (simp (disch := omega) only [mSI_I, mSI_J, mSI_P, mSJ_I, mSJ_J, mSJ_P, mSP_I, mSP_J, mSP_P, mU_n, mU_s] <;> first | done | rfl | assumption)
    · rw [← hc j (by omega)]; (simp (disch := omega) only [mSI_I, mSI_J, mSI_P, mSJ_I, mSJ_J, mSJ_P, mSP_I, mSP_J, mSP_P, mU_n, mU_s] <;> first | done | rfl | assumption)
theorem m_makePack (hM : ModK T m) (hcl : T.2.1 m 9 = iI cl) (hclb : cl < 1000000000) (hed : R32 ed) (hso : soZ cl ed = (s : Int)) (hS : SlR T m s Gs) (hs : s < 3) (hp : p < 5) (ok : esL Gs) (hR : RgM T m R) (bR : rgO R) (hQ0 : (flP R Gs).1 = false → ∀ T2, Mf (mkQ m p) T T2 → Q (.inl (some (.int 0))) T2) (hQ1 : (flP R Gs).1 = true → ∀ T2, PkM T2 m p (ed, R, mtL R Gs, (flP R Gs).2) → tsOk (flP R Gs).2 → Mf (mkQ m p) T T2 → Q (.inl (some (.int 1))) T2) : XW 160 0 [some (.ref (m)), some (.int (iI ((p : Nat) : Int))), some (.int (iI (ed))), none, none, none, none, none, none] [] T Q := by
  have ps := fun Q => @m_slotOf T Q m cl ed hM hcl hclb hed
  rw [hso] at ps
  have bz := (rgO_B bR).2.2.2.2
  obtain ⟨Z, hZ⟩ : ∃ Z : Nat, R.2.2.2.2 = (Z : Int) := ⟨R.2.2.2.2.toNat, by omega⟩
  simp (maxSteps := 4000000) (disch := first | (simp (disch := omega) only [XB_i, XB_n, va_rf_s, va_rf_n, mSI_K, mSI_I, mSI_J, mSI_P, mSI_N, mSJ_K, mSJ_I, mSJ_J, mSJ_P, mSJ_N, mSP_K, mSP_I, mSP_J, mSP_P, mSP_N, mNn, mNi, mNr, mN0, al20, al21, al22, al23, al25, true_or, or_true, and_self, if_true, if_false, mCat_n, mCat_i, mCat_r, mCat_l, mCat_0, Nat.reduceAdd, Nat.reduceLeDiff, Nat.reduceLT, true_and, and_true, Nat.zero_le, bI_01, mInB_J, mInB_Z, mInB_N, hM.k, hM.r18, hM.a18, hM.r20, hM.a20, hM.r27, hM.a27, ps]; done) | omega | (unfold R32 at *; omega)) only [e_160_0, e_160_0_n, e_160_1, e_160_5, e_160_6, e_160_6_n, e_160_7, e_160_10, e_160_11, e_160_12, e_160_13, e_160_13_n, e_160_14, e_160_17, e_160_18, e_160_19, e_160_20, e_160_20_n, e_160_21, e_160_24, e_160_25, e_160_26, e_160_27, e_160_28, d_160_2, XB_i, XB_n, va_rf_s, va_rf_n, mSI_K, mSI_I, mSI_J, mSI_P, mSI_N, mSJ_K, mSJ_I, mSJ_J, mSJ_P, mSJ_N, mSP_K, mSP_I, mSP_J, mSP_P, mSP_N, mNn, mNi, mNr, mN0, al20, al21, al22, al23, al25, true_or, or_true, and_self, if_true, if_false, mCat_n, mCat_i, mCat_r, mCat_l, mCat_0, Nat.reduceAdd, Nat.reduceLeDiff, Nat.reduceLT, true_and, and_true, Nat.zero_le, bI_01, bI_0, i10, tf0, iI_add, iI_sub, iI_mul, iI_neg, iI_add1, iI_sub1, iI_m1, nca, nc1, ncm1, iI_clJ, iI_cl0, iI_clN, Int.toNat_natCast, mU_n, mU_s, p_min, p_max, p_abs, ni_2, ni_3, ni_4, ni_7, ni_8, ni_9, ni_12, ni_24, ni_97, ni_100, ni_122, ni_200, ni_256, ni_4096, ni_5000, ni_9999, iI_lt, iI_le, iI_eq, iz_eq, iz_lt, iz_le, iz_gt, iz_ge, iy_eq, iy_lt, iy_le, iI_ltN, iI_leN, iI_eqN, if_pos, if_neg, hM.k, hM.r18, hM.a18, hM.r20, hM.a20, hM.r27, hM.a27, ps]
  generalize hU : mSI (mSI (mSI T (m + 16) p 0) (m + 23) p 0) (m + 14) p (iI ed) = U
  have fU : Mf (fun b j => (b = m + 14 ∨ b = m + 16 ∨ b = m + 23) ∧ j = p) T U := by rw [← hU]; exact ((Mf.rf.sI (by simp)).sI (by simp)).sI (by simp)
  have u14 : U.2.1 (m + 14) p = iI ed := by rw [← hU]; (simp (disch := omega) only [mSI_I, mSI_J, mSI_P, mSJ_I, mSJ_J, mSJ_P, mSP_I, mSP_J, mSP_P, mU_n, mU_s] <;> first | done | rfl | assumption)
  have u16 : U.2.1 (m + 16) p = 0 := by rw [← hU]; (simp (disch := omega) only [mSI_I, mSI_J, mSI_P, mSJ_I, mSJ_J, mSJ_P, mSP_I, mSP_J, mSP_P, mU_n, mU_s] <;> first | done | rfl | assumption)
  have u23 : U.2.1 (m + 23) p = 0 := by rw [← hU]; (simp (disch := omega) only [mSI_I, mSI_J, mSI_P, mSJ_I, mSJ_J, mSJ_P, mSP_I, mSP_J, mSP_P, mU_n, mU_s] <;> first | done | rfl | assumption)
  clear hU
  refine lm_mpR (hM.mf fU) hp (hR.mf fU (fun j q => by omega)) _ 0 U rfl (by omega) Mf.rf (fun j hj => by omega) (fun T1 f1 hPr => ?_)
  simp (maxSteps := 4000000) (disch := first | (simp (disch := omega) only [XB_i, XB_n, va_rf_s, va_rf_n, mSI_K, mSI_I, mSI_J, mSI_P, mSI_N, mSJ_K, mSJ_I, mSJ_J, mSJ_P, mSJ_N, mSP_K, mSP_I, mSP_J, mSP_P, mSP_N, mNn, mNi, mNr, mN0, al20, al21, al22, al23, al25, true_or, or_true, and_self, if_true, if_false, mCat_n, mCat_i, mCat_r, mCat_l, mCat_0, Nat.reduceAdd, Nat.reduceLeDiff, Nat.reduceLT, true_and, and_true, Nat.zero_le, bI_01, mInB_J, mInB_Z, mInB_N]; done) | omega | (unfold R32 at *; omega)) only [e_160_60, e_160_61, XB_i, XB_n, va_rf_s, va_rf_n, mSI_K, mSI_I, mSI_J, mSI_P, mSI_N, mSJ_K, mSJ_I, mSJ_J, mSJ_P, mSJ_N, mSP_K, mSP_I, mSP_J, mSP_P, mSP_N, mNn, mNi, mNr, mN0, al20, al21, al22, al23, al25, true_or, or_true, and_self, if_true, if_false, mCat_n, mCat_i, mCat_r, mCat_l, mCat_0, Nat.reduceAdd, Nat.reduceLeDiff, Nat.reduceLT, true_and, and_true, Nat.zero_le, bI_01, bI_0, i10, tf0, iI_add, iI_sub, iI_mul, iI_neg, iI_add1, iI_sub1, iI_m1, nca, nc1, ncm1, iI_clJ, iI_cl0, iI_clN, Int.toNat_natCast, mU_n, mU_s, p_min, p_max, p_abs, ni_2, ni_3, ni_4, ni_7, ni_8, ni_9, ni_12, ni_24, ni_97, ni_100, ni_122, ni_200, ni_256, ni_4096, ni_5000, ni_9999, iI_lt, iI_le, iI_eq, iz_eq, iz_lt, iz_le, iz_gt, iz_ge, iy_eq, iy_lt, iy_le, iI_ltN, iI_leN, iI_eqN, if_pos, if_neg]
  have f01 : Mf (fun b j => ((b = m + 14 ∨ b = m + 16 ∨ b = m + 23) ∧ j = p) ∨ (b = m + 15 ∧ 5 * p ≤ j ∧ j < 5 * p + 5)) T T1 := (fU.mono (fun b j h => Or.inl h)).tr (f1.mono (fun b j h => Or.inr h))
  have hM1 := hM.mf f01
  have hS1 := hS.mf f01 (fun b j q1 q2 => by simp only [slS, iv] at q1; omega)
  have hR1 := hR.mf f01 (fun j q => by omega)
  have f01' : Mf (mkQ m p) T T1 := f01.mono (fun b j q => Or.inr (Or.inl (by simp only [pkS]; omega)))
  refine lm_mpO (Z := Z) hM1 hS1 hs hp ok.1 ok.2.2 hR1 bR hZ (Z + 1) 0 T1 [] none none none none rfl (by omega) Mf.rf ⟨fun _ => 0, fun k hk => by simp at hk, fun k hk => by simp at hk, fun k hk => by simp at hk, fun k hk => by simp at hk, fun k hk => by simp at hk, fun k hk => by simp at hk, fun k hk => by simp at hk, fun k i hk => by simp at hk⟩ ⟨by rw [f1.I (by omega)]; exact u16, by simp, by rw [f1.I (by omega)]; exact u23, by simp [stF]⟩ (fun k hk => by simp at hk) (fun hf T2 f2 => ?_) (fun T2 ts2 l4 l5 l6 l7 l8 hf f2 h2 h3 h4 => ?_)
  · refine hQ0 ?_ T2 (f01'.tr (f2.mono (fun b j q => q.elim Or.inl (fun z => Or.inr (Or.inl (by simp only [tiS] at z; simp only [pkS]; omega))))))
    unfold flP
    rw [hZ]
    exact hf
  · have e : flP R Gs = (true, ts2) := by unfold flP; rw [hZ]; exact hf
    have hM2 := hM1.mf f2
    have dS : ∀ b j, slS m s b j → ¬ mpS m p b j := fun b j q1 q2 => by simp only [slS, mpS, mtS, rdS, wkS, cvS, wtS, ouS, tiS, iv] at q1 q2; omega
    have hS2 := hS1.mf f2 dS
    have hR2 := hR1.mf f2 (fun j q2 => by simp only [mpS, mtS, rdS, wkS, cvS, wtS, ouS, tiS, iv] at q2; omega)
    simp (maxSteps := 4000000) (disch := first | (simp (disch := omega) only [XB_i, XB_n, va_rf_s, va_rf_n, mSI_K, mSI_I, mSI_J, mSI_P, mSI_N, mSJ_K, mSJ_I, mSJ_J, mSJ_P, mSJ_N, mSP_K, mSP_I, mSP_J, mSP_P, mSP_N, mNn, mNi, mNr, mN0, al20, al21, al22, al23, al25, true_or, or_true, and_self, if_true, if_false, mCat_n, mCat_i, mCat_r, mCat_l, mCat_0, Nat.reduceAdd, Nat.reduceLeDiff, Nat.reduceLT, true_and, and_true, Nat.zero_le, bI_01, mInB_J, mInB_Z, mInB_N]; done) | omega | (unfold R32 at *; omega)) only [e_160_238, e_160_238_n, e_160_239, e_160_240, XB_i, XB_n, va_rf_s, va_rf_n, mSI_K, mSI_I, mSI_J, mSI_P, mSI_N, mSJ_K, mSJ_I, mSJ_J, mSJ_P, mSJ_N, mSP_K, mSP_I, mSP_J, mSP_P, mSP_N, mNn, mNi, mNr, mN0, al20, al21, al22, al23, al25, true_or, or_true, and_self, if_true, if_false, mCat_n, mCat_i, mCat_r, mCat_l, mCat_0, Nat.reduceAdd, Nat.reduceLeDiff, Nat.reduceLT, true_and, and_true, Nat.zero_le, bI_01, bI_0, i10, tf0, iI_add, iI_sub, iI_mul, iI_neg, iI_add1, iI_sub1, iI_m1, nca, nc1, ncm1, iI_clJ, iI_cl0, iI_clN, Int.toNat_natCast, mU_n, mU_s, p_min, p_max, p_abs, ni_2, ni_3, ni_4, ni_7, ni_8, ni_9, ni_12, ni_24, ni_97, ni_100, ni_122, ni_200, ni_256, ni_4096, ni_5000, ni_9999, iI_lt, iI_le, iI_eq, iz_eq, iz_lt, iz_le, iz_gt, iz_ge, iy_eq, iy_lt, iy_le, iI_ltN, iI_leN, iI_eqN, if_pos, if_neg]
    refine c_160_241 (by simp only [XB_i, XB_n, va_rf_s, va_rf_n, mSI_K, mSI_I, mSI_J, mSI_P, mSI_N, mSJ_K, mSJ_I, mSJ_J, mSJ_P, mSJ_N, mSP_K, mSP_I, mSP_J, mSP_P, mSP_N, mNn, mNi, mNr, mN0, al20, al21, al22, al23, al25, true_or, or_true, and_self, if_true, if_false, mCat_n, mCat_i, mCat_r, mCat_l, mCat_0, Nat.reduceAdd, Nat.reduceLeDiff, Nat.reduceLT, true_and, and_true, Nat.zero_le, bI_01]) (by rw [hM2.k]) (m_addMembers hM2 hS2 hs hp ok.1 hR2 bR (fun T3 h5 f3 => ?_))
    have hM3 := hM2.mf f3
    have k3 := hM3.k
    have r17 := hM3.r17
    have a17 := hM3.a17
    simp (maxSteps := 4000000) (disch := first | (simp (disch := omega) only [XB_i, XB_n, va_rf_s, va_rf_n, mSI_K, mSI_I, mSI_J, mSI_P, mSI_N, mSJ_K, mSJ_I, mSJ_J, mSJ_P, mSJ_N, mSP_K, mSP_I, mSP_J, mSP_P, mSP_N, mNn, mNi, mNr, mN0, al20, al21, al22, al23, al25, true_or, or_true, and_self, if_true, if_false, mCat_n, mCat_i, mCat_r, mCat_l, mCat_0, Nat.reduceAdd, Nat.reduceLeDiff, Nat.reduceLT, true_and, and_true, Nat.zero_le, bI_01, mInB_J, mInB_Z, mInB_N, k3, r17, a17]; done) | omega | (unfold R32 at *; omega)) only [e_160_244, e_160_244_n, e_160_245, e_160_248, e_160_249, e_160_250, e_160_250_z, e_160_251, e_160_252, XB_i, XB_n, va_rf_s, va_rf_n, mSI_K, mSI_I, mSI_J, mSI_P, mSI_N, mSJ_K, mSJ_I, mSJ_J, mSJ_P, mSJ_N, mSP_K, mSP_I, mSP_J, mSP_P, mSP_N, mNn, mNi, mNr, mN0, al20, al21, al22, al23, al25, true_or, or_true, and_self, if_true, if_false, mCat_n, mCat_i, mCat_r, mCat_l, mCat_0, Nat.reduceAdd, Nat.reduceLeDiff, Nat.reduceLT, true_and, and_true, Nat.zero_le, bI_01, bI_0, i10, tf0, iI_add, iI_sub, iI_mul, iI_neg, iI_add1, iI_sub1, iI_m1, nca, nc1, ncm1, iI_clJ, iI_cl0, iI_clN, Int.toNat_natCast, mU_n, mU_s, p_min, p_max, p_abs, ni_2, ni_3, ni_4, ni_7, ni_8, ni_9, ni_12, ni_24, ni_97, ni_100, ni_122, ni_200, ni_256, ni_4096, ni_5000, ni_9999, iI_lt, iI_le, iI_eq, iz_eq, iz_lt, iz_le, iz_gt, iz_ge, iy_eq, iy_lt, iy_le, iI_ltN, iI_leN, iI_eqN, if_pos, if_neg, k3, r17, a17]
    have f4 : Mf (fun b j => b = m + 13 ∧ j = p) T3 (mSI T3 (m + 13) p 1) := Mf.rf.sI ⟨rfl, rfl⟩
    have n2 : ∀ b j, ((b = m + 14 ∧ j = p) ∨ (b = m + 15 ∧ 5 * p ≤ j ∧ j < 5 * p + 5)) → ¬ mpS m p b j := fun b j q1 q2 => by simp only [mpS, mtS, rdS, wkS, cvS, wtS, ouS, tiS, iv] at q2; omega
    refine hQ1 (by rw [e]) _ ?_ (by rw [e]; exact h4) (f01'.tr ((f2.mono (fun b j q => q.elim Or.inl (fun z => Or.inr (Or.inl (by simp only [tiS] at z; simp only [pkS]; omega))))).tr ((f3.mono (fun b j q => Or.inr (Or.inl (by simp only [meS] at q; simp only [pkS]; omega)))).tr (f4.mono (fun b j q => Or.inr (Or.inr q))))))
    rw [e]
    obtain ⟨sf, ti⟩ := h2
    have n3 : ∀ b j, tiS m p b j → ¬ meS m p b j := fun b j q1 q2 => by simp only [tiS] at q1; simp only [meS] at q2; omega
    obtain ⟨t1, t2, t3, t4, t5, t6, t7, t8⟩ := ti
    obtain ⟨nn1, nn2, nn3, nn4⟩ := h3
    have keep : ∀ b j, tiS m p b j → (mSI T3 (m + 13) p 1).2.1 b j = T2.2.1 b j := fun b j q => by rw [f4.I (fun z => by simp only [tiS] at q; omega), f3.I (n3 b j q)]
    refine ⟨⟨sf, fun k hk => ?_, fun k hk => ?_, fun k hk => ?_, fun k hk => ?_, fun k hk => ?_, fun k hk => ?_, t7, fun k i hk hi => ?_⟩, ⟨?_, nn2, ?_, nn4⟩, ?_, ?_, ?_⟩
    · dsimp only at hk ⊢; rw [keep _ _ (by simp only [tiS]; omega)]; exact t1 k hk
    · dsimp only at hk ⊢; rw [keep _ _ (by simp only [tiS]; omega)]; exact t2 k hk
    · dsimp only at hk ⊢; rw [keep _ _ (by simp only [tiS]; omega)]; exact t3 k hk
    · dsimp only at hk ⊢; rw [keep _ _ (by simp only [tiS]; omega)]; exact t4 k hk
    · dsimp only at hk ⊢; rw [keep _ _ (by simp only [tiS]; omega)]; exact t5 k hk
    · dsimp only at hk ⊢; rw [keep _ _ (by simp only [tiS]; omega)]; exact t6 k hk
    · have := t7 k hk
      dsimp only at hk hi ⊢; rw [keep _ _ (Or.inr (Or.inr ⟨rfl, by omega, by omega⟩))]; exact t8 k i hk hi
    · rw [keep _ _ (by simp only [tiS, and_true, true_or, or_true])]; exact nn1
    · rw [keep _ _ (by simp only [tiS, and_true, true_or, or_true])]; exact nn3
    · rw [f4.I (by omega), f3.I (by simp only [meS]; omega), f2.I (n2 _ _ (by omega)), f1.I (by omega)]; exact u14
    · obtain ⟨a0, a1, a2, a3, a4⟩ := hPr
      have kp : ∀ j, 5 * p ≤ j → j < 5 * p + 5 → (mSI T3 (m + 13) p 1).2.1 (m + 15) j = T1.2.1 (m + 15) j := fun j h1 h2 => by rw [f4.I (by omega), f3.I (by simp only [meS]; omega), f2.I (n2 _ _ (by omega))]
      exact ⟨by rw [kp _ (by omega) (by omega)]; exact a0, by rw [kp _ (by omega) (by omega)]; exact a1, by rw [kp _ (by omega) (by omega)]; exact a2, by rw [kp _ (by omega) (by omega)]; exact a3, by rw [kp _ (by omega) (by omega)]; exact a4⟩
    · obtain ⟨g0, gl, g1, g2, g3, g4, g5, g6⟩ := h5
      exact ⟨by rw [f4.I (by omega)]; exact g0, gl, fun k hk => by rw [f4.I (by omega)]; exact g1 k hk, fun k hk => by rw [f4.I (by omega)]; exact g2 k hk, fun k hk => by rw [f4.I (by omega)]; exact g3 k hk, fun k hk => by rw [f4.J (by omega)]; exact g4 k hk, fun k hk => by rw [f4.I (by omega)]; exact g5 k hk, fun k hk => by rw [f4.I (by omega)]; exact g6 k hk⟩
end MR2
