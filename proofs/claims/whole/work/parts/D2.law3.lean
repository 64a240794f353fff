/-! the law: its calls that may throw -/
theorem i20 : ((2 : Int32) = 0) = False := eq_false (by decide)
section LWB
variable {T : mT} {Q : mOut → mT → Prop} {sc N x m o c n0 u0 : Nat}
theorem lw_tile (g : Geo sc x m o) (h : Wd T sc N x m o c n0 u0) (hN : 7 * c + 7 ≤ N) (hN2 : N ≤ 3584) (hQ : ∀ T2 l5 l6, Wd T2 sc N x m o (c + 1) n0 u0 → XW 193 1042 [some (.ref (sc)), some (.ref (x)), some (.ref (m)), some (.ref (o)), some (.int (iI ((7 * c : Nat) : Int))), l5, l6] [] T2 Q) (l5 l6 : Option Value) : XW 193 333 [some (.ref (sc)), some (.ref (x)), some (.ref (m)), some (.ref (o)), some (.int (iI ((7 * c : Nat) : Int))), l5, l6] [] T Q := by
  obtain ⟨cs, Fs, kp, cl, hb, rg, pk, df, hD, hM, hI, hcl, hW⟩ := h
  obtain ⟨gs, gx, gm⟩ := id g
  obtain ⟨v1, r1, e1⟩ := sc_v T sc (7 * c + 1)
  obtain ⟨v2, r2, e2⟩ := sc_v T sc (7 * c + 2)
  obtain ⟨v3, r3, e3⟩ := sc_v T sc (7 * c + 3)
  obtain ⟨v4, r4, e4⟩ := sc_v T sc (7 * c + 4)
  have ks := hW.2.1
  have ho := hW.2.2.1
  have hz := hW.1
  have hn := hW.2.2.2.1
  have kx := hD.kx
  have km := hM.1.k
  have hx : x + 857 ≤ T.2.2.2.2.1 := by omega
  have n5 : (5 : Int32) = iI 5 := rfl
  have n6 : (6 : Int32) = iI 6 := rfl
  have t2 : (((7 * c : Nat) : Int) + 2).toNat = 7 * c + 2 := by omega
  have t3 : (((7 * c : Nat) : Int) + 3).toNat = 7 * c + 3 := by omega
  have t4 : (((7 * c : Nat) : Int) + 4).toNat = 7 * c + 4 := by omega
  have t5 : (((7 * c : Nat) : Int) + 5).toNat = 7 * c + 5 := by omega
  have t6 : (((7 * c : Nat) : Int) + 6).toNat = 7 * c + 6 := by omega
  simp (maxSteps := 4000000) (disch := first | (simp (disch := omega) only [XB_i, XB_n, va_rf_s, va_rf_n, mSI_K, mSI_I, mSI_J, mSI_P, mSI_N, mSJ_K, mSJ_I, mSJ_J, mSJ_P, mSJ_N, mSP_K, mSP_I, mSP_J, mSP_P, mSP_N, mNn, mNi, mNr, mN0, al20, al21, al22, al23, al25, true_or, or_true, and_self, if_true, if_false, mCat_n, mCat_i, mCat_r, mCat_l, mCat_0, Nat.reduceAdd, Nat.reduceLeDiff, Nat.reduceLT, true_and, and_true, Nat.zero_le, bI_01, mInB_J, mInB_Z, mInB_N, ks, e1, e2, e3, e4, n5, n6, t2, t3, t4, t5, t6]; done) | omega | (unfold R32 at *; omega)) only [e_193_333, e_193_333_n, e_193_334, e_193_334_n, e_193_335, e_193_337, e_193_338, e_193_339, e_193_340, e_193_340_n, e_193_341, e_193_343, e_193_344, e_193_345, e_193_346, e_193_346_n, e_193_347, e_193_349, e_193_350, e_193_351, e_193_352, e_193_352_n, e_193_353, e_193_355, e_193_356, e_193_357, e_193_358, e_193_358_n, XB_i, XB_n, va_rf_s, va_rf_n, mSI_K, mSI_I, mSI_J, mSI_P, mSI_N, mSJ_K, mSJ_I, mSJ_J, mSJ_P, mSJ_N, mSP_K, mSP_I, mSP_J, mSP_P, mSP_N, mNn, mNi, mNr, mN0, al20, al21, al22, al23, al25, true_or, or_true, and_self, if_true, if_false, mCat_n, mCat_i, mCat_r, mCat_l, mCat_0, Nat.reduceAdd, Nat.reduceLeDiff, Nat.reduceLT, true_and, and_true, Nat.zero_le, bI_01, bI_0, i10, tf0, iI_add, iI_sub, iI_mul, iI_neg, iI_add1, iI_sub1, iI_m1, nca, nc1, ncm1, iI_clJ, iI_cl0, iI_clN, Int.toNat_natCast, mU_n, mU_s, p_min, p_max, p_abs, ni_2, ni_3, ni_4, ni_7, ni_8, ni_9, ni_12, ni_24, ni_97, ni_100, ni_122, ni_200, ni_256, ni_4096, ni_5000, ni_9999, iI_lt, iI_le, iI_eq, iz_eq, iz_lt, iz_le, iz_gt, iz_ge, iy_eq, iy_lt, iy_le, iI_ltN, iI_leN, iI_eqN, if_pos, if_neg, ks, e1, e2, e3, e4, n5, n6, t2, t3, t4, t5, t6]
  refine c_193_359 (by simp only [XB_i, XB_n, va_rf_s, va_rf_n, mSI_K, mSI_I, mSI_J, mSI_P, mSI_N, mSJ_K, mSJ_I, mSJ_J, mSJ_P, mSJ_N, mSP_K, mSP_I, mSP_J, mSP_P, mSP_N, mNn, mNi, mNr, mN0, al20, al21, al22, al23, al25, true_or, or_true, and_self, if_true, if_false, mCat_n, mCat_i, mCat_r, mCat_l, mCat_0, Nat.reduceAdd, Nat.reduceLeDiff, Nat.reduceLT, true_and, and_true, Nat.zero_le, bI_01]) (wr_tile (by rw [kx]) ho (dk_tile hz hx hD hI.1 r1 r2 r3 r4 (fun Gs eg ht T2 hD2 hG hl => ?_) (fun q T2 hD2 hG => ?_)))
  · have hM2 := hM.gr hG (by omega) (fun b hb q => by have := hb.1; have := q.2; omega)
    have hW2 := hW.gr hG
    have ks2 := hW2.2.1
    have km2 := hM2.1.k
    have es := (hG.2.2 sc (fun q => by have := q.1; omega) (by omega)).1
    have d1 : T2.2.1 sc (7 * c + 1) = iI v1 := by rw [es]; exact e1
    have d2 : T2.2.1 sc (7 * c + 2) = iI v2 := by rw [es]; exact e2
    have d3 : T2.2.1 sc (7 * c + 3) = iI v3 := by rw [es]; exact e3
    have d4 : T2.2.1 sc (7 * c + 4) = iI v4 := by rw [es]; exact e4
    refine ⟨hG.1, Or.inl ⟨_, rfl, ?_⟩⟩
    generalize hTb : mSJ T2 o 0 _ = Tb
    have fJ : Fr (fun b => b = o) T2 Tb := by rw [← hTb]; exact Fr.oJ _
    have hDb := hD2.fr fJ (fun b hb q => by have := hb.2; omega)
    have hMb := hM2.fr fJ (fun b hb q => by have := hb.2; omega)
    have hWb := hW2.fr fJ
    have ksb := hWb.2.1
    have kmb := hMb.1.k
    have b1 : Tb.2.1 sc (7 * c + 1) = iI v1 := by rw [(fJ.2.2 sc (by omega)).1]; exact d1
    have b2 : Tb.2.1 sc (7 * c + 2) = iI v2 := by rw [(fJ.2.2 sc (by omega)).1]; exact d2
    have b3 : Tb.2.1 sc (7 * c + 3) = iI v3 := by rw [(fJ.2.2 sc (by omega)).1]; exact d3
    have b4 : Tb.2.1 sc (7 * c + 4) = iI v4 := by rw [(fJ.2.2 sc (by omega)).1]; exact d4
    simp (maxSteps := 4000000) (disch := first | (simp (disch := omega) only [XB_i, XB_n, va_rf_s, va_rf_n, mSI_K, mSI_I, mSI_J, mSI_P, mSI_N, mSJ_K, mSJ_I, mSJ_J, mSJ_P, mSJ_N, mSP_K, mSP_I, mSP_J, mSP_P, mSP_N, mNn, mNi, mNr, mN0, al20, al21, al22, al23, al25, true_or, or_true, and_self, if_true, if_false, mCat_n, mCat_i, mCat_r, mCat_l, mCat_0, Nat.reduceAdd, Nat.reduceLeDiff, Nat.reduceLT, true_and, and_true, Nat.zero_le, bI_01, mInB_J, mInB_Z, mInB_N, ksb, b1, b2, b3, b4, n5, n6, t2, t3, t4, t5, t6]; done) | omega | (unfold R32 at *; omega)) only [e_193_362, e_193_364, e_193_364_n, e_193_365, e_193_365_n, e_193_366, e_193_368, e_193_369, e_193_370, e_193_371, e_193_371_n, e_193_372, e_193_374, e_193_375, e_193_376, e_193_377, e_193_377_n, e_193_378, e_193_380, e_193_381, e_193_382, e_193_383, e_193_383_n, e_193_384, e_193_386, e_193_387, e_193_388, XB_i, XB_n, va_rf_s, va_rf_n, mSI_K, mSI_I, mSI_J, mSI_P, mSI_N, mSJ_K, mSJ_I, mSJ_J, mSJ_P, mSJ_N, mSP_K, mSP_I, mSP_J, mSP_P, mSP_N, mNn, mNi, mNr, mN0, al20, al21, al22, al23, al25, true_or, or_true, and_self, if_true, if_false, mCat_n, mCat_i, mCat_r, mCat_l, mCat_0, Nat.reduceAdd, Nat.reduceLeDiff, Nat.reduceLT, true_and, and_true, Nat.zero_le, bI_01, bI_0, i10, tf0, iI_add, iI_sub, iI_mul, iI_neg, iI_add1, iI_sub1, iI_m1, nca, nc1, ncm1, iI_clJ, iI_cl0, iI_clN, Int.toNat_natCast, mU_n, mU_s, p_min, p_max, p_abs, ni_2, ni_3, ni_4, ni_7, ni_8, ni_9, ni_12, ni_24, ni_97, ni_100, ni_122, ni_200, ni_256, ni_4096, ni_5000, ni_9999, iI_lt, iI_le, iI_eq, iz_eq, iz_lt, iz_le, iz_gt, iz_ge, iy_eq, iy_lt, iy_le, iI_ltN, iI_leN, iI_eqN, if_pos, if_neg, ksb, b1, b2, b3, b4, n5, n6, t2, t3, t4, t5, t6]
    refine c_193_389 (by simp only [XB_i, XB_n, va_rf_s, va_rf_n, mSI_K, mSI_I, mSI_J, mSI_P, mSI_N, mSJ_K, mSJ_I, mSJ_J, mSJ_P, mSJ_N, mSP_K, mSP_I, mSP_J, mSP_P, mSP_N, mNn, mNi, mNr, mN0, al20, al21, al22, al23, al25, true_or, or_true, and_self, if_true, if_false, mCat_n, mCat_i, mCat_r, mCat_l, mCat_0, Nat.reduceAdd, Nat.reduceLeDiff, Nat.reduceLT, true_and, and_true, Nat.zero_le, bI_01]) (by rw [kmb]) (md_tile hMb hI.1 r1 r2 r3 r4 (fun Gs2 e2 ht2 T3 hM3 h13 hF => ?_) (fun q => absurd q (by rintro (z | z); rw [eg] at z; cases z; exact z ht)))
    rw [eg] at e2
    cases e2
    have hW3 := hWb.fr hF
    have hD3 := hDb.fr hF (fun b hb q => by have := hb.2; have := q.1; omega)
    have km3 := hM3.1.k
    have pt := fun Q => @m_thrown T3 Q m _ hM3.1 h13
    have ko3 := hW3.2.2.1
    have i0 : mInB 0 1 = true := mInB_Z (by omega) (by omega)
    have eb := (congrArg (fun z : mT => z.2.2.1 o 0) hTb).symm.trans (mU_s _ _ _ _)
    have eo := (congrFun (hF.2.2 o (fun q => by have := q.2; omega)).2.1 0).trans eb
    simp (maxSteps := 4000000) (disch := first | (simp (disch := omega) only [XB_i, XB_n, va_rf_s, va_rf_n, mSI_K, mSI_I, mSI_J, mSI_P, mSI_N, mSJ_K, mSJ_I, mSJ_J, mSJ_P, mSJ_N, mSP_K, mSP_I, mSP_J, mSP_P, mSP_N, mNn, mNi, mNr, mN0, al20, al21, al22, al23, al25, true_or, or_true, and_self, if_true, if_false, mCat_n, mCat_i, mCat_r, mCat_l, mCat_0, Nat.reduceAdd, Nat.reduceLeDiff, Nat.reduceLT, true_and, and_true, Nat.zero_le, bI_01, mInB_J, mInB_Z, mInB_N, km3, pt, ko3, i0, iI_cl0, eo, lg_z, eqT]; done) | omega | (unfold R32 at *; omega)) only [e_193_392, e_193_394, e_193_394_n, e_193_398, e_193_400, e_193_403, e_193_404, e_193_405, e_193_407, e_193_410, e_193_410_n, e_193_411, e_193_412, e_193_413, e_193_415, e_193_416, e_193_417, e_193_420, e_193_421, e_193_422, d_193_395, XB_i, XB_n, va_rf_s, va_rf_n, mSI_K, mSI_I, mSI_J, mSI_P, mSI_N, mSJ_K, mSJ_I, mSJ_J, mSJ_P, mSJ_N, mSP_K, mSP_I, mSP_J, mSP_P, mSP_N, mNn, mNi, mNr, mN0, al20, al21, al22, al23, al25, true_or, or_true, and_self, if_true, if_false, mCat_n, mCat_i, mCat_r, mCat_l, mCat_0, Nat.reduceAdd, Nat.reduceLeDiff, Nat.reduceLT, true_and, and_true, Nat.zero_le, bI_01, bI_0, i10, tf0, iI_add, iI_sub, iI_mul, iI_neg, iI_add1, iI_sub1, iI_m1, nca, nc1, ncm1, iI_clJ, iI_cl0, iI_clN, Int.toNat_natCast, mU_n, mU_s, p_min, p_max, p_abs, ni_2, ni_3, ni_4, ni_7, ni_8, ni_9, ni_12, ni_24, ni_97, ni_100, ni_122, ni_200, ni_256, ni_4096, ni_5000, ni_9999, iI_lt, iI_le, iI_eq, iz_eq, iz_lt, iz_le, iz_gt, iz_ge, iy_eq, iy_lt, iy_le, iI_ltN, iI_leN, iI_eqN, if_pos, if_neg, km3, pt, ko3, i0, iI_cl0, eo, lg_z, eqT]
    exact hQ T3 _ _ ⟨_, _, _, _, _, _, _, _, hD3, hM3, hI.tile eg ht, by omega, hW3⟩
  · have hM2 := hM.gr hG (by omega) (fun b hb q => by have := hb.1; have := q.2; omega)
    have hW2 := hW.gr hG
    have ks2 := hW2.2.1
    have km2 := hM2.1.k
    have es := (hG.2.2 sc (fun q => by have := q.1; omega) (by omega)).1
    have d1 : T2.2.1 sc (7 * c + 1) = iI v1 := by rw [es]; exact e1
    have d2 : T2.2.1 sc (7 * c + 2) = iI v2 := by rw [es]; exact e2
    have d3 : T2.2.1 sc (7 * c + 3) = iI v3 := by rw [es]; exact e3
    have d4 : T2.2.1 sc (7 * c + 4) = iI v4 := by rw [es]; exact e4
    refine ⟨hG.1, Or.inr ⟨2, 1, rfl, rfl, ?_⟩⟩
    have fJ : Fr (fun b => b = o) T2 T2 := Fr.rf
    have hDb := hD2.fr fJ (fun b hb q => by have := hb.2; omega)
    have hMb := hM2.fr fJ (fun b hb q => by have := hb.2; omega)
    have hWb := hW2.fr fJ
    have ksb := hWb.2.1
    have kmb := hMb.1.k
    have b1 : T2.2.1 sc (7 * c + 1) = iI v1 := by rw [(fJ.2.2 sc (by omega)).1]; exact d1
    have b2 : T2.2.1 sc (7 * c + 2) = iI v2 := by rw [(fJ.2.2 sc (by omega)).1]; exact d2
    have b3 : T2.2.1 sc (7 * c + 3) = iI v3 := by rw [(fJ.2.2 sc (by omega)).1]; exact d3
    have b4 : T2.2.1 sc (7 * c + 4) = iI v4 := by rw [(fJ.2.2 sc (by omega)).1]; exact d4
    simp (maxSteps := 4000000) (disch := first | (simp (disch := omega) only [XB_i, XB_n, va_rf_s, va_rf_n, mSI_K, mSI_I, mSI_J, mSI_P, mSI_N, mSJ_K, mSJ_I, mSJ_J, mSJ_P, mSJ_N, mSP_K, mSP_I, mSP_J, mSP_P, mSP_N, mNn, mNi, mNr, mN0, al20, al21, al22, al23, al25, true_or, or_true, and_self, if_true, if_false, mCat_n, mCat_i, mCat_r, mCat_l, mCat_0, Nat.reduceAdd, Nat.reduceLeDiff, Nat.reduceLT, true_and, and_true, Nat.zero_le, bI_01, mInB_J, mInB_Z, mInB_N, ksb, b1, b2, b3, b4, n5, n6, t2, t3, t4, t5, t6]; done) | omega | (unfold R32 at *; omega)) only [e_193_362, e_193_364, e_193_364_n, e_193_365, e_193_365_n, e_193_366, e_193_368, e_193_369, e_193_370, e_193_371, e_193_371_n, e_193_372, e_193_374, e_193_375, e_193_376, e_193_377, e_193_377_n, e_193_378, e_193_380, e_193_381, e_193_382, e_193_383, e_193_383_n, e_193_384, e_193_386, e_193_387, e_193_388, XB_i, XB_n, va_rf_s, va_rf_n, mSI_K, mSI_I, mSI_J, mSI_P, mSI_N, mSJ_K, mSJ_I, mSJ_J, mSJ_P, mSJ_N, mSP_K, mSP_I, mSP_J, mSP_P, mSP_N, mNn, mNi, mNr, mN0, al20, al21, al22, al23, al25, true_or, or_true, and_self, if_true, if_false, mCat_n, mCat_i, mCat_r, mCat_l, mCat_0, Nat.reduceAdd, Nat.reduceLeDiff, Nat.reduceLT, true_and, and_true, Nat.zero_le, bI_01, bI_0, i10, tf0, iI_add, iI_sub, iI_mul, iI_neg, iI_add1, iI_sub1, iI_m1, nca, nc1, ncm1, iI_clJ, iI_cl0, iI_clN, Int.toNat_natCast, mU_n, mU_s, p_min, p_max, p_abs, ni_2, ni_3, ni_4, ni_7, ni_8, ni_9, ni_12, ni_24, ni_97, ni_100, ni_122, ni_200, ni_256, ni_4096, ni_5000, ni_9999, iI_lt, iI_le, iI_eq, iz_eq, iz_lt, iz_le, iz_gt, iz_ge, iy_eq, iy_lt, iy_le, iI_ltN, iI_leN, iI_eqN, if_pos, if_neg, ksb, b1, b2, b3, b4, n5, n6, t2, t3, t4, t5, t6]
    refine c_193_389 (by simp only [XB_i, XB_n, va_rf_s, va_rf_n, mSI_K, mSI_I, mSI_J, mSI_P, mSI_N, mSJ_K, mSJ_I, mSJ_J, mSJ_P, mSJ_N, mSP_K, mSP_I, mSP_J, mSP_P, mSP_N, mNn, mNi, mNr, mN0, al20, al21, al22, al23, al25, true_or, or_true, and_self, if_true, if_false, mCat_n, mCat_i, mCat_r, mCat_l, mCat_0, Nat.reduceAdd, Nat.reduceLeDiff, Nat.reduceLT, true_and, and_true, Nat.zero_le, bI_01]) (by rw [kmb]) (md_tile hMb hI.1 r1 r2 r3 r4 (fun Gs2 e2 ht2 => absurd q (by rintro (z | z); rw [e2] at z; cases z; exact z ht2)) (fun _ T3 hM3 h13 hF => ?_))
    change T3.2.1 m 13 = 1 at h13
    have hW3 := hWb.fr hF
    have hD3 := hDb.fr hF (fun b hb q => by have := hb.2; have := q.1; omega)
    have km3 := hM3.1.k
    have pt := fun Q => @m_thrown T3 Q m _ hM3.1 h13
    simp (maxSteps := 4000000) (disch := first | (simp (disch := omega) only [XB_i, XB_n, va_rf_s, va_rf_n, mSI_K, mSI_I, mSI_J, mSI_P, mSI_N, mSJ_K, mSJ_I, mSJ_J, mSJ_P, mSJ_N, mSP_K, mSP_I, mSP_J, mSP_P, mSP_N, mNn, mNi, mNr, mN0, al20, al21, al22, al23, al25, true_or, or_true, and_self, if_true, if_false, mCat_n, mCat_i, mCat_r, mCat_l, mCat_0, Nat.reduceAdd, Nat.reduceLeDiff, Nat.reduceLT, true_and, and_true, Nat.zero_le, bI_01, mInB_J, mInB_Z, mInB_N, km3, pt, eqT, i20]; done) | omega | (unfold R32 at *; omega)) only [e_193_392, e_193_394, e_193_394_n, e_193_398, e_193_400, e_193_403, e_193_404, e_193_405, e_193_407, e_193_410, e_193_410_n, e_193_411, e_193_412, e_193_413, e_193_415, e_193_416, e_193_417, e_193_420, e_193_421, e_193_422, d_193_395, XB_i, XB_n, va_rf_s, va_rf_n, mSI_K, mSI_I, mSI_J, mSI_P, mSI_N, mSJ_K, mSJ_I, mSJ_J, mSJ_P, mSJ_N, mSP_K, mSP_I, mSP_J, mSP_P, mSP_N, mNn, mNi, mNr, mN0, al20, al21, al22, al23, al25, true_or, or_true, and_self, if_true, if_false, mCat_n, mCat_i, mCat_r, mCat_l, mCat_0, Nat.reduceAdd, Nat.reduceLeDiff, Nat.reduceLT, true_and, and_true, Nat.zero_le, bI_01, bI_0, i10, tf0, iI_add, iI_sub, iI_mul, iI_neg, iI_add1, iI_sub1, iI_m1, nca, nc1, ncm1, iI_clJ, iI_cl0, iI_clN, Int.toNat_natCast, mU_n, mU_s, p_min, p_max, p_abs, ni_2, ni_3, ni_4, ni_7, ni_8, ni_9, ni_12, ni_24, ni_97, ni_100, ni_122, ni_200, ni_256, ni_4096, ni_5000, ni_9999, iI_lt, iI_le, iI_eq, iz_eq, iz_lt, iz_le, iz_gt, iz_ge, iy_eq, iy_lt, iy_le, iI_ltN, iI_leN, iI_eqN, if_pos, if_neg, km3, pt, eqT, i20]
    exact hQ T3 _ _ ⟨_, _, _, _, _, _, _, _, hD3, hM3, hI, by omega, hW3⟩
theorem lw_region (g : Geo sc x m o) (h : Wd T sc N x m o c n0 u0) (hN : 7 * c + 7 ≤ N) (hN2 : N ≤ 3584) (hQ : ∀ T2 l5 l6, Wd T2 sc N x m o (c + 1) n0 u0 → XW 193 1042 [some (.ref (sc)), some (.ref (x)), some (.ref (m)), some (.ref (o)), some (.int (iI ((7 * c : Nat) : Int))), l5, l6] [] T2 Q) (l5 l6 : Option Value) : XW 193 450 [some (.ref (sc)), some (.ref (x)), some (.ref (m)), some (.ref (o)), some (.int (iI ((7 * c : Nat) : Int))), l5, l6] [] T Q := by
  obtain ⟨cs, Fs, kp, cl, hb, rg, pk, df, hD, hM, hI, hcl, hW⟩ := h
  obtain ⟨gs, gx, gm⟩ := id g
  obtain ⟨v1, r1, e1⟩ := sc_v T sc (7 * c + 1)
  obtain ⟨v2, r2, e2⟩ := sc_v T sc (7 * c + 2)
  obtain ⟨v3, r3, e3⟩ := sc_v T sc (7 * c + 3)
  obtain ⟨v4, r4, e4⟩ := sc_v T sc (7 * c + 4)
  obtain ⟨v5, r5, e5⟩ := sc_v T sc (7 * c + 5)
  have ks := hW.2.1
  have ho := hW.2.2.1
  have hz := hW.1
  have hn := hW.2.2.2.1
  have kx := hD.kx
  have km := hM.1.k
  have hx : x + 857 ≤ T.2.2.2.2.1 := by omega
  have n5 : (5 : Int32) = iI 5 := rfl
  have n6 : (6 : Int32) = iI 6 := rfl
  have t2 : (((7 * c : Nat) : Int) + 2).toNat = 7 * c + 2 := by omega
  have t3 : (((7 * c : Nat) : Int) + 3).toNat = 7 * c + 3 := by omega
  have t4 : (((7 * c : Nat) : Int) + 4).toNat = 7 * c + 4 := by omega
  have t5 : (((7 * c : Nat) : Int) + 5).toNat = 7 * c + 5 := by omega
  have t6 : (((7 * c : Nat) : Int) + 6).toNat = 7 * c + 6 := by omega
  simp (maxSteps := 4000000) (disch := first | (simp (disch := omega) only [XB_i, XB_n, va_rf_s, va_rf_n, mSI_K, mSI_I, mSI_J, mSI_P, mSI_N, mSJ_K, mSJ_I, mSJ_J, mSJ_P, mSJ_N, mSP_K, mSP_I, mSP_J, mSP_P, mSP_N, mNn, mNi, mNr, mN0, al20, al21, al22, al23, al25, true_or, or_true, and_self, if_true, if_false, mCat_n, mCat_i, mCat_r, mCat_l, mCat_0, Nat.reduceAdd, Nat.reduceLeDiff, Nat.reduceLT, true_and, and_true, Nat.zero_le, bI_01, mInB_J, mInB_Z, mInB_N, ks, e1, e2, e3, e4, e5, n5, n6, t2, t3, t4, t5, t6]; done) | omega | (unfold R32 at *; omega)) only [e_193_450, e_193_450_n, e_193_451, e_193_451_n, e_193_452, e_193_454, e_193_455, e_193_456, e_193_457, e_193_457_n, e_193_458, e_193_460, e_193_461, e_193_462, e_193_463, e_193_463_n, e_193_464, e_193_466, e_193_467, e_193_468, e_193_469, e_193_469_n, e_193_470, e_193_472, e_193_473, e_193_474, e_193_475, e_193_475_n, e_193_476, e_193_478, e_193_479, e_193_480, XB_i, XB_n, va_rf_s, va_rf_n, mSI_K, mSI_I, mSI_J, mSI_P, mSI_N, mSJ_K, mSJ_I, mSJ_J, mSJ_P, mSJ_N, mSP_K, mSP_I, mSP_J, mSP_P, mSP_N, mNn, mNi, mNr, mN0, al20, al21, al22, al23, al25, true_or, or_true, and_self, if_true, if_false, mCat_n, mCat_i, mCat_r, mCat_l, mCat_0, Nat.reduceAdd, Nat.reduceLeDiff, Nat.reduceLT, true_and, and_true, Nat.zero_le, bI_01, bI_0, i10, tf0, iI_add, iI_sub, iI_mul, iI_neg, iI_add1, iI_sub1, iI_m1, nca, nc1, ncm1, iI_clJ, iI_cl0, iI_clN, Int.toNat_natCast, mU_n, mU_s, p_min, p_max, p_abs, ni_2, ni_3, ni_4, ni_7, ni_8, ni_9, ni_12, ni_24, ni_97, ni_100, ni_122, ni_200, ni_256, ni_4096, ni_5000, ni_9999, iI_lt, iI_le, iI_eq, iz_eq, iz_lt, iz_le, iz_gt, iz_ge, iy_eq, iy_lt, iy_le, iI_ltN, iI_leN, iI_eqN, if_pos, if_neg, ks, e1, e2, e3, e4, e5, n5, n6, t2, t3, t4, t5, t6]
  refine c_193_481 (by simp only [XB_i, XB_n, va_rf_s, va_rf_n, mSI_K, mSI_I, mSI_J, mSI_P, mSI_N, mSJ_K, mSJ_I, mSJ_J, mSJ_P, mSJ_N, mSP_K, mSP_I, mSP_J, mSP_P, mSP_N, mNn, mNi, mNr, mN0, al20, al21, al22, al23, al25, true_or, or_true, and_self, if_true, if_false, mCat_n, mCat_i, mCat_r, mCat_l, mCat_0, Nat.reduceAdd, Nat.reduceLeDiff, Nat.reduceLT, true_and, and_true, Nat.zero_le, bI_01]) (wr_region (by rw [kx]) (dk_region (R := (v1, v2, v3, v4, v5)) hz hx hD r1 r2 r3 r4 r5 (fun hR T2 hD2 hG => ?_) (fun hR T2 hD2 hG => ?_)))
  · have hM2 := hM.gr hG (by omega) (fun b hb q => by have := hb.1; have := q.2; omega)
    have hW2 := hW.gr hG
    have ks2 := hW2.2.1
    have km2 := hM2.1.k
    have es := (hG.2.2 sc (fun q => by have := q.1; omega) (by omega)).1
    have d1 : T2.2.1 sc (7 * c + 1) = iI v1 := by rw [es]; exact e1
    have d2 : T2.2.1 sc (7 * c + 2) = iI v2 := by rw [es]; exact e2
    have d3 : T2.2.1 sc (7 * c + 3) = iI v3 := by rw [es]; exact e3
    have d4 : T2.2.1 sc (7 * c + 4) = iI v4 := by rw [es]; exact e4
    have d5 : T2.2.1 sc (7 * c + 5) = iI v5 := by rw [es]; exact e5
    refine ⟨hG.1, Or.inl ⟨rfl, ?_⟩⟩
    have fJ : Fr (fun b => b = o) T2 T2 := Fr.rf
    have hDb := hD2.fr fJ (fun b hb q => by have := hb.2; omega)
    have hMb := hM2.fr fJ (fun b hb q => by have := hb.2; omega)
    have hWb := hW2.fr fJ
    have ksb := hWb.2.1
    have kmb := hMb.1.k
    have b1 : T2.2.1 sc (7 * c + 1) = iI v1 := by rw [(fJ.2.2 sc (by omega)).1]; exact d1
    have b2 : T2.2.1 sc (7 * c + 2) = iI v2 := by rw [(fJ.2.2 sc (by omega)).1]; exact d2
    have b3 : T2.2.1 sc (7 * c + 3) = iI v3 := by rw [(fJ.2.2 sc (by omega)).1]; exact d3
    have b4 : T2.2.1 sc (7 * c + 4) = iI v4 := by rw [(fJ.2.2 sc (by omega)).1]; exact d4
    have b5 : T2.2.1 sc (7 * c + 5) = iI v5 := by rw [(fJ.2.2 sc (by omega)).1]; exact d5
    simp (maxSteps := 4000000) (disch := first | (simp (disch := omega) only [XB_i, XB_n, va_rf_s, va_rf_n, mSI_K, mSI_I, mSI_J, mSI_P, mSI_N, mSJ_K, mSJ_I, mSJ_J, mSJ_P, mSJ_N, mSP_K, mSP_I, mSP_J, mSP_P, mSP_N, mNn, mNi, mNr, mN0, al20, al21, al22, al23, al25, true_or, or_true, and_self, if_true, if_false, mCat_n, mCat_i, mCat_r, mCat_l, mCat_0, Nat.reduceAdd, Nat.reduceLeDiff, Nat.reduceLT, true_and, and_true, Nat.zero_le, bI_01, mInB_J, mInB_Z, mInB_N, ksb, b1, b2, b3, b4, b5, n5, n6, t2, t3, t4, t5, t6]; done) | omega | (unfold R32 at *; omega)) only [e_193_484, e_193_486, e_193_486_n, e_193_487, e_193_487_n, e_193_488, e_193_490, e_193_491, e_193_492, e_193_493, e_193_493_n, e_193_494, e_193_496, e_193_497, e_193_498, e_193_499, e_193_499_n, e_193_500, e_193_502, e_193_503, e_193_504, e_193_505, e_193_505_n, e_193_506, e_193_508, e_193_509, e_193_510, e_193_511, e_193_511_n, e_193_512, e_193_514, e_193_515, e_193_516, XB_i, XB_n, va_rf_s, va_rf_n, mSI_K, mSI_I, mSI_J, mSI_P, mSI_N, mSJ_K, mSJ_I, mSJ_J, mSJ_P, mSJ_N, mSP_K, mSP_I, mSP_J, mSP_P, mSP_N, mNn, mNi, mNr, mN0, al20, al21, al22, al23, al25, true_or, or_true, and_self, if_true, if_false, mCat_n, mCat_i, mCat_r, mCat_l, mCat_0, Nat.reduceAdd, Nat.reduceLeDiff, Nat.reduceLT, true_and, and_true, Nat.zero_le, bI_01, bI_0, i10, tf0, iI_add, iI_sub, iI_mul, iI_neg, iI_add1, iI_sub1, iI_m1, nca, nc1, ncm1, iI_clJ, iI_cl0, iI_clN, Int.toNat_natCast, mU_n, mU_s, p_min, p_max, p_abs, ni_2, ni_3, ni_4, ni_7, ni_8, ni_9, ni_12, ni_24, ni_97, ni_100, ni_122, ni_200, ni_256, ni_4096, ni_5000, ni_9999, iI_lt, iI_le, iI_eq, iz_eq, iz_lt, iz_le, iz_gt, iz_ge, iy_eq, iy_lt, iy_le, iI_ltN, iI_leN, iI_eqN, if_pos, if_neg, ksb, b1, b2, b3, b4, b5, n5, n6, t2, t3, t4, t5, t6]
    refine c_193_517 (by simp only [XB_i, XB_n, va_rf_s, va_rf_n, mSI_K, mSI_I, mSI_J, mSI_P, mSI_N, mSJ_K, mSJ_I, mSJ_J, mSJ_P, mSJ_N, mSP_K, mSP_I, mSP_J, mSP_P, mSP_N, mNn, mNi, mNr, mN0, al20, al21, al22, al23, al25, true_or, or_true, and_self, if_true, if_false, mCat_n, mCat_i, mCat_r, mCat_l, mCat_0, Nat.reduceAdd, Nat.reduceLeDiff, Nat.reduceLT, true_and, and_true, Nat.zero_le, bI_01]) (by rw [kmb]) (md_region hMb (R := (v1, v2, v3, v4, v5)) r1 r2 r3 r4 r5 (fun _ T3 hM3 h13 hF => ?_) (fun z => absurd hR z))
    change T3.2.1 m 13 = 0 at h13
    have hW3 := hWb.fr hF
    have hD3 := hDb.fr hF (fun b hb q => by have := hb.2; have := q.1; omega)
    have km3 := hM3.1.k
    have pt := fun Q => @m_thrown T3 Q m _ hM3.1 h13
    simp (maxSteps := 4000000) (disch := first | (simp (disch := omega) only [XB_i, XB_n, va_rf_s, va_rf_n, mSI_K, mSI_I, mSI_J, mSI_P, mSI_N, mSJ_K, mSJ_I, mSJ_J, mSJ_P, mSJ_N, mSP_K, mSP_I, mSP_J, mSP_P, mSP_N, mNn, mNi, mNr, mN0, al20, al21, al22, al23, al25, true_or, or_true, and_self, if_true, if_false, mCat_n, mCat_i, mCat_r, mCat_l, mCat_0, Nat.reduceAdd, Nat.reduceLeDiff, Nat.reduceLT, true_and, and_true, Nat.zero_le, bI_01, mInB_J, mInB_Z, mInB_N, km3, pt, eqT]; done) | omega | (unfold R32 at *; omega)) only [e_193_520, e_193_520_n, e_193_524, e_193_526, e_193_529, e_193_530, e_193_531, d_193_521, XB_i, XB_n, va_rf_s, va_rf_n, mSI_K, mSI_I, mSI_J, mSI_P, mSI_N, mSJ_K, mSJ_I, mSJ_J, mSJ_P, mSJ_N, mSP_K, mSP_I, mSP_J, mSP_P, mSP_N, mNn, mNi, mNr, mN0, al20, al21, al22, al23, al25, true_or, or_true, and_self, if_true, if_false, mCat_n, mCat_i, mCat_r, mCat_l, mCat_0, Nat.reduceAdd, Nat.reduceLeDiff, Nat.reduceLT, true_and, and_true, Nat.zero_le, bI_01, bI_0, i10, tf0, iI_add, iI_sub, iI_mul, iI_neg, iI_add1, iI_sub1, iI_m1, nca, nc1, ncm1, iI_clJ, iI_cl0, iI_clN, Int.toNat_natCast, mU_n, mU_s, p_min, p_max, p_abs, ni_2, ni_3, ni_4, ni_7, ni_8, ni_9, ni_12, ni_24, ni_97, ni_100, ni_122, ni_200, ni_256, ni_4096, ni_5000, ni_9999, iI_lt, iI_le, iI_eq, iz_eq, iz_lt, iz_le, iz_gt, iz_ge, iy_eq, iy_lt, iy_le, iI_ltN, iI_leN, iI_eqN, if_pos, if_neg, km3, pt, eqT]
    exact hQ T3 _ _ ⟨_, _, _, _, _, _, _, _, hD3, hM3, hI.region hR, by omega, hW3⟩
  · have hM2 := hM.gr hG (by omega) (fun b hb q => by have := hb.1; have := q.2; omega)
    have hW2 := hW.gr hG
    have ks2 := hW2.2.1
    have km2 := hM2.1.k
    have es := (hG.2.2 sc (fun q => by have := q.1; omega) (by omega)).1
    have d1 : T2.2.1 sc (7 * c + 1) = iI v1 := by rw [es]; exact e1
    have d2 : T2.2.1 sc (7 * c + 2) = iI v2 := by rw [es]; exact e2
    have d3 : T2.2.1 sc (7 * c + 3) = iI v3 := by rw [es]; exact e3
    have d4 : T2.2.1 sc (7 * c + 4) = iI v4 := by rw [es]; exact e4
    have d5 : T2.2.1 sc (7 * c + 5) = iI v5 := by rw [es]; exact e5
    refine ⟨hG.1, Or.inr ⟨0, 1, rfl, rfl, ?_⟩⟩
    have fJ : Fr (fun b => b = o) T2 T2 := Fr.rf
    have hDb := hD2.fr fJ (fun b hb q => by have := hb.2; omega)
    have hMb := hM2.fr fJ (fun b hb q => by have := hb.2; omega)
    have hWb := hW2.fr fJ
    have ksb := hWb.2.1
    have kmb := hMb.1.k
    have b1 : T2.2.1 sc (7 * c + 1) = iI v1 := by rw [(fJ.2.2 sc (by omega)).1]; exact d1
    have b2 : T2.2.1 sc (7 * c + 2) = iI v2 := by rw [(fJ.2.2 sc (by omega)).1]; exact d2
    have b3 : T2.2.1 sc (7 * c + 3) = iI v3 := by rw [(fJ.2.2 sc (by omega)).1]; exact d3
    have b4 : T2.2.1 sc (7 * c + 4) = iI v4 := by rw [(fJ.2.2 sc (by omega)).1]; exact d4
    have b5 : T2.2.1 sc (7 * c + 5) = iI v5 := by rw [(fJ.2.2 sc (by omega)).1]; exact d5
    simp (maxSteps := 4000000) (disch := first | (simp (disch := omega) only [XB_i, XB_n, va_rf_s, va_rf_n, mSI_K, mSI_I, mSI_J, mSI_P, mSI_N, mSJ_K, mSJ_I, mSJ_J, mSJ_P, mSJ_N, mSP_K, mSP_I, mSP_J, mSP_P, mSP_N, mNn, mNi, mNr, mN0, al20, al21, al22, al23, al25, true_or, or_true, and_self, if_true, if_false, mCat_n, mCat_i, mCat_r, mCat_l, mCat_0, Nat.reduceAdd, Nat.reduceLeDiff, Nat.reduceLT, true_and, and_true, Nat.zero_le, bI_01, mInB_J, mInB_Z, mInB_N, ksb, b1, b2, b3, b4, b5, n5, n6, t2, t3, t4, t5, t6]; done) | omega | (unfold R32 at *; omega)) only [e_193_484, e_193_486, e_193_486_n, e_193_487, e_193_487_n, e_193_488, e_193_490, e_193_491, e_193_492, e_193_493, e_193_493_n, e_193_494, e_193_496, e_193_497, e_193_498, e_193_499, e_193_499_n, e_193_500, e_193_502, e_193_503, e_193_504, e_193_505, e_193_505_n, e_193_506, e_193_508, e_193_509, e_193_510, e_193_511, e_193_511_n, e_193_512, e_193_514, e_193_515, e_193_516, XB_i, XB_n, va_rf_s, va_rf_n, mSI_K, mSI_I, mSI_J, mSI_P, mSI_N, mSJ_K, mSJ_I, mSJ_J, mSJ_P, mSJ_N, mSP_K, mSP_I, mSP_J, mSP_P, mSP_N, mNn, mNi, mNr, mN0, al20, al21, al22, al23, al25, true_or, or_true, and_self, if_true, if_false, mCat_n, mCat_i, mCat_r, mCat_l, mCat_0, Nat.reduceAdd, Nat.reduceLeDiff, Nat.reduceLT, true_and, and_true, Nat.zero_le, bI_01, bI_0, i10, tf0, iI_add, iI_sub, iI_mul, iI_neg, iI_add1, iI_sub1, iI_m1, nca, nc1, ncm1, iI_clJ, iI_cl0, iI_clN, Int.toNat_natCast, mU_n, mU_s, p_min, p_max, p_abs, ni_2, ni_3, ni_4, ni_7, ni_8, ni_9, ni_12, ni_24, ni_97, ni_100, ni_122, ni_200, ni_256, ni_4096, ni_5000, ni_9999, iI_lt, iI_le, iI_eq, iz_eq, iz_lt, iz_le, iz_gt, iz_ge, iy_eq, iy_lt, iy_le, iI_ltN, iI_leN, iI_eqN, if_pos, if_neg, ksb, b1, b2, b3, b4, b5, n5, n6, t2, t3, t4, t5, t6]
    refine c_193_517 (by simp only [XB_i, XB_n, va_rf_s, va_rf_n, mSI_K, mSI_I, mSI_J, mSI_P, mSI_N, mSJ_K, mSJ_I, mSJ_J, mSJ_P, mSJ_N, mSP_K, mSP_I, mSP_J, mSP_P, mSP_N, mNn, mNi, mNr, mN0, al20, al21, al22, al23, al25, true_or, or_true, and_self, if_true, if_false, mCat_n, mCat_i, mCat_r, mCat_l, mCat_0, Nat.reduceAdd, Nat.reduceLeDiff, Nat.reduceLT, true_and, and_true, Nat.zero_le, bI_01]) (by rw [kmb]) (md_region hMb (R := (v1, v2, v3, v4, v5)) r1 r2 r3 r4 r5 (fun z => absurd z hR) (fun _ T3 hM3 h13 hF => ?_))
    change T3.2.1 m 13 = 1 at h13
    have hW3 := hWb.fr hF
    have hD3 := hDb.fr hF (fun b hb q => by have := hb.2; have := q.1; omega)
    have km3 := hM3.1.k
    have pt := fun Q => @m_thrown T3 Q m _ hM3.1 h13
    simp (maxSteps := 4000000) (disch := first | (simp (disch := omega) only [XB_i, XB_n, va_rf_s, va_rf_n, mSI_K, mSI_I, mSI_J, mSI_P, mSI_N, mSJ_K, mSJ_I, mSJ_J, mSJ_P, mSJ_N, mSP_K, mSP_I, mSP_J, mSP_P, mSP_N, mNn, mNi, mNr, mN0, al20, al21, al22, al23, al25, true_or, or_true, and_self, if_true, if_false, mCat_n, mCat_i, mCat_r, mCat_l, mCat_0, Nat.reduceAdd, Nat.reduceLeDiff, Nat.reduceLT, true_and, and_true, Nat.zero_le, bI_01, mInB_J, mInB_Z, mInB_N, km3, pt, eqT]; done) | omega | (unfold R32 at *; omega)) only [e_193_520, e_193_520_n, e_193_524, e_193_526, e_193_529, e_193_530, e_193_531, d_193_521, XB_i, XB_n, va_rf_s, va_rf_n, mSI_K, mSI_I, mSI_J, mSI_P, mSI_N, mSJ_K, mSJ_I, mSJ_J, mSJ_P, mSJ_N, mSP_K, mSP_I, mSP_J, mSP_P, mSP_N, mNn, mNi, mNr, mN0, al20, al21, al22, al23, al25, true_or, or_true, and_self, if_true, if_false, mCat_n, mCat_i, mCat_r, mCat_l, mCat_0, Nat.reduceAdd, Nat.reduceLeDiff, Nat.reduceLT, true_and, and_true, Nat.zero_le, bI_01, bI_0, i10, tf0, iI_add, iI_sub, iI_mul, iI_neg, iI_add1, iI_sub1, iI_m1, nca, nc1, ncm1, iI_clJ, iI_cl0, iI_clN, Int.toNat_natCast, mU_n, mU_s, p_min, p_max, p_abs, ni_2, ni_3, ni_4, ni_7, ni_8, ni_9, ni_12, ni_24, ni_97, ni_100, ni_122, ni_200, ni_256, ni_4096, ni_5000, ni_9999, iI_lt, iI_le, iI_eq, iz_eq, iz_lt, iz_le, iz_gt, iz_ge, iy_eq, iy_lt, iy_le, iI_ltN, iI_leN, iI_eqN, if_pos, if_neg, km3, pt, eqT]
    exact hQ T3 _ _ ⟨_, _, _, _, _, _, _, _, hD3, hM3, hI, by omega, hW3⟩
theorem lw_extract (g : Geo sc x m o) (h : Wd T sc N x m o c n0 u0) (hN : 7 * c + 7 ≤ N) (hN2 : N ≤ 3584) (hQ : ∀ T2 l5 l6, Wd T2 sc N x m o (c + 1) n0 u0 → XW 193 1042 [some (.ref (sc)), some (.ref (x)), some (.ref (m)), some (.ref (o)), some (.int (iI ((7 * c : Nat) : Int))), l5, l6] [] T2 Q) (l5 l6 : Option Value) : XW 193 534 [some (.ref (sc)), some (.ref (x)), some (.ref (m)), some (.ref (o)), some (.int (iI ((7 * c : Nat) : Int))), l5, l6] [] T Q := by
  obtain ⟨cs, Fs, kp, cl, hb, rg, pk, df, hD, hM, hI, hcl, hW⟩ := h
  obtain ⟨gs, gx, gm⟩ := id g
  obtain ⟨v1, r1, e1⟩ := sc_v T sc (7 * c + 1)
  have ks := hW.2.1
  have ho := hW.2.2.1
  have hz := hW.1
  have hn := hW.2.2.2.1
  have kx := hD.kx
  have km := hM.1.k
  have hx : x + 857 ≤ T.2.2.2.2.1 := by omega
  have n5 : (5 : Int32) = iI 5 := rfl
  have n6 : (6 : Int32) = iI 6 := rfl
  have t2 : (((7 * c : Nat) : Int) + 2).toNat = 7 * c + 2 := by omega
  have t3 : (((7 * c : Nat) : Int) + 3).toNat = 7 * c + 3 := by omega
  have t4 : (((7 * c : Nat) : Int) + 4).toNat = 7 * c + 4 := by omega
  have t5 : (((7 * c : Nat) : Int) + 5).toNat = 7 * c + 5 := by omega
  have t6 : (((7 * c : Nat) : Int) + 6).toNat = 7 * c + 6 := by omega
  simp (maxSteps := 4000000) (disch := first | (simp (disch := omega) only [XB_i, XB_n, va_rf_s, va_rf_n, mSI_K, mSI_I, mSI_J, mSI_P, mSI_N, mSJ_K, mSJ_I, mSJ_J, mSJ_P, mSJ_N, mSP_K, mSP_I, mSP_J, mSP_P, mSP_N, mNn, mNi, mNr, mN0, al20, al21, al22, al23, al25, true_or, or_true, and_self, if_true, if_false, mCat_n, mCat_i, mCat_r, mCat_l, mCat_0, Nat.reduceAdd, Nat.reduceLeDiff, Nat.reduceLT, true_and, and_true, Nat.zero_le, bI_01, mInB_J, mInB_Z, mInB_N, ks, e1, n5, n6, t2, t3, t4, t5, t6]; done) | omega | (unfold R32 at *; omega)) only [e_193_534, e_193_534_n, e_193_535, e_193_535_n, e_193_536, e_193_538, e_193_539, e_193_540, e_193_541, e_193_541_n, XB_i, XB_n, va_rf_s, va_rf_n, mSI_K, mSI_I, mSI_J, mSI_P, mSI_N, mSJ_K, mSJ_I, mSJ_J, mSJ_P, mSJ_N, mSP_K, mSP_I, mSP_J, mSP_P, mSP_N, mNn, mNi, mNr, mN0, al20, al21, al22, al23, al25, true_or, or_true, and_self, if_true, if_false, mCat_n, mCat_i, mCat_r, mCat_l, mCat_0, Nat.reduceAdd, Nat.reduceLeDiff, Nat.reduceLT, true_and, and_true, Nat.zero_le, bI_01, bI_0, i10, tf0, iI_add, iI_sub, iI_mul, iI_neg, iI_add1, iI_sub1, iI_m1, nca, nc1, ncm1, iI_clJ, iI_cl0, iI_clN, Int.toNat_natCast, mU_n, mU_s, p_min, p_max, p_abs, ni_2, ni_3, ni_4, ni_7, ni_8, ni_9, ni_12, ni_24, ni_97, ni_100, ni_122, ni_200, ni_256, ni_4096, ni_5000, ni_9999, iI_lt, iI_le, iI_eq, iz_eq, iz_lt, iz_le, iz_gt, iz_ge, iy_eq, iy_lt, iy_le, iI_ltN, iI_leN, iI_eqN, if_pos, if_neg, ks, e1, n5, n6, t2, t3, t4, t5, t6]
  refine c_193_542 (by simp only [XB_i, XB_n, va_rf_s, va_rf_n, mSI_K, mSI_I, mSI_J, mSI_P, mSI_N, mSJ_K, mSJ_I, mSJ_J, mSJ_P, mSJ_N, mSP_K, mSP_I, mSP_J, mSP_P, mSP_N, mNn, mNi, mNr, mN0, al20, al21, al22, al23, al25, true_or, or_true, and_self, if_true, if_false, mCat_n, mCat_i, mCat_r, mCat_l, mCat_0, Nat.reduceAdd, Nat.reduceLeDiff, Nat.reduceLT, true_and, and_true, Nat.zero_le, bI_01]) (wr_extract (by rw [kx]) ho (dk_extract hz hx hD hI.1 r1 (fun q T2 hD2 hG => ?_) (fun Gs eg q T2 hD2 hG => ?_) (fun Gs R eg er q ht T2 hD2 hG => ?_)))
  · have hM2 := hM.gr hG (by omega) (fun b hb q => by have := hb.1; have := q.2; omega)
    have hW2 := hW.gr hG
    have ks2 := hW2.2.1
    have km2 := hM2.1.k
    have es := (hG.2.2 sc (fun q => by have := q.1; omega) (by omega)).1
    have d1 : T2.2.1 sc (7 * c + 1) = iI v1 := by rw [es]; exact e1
    refine ⟨hG.1, Or.inr ⟨2, 1, rfl, rfl, ?_⟩⟩
    have fJ : Fr (fun b => b = o) T2 T2 := Fr.rf
    have hDb := hD2.fr fJ (fun b hb q => by have := hb.2; omega)
    have hMb := hM2.fr fJ (fun b hb q => by have := hb.2; omega)
    have hWb := hW2.fr fJ
    have ksb := hWb.2.1
    have kmb := hMb.1.k
    have b1 : T2.2.1 sc (7 * c + 1) = iI v1 := by rw [(fJ.2.2 sc (by omega)).1]; exact d1
    simp (maxSteps := 4000000) (disch := first | (simp (disch := omega) only [XB_i, XB_n, va_rf_s, va_rf_n, mSI_K, mSI_I, mSI_J, mSI_P, mSI_N, mSJ_K, mSJ_I, mSJ_J, mSJ_P, mSJ_N, mSP_K, mSP_I, mSP_J, mSP_P, mSP_N, mNn, mNi, mNr, mN0, al20, al21, al22, al23, al25, true_or, or_true, and_self, if_true, if_false, mCat_n, mCat_i, mCat_r, mCat_l, mCat_0, Nat.reduceAdd, Nat.reduceLeDiff, Nat.reduceLT, true_and, and_true, Nat.zero_le, bI_01, mInB_J, mInB_Z, mInB_N, ksb, b1, n5, n6, t2, t3, t4, t5, t6]; done) | omega | (unfold R32 at *; omega)) only [e_193_545, e_193_547, e_193_547_n, e_193_548, e_193_548_n, e_193_549, e_193_551, e_193_552, e_193_553, XB_i, XB_n, va_rf_s, va_rf_n, mSI_K, mSI_I, mSI_J, mSI_P, mSI_N, mSJ_K, mSJ_I, mSJ_J, mSJ_P, mSJ_N, mSP_K, mSP_I, mSP_J, mSP_P, mSP_N, mNn, mNi, mNr, mN0, al20, al21, al22, al23, al25, true_or, or_true, and_self, if_true, if_false, mCat_n, mCat_i, mCat_r, mCat_l, mCat_0, Nat.reduceAdd, Nat.reduceLeDiff, Nat.reduceLT, true_and, and_true, Nat.zero_le, bI_01, bI_0, i10, tf0, iI_add, iI_sub, iI_mul, iI_neg, iI_add1, iI_sub1, iI_m1, nca, nc1, ncm1, iI_clJ, iI_cl0, iI_clN, Int.toNat_natCast, mU_n, mU_s, p_min, p_max, p_abs, ni_2, ni_3, ni_4, ni_7, ni_8, ni_9, ni_12, ni_24, ni_97, ni_100, ni_122, ni_200, ni_256, ni_4096, ni_5000, ni_9999, iI_lt, iI_le, iI_eq, iz_eq, iz_lt, iz_le, iz_gt, iz_ge, iy_eq, iy_lt, iy_le, iI_ltN, iI_leN, iI_eqN, if_pos, if_neg, ksb, b1, n5, n6, t2, t3, t4, t5, t6]
    refine c_193_554 (by simp only [XB_i, XB_n, va_rf_s, va_rf_n, mSI_K, mSI_I, mSI_J, mSI_P, mSI_N, mSJ_K, mSJ_I, mSJ_J, mSJ_P, mSJ_N, mSP_K, mSP_I, mSP_J, mSP_P, mSP_N, mNn, mNi, mNr, mN0, al20, al21, al22, al23, al25, true_or, or_true, and_self, if_true, if_false, mCat_n, mCat_i, mCat_r, mCat_l, mCat_0, Nat.reduceAdd, Nat.reduceLeDiff, Nat.reduceLT, true_and, and_true, Nat.zero_le, bI_01]) (by rw [kmb]) (md_extract hMb hI.1 hI.2.1 r1 (fun _ T3 hM3 h13 hF => ?_) (fun Gs2 e2 => absurd e2 (by rw [q]; simp)) (fun Gs2 R2 e2 => absurd e2 (by rw [q]; simp)))
    change T3.2.1 m 13 = 1 at h13
    have hW3 := hWb.fr hF
    have hD3 := hDb.fr hF (fun b hb q => by have := hb.2; have := q.1; omega)
    have km3 := hM3.1.k
    have pt := fun Q => @m_thrown T3 Q m _ hM3.1 h13
    simp (maxSteps := 4000000) (disch := first | (simp (disch := omega) only [XB_i, XB_n, va_rf_s, va_rf_n, mSI_K, mSI_I, mSI_J, mSI_P, mSI_N, mSJ_K, mSJ_I, mSJ_J, mSJ_P, mSJ_N, mSP_K, mSP_I, mSP_J, mSP_P, mSP_N, mNn, mNi, mNr, mN0, al20, al21, al22, al23, al25, true_or, or_true, and_self, if_true, if_false, mCat_n, mCat_i, mCat_r, mCat_l, mCat_0, Nat.reduceAdd, Nat.reduceLeDiff, Nat.reduceLT, true_and, and_true, Nat.zero_le, bI_01, mInB_J, mInB_Z, mInB_N, km3, pt, eqT, i20]; done) | omega | (unfold R32 at *; omega)) only [e_193_557, e_193_559, e_193_559_n, e_193_563, e_193_565, e_193_568, e_193_569, e_193_570, e_193_572, e_193_575, e_193_575_n, e_193_576, e_193_577, e_193_578, e_193_580, e_193_581, e_193_582, e_193_585, e_193_586, e_193_587, d_193_560, XB_i, XB_n, va_rf_s, va_rf_n, mSI_K, mSI_I, mSI_J, mSI_P, mSI_N, mSJ_K, mSJ_I, mSJ_J, mSJ_P, mSJ_N, mSP_K, mSP_I, mSP_J, mSP_P, mSP_N, mNn, mNi, mNr, mN0, al20, al21, al22, al23, al25, true_or, or_true, and_self, if_true, if_false, mCat_n, mCat_i, mCat_r, mCat_l, mCat_0, Nat.reduceAdd, Nat.reduceLeDiff, Nat.reduceLT, true_and, and_true, Nat.zero_le, bI_01, bI_0, i10, tf0, iI_add, iI_sub, iI_mul, iI_neg, iI_add1, iI_sub1, iI_m1, nca, nc1, ncm1, iI_clJ, iI_cl0, iI_clN, Int.toNat_natCast, mU_n, mU_s, p_min, p_max, p_abs, ni_2, ni_3, ni_4, ni_7, ni_8, ni_9, ni_12, ni_24, ni_97, ni_100, ni_122, ni_200, ni_256, ni_4096, ni_5000, ni_9999, iI_lt, iI_le, iI_eq, iz_eq, iz_lt, iz_le, iz_gt, iz_ge, iy_eq, iy_lt, iy_le, iI_ltN, iI_leN, iI_eqN, if_pos, if_neg, km3, pt, eqT, i20]
    exact hQ T3 _ _ ⟨_, _, _, _, _, _, _, _, hD3, hM3, hI, by omega, hW3⟩
  · have hM2 := hM.gr hG (by omega) (fun b hb q => by have := hb.1; have := q.2; omega)
    have hW2 := hW.gr hG
    have ks2 := hW2.2.1
    have km2 := hM2.1.k
    have es := (hG.2.2 sc (fun q => by have := q.1; omega) (by omega)).1
    have d1 : T2.2.1 sc (7 * c + 1) = iI v1 := by rw [es]; exact e1
    refine ⟨hG.1, Or.inr ⟨1, 2, rfl, rfl, ?_⟩⟩
    have fJ : Fr (fun b => b = o) T2 T2 := Fr.rf
    have hDb := hD2.fr fJ (fun b hb q => by have := hb.2; omega)
    have hMb := hM2.fr fJ (fun b hb q => by have := hb.2; omega)
    have hWb := hW2.fr fJ
    have ksb := hWb.2.1
    have kmb := hMb.1.k
    have b1 : T2.2.1 sc (7 * c + 1) = iI v1 := by rw [(fJ.2.2 sc (by omega)).1]; exact d1
    simp (maxSteps := 4000000) (disch := first | (simp (disch := omega) only [XB_i, XB_n, va_rf_s, va_rf_n, mSI_K, mSI_I, mSI_J, mSI_P, mSI_N, mSJ_K, mSJ_I, mSJ_J, mSJ_P, mSJ_N, mSP_K, mSP_I, mSP_J, mSP_P, mSP_N, mNn, mNi, mNr, mN0, al20, al21, al22, al23, al25, true_or, or_true, and_self, if_true, if_false, mCat_n, mCat_i, mCat_r, mCat_l, mCat_0, Nat.reduceAdd, Nat.reduceLeDiff, Nat.reduceLT, true_and, and_true, Nat.zero_le, bI_01, mInB_J, mInB_Z, mInB_N, ksb, b1, n5, n6, t2, t3, t4, t5, t6]; done) | omega | (unfold R32 at *; omega)) only [e_193_545, e_193_547, e_193_547_n, e_193_548, e_193_548_n, e_193_549, e_193_551, e_193_552, e_193_553, XB_i, XB_n, va_rf_s, va_rf_n, mSI_K, mSI_I, mSI_J, mSI_P, mSI_N, mSJ_K, mSJ_I, mSJ_J, mSJ_P, mSJ_N, mSP_K, mSP_I, mSP_J, mSP_P, mSP_N, mNn, mNi, mNr, mN0, al20, al21, al22, al23, al25, true_or, or_true, and_self, if_true, if_false, mCat_n, mCat_i, mCat_r, mCat_l, mCat_0, Nat.reduceAdd, Nat.reduceLeDiff, Nat.reduceLT, true_and, and_true, Nat.zero_le, bI_01, bI_0, i10, tf0, iI_add, iI_sub, iI_mul, iI_neg, iI_add1, iI_sub1, iI_m1, nca, nc1, ncm1, iI_clJ, iI_cl0, iI_clN, Int.toNat_natCast, mU_n, mU_s, p_min, p_max, p_abs, ni_2, ni_3, ni_4, ni_7, ni_8, ni_9, ni_12, ni_24, ni_97, ni_100, ni_122, ni_200, ni_256, ni_4096, ni_5000, ni_9999, iI_lt, iI_le, iI_eq, iz_eq, iz_lt, iz_le, iz_gt, iz_ge, iy_eq, iy_lt, iy_le, iI_ltN, iI_leN, iI_eqN, if_pos, if_neg, ksb, b1, n5, n6, t2, t3, t4, t5, t6]
    refine c_193_554 (by simp only [XB_i, XB_n, va_rf_s, va_rf_n, mSI_K, mSI_I, mSI_J, mSI_P, mSI_N, mSJ_K, mSJ_I, mSJ_J, mSJ_P, mSJ_N, mSP_K, mSP_I, mSP_J, mSP_P, mSP_N, mNn, mNi, mNr, mN0, al20, al21, al22, al23, al25, true_or, or_true, and_self, if_true, if_false, mCat_n, mCat_i, mCat_r, mCat_l, mCat_0, Nat.reduceAdd, Nat.reduceLeDiff, Nat.reduceLT, true_and, and_true, Nat.zero_le, bI_01]) (by rw [kmb]) (md_extract hMb hI.1 hI.2.1 r1 (fun q2 => absurd eg (by rw [q2]; simp)) (fun Gs2 e2 q2 T3 hM3 h13 hF => ?_) (fun Gs2 R2 e2 er2 q2 => absurd q (by rw [eg] at e2; cases e2; rintro (z | ⟨R3, z, y⟩); rw [z] at er2; cases er2; rw [z] at er2; cases er2; rw [y] at q2; cases q2)))
    change T3.2.1 m 13 = 2 at h13
    have hW3 := hWb.fr hF
    have hD3 := hDb.fr hF (fun b hb q => by have := hb.2; have := q.1; omega)
    have km3 := hM3.1.k
    have pt := fun Q => @m_thrown T3 Q m _ hM3.1 h13
    simp (maxSteps := 4000000) (disch := first | (simp (disch := omega) only [XB_i, XB_n, va_rf_s, va_rf_n, mSI_K, mSI_I, mSI_J, mSI_P, mSI_N, mSJ_K, mSJ_I, mSJ_J, mSJ_P, mSJ_N, mSP_K, mSP_I, mSP_J, mSP_P, mSP_N, mNn, mNi, mNr, mN0, al20, al21, al22, al23, al25, true_or, or_true, and_self, if_true, if_false, mCat_n, mCat_i, mCat_r, mCat_l, mCat_0, Nat.reduceAdd, Nat.reduceLeDiff, Nat.reduceLT, true_and, and_true, Nat.zero_le, bI_01, mInB_J, mInB_Z, mInB_N, km3, pt, eqT, i20]; done) | omega | (unfold R32 at *; omega)) only [e_193_557, e_193_559, e_193_559_n, e_193_563, e_193_565, e_193_568, e_193_569, e_193_570, e_193_572, e_193_575, e_193_575_n, e_193_576, e_193_577, e_193_578, e_193_580, e_193_581, e_193_582, e_193_585, e_193_586, e_193_587, d_193_560, XB_i, XB_n, va_rf_s, va_rf_n, mSI_K, mSI_I, mSI_J, mSI_P, mSI_N, mSJ_K, mSJ_I, mSJ_J, mSJ_P, mSJ_N, mSP_K, mSP_I, mSP_J, mSP_P, mSP_N, mNn, mNi, mNr, mN0, al20, al21, al22, al23, al25, true_or, or_true, and_self, if_true, if_false, mCat_n, mCat_i, mCat_r, mCat_l, mCat_0, Nat.reduceAdd, Nat.reduceLeDiff, Nat.reduceLT, true_and, and_true, Nat.zero_le, bI_01, bI_0, i10, tf0, iI_add, iI_sub, iI_mul, iI_neg, iI_add1, iI_sub1, iI_m1, nca, nc1, ncm1, iI_clJ, iI_cl0, iI_clN, Int.toNat_natCast, mU_n, mU_s, p_min, p_max, p_abs, ni_2, ni_3, ni_4, ni_7, ni_8, ni_9, ni_12, ni_24, ni_97, ni_100, ni_122, ni_200, ni_256, ni_4096, ni_5000, ni_9999, iI_lt, iI_le, iI_eq, iz_eq, iz_lt, iz_le, iz_gt, iz_ge, iy_eq, iy_lt, iy_le, iI_ltN, iI_leN, iI_eqN, if_pos, if_neg, km3, pt, eqT, i20]
    exact hQ T3 _ _ ⟨_, _, _, _, _, _, _, _, hD3, hM3, hI, by omega, hW3⟩
  · have hM2 := hM.gr hG (by omega) (fun b hb q => by have := hb.1; have := q.2; omega)
    have hW2 := hW.gr hG
    have ks2 := hW2.2.1
    have km2 := hM2.1.k
    have es := (hG.2.2 sc (fun q => by have := q.1; omega) (by omega)).1
    have d1 : T2.2.1 sc (7 * c + 1) = iI v1 := by rw [es]; exact e1
    refine ⟨hG.1, Or.inl ⟨_, rfl, ?_⟩⟩
    generalize hTb : mSJ T2 o 0 _ = Tb
    have fJ : Fr (fun b => b = o) T2 Tb := by rw [← hTb]; exact Fr.oJ _
    have hDb := hD2.fr fJ (fun b hb q => by have := hb.2; omega)
    have hMb := hM2.fr fJ (fun b hb q => by have := hb.2; omega)
    have hWb := hW2.fr fJ
    have ksb := hWb.2.1
    have kmb := hMb.1.k
    have b1 : Tb.2.1 sc (7 * c + 1) = iI v1 := by rw [(fJ.2.2 sc (by omega)).1]; exact d1
    simp (maxSteps := 4000000) (disch := first | (simp (disch := omega) only [XB_i, XB_n, va_rf_s, va_rf_n, mSI_K, mSI_I, mSI_J, mSI_P, mSI_N, mSJ_K, mSJ_I, mSJ_J, mSJ_P, mSJ_N, mSP_K, mSP_I, mSP_J, mSP_P, mSP_N, mNn, mNi, mNr, mN0, al20, al21, al22, al23, al25, true_or, or_true, and_self, if_true, if_false, mCat_n, mCat_i, mCat_r, mCat_l, mCat_0, Nat.reduceAdd, Nat.reduceLeDiff, Nat.reduceLT, true_and, and_true, Nat.zero_le, bI_01, mInB_J, mInB_Z, mInB_N, ksb, b1, n5, n6, t2, t3, t4, t5, t6]; done) | omega | (unfold R32 at *; omega)) only [e_193_545, e_193_547, e_193_547_n, e_193_548, e_193_548_n, e_193_549, e_193_551, e_193_552, e_193_553, XB_i, XB_n, va_rf_s, va_rf_n, mSI_K, mSI_I, mSI_J, mSI_P, mSI_N, mSJ_K, mSJ_I, mSJ_J, mSJ_P, mSJ_N, mSP_K, mSP_I, mSP_J, mSP_P, mSP_N, mNn, mNi, mNr, mN0, al20, al21, al22, al23, al25, true_or, or_true, and_self, if_true, if_false, mCat_n, mCat_i, mCat_r, mCat_l, mCat_0, Nat.reduceAdd, Nat.reduceLeDiff, Nat.reduceLT, true_and, and_true, Nat.zero_le, bI_01, bI_0, i10, tf0, iI_add, iI_sub, iI_mul, iI_neg, iI_add1, iI_sub1, iI_m1, nca, nc1, ncm1, iI_clJ, iI_cl0, iI_clN, Int.toNat_natCast, mU_n, mU_s, p_min, p_max, p_abs, ni_2, ni_3, ni_4, ni_7, ni_8, ni_9, ni_12, ni_24, ni_97, ni_100, ni_122, ni_200, ni_256, ni_4096, ni_5000, ni_9999, iI_lt, iI_le, iI_eq, iz_eq, iz_lt, iz_le, iz_gt, iz_ge, iy_eq, iy_lt, iy_le, iI_ltN, iI_leN, iI_eqN, if_pos, if_neg, ksb, b1, n5, n6, t2, t3, t4, t5, t6]
    refine c_193_554 (by simp only [XB_i, XB_n, va_rf_s, va_rf_n, mSI_K, mSI_I, mSI_J, mSI_P, mSI_N, mSJ_K, mSJ_I, mSJ_J, mSJ_P, mSJ_N, mSP_K, mSP_I, mSP_J, mSP_P, mSP_N, mNn, mNi, mNr, mN0, al20, al21, al22, al23, al25, true_or, or_true, and_self, if_true, if_false, mCat_n, mCat_i, mCat_r, mCat_l, mCat_0, Nat.reduceAdd, Nat.reduceLeDiff, Nat.reduceLT, true_and, and_true, Nat.zero_le, bI_01]) (by rw [kmb]) (md_extract hMb hI.1 hI.2.1 r1 (fun q2 => absurd eg (by rw [q2]; simp)) (fun Gs2 e2 q2 => absurd q2 (by rw [eg] at e2; cases e2; rintro (z | ⟨R3, z, y⟩); rw [z] at er; cases er; rw [z] at er; cases er; rw [y] at q; cases q)) (fun Gs2 R2 e2 er2 q2 T3 hM3 h13 hF => ?_))
    rw [eg] at e2
    cases e2
    rw [er] at er2
    cases er2
    have hW3 := hWb.fr hF
    have hD3 := hDb.fr hF (fun b hb q => by have := hb.2; have := q.1; omega)
    have km3 := hM3.1.k
    have pt := fun Q => @m_thrown T3 Q m _ hM3.1 h13
    have ko3 := hW3.2.2.1
    have i0 : mInB 0 1 = true := mInB_Z (by omega) (by omega)
    have eb := (congrArg (fun z : mT => z.2.2.1 o 0) hTb).symm.trans (mU_s _ _ _ _)
    have eo := (congrFun (hF.2.2 o (fun q => by have := q.2; omega)).2.1 0).trans eb
    simp (maxSteps := 4000000) (disch := first | (simp (disch := omega) only [XB_i, XB_n, va_rf_s, va_rf_n, mSI_K, mSI_I, mSI_J, mSI_P, mSI_N, mSJ_K, mSJ_I, mSJ_J, mSJ_P, mSJ_N, mSP_K, mSP_I, mSP_J, mSP_P, mSP_N, mNn, mNi, mNr, mN0, al20, al21, al22, al23, al25, true_or, or_true, and_self, if_true, if_false, mCat_n, mCat_i, mCat_r, mCat_l, mCat_0, Nat.reduceAdd, Nat.reduceLeDiff, Nat.reduceLT, true_and, and_true, Nat.zero_le, bI_01, mInB_J, mInB_Z, mInB_N, km3, pt, ko3, i0, iI_cl0, eo, lg_z, eqT]; done) | omega | (unfold R32 at *; omega)) only [e_193_557, e_193_559, e_193_559_n, e_193_563, e_193_565, e_193_568, e_193_569, e_193_570, e_193_572, e_193_575, e_193_575_n, e_193_576, e_193_577, e_193_578, e_193_580, e_193_581, e_193_582, e_193_585, e_193_586, e_193_587, d_193_560, XB_i, XB_n, va_rf_s, va_rf_n, mSI_K, mSI_I, mSI_J, mSI_P, mSI_N, mSJ_K, mSJ_I, mSJ_J, mSJ_P, mSJ_N, mSP_K, mSP_I, mSP_J, mSP_P, mSP_N, mNn, mNi, mNr, mN0, al20, al21, al22, al23, al25, true_or, or_true, and_self, if_true, if_false, mCat_n, mCat_i, mCat_r, mCat_l, mCat_0, Nat.reduceAdd, Nat.reduceLeDiff, Nat.reduceLT, true_and, and_true, Nat.zero_le, bI_01, bI_0, i10, tf0, iI_add, iI_sub, iI_mul, iI_neg, iI_add1, iI_sub1, iI_m1, nca, nc1, ncm1, iI_clJ, iI_cl0, iI_clN, Int.toNat_natCast, mU_n, mU_s, p_min, p_max, p_abs, ni_2, ni_3, ni_4, ni_7, ni_8, ni_9, ni_12, ni_24, ni_97, ni_100, ni_122, ni_200, ni_256, ni_4096, ni_5000, ni_9999, iI_lt, iI_le, iI_eq, iz_eq, iz_lt, iz_le, iz_gt, iz_ge, iy_eq, iy_lt, iy_le, iI_ltN, iI_leN, iI_eqN, if_pos, if_neg, km3, pt, ko3, i0, iI_cl0, eo, lg_z, eqT]
    exact hQ T3 _ _ ⟨_, _, _, _, _, _, _, _, hD3, hM3, hI.extract eg er ht r1, by omega, hW3⟩
theorem lw_difference (g : Geo sc x m o) (h : Wd T sc N x m o c n0 u0) (hN : 7 * c + 7 ≤ N) (hN2 : N ≤ 3584) (hQ : ∀ T2 l5 l6, Wd T2 sc N x m o (c + 1) n0 u0 → XW 193 1042 [some (.ref (sc)), some (.ref (x)), some (.ref (m)), some (.ref (o)), some (.int (iI ((7 * c : Nat) : Int))), l5, l6] [] T2 Q) (l5 l6 : Option Value) : XW 193 701 [some (.ref (sc)), some (.ref (x)), some (.ref (m)), some (.ref (o)), some (.int (iI ((7 * c : Nat) : Int))), l5, l6] [] T Q := by
  obtain ⟨cs, Fs, kp, cl, hb, rg, pk, df, hD, hM, hI, hcl, hW⟩ := h
  obtain ⟨gs, gx, gm⟩ := id g
  obtain ⟨v1, r1, e1⟩ := sc_v T sc (7 * c + 1)
  obtain ⟨v2, r2, e2⟩ := sc_v T sc (7 * c + 2)
  have ks := hW.2.1
  have ho := hW.2.2.1
  have hz := hW.1
  have hn := hW.2.2.2.1
  have kx := hD.kx
  have km := hM.1.k
  have hx : x + 857 ≤ T.2.2.2.2.1 := by omega
  have n5 : (5 : Int32) = iI 5 := rfl
  have n6 : (6 : Int32) = iI 6 := rfl
  have t2 : (((7 * c : Nat) : Int) + 2).toNat = 7 * c + 2 := by omega
  have t3 : (((7 * c : Nat) : Int) + 3).toNat = 7 * c + 3 := by omega
  have t4 : (((7 * c : Nat) : Int) + 4).toNat = 7 * c + 4 := by omega
  have t5 : (((7 * c : Nat) : Int) + 5).toNat = 7 * c + 5 := by omega
  have t6 : (((7 * c : Nat) : Int) + 6).toNat = 7 * c + 6 := by omega
  simp (maxSteps := 4000000) (disch := first | (simp (disch := omega) only [XB_i, XB_n, va_rf_s, va_rf_n, mSI_K, mSI_I, mSI_J, mSI_P, mSI_N, mSJ_K, mSJ_I, mSJ_J, mSJ_P, mSJ_N, mSP_K, mSP_I, mSP_J, mSP_P, mSP_N, mNn, mNi, mNr, mN0, al20, al21, al22, al23, al25, true_or, or_true, and_self, if_true, if_false, mCat_n, mCat_i, mCat_r, mCat_l, mCat_0, Nat.reduceAdd, Nat.reduceLeDiff, Nat.reduceLT, true_and, and_true, Nat.zero_le, bI_01, mInB_J, mInB_Z, mInB_N, ks, e1, e2, n5, n6, t2, t3, t4, t5, t6]; done) | omega | (unfold R32 at *; omega)) only [e_193_701, e_193_701_n, e_193_702, e_193_702_n, e_193_703, e_193_705, e_193_706, e_193_707, e_193_708, e_193_708_n, e_193_709, e_193_711, e_193_712, e_193_713, e_193_714, e_193_714_n, XB_i, XB_n, va_rf_s, va_rf_n, mSI_K, mSI_I, mSI_J, mSI_P, mSI_N, mSJ_K, mSJ_I, mSJ_J, mSJ_P, mSJ_N, mSP_K, mSP_I, mSP_J, mSP_P, mSP_N, mNn, mNi, mNr, mN0, al20, al21, al22, al23, al25, true_or, or_true, and_self, if_true, if_false, mCat_n, mCat_i, mCat_r, mCat_l, mCat_0, Nat.reduceAdd, Nat.reduceLeDiff, Nat.reduceLT, true_and, and_true, Nat.zero_le, bI_01, bI_0, i10, tf0, iI_add, iI_sub, iI_mul, iI_neg, iI_add1, iI_sub1, iI_m1, nca, nc1, ncm1, iI_clJ, iI_cl0, iI_clN, Int.toNat_natCast, mU_n, mU_s, p_min, p_max, p_abs, ni_2, ni_3, ni_4, ni_7, ni_8, ni_9, ni_12, ni_24, ni_97, ni_100, ni_122, ni_200, ni_256, ni_4096, ni_5000, ni_9999, iI_lt, iI_le, iI_eq, iz_eq, iz_lt, iz_le, iz_gt, iz_ge, iy_eq, iy_lt, iy_le, iI_ltN, iI_leN, iI_eqN, if_pos, if_neg, ks, e1, e2, n5, n6, t2, t3, t4, t5, t6]
  refine c_193_715 (by simp only [XB_i, XB_n, va_rf_s, va_rf_n, mSI_K, mSI_I, mSI_J, mSI_P, mSI_N, mSJ_K, mSJ_I, mSJ_J, mSJ_P, mSJ_N, mSP_K, mSP_I, mSP_J, mSP_P, mSP_N, mNn, mNi, mNr, mN0, al20, al21, al22, al23, al25, true_or, or_true, and_self, if_true, if_false, mCat_n, mCat_i, mCat_r, mCat_l, mCat_0, Nat.reduceAdd, Nat.reduceLeDiff, Nat.reduceLT, true_and, and_true, Nat.zero_le, bI_01]) (wr_difference (by rw [kx]) ho (dk_difference hz hx hD hI.1 r1 r2 (fun q T2 hD2 hG => ?_) (fun Gs Hs eg eh q T2 hD2 hG => ?_) (fun Gs Hs R eg eh er q1 q2 ht ht2 T2 hD2 hG => ?_)))
  · have hM2 := hM.gr hG (by omega) (fun b hb q => by have := hb.1; have := q.2; omega)
    have hW2 := hW.gr hG
    have ks2 := hW2.2.1
    have km2 := hM2.1.k
    have es := (hG.2.2 sc (fun q => by have := q.1; omega) (by omega)).1
    have d1 : T2.2.1 sc (7 * c + 1) = iI v1 := by rw [es]; exact e1
    have d2 : T2.2.1 sc (7 * c + 2) = iI v2 := by rw [es]; exact e2
    refine ⟨hG.1, Or.inr ⟨2, 1, rfl, rfl, ?_⟩⟩
    have fJ : Fr (fun b => b = o) T2 T2 := Fr.rf
    have hDb := hD2.fr fJ (fun b hb q => by have := hb.2; omega)
    have hMb := hM2.fr fJ (fun b hb q => by have := hb.2; omega)
    have hWb := hW2.fr fJ
    have ksb := hWb.2.1
    have kmb := hMb.1.k
    have b1 : T2.2.1 sc (7 * c + 1) = iI v1 := by rw [(fJ.2.2 sc (by omega)).1]; exact d1
    have b2 : T2.2.1 sc (7 * c + 2) = iI v2 := by rw [(fJ.2.2 sc (by omega)).1]; exact d2
    simp (maxSteps := 4000000) (disch := first | (simp (disch := omega) only [XB_i, XB_n, va_rf_s, va_rf_n, mSI_K, mSI_I, mSI_J, mSI_P, mSI_N, mSJ_K, mSJ_I, mSJ_J, mSJ_P, mSJ_N, mSP_K, mSP_I, mSP_J, mSP_P, mSP_N, mNn, mNi, mNr, mN0, al20, al21, al22, al23, al25, true_or, or_true, and_self, if_true, if_false, mCat_n, mCat_i, mCat_r, mCat_l, mCat_0, Nat.reduceAdd, Nat.reduceLeDiff, Nat.reduceLT, true_and, and_true, Nat.zero_le, bI_01, mInB_J, mInB_Z, mInB_N, ksb, b1, b2, n5, n6, t2, t3, t4, t5, t6]; done) | omega | (unfold R32 at *; omega)) only [e_193_718, e_193_720, e_193_720_n, e_193_721, e_193_721_n, e_193_722, e_193_724, e_193_725, e_193_726, e_193_727, e_193_727_n, e_193_728, e_193_730, e_193_731, e_193_732, XB_i, XB_n, va_rf_s, va_rf_n, mSI_K, mSI_I, mSI_J, mSI_P, mSI_N, mSJ_K, mSJ_I, mSJ_J, mSJ_P, mSJ_N, mSP_K, mSP_I, mSP_J, mSP_P, mSP_N, mNn, mNi, mNr, mN0, al20, al21, al22, al23, al25, true_or, or_true, and_self, if_true, if_false, mCat_n, mCat_i, mCat_r, mCat_l, mCat_0, Nat.reduceAdd, Nat.reduceLeDiff, Nat.reduceLT, true_and, and_true, Nat.zero_le, bI_01, bI_0, i10, tf0, iI_add, iI_sub, iI_mul, iI_neg, iI_add1, iI_sub1, iI_m1, nca, nc1, ncm1, iI_clJ, iI_cl0, iI_clN, Int.toNat_natCast, mU_n, mU_s, p_min, p_max, p_abs, ni_2, ni_3, ni_4, ni_7, ni_8, ni_9, ni_12, ni_24, ni_97, ni_100, ni_122, ni_200, ni_256, ni_4096, ni_5000, ni_9999, iI_lt, iI_le, iI_eq, iz_eq, iz_lt, iz_le, iz_gt, iz_ge, iy_eq, iy_lt, iy_le, iI_ltN, iI_leN, iI_eqN, if_pos, if_neg, ksb, b1, b2, n5, n6, t2, t3, t4, t5, t6]
    refine c_193_733 (by simp only [XB_i, XB_n, va_rf_s, va_rf_n, mSI_K, mSI_I, mSI_J, mSI_P, mSI_N, mSJ_K, mSJ_I, mSJ_J, mSJ_P, mSJ_N, mSP_K, mSP_I, mSP_J, mSP_P, mSP_N, mNn, mNi, mNr, mN0, al20, al21, al22, al23, al25, true_or, or_true, and_self, if_true, if_false, mCat_n, mCat_i, mCat_r, mCat_l, mCat_0, Nat.reduceAdd, Nat.reduceLeDiff, Nat.reduceLT, true_and, and_true, Nat.zero_le, bI_01]) (by rw [kmb]) (md_difference hMb hI.1 hI.2.1 r1 r2 (fun _ T3 hM3 h13 hF => ?_) (fun Gs2 Hs2 e2 e3 => absurd q (by rintro (z | z); rw [e2] at z; cases z; rw [e3] at z; cases z)) (fun Gs2 Hs2 R2 e2 e3 => absurd q (by rintro (z | z); rw [e2] at z; cases z; rw [e3] at z; cases z)))
    change T3.2.1 m 13 = 1 at h13
    have hW3 := hWb.fr hF
    have hD3 := hDb.fr hF (fun b hb q => by have := hb.2; have := q.1; omega)
    have km3 := hM3.1.k
    have pt := fun Q => @m_thrown T3 Q m _ hM3.1 h13
    simp (maxSteps := 4000000) (disch := first | (simp (disch := omega) only [XB_i, XB_n, va_rf_s, va_rf_n, mSI_K, mSI_I, mSI_J, mSI_P, mSI_N, mSJ_K, mSJ_I, mSJ_J, mSJ_P, mSJ_N, mSP_K, mSP_I, mSP_J, mSP_P, mSP_N, mNn, mNi, mNr, mN0, al20, al21, al22, al23, al25, true_or, or_true, and_self, if_true, if_false, mCat_n, mCat_i, mCat_r, mCat_l, mCat_0, Nat.reduceAdd, Nat.reduceLeDiff, Nat.reduceLT, true_and, and_true, Nat.zero_le, bI_01, mInB_J, mInB_Z, mInB_N, km3, pt, eqT, i20]; done) | omega | (unfold R32 at *; omega)) only [e_193_736, e_193_738, e_193_738_n, e_193_742, e_193_744, e_193_747, e_193_748, e_193_749, e_193_751, e_193_754, e_193_754_n, e_193_755, e_193_756, e_193_757, e_193_759, e_193_760, e_193_761, e_193_764, e_193_765, e_193_766, d_193_739, XB_i, XB_n, va_rf_s, va_rf_n, mSI_K, mSI_I, mSI_J, mSI_P, mSI_N, mSJ_K, mSJ_I, mSJ_J, mSJ_P, mSJ_N, mSP_K, mSP_I, mSP_J, mSP_P, mSP_N, mNn, mNi, mNr, mN0, al20, al21, al22, al23, al25, true_or, or_true, and_self, if_true, if_false, mCat_n, mCat_i, mCat_r, mCat_l, mCat_0, Nat.reduceAdd, Nat.reduceLeDiff, Nat.reduceLT, true_and, and_true, Nat.zero_le, bI_01, bI_0, i10, tf0, iI_add, iI_sub, iI_mul, iI_neg, iI_add1, iI_sub1, iI_m1, nca, nc1, ncm1, iI_clJ, iI_cl0, iI_clN, Int.toNat_natCast, mU_n, mU_s, p_min, p_max, p_abs, ni_2, ni_3, ni_4, ni_7, ni_8, ni_9, ni_12, ni_24, ni_97, ni_100, ni_122, ni_200, ni_256, ni_4096, ni_5000, ni_9999, iI_lt, iI_le, iI_eq, iz_eq, iz_lt, iz_le, iz_gt, iz_ge, iy_eq, iy_lt, iy_le, iI_ltN, iI_leN, iI_eqN, if_pos, if_neg, km3, pt, eqT, i20]
    exact hQ T3 _ _ ⟨_, _, _, _, _, _, _, _, hD3, hM3, hI, by omega, hW3⟩
  · have hM2 := hM.gr hG (by omega) (fun b hb q => by have := hb.1; have := q.2; omega)
    have hW2 := hW.gr hG
    have ks2 := hW2.2.1
    have km2 := hM2.1.k
    have es := (hG.2.2 sc (fun q => by have := q.1; omega) (by omega)).1
    have d1 : T2.2.1 sc (7 * c + 1) = iI v1 := by rw [es]; exact e1
    have d2 : T2.2.1 sc (7 * c + 2) = iI v2 := by rw [es]; exact e2
    refine ⟨hG.1, Or.inr ⟨1, 2, rfl, rfl, ?_⟩⟩
    have fJ : Fr (fun b => b = o) T2 T2 := Fr.rf
    have hDb := hD2.fr fJ (fun b hb q => by have := hb.2; omega)
    have hMb := hM2.fr fJ (fun b hb q => by have := hb.2; omega)
    have hWb := hW2.fr fJ
    have ksb := hWb.2.1
    have kmb := hMb.1.k
    have b1 : T2.2.1 sc (7 * c + 1) = iI v1 := by rw [(fJ.2.2 sc (by omega)).1]; exact d1
    have b2 : T2.2.1 sc (7 * c + 2) = iI v2 := by rw [(fJ.2.2 sc (by omega)).1]; exact d2
    simp (maxSteps := 4000000) (disch := first | (simp (disch := omega) only [XB_i, XB_n, va_rf_s, va_rf_n, mSI_K, mSI_I, mSI_J, mSI_P, mSI_N, mSJ_K, mSJ_I, mSJ_J, mSJ_P, mSJ_N, mSP_K, mSP_I, mSP_J, mSP_P, mSP_N, mNn, mNi, mNr, mN0, al20, al21, al22, al23, al25, true_or, or_true, and_self, if_true, if_false, mCat_n, mCat_i, mCat_r, mCat_l, mCat_0, Nat.reduceAdd, Nat.reduceLeDiff, Nat.reduceLT, true_and, and_true, Nat.zero_le, bI_01, mInB_J, mInB_Z, mInB_N, ksb, b1, b2, n5, n6, t2, t3, t4, t5, t6]; done) | omega | (unfold R32 at *; omega)) only [e_193_718, e_193_720, e_193_720_n, e_193_721, e_193_721_n, e_193_722, e_193_724, e_193_725, e_193_726, e_193_727, e_193_727_n, e_193_728, e_193_730, e_193_731, e_193_732, XB_i, XB_n, va_rf_s, va_rf_n, mSI_K, mSI_I, mSI_J, mSI_P, mSI_N, mSJ_K, mSJ_I, mSJ_J, mSJ_P, mSJ_N, mSP_K, mSP_I, mSP_J, mSP_P, mSP_N, mNn, mNi, mNr, mN0, al20, al21, al22, al23, al25, true_or, or_true, and_self, if_true, if_false, mCat_n, mCat_i, mCat_r, mCat_l, mCat_0, Nat.reduceAdd, Nat.reduceLeDiff, Nat.reduceLT, true_and, and_true, Nat.zero_le, bI_01, bI_0, i10, tf0, iI_add, iI_sub, iI_mul, iI_neg, iI_add1, iI_sub1, iI_m1, nca, nc1, ncm1, iI_clJ, iI_cl0, iI_clN, Int.toNat_natCast, mU_n, mU_s, p_min, p_max, p_abs, ni_2, ni_3, ni_4, ni_7, ni_8, ni_9, ni_12, ni_24, ni_97, ni_100, ni_122, ni_200, ni_256, ni_4096, ni_5000, ni_9999, iI_lt, iI_le, iI_eq, iz_eq, iz_lt, iz_le, iz_gt, iz_ge, iy_eq, iy_lt, iy_le, iI_ltN, iI_leN, iI_eqN, if_pos, if_neg, ksb, b1, b2, n5, n6, t2, t3, t4, t5, t6]
    refine c_193_733 (by simp only [XB_i, XB_n, va_rf_s, va_rf_n, mSI_K, mSI_I, mSI_J, mSI_P, mSI_N, mSJ_K, mSJ_I, mSJ_J, mSJ_P, mSJ_N, mSP_K, mSP_I, mSP_J, mSP_P, mSP_N, mNn, mNi, mNr, mN0, al20, al21, al22, al23, al25, true_or, or_true, and_self, if_true, if_false, mCat_n, mCat_i, mCat_r, mCat_l, mCat_0, Nat.reduceAdd, Nat.reduceLeDiff, Nat.reduceLT, true_and, and_true, Nat.zero_le, bI_01]) (by rw [kmb]) (md_difference hMb hI.1 hI.2.1 r1 r2 (fun y => absurd y (by rintro (z | z); rw [eg] at z; cases z; rw [eh] at z; cases z)) (fun Gs2 Hs2 e2 e3 q3 T3 hM3 h13 hF => ?_) (fun Gs2 Hs2 R2 e2 e3 er2 q3 q4 => absurd q (by rw [eg] at e2; cases e2; rw [eh] at e3; cases e3; rintro (z | ⟨R3, z, y | y⟩); rw [z] at er2; cases er2; rw [z] at er2; cases er2; rw [y] at q3; cases q3; rw [z] at er2; cases er2; rw [y] at q4; cases q4)))
    change T3.2.1 m 13 = 2 at h13
    have hW3 := hWb.fr hF
    have hD3 := hDb.fr hF (fun b hb q => by have := hb.2; have := q.1; omega)
    have km3 := hM3.1.k
    have pt := fun Q => @m_thrown T3 Q m _ hM3.1 h13
    simp (maxSteps := 4000000) (disch := first | (simp (disch := omega) only [XB_i, XB_n, va_rf_s, va_rf_n, mSI_K, mSI_I, mSI_J, mSI_P, mSI_N, mSJ_K, mSJ_I, mSJ_J, mSJ_P, mSJ_N, mSP_K, mSP_I, mSP_J, mSP_P, mSP_N, mNn, mNi, mNr, mN0, al20, al21, al22, al23, al25, true_or, or_true, and_self, if_true, if_false, mCat_n, mCat_i, mCat_r, mCat_l, mCat_0, Nat.reduceAdd, Nat.reduceLeDiff, Nat.reduceLT, true_and, and_true, Nat.zero_le, bI_01, mInB_J, mInB_Z, mInB_N, km3, pt, eqT, i20]; done) | omega | (unfold R32 at *; omega)) only [e_193_736, e_193_738, e_193_738_n, e_193_742, e_193_744, e_193_747, e_193_748, e_193_749, e_193_751, e_193_754, e_193_754_n, e_193_755, e_193_756, e_193_757, e_193_759, e_193_760, e_193_761, e_193_764, e_193_765, e_193_766, d_193_739, XB_i, XB_n, va_rf_s, va_rf_n, mSI_K, mSI_I, mSI_J, mSI_P, mSI_N, mSJ_K, mSJ_I, mSJ_J, mSJ_P, mSJ_N, mSP_K, mSP_I, mSP_J, mSP_P, mSP_N, mNn, mNi, mNr, mN0, al20, al21, al22, al23, al25, true_or, or_true, and_self, if_true, if_false, mCat_n, mCat_i, mCat_r, mCat_l, mCat_0, Nat.reduceAdd, Nat.reduceLeDiff, Nat.reduceLT, true_and, and_true, Nat.zero_le, bI_01, bI_0, i10, tf0, iI_add, iI_sub, iI_mul, iI_neg, iI_add1, iI_sub1, iI_m1, nca, nc1, ncm1, iI_clJ, iI_cl0, iI_clN, Int.toNat_natCast, mU_n, mU_s, p_min, p_max, p_abs, ni_2, ni_3, ni_4, ni_7, ni_8, ni_9, ni_12, ni_24, ni_97, ni_100, ni_122, ni_200, ni_256, ni_4096, ni_5000, ni_9999, iI_lt, iI_le, iI_eq, iz_eq, iz_lt, iz_le, iz_gt, iz_ge, iy_eq, iy_lt, iy_le, iI_ltN, iI_leN, iI_eqN, if_pos, if_neg, km3, pt, eqT, i20]
    exact hQ T3 _ _ ⟨_, _, _, _, _, _, _, _, hD3, hM3, hI, by omega, hW3⟩
  · have hM2 := hM.gr hG (by omega) (fun b hb q => by have := hb.1; have := q.2; omega)
    have hW2 := hW.gr hG
    have ks2 := hW2.2.1
    have km2 := hM2.1.k
    have es := (hG.2.2 sc (fun q => by have := q.1; omega) (by omega)).1
    have d1 : T2.2.1 sc (7 * c + 1) = iI v1 := by rw [es]; exact e1
    have d2 : T2.2.1 sc (7 * c + 2) = iI v2 := by rw [es]; exact e2
    refine ⟨hG.1, Or.inl ⟨_, rfl, ?_⟩⟩
    generalize hTb : mSJ T2 o 0 _ = Tb
    have fJ : Fr (fun b => b = o) T2 Tb := by rw [← hTb]; exact Fr.oJ _
    have hDb := hD2.fr fJ (fun b hb q => by have := hb.2; omega)
    have hMb := hM2.fr fJ (fun b hb q => by have := hb.2; omega)
    have hWb := hW2.fr fJ
    have ksb := hWb.2.1
    have kmb := hMb.1.k
    have b1 : Tb.2.1 sc (7 * c + 1) = iI v1 := by rw [(fJ.2.2 sc (by omega)).1]; exact d1
    have b2 : Tb.2.1 sc (7 * c + 2) = iI v2 := by rw [(fJ.2.2 sc (by omega)).1]; exact d2
    simp (maxSteps := 4000000) (disch := first | (simp (disch := omega) only [XB_i, XB_n, va_rf_s, va_rf_n, mSI_K, mSI_I, mSI_J, mSI_P, mSI_N, mSJ_K, mSJ_I, mSJ_J, mSJ_P, mSJ_N, mSP_K, mSP_I, mSP_J, mSP_P, mSP_N, mNn, mNi, mNr, mN0, al20, al21, al22, al23, al25, true_or, or_true, and_self, if_true, if_false, mCat_n, mCat_i, mCat_r, mCat_l, mCat_0, Nat.reduceAdd, Nat.reduceLeDiff, Nat.reduceLT, true_and, and_true, Nat.zero_le, bI_01, mInB_J, mInB_Z, mInB_N, ksb, b1, b2, n5, n6, t2, t3, t4, t5, t6]; done) | omega | (unfold R32 at *; omega)) only [e_193_718, e_193_720, e_193_720_n, e_193_721, e_193_721_n, e_193_722, e_193_724, e_193_725, e_193_726, e_193_727, e_193_727_n, e_193_728, e_193_730, e_193_731, e_193_732, XB_i, XB_n, va_rf_s, va_rf_n, mSI_K, mSI_I, mSI_J, mSI_P, mSI_N, mSJ_K, mSJ_I, mSJ_J, mSJ_P, mSJ_N, mSP_K, mSP_I, mSP_J, mSP_P, mSP_N, mNn, mNi, mNr, mN0, al20, al21, al22, al23, al25, true_or, or_true, and_self, if_true, if_false, mCat_n, mCat_i, mCat_r, mCat_l, mCat_0, Nat.reduceAdd, Nat.reduceLeDiff, Nat.reduceLT, true_and, and_true, Nat.zero_le, bI_01, bI_0, i10, tf0, iI_add, iI_sub, iI_mul, iI_neg, iI_add1, iI_sub1, iI_m1, nca, nc1, ncm1, iI_clJ, iI_cl0, iI_clN, Int.toNat_natCast, mU_n, mU_s, p_min, p_max, p_abs, ni_2, ni_3, ni_4, ni_7, ni_8, ni_9, ni_12, ni_24, ni_97, ni_100, ni_122, ni_200, ni_256, ni_4096, ni_5000, ni_9999, iI_lt, iI_le, iI_eq, iz_eq, iz_lt, iz_le, iz_gt, iz_ge, iy_eq, iy_lt, iy_le, iI_ltN, iI_leN, iI_eqN, if_pos, if_neg, ksb, b1, b2, n5, n6, t2, t3, t4, t5, t6]
    refine c_193_733 (by simp only [XB_i, XB_n, va_rf_s, va_rf_n, mSI_K, mSI_I, mSI_J, mSI_P, mSI_N, mSJ_K, mSJ_I, mSJ_J, mSJ_P, mSJ_N, mSP_K, mSP_I, mSP_J, mSP_P, mSP_N, mNn, mNi, mNr, mN0, al20, al21, al22, al23, al25, true_or, or_true, and_self, if_true, if_false, mCat_n, mCat_i, mCat_r, mCat_l, mCat_0, Nat.reduceAdd, Nat.reduceLeDiff, Nat.reduceLT, true_and, and_true, Nat.zero_le, bI_01]) (by rw [kmb]) (md_difference hMb hI.1 hI.2.1 r1 r2 (fun y => absurd y (by rintro (z | z); rw [eg] at z; cases z; rw [eh] at z; cases z)) (fun Gs2 Hs2 e2 e3 q3 => absurd q3 (by rw [eg] at e2; cases e2; rw [eh] at e3; cases e3; rintro (z | ⟨R3, z, y | y⟩); rw [z] at er; cases er; rw [z] at er; cases er; rw [y] at q1; cases q1; rw [z] at er; cases er; rw [y] at q2; cases q2)) (fun Gs2 Hs2 R2 e2 e3 er2 q3 q4 T3 hM3 h13 hF => ?_))
    rw [eg] at e2
    cases e2
    rw [eh] at e3
    cases e3
    rw [er] at er2
    cases er2
    have hW3 := hWb.fr hF
    have hD3 := hDb.fr hF (fun b hb q => by have := hb.2; have := q.1; omega)
    have km3 := hM3.1.k
    have pt := fun Q => @m_thrown T3 Q m _ hM3.1 h13
    have ko3 := hW3.2.2.1
    have i0 : mInB 0 1 = true := mInB_Z (by omega) (by omega)
    have eb := (congrArg (fun z : mT => z.2.2.1 o 0) hTb).symm.trans (mU_s _ _ _ _)
    have eo := (congrFun (hF.2.2 o (fun q => by have := q.2; omega)).2.1 0).trans eb
    simp (maxSteps := 4000000) (disch := first | (simp (disch := omega) only [XB_i, XB_n, va_rf_s, va_rf_n, mSI_K, mSI_I, mSI_J, mSI_P, mSI_N, mSJ_K, mSJ_I, mSJ_J, mSJ_P, mSJ_N, mSP_K, mSP_I, mSP_J, mSP_P, mSP_N, mNn, mNi, mNr, mN0, al20, al21, al22, al23, al25, true_or, or_true, and_self, if_true, if_false, mCat_n, mCat_i, mCat_r, mCat_l, mCat_0, Nat.reduceAdd, Nat.reduceLeDiff, Nat.reduceLT, true_and, and_true, Nat.zero_le, bI_01, mInB_J, mInB_Z, mInB_N, km3, pt, ko3, i0, iI_cl0, eo, lg_z, eqT]; done) | omega | (unfold R32 at *; omega)) only [e_193_736, e_193_738, e_193_738_n, e_193_742, e_193_744, e_193_747, e_193_748, e_193_749, e_193_751, e_193_754, e_193_754_n, e_193_755, e_193_756, e_193_757, e_193_759, e_193_760, e_193_761, e_193_764, e_193_765, e_193_766, d_193_739, XB_i, XB_n, va_rf_s, va_rf_n, mSI_K, mSI_I, mSI_J, mSI_P, mSI_N, mSJ_K, mSJ_I, mSJ_J, mSJ_P, mSJ_N, mSP_K, mSP_I, mSP_J, mSP_P, mSP_N, mNn, mNi, mNr, mN0, al20, al21, al22, al23, al25, true_or, or_true, and_self, if_true, if_false, mCat_n, mCat_i, mCat_r, mCat_l, mCat_0, Nat.reduceAdd, Nat.reduceLeDiff, Nat.reduceLT, true_and, and_true, Nat.zero_le, bI_01, bI_0, i10, tf0, iI_add, iI_sub, iI_mul, iI_neg, iI_add1, iI_sub1, iI_m1, nca, nc1, ncm1, iI_clJ, iI_cl0, iI_clN, Int.toNat_natCast, mU_n, mU_s, p_min, p_max, p_abs, ni_2, ni_3, ni_4, ni_7, ni_8, ni_9, ni_12, ni_24, ni_97, ni_100, ni_122, ni_200, ni_256, ni_4096, ni_5000, ni_9999, iI_lt, iI_le, iI_eq, iz_eq, iz_lt, iz_le, iz_gt, iz_ge, iy_eq, iy_lt, iy_le, iI_ltN, iI_leN, iI_eqN, if_pos, if_neg, km3, pt, ko3, i0, iI_cl0, eo, lg_z, eqT]
    exact hQ T3 _ _ ⟨_, _, _, _, _, _, _, _, hD3, hM3, hI.diff eg eh er ht ht2 r1 r2, by omega, hW3⟩
theorem lw_apply (g : Geo sc x m o) (h : Wd T sc N x m o c n0 u0) (hN : 7 * c + 7 ≤ N) (hN2 : N ≤ 3584) (hQ : ∀ T2 l5 l6, Wd T2 sc N x m o (c + 1) n0 u0 → XW 193 1042 [some (.ref (sc)), some (.ref (x)), some (.ref (m)), some (.ref (o)), some (.int (iI ((7 * c : Nat) : Int))), l5, l6] [] T2 Q) (l5 l6 : Option Value) : XW 193 806 [some (.ref (sc)), some (.ref (x)), some (.ref (m)), some (.ref (o)), some (.int (iI ((7 * c : Nat) : Int))), l5, l6] [] T Q := by
  obtain ⟨cs, Fs, kp, cl, hb, rg, pk, df, hD, hM, hI, hcl, hW⟩ := h
  obtain ⟨gs, gx, gm⟩ := id g
  have ks := hW.2.1
  have ho := hW.2.2.1
  have hz := hW.1
  have hn := hW.2.2.2.1
  have kx := hD.kx
  have km := hM.1.k
  have hx : x + 857 ≤ T.2.2.2.2.1 := by omega
  have n5 : (5 : Int32) = iI 5 := rfl
  have n6 : (6 : Int32) = iI 6 := rfl
  have t2 : (((7 * c : Nat) : Int) + 2).toNat = 7 * c + 2 := by omega
  have t3 : (((7 * c : Nat) : Int) + 3).toNat = 7 * c + 3 := by omega
  have t4 : (((7 * c : Nat) : Int) + 4).toNat = 7 * c + 4 := by omega
  have t5 : (((7 * c : Nat) : Int) + 5).toNat = 7 * c + 5 := by omega
  have t6 : (((7 * c : Nat) : Int) + 6).toNat = 7 * c + 6 := by omega
  simp (maxSteps := 4000000) (disch := first | (simp (disch := omega) only [XB_i, XB_n, va_rf_s, va_rf_n, mSI_K, mSI_I, mSI_J, mSI_P, mSI_N, mSJ_K, mSJ_I, mSJ_J, mSJ_P, mSJ_N, mSP_K, mSP_I, mSP_J, mSP_P, mSP_N, mNn, mNi, mNr, mN0, al20, al21, al22, al23, al25, true_or, or_true, and_self, if_true, if_false, mCat_n, mCat_i, mCat_r, mCat_l, mCat_0, Nat.reduceAdd, Nat.reduceLeDiff, Nat.reduceLT, true_and, and_true, Nat.zero_le, bI_01, mInB_J, mInB_Z, mInB_N, ks, n5, n6, t2, t3, t4, t5, t6]; done) | omega | (unfold R32 at *; omega)) only [e_193_806, e_193_806_n, e_193_807, e_193_807_n, XB_i, XB_n, va_rf_s, va_rf_n, mSI_K, mSI_I, mSI_J, mSI_P, mSI_N, mSJ_K, mSJ_I, mSJ_J, mSJ_P, mSJ_N, mSP_K, mSP_I, mSP_J, mSP_P, mSP_N, mNn, mNi, mNr, mN0, al20, al21, al22, al23, al25, true_or, or_true, and_self, if_true, if_false, mCat_n, mCat_i, mCat_r, mCat_l, mCat_0, Nat.reduceAdd, Nat.reduceLeDiff, Nat.reduceLT, true_and, and_true, Nat.zero_le, bI_01, bI_0, i10, tf0, iI_add, iI_sub, iI_mul, iI_neg, iI_add1, iI_sub1, iI_m1, nca, nc1, ncm1, iI_clJ, iI_cl0, iI_clN, Int.toNat_natCast, mU_n, mU_s, p_min, p_max, p_abs, ni_2, ni_3, ni_4, ni_7, ni_8, ni_9, ni_12, ni_24, ni_97, ni_100, ni_122, ni_200, ni_256, ni_4096, ni_5000, ni_9999, iI_lt, iI_le, iI_eq, iz_eq, iz_lt, iz_le, iz_gt, iz_ge, iy_eq, iy_lt, iy_le, iI_ltN, iI_leN, iI_eqN, if_pos, if_neg, ks, n5, n6, t2, t3, t4, t5, t6]
  refine c_193_808 (by simp only [XB_i, XB_n, va_rf_s, va_rf_n, mSI_K, mSI_I, mSI_J, mSI_P, mSI_N, mSJ_K, mSJ_I, mSJ_J, mSJ_P, mSJ_N, mSP_K, mSP_I, mSP_J, mSP_P, mSP_N, mNn, mNi, mNr, mN0, al20, al21, al22, al23, al25, true_or, or_true, and_self, if_true, if_false, mCat_n, mCat_i, mCat_r, mCat_l, mCat_0, Nat.reduceAdd, Nat.reduceLeDiff, Nat.reduceLT, true_and, and_true, Nat.zero_le, bI_01]) (wr_apply (by rw [kx]) ho (dk_apply hz hx hD hI.1 (fun q T2 hD2 hG => ?_) (fun A B q ed T2 hD2 hG => ?_)))
  · have hM2 := hM.gr hG (by omega) (fun b hb q => by have := hb.1; have := q.2; omega)
    have hW2 := hW.gr hG
    have ks2 := hW2.2.1
    have km2 := hM2.1.k
    have es := (hG.2.2 sc (fun q => by have := q.1; omega) (by omega)).1
    refine ⟨hG.1, Or.inr ⟨1, 1, rfl, rfl, ?_⟩⟩
    have fJ : Fr (fun b => b = o) T2 T2 := Fr.rf
    have hDb := hD2.fr fJ (fun b hb q => by have := hb.2; omega)
    have hMb := hM2.fr fJ (fun b hb q => by have := hb.2; omega)
    have hWb := hW2.fr fJ
    have ksb := hWb.2.1
    have kmb := hMb.1.k
    simp (maxSteps := 4000000) (disch := first | (simp (disch := omega) only [XB_i, XB_n, va_rf_s, va_rf_n, mSI_K, mSI_I, mSI_J, mSI_P, mSI_N, mSJ_K, mSJ_I, mSJ_J, mSJ_P, mSJ_N, mSP_K, mSP_I, mSP_J, mSP_P, mSP_N, mNn, mNi, mNr, mN0, al20, al21, al22, al23, al25, true_or, or_true, and_self, if_true, if_false, mCat_n, mCat_i, mCat_r, mCat_l, mCat_0, Nat.reduceAdd, Nat.reduceLeDiff, Nat.reduceLT, true_and, and_true, Nat.zero_le, bI_01, mInB_J, mInB_Z, mInB_N, ksb, n5, n6, t2, t3, t4, t5, t6]; done) | omega | (unfold R32 at *; omega)) only [e_193_811, e_193_813, e_193_813_n, XB_i, XB_n, va_rf_s, va_rf_n, mSI_K, mSI_I, mSI_J, mSI_P, mSI_N, mSJ_K, mSJ_I, mSJ_J, mSJ_P, mSJ_N, mSP_K, mSP_I, mSP_J, mSP_P, mSP_N, mNn, mNi, mNr, mN0, al20, al21, al22, al23, al25, true_or, or_true, and_self, if_true, if_false, mCat_n, mCat_i, mCat_r, mCat_l, mCat_0, Nat.reduceAdd, Nat.reduceLeDiff, Nat.reduceLT, true_and, and_true, Nat.zero_le, bI_01, bI_0, i10, tf0, iI_add, iI_sub, iI_mul, iI_neg, iI_add1, iI_sub1, iI_m1, nca, nc1, ncm1, iI_clJ, iI_cl0, iI_clN, Int.toNat_natCast, mU_n, mU_s, p_min, p_max, p_abs, ni_2, ni_3, ni_4, ni_7, ni_8, ni_9, ni_12, ni_24, ni_97, ni_100, ni_122, ni_200, ni_256, ni_4096, ni_5000, ni_9999, iI_lt, iI_le, iI_eq, iz_eq, iz_lt, iz_le, iz_gt, iz_ge, iy_eq, iy_lt, iy_le, iI_ltN, iI_leN, iI_eqN, if_pos, if_neg, ksb, n5, n6, t2, t3, t4, t5, t6]
    refine c_193_814 (by simp only [XB_i, XB_n, va_rf_s, va_rf_n, mSI_K, mSI_I, mSI_J, mSI_P, mSI_N, mSJ_K, mSJ_I, mSJ_J, mSJ_P, mSJ_N, mSP_K, mSP_I, mSP_J, mSP_P, mSP_N, mNn, mNi, mNr, mN0, al20, al21, al22, al23, al25, true_or, or_true, and_self, if_true, if_false, mCat_n, mCat_i, mCat_r, mCat_l, mCat_0, Nat.reduceAdd, Nat.reduceLeDiff, Nat.reduceLT, true_and, and_true, Nat.zero_le, bI_01]) (by rw [kmb]) (md_apply hMb hI.1 (fun _ T3 hM3 h13 hF => ?_) (fun A2 B2 q2 => absurd (hI.ap.mp q2) q))
    change T3.2.1 m 13 = 1 at h13
    have hW3 := hWb.fr hF
    have hD3 := hDb.fr hF (fun b hb q => by have := hb.2; have := q.1; omega)
    have km3 := hM3.1.k
    have pt := fun Q => @m_thrown T3 Q m _ hM3.1 h13
    simp (maxSteps := 4000000) (disch := first | (simp (disch := omega) only [XB_i, XB_n, va_rf_s, va_rf_n, mSI_K, mSI_I, mSI_J, mSI_P, mSI_N, mSJ_K, mSJ_I, mSJ_J, mSJ_P, mSJ_N, mSP_K, mSP_I, mSP_J, mSP_P, mSP_N, mNn, mNi, mNr, mN0, al20, al21, al22, al23, al25, true_or, or_true, and_self, if_true, if_false, mCat_n, mCat_i, mCat_r, mCat_l, mCat_0, Nat.reduceAdd, Nat.reduceLeDiff, Nat.reduceLT, true_and, and_true, Nat.zero_le, bI_01, mInB_J, mInB_Z, mInB_N, km3, pt, eqT, i20]; done) | omega | (unfold R32 at *; omega)) only [e_193_817, e_193_819, e_193_819_n, e_193_823, e_193_825, e_193_828, e_193_829, e_193_830, e_193_832, e_193_835, e_193_835_n, e_193_836, e_193_837, e_193_838, e_193_840, e_193_841, e_193_842, e_193_845, e_193_846, e_193_847, d_193_820, XB_i, XB_n, va_rf_s, va_rf_n, mSI_K, mSI_I, mSI_J, mSI_P, mSI_N, mSJ_K, mSJ_I, mSJ_J, mSJ_P, mSJ_N, mSP_K, mSP_I, mSP_J, mSP_P, mSP_N, mNn, mNi, mNr, mN0, al20, al21, al22, al23, al25, true_or, or_true, and_self, if_true, if_false, mCat_n, mCat_i, mCat_r, mCat_l, mCat_0, Nat.reduceAdd, Nat.reduceLeDiff, Nat.reduceLT, true_and, and_true, Nat.zero_le, bI_01, bI_0, i10, tf0, iI_add, iI_sub, iI_mul, iI_neg, iI_add1, iI_sub1, iI_m1, nca, nc1, ncm1, iI_clJ, iI_cl0, iI_clN, Int.toNat_natCast, mU_n, mU_s, p_min, p_max, p_abs, ni_2, ni_3, ni_4, ni_7, ni_8, ni_9, ni_12, ni_24, ni_97, ni_100, ni_122, ni_200, ni_256, ni_4096, ni_5000, ni_9999, iI_lt, iI_le, iI_eq, iz_eq, iz_lt, iz_le, iz_gt, iz_ge, iy_eq, iy_lt, iy_le, iI_ltN, iI_leN, iI_eqN, if_pos, if_neg, km3, pt, eqT, i20]
    exact hQ T3 _ _ ⟨_, _, _, _, _, _, _, _, hD3, hM3, hI, by omega, hW3⟩
  · have hM2 := hM.gr hG (by omega) (fun b hb q => by have := hb.1; have := q.2; omega)
    have hW2 := hW.gr hG
    have ks2 := hW2.2.1
    have km2 := hM2.1.k
    have es := (hG.2.2 sc (fun q => by have := q.1; omega) (by omega)).1
    refine ⟨hG.1, Or.inl ⟨_, rfl, ?_⟩⟩
    generalize hTb : mSJ T2 o 0 _ = Tb
    have fJ : Fr (fun b => b = o) T2 Tb := by rw [← hTb]; exact Fr.oJ _
    have hDb := hD2.fr fJ (fun b hb q => by have := hb.2; omega)
    have hMb := hM2.fr fJ (fun b hb q => by have := hb.2; omega)
    have hWb := hW2.fr fJ
    have ksb := hWb.2.1
    have kmb := hMb.1.k
    simp (maxSteps := 4000000) (disch := first | (simp (disch := omega) only [XB_i, XB_n, va_rf_s, va_rf_n, mSI_K, mSI_I, mSI_J, mSI_P, mSI_N, mSJ_K, mSJ_I, mSJ_J, mSJ_P, mSJ_N, mSP_K, mSP_I, mSP_J, mSP_P, mSP_N, mNn, mNi, mNr, mN0, al20, al21, al22, al23, al25, true_or, or_true, and_self, if_true, if_false, mCat_n, mCat_i, mCat_r, mCat_l, mCat_0, Nat.reduceAdd, Nat.reduceLeDiff, Nat.reduceLT, true_and, and_true, Nat.zero_le, bI_01, mInB_J, mInB_Z, mInB_N, ksb, n5, n6, t2, t3, t4, t5, t6]; done) | omega | (unfold R32 at *; omega)) only [e_193_811, e_193_813, e_193_813_n, XB_i, XB_n, va_rf_s, va_rf_n, mSI_K, mSI_I, mSI_J, mSI_P, mSI_N, mSJ_K, mSJ_I, mSJ_J, mSJ_P, mSJ_N, mSP_K, mSP_I, mSP_J, mSP_P, mSP_N, mNn, mNi, mNr, mN0, al20, al21, al22, al23, al25, true_or, or_true, and_self, if_true, if_false, mCat_n, mCat_i, mCat_r, mCat_l, mCat_0, Nat.reduceAdd, Nat.reduceLeDiff, Nat.reduceLT, true_and, and_true, Nat.zero_le, bI_01, bI_0, i10, tf0, iI_add, iI_sub, iI_mul, iI_neg, iI_add1, iI_sub1, iI_m1, nca, nc1, ncm1, iI_clJ, iI_cl0, iI_clN, Int.toNat_natCast, mU_n, mU_s, p_min, p_max, p_abs, ni_2, ni_3, ni_4, ni_7, ni_8, ni_9, ni_12, ni_24, ni_97, ni_100, ni_122, ni_200, ni_256, ni_4096, ni_5000, ni_9999, iI_lt, iI_le, iI_eq, iz_eq, iz_lt, iz_le, iz_gt, iz_ge, iy_eq, iy_lt, iy_le, iI_ltN, iI_leN, iI_eqN, if_pos, if_neg, ksb, n5, n6, t2, t3, t4, t5, t6]
    refine c_193_814 (by simp only [XB_i, XB_n, va_rf_s, va_rf_n, mSI_K, mSI_I, mSI_J, mSI_P, mSI_N, mSJ_K, mSJ_I, mSJ_J, mSJ_P, mSJ_N, mSP_K, mSP_I, mSP_J, mSP_P, mSP_N, mNn, mNi, mNr, mN0, al20, al21, al22, al23, al25, true_or, or_true, and_self, if_true, if_false, mCat_n, mCat_i, mCat_r, mCat_l, mCat_0, Nat.reduceAdd, Nat.reduceLeDiff, Nat.reduceLT, true_and, and_true, Nat.zero_le, bI_01]) (by rw [kmb]) (md_apply hMb hI.1 (fun q2 => absurd (hI.ap.mpr q) q2) (fun A2 B2 q2 ed2 T3 hM3 h13 hF => ?_))
    rw [ed] at ed2
    cases ed2
    have hW3 := hWb.fr hF
    have hD3 := hDb.fr hF (fun b hb q => by have := hb.2; have := q.1; omega)
    have km3 := hM3.1.k
    have pt := fun Q => @m_thrown T3 Q m _ hM3.1 h13
    have ko3 := hW3.2.2.1
    have i0 : mInB 0 1 = true := mInB_Z (by omega) (by omega)
    have eb := (congrArg (fun z : mT => z.2.2.1 o 0) hTb).symm.trans (mU_s _ _ _ _)
    have eo := (congrFun (hF.2.2 o (fun q => by have := q.2; omega)).2.1 0).trans eb
    simp (maxSteps := 4000000) (disch := first | (simp (disch := omega) only [XB_i, XB_n, va_rf_s, va_rf_n, mSI_K, mSI_I, mSI_J, mSI_P, mSI_N, mSJ_K, mSJ_I, mSJ_J, mSJ_P, mSJ_N, mSP_K, mSP_I, mSP_J, mSP_P, mSP_N, mNn, mNi, mNr, mN0, al20, al21, al22, al23, al25, true_or, or_true, and_self, if_true, if_false, mCat_n, mCat_i, mCat_r, mCat_l, mCat_0, Nat.reduceAdd, Nat.reduceLeDiff, Nat.reduceLT, true_and, and_true, Nat.zero_le, bI_01, mInB_J, mInB_Z, mInB_N, km3, pt, ko3, i0, iI_cl0, eo, lg_z, eqT]; done) | omega | (unfold R32 at *; omega)) only [e_193_817, e_193_819, e_193_819_n, e_193_823, e_193_825, e_193_828, e_193_829, e_193_830, e_193_832, e_193_835, e_193_835_n, e_193_836, e_193_837, e_193_838, e_193_840, e_193_841, e_193_842, e_193_845, e_193_846, e_193_847, d_193_820, XB_i, XB_n, va_rf_s, va_rf_n, mSI_K, mSI_I, mSI_J, mSI_P, mSI_N, mSJ_K, mSJ_I, mSJ_J, mSJ_P, mSJ_N, mSP_K, mSP_I, mSP_J, mSP_P, mSP_N, mNn, mNi, mNr, mN0, al20, al21, al22, al23, al25, true_or, or_true, and_self, if_true, if_false, mCat_n, mCat_i, mCat_r, mCat_l, mCat_0, Nat.reduceAdd, Nat.reduceLeDiff, Nat.reduceLT, true_and, and_true, Nat.zero_le, bI_01, bI_0, i10, tf0, iI_add, iI_sub, iI_mul, iI_neg, iI_add1, iI_sub1, iI_m1, nca, nc1, ncm1, iI_clJ, iI_cl0, iI_clN, Int.toNat_natCast, mU_n, mU_s, p_min, p_max, p_abs, ni_2, ni_3, ni_4, ni_7, ni_8, ni_9, ni_12, ni_24, ni_97, ni_100, ni_122, ni_200, ni_256, ni_4096, ni_5000, ni_9999, iI_lt, iI_le, iI_eq, iz_eq, iz_lt, iz_le, iz_gt, iz_ge, iy_eq, iy_lt, iy_le, iI_ltN, iI_leN, iI_eqN, if_pos, if_neg, km3, pt, ko3, i0, iI_cl0, eo, lg_z, eqT]
    exact hQ T3 _ _ ⟨_, _, _, _, _, _, _, _, hD3, hM3, hI.apply ed, by omega, hW3⟩
theorem lw_lookUp (g : Geo sc x m o) (h : Wd T sc N x m o c n0 u0) (hN : 7 * c + 7 ≤ N) (hN2 : N ≤ 3584) (hQ : ∀ T2 l5 l6, Wd T2 sc N x m o (c + 1) n0 u0 → XW 193 1042 [some (.ref (sc)), some (.ref (x)), some (.ref (m)), some (.ref (o)), some (.int (iI ((7 * c : Nat) : Int))), l5, l6] [] T2 Q) (l5 l6 : Option Value) : XW 193 850 [some (.ref (sc)), some (.ref (x)), some (.ref (m)), some (.ref (o)), some (.int (iI ((7 * c : Nat) : Int))), l5, l6] [] T Q := by
  obtain ⟨cs, Fs, kp, cl, hb, rg, pk, df, hD, hM, hI, hcl, hW⟩ := h
  obtain ⟨gs, gx, gm⟩ := id g
  obtain ⟨v1, r1, e1⟩ := sc_v T sc (7 * c + 1)
  obtain ⟨v2, r2, e2⟩ := sc_v T sc (7 * c + 2)
  obtain ⟨v3, r3, e3⟩ := sc_v T sc (7 * c + 3)
  have ks := hW.2.1
  have ho := hW.2.2.1
  have hz := hW.1
  have hn := hW.2.2.2.1
  have kx := hD.kx
  have km := hM.1.k
  have hx : x + 857 ≤ T.2.2.2.2.1 := by omega
  have n5 : (5 : Int32) = iI 5 := rfl
  have n6 : (6 : Int32) = iI 6 := rfl
  have t2 : (((7 * c : Nat) : Int) + 2).toNat = 7 * c + 2 := by omega
  have t3 : (((7 * c : Nat) : Int) + 3).toNat = 7 * c + 3 := by omega
  have t4 : (((7 * c : Nat) : Int) + 4).toNat = 7 * c + 4 := by omega
  have t5 : (((7 * c : Nat) : Int) + 5).toNat = 7 * c + 5 := by omega
  have t6 : (((7 * c : Nat) : Int) + 6).toNat = 7 * c + 6 := by omega
  simp (maxSteps := 4000000) (disch := first | (simp (disch := omega) only [XB_i, XB_n, va_rf_s, va_rf_n, mSI_K, mSI_I, mSI_J, mSI_P, mSI_N, mSJ_K, mSJ_I, mSJ_J, mSJ_P, mSJ_N, mSP_K, mSP_I, mSP_J, mSP_P, mSP_N, mNn, mNi, mNr, mN0, al20, al21, al22, al23, al25, true_or, or_true, and_self, if_true, if_false, mCat_n, mCat_i, mCat_r, mCat_l, mCat_0, Nat.reduceAdd, Nat.reduceLeDiff, Nat.reduceLT, true_and, and_true, Nat.zero_le, bI_01, mInB_J, mInB_Z, mInB_N, ks, e1, e2, e3, n5, n6, t2, t3, t4, t5, t6]; done) | omega | (unfold R32 at *; omega)) only [e_193_850, e_193_850_n, e_193_851, e_193_851_n, e_193_852, e_193_854, e_193_855, e_193_856, e_193_857, e_193_858, e_193_860, e_193_861, e_193_861_n, e_193_862, e_193_864, e_193_865, e_193_866, e_193_867, e_193_868, e_193_871, e_193_872, e_193_873, e_193_873_n, e_193_874, e_193_876, e_193_877, e_193_878, e_193_879, e_193_879_n, XB_i, XB_n, va_rf_s, va_rf_n, mSI_K, mSI_I, mSI_J, mSI_P, mSI_N, mSJ_K, mSJ_I, mSJ_J, mSJ_P, mSJ_N, mSP_K, mSP_I, mSP_J, mSP_P, mSP_N, mNn, mNi, mNr, mN0, al20, al21, al22, al23, al25, true_or, or_true, and_self, if_true, if_false, mCat_n, mCat_i, mCat_r, mCat_l, mCat_0, Nat.reduceAdd, Nat.reduceLeDiff, Nat.reduceLT, true_and, and_true, Nat.zero_le, bI_01, bI_0, i10, tf0, iI_add, iI_sub, iI_mul, iI_neg, iI_add1, iI_sub1, iI_m1, nca, nc1, ncm1, iI_clJ, iI_cl0, iI_clN, Int.toNat_natCast, mU_n, mU_s, p_min, p_max, p_abs, ni_2, ni_3, ni_4, ni_7, ni_8, ni_9, ni_12, ni_24, ni_97, ni_100, ni_122, ni_200, ni_256, ni_4096, ni_5000, ni_9999, iI_lt, iI_le, iI_eq, iz_eq, iz_lt, iz_le, iz_gt, iz_ge, iy_eq, iy_lt, iy_le, iI_ltN, iI_leN, iI_eqN, if_pos, if_neg, ks, e1, e2, e3, n5, n6, t2, t3, t4, t5, t6]
  refine c_193_880 (by simp only [XB_i, XB_n, va_rf_s, va_rf_n, mSI_K, mSI_I, mSI_J, mSI_P, mSI_N, mSJ_K, mSJ_I, mSJ_J, mSJ_P, mSJ_N, mSP_K, mSP_I, mSP_J, mSP_P, mSP_N, mNn, mNi, mNr, mN0, al20, al21, al22, al23, al25, true_or, or_true, and_self, if_true, if_false, mCat_n, mCat_i, mCat_r, mCat_l, mCat_0, Nat.reduceAdd, Nat.reduceLeDiff, Nat.reduceLT, true_and, and_true, Nat.zero_le, bI_01]) (wr_lookUp (by rw [kx]) ho (dk_lookUp hz hx hD hI.1 r3 (fun q T2 hD2 hG => ?_) (fun q T2 hD2 hG => ?_)))
  · have hM2 := hM.gr hG (by omega) (fun b hb q => by have := hb.1; have := q.2; omega)
    have hW2 := hW.gr hG
    have ks2 := hW2.2.1
    have km2 := hM2.1.k
    have es := (hG.2.2 sc (fun q => by have := q.1; omega) (by omega)).1
    have d1 : T2.2.1 sc (7 * c + 1) = iI v1 := by rw [es]; exact e1
    have d2 : T2.2.1 sc (7 * c + 2) = iI v2 := by rw [es]; exact e2
    have d3 : T2.2.1 sc (7 * c + 3) = iI v3 := by rw [es]; exact e3
    refine ⟨hG.1, Or.inr ⟨3, 1, rfl, rfl, ?_⟩⟩
    have fJ : Fr (fun b => b = o) T2 T2 := Fr.rf
    have hDb := hD2.fr fJ (fun b hb q => by have := hb.2; omega)
    have hMb := hM2.fr fJ (fun b hb q => by have := hb.2; omega)
    have hWb := hW2.fr fJ
    have ksb := hWb.2.1
    have kmb := hMb.1.k
    have b1 : T2.2.1 sc (7 * c + 1) = iI v1 := by rw [(fJ.2.2 sc (by omega)).1]; exact d1
    have b2 : T2.2.1 sc (7 * c + 2) = iI v2 := by rw [(fJ.2.2 sc (by omega)).1]; exact d2
    have b3 : T2.2.1 sc (7 * c + 3) = iI v3 := by rw [(fJ.2.2 sc (by omega)).1]; exact d3
    simp (maxSteps := 4000000) (disch := first | (simp (disch := omega) only [XB_i, XB_n, va_rf_s, va_rf_n, mSI_K, mSI_I, mSI_J, mSI_P, mSI_N, mSJ_K, mSJ_I, mSJ_J, mSJ_P, mSJ_N, mSP_K, mSP_I, mSP_J, mSP_P, mSP_N, mNn, mNi, mNr, mN0, al20, al21, al22, al23, al25, true_or, or_true, and_self, if_true, if_false, mCat_n, mCat_i, mCat_r, mCat_l, mCat_0, Nat.reduceAdd, Nat.reduceLeDiff, Nat.reduceLT, true_and, and_true, Nat.zero_le, bI_01, mInB_J, mInB_Z, mInB_N, ksb, b1, b2, b3, n5, n6, t2, t3, t4, t5, t6]; done) | omega | (unfold R32 at *; omega)) only [e_193_883, e_193_885, e_193_885_n, e_193_886, e_193_886_n, e_193_887, e_193_889, e_193_890, e_193_891, e_193_892, e_193_893, e_193_895, e_193_896, e_193_896_n, e_193_897, e_193_899, e_193_900, e_193_901, e_193_902, e_193_903, e_193_906, e_193_907, e_193_908, e_193_908_n, e_193_909, e_193_911, e_193_912, e_193_913, XB_i, XB_n, va_rf_s, va_rf_n, mSI_K, mSI_I, mSI_J, mSI_P, mSI_N, mSJ_K, mSJ_I, mSJ_J, mSJ_P, mSJ_N, mSP_K, mSP_I, mSP_J, mSP_P, mSP_N, mNn, mNi, mNr, mN0, al20, al21, al22, al23, al25, true_or, or_true, and_self, if_true, if_false, mCat_n, mCat_i, mCat_r, mCat_l, mCat_0, Nat.reduceAdd, Nat.reduceLeDiff, Nat.reduceLT, true_and, and_true, Nat.zero_le, bI_01, bI_0, i10, tf0, iI_add, iI_sub, iI_mul, iI_neg, iI_add1, iI_sub1, iI_m1, nca, nc1, ncm1, iI_clJ, iI_cl0, iI_clN, Int.toNat_natCast, mU_n, mU_s, p_min, p_max, p_abs, ni_2, ni_3, ni_4, ni_7, ni_8, ni_9, ni_12, ni_24, ni_97, ni_100, ni_122, ni_200, ni_256, ni_4096, ni_5000, ni_9999, iI_lt, iI_le, iI_eq, iz_eq, iz_lt, iz_le, iz_gt, iz_ge, iy_eq, iy_lt, iy_le, iI_ltN, iI_leN, iI_eqN, if_pos, if_neg, ksb, b1, b2, b3, n5, n6, t2, t3, t4, t5, t6]
    refine c_193_914 (by simp only [XB_i, XB_n, va_rf_s, va_rf_n, mSI_K, mSI_I, mSI_J, mSI_P, mSI_N, mSJ_K, mSJ_I, mSJ_J, mSJ_P, mSJ_N, mSP_K, mSP_I, mSP_J, mSP_P, mSP_N, mNn, mNi, mNr, mN0, al20, al21, al22, al23, al25, true_or, or_true, and_self, if_true, if_false, mCat_n, mCat_i, mCat_r, mCat_l, mCat_0, Nat.reduceAdd, Nat.reduceLeDiff, Nat.reduceLT, true_and, and_true, Nat.zero_le, bI_01]) (by rw [kmb]) (md_lookUp hMb hI.1 r3 (fun _ T3 hM3 h13 hF => ?_) (fun q2 => absurd q q2))
    change T3.2.1 m 13 = 1 at h13
    have hW3 := hWb.fr hF
    have hD3 := hDb.fr hF (fun b hb q => by have := hb.2; have := q.1; omega)
    have km3 := hM3.1.k
    have pt := fun Q => @m_thrown T3 Q m _ hM3.1 h13
    simp (maxSteps := 4000000) (disch := first | (simp (disch := omega) only [XB_i, XB_n, va_rf_s, va_rf_n, mSI_K, mSI_I, mSI_J, mSI_P, mSI_N, mSJ_K, mSJ_I, mSJ_J, mSJ_P, mSJ_N, mSP_K, mSP_I, mSP_J, mSP_P, mSP_N, mNn, mNi, mNr, mN0, al20, al21, al22, al23, al25, true_or, or_true, and_self, if_true, if_false, mCat_n, mCat_i, mCat_r, mCat_l, mCat_0, Nat.reduceAdd, Nat.reduceLeDiff, Nat.reduceLT, true_and, and_true, Nat.zero_le, bI_01, mInB_J, mInB_Z, mInB_N, km3, pt, eqT, i20]; done) | omega | (unfold R32 at *; omega)) only [e_193_917, e_193_919, e_193_919_n, e_193_923, e_193_925, e_193_928, e_193_929, e_193_930, e_193_932, e_193_935, e_193_935_n, e_193_936, e_193_937, e_193_938, e_193_940, e_193_941, e_193_942, e_193_945, e_193_946, e_193_947, d_193_920, XB_i, XB_n, va_rf_s, va_rf_n, mSI_K, mSI_I, mSI_J, mSI_P, mSI_N, mSJ_K, mSJ_I, mSJ_J, mSJ_P, mSJ_N, mSP_K, mSP_I, mSP_J, mSP_P, mSP_N, mNn, mNi, mNr, mN0, al20, al21, al22, al23, al25, true_or, or_true, and_self, if_true, if_false, mCat_n, mCat_i, mCat_r, mCat_l, mCat_0, Nat.reduceAdd, Nat.reduceLeDiff, Nat.reduceLT, true_and, and_true, Nat.zero_le, bI_01, bI_0, i10, tf0, iI_add, iI_sub, iI_mul, iI_neg, iI_add1, iI_sub1, iI_m1, nca, nc1, ncm1, iI_clJ, iI_cl0, iI_clN, Int.toNat_natCast, mU_n, mU_s, p_min, p_max, p_abs, ni_2, ni_3, ni_4, ni_7, ni_8, ni_9, ni_12, ni_24, ni_97, ni_100, ni_122, ni_200, ni_256, ni_4096, ni_5000, ni_9999, iI_lt, iI_le, iI_eq, iz_eq, iz_lt, iz_le, iz_gt, iz_ge, iy_eq, iy_lt, iy_le, iI_ltN, iI_leN, iI_eqN, if_pos, if_neg, km3, pt, eqT, i20]
    exact hQ T3 _ _ ⟨_, _, _, _, _, _, _, _, hD3, hM3, hI, by omega, hW3⟩
  · have hM2 := hM.gr hG (by omega) (fun b hb q => by have := hb.1; have := q.2; omega)
    have hW2 := hW.gr hG
    have ks2 := hW2.2.1
    have km2 := hM2.1.k
    have es := (hG.2.2 sc (fun q => by have := q.1; omega) (by omega)).1
    have d1 : T2.2.1 sc (7 * c + 1) = iI v1 := by rw [es]; exact e1
    have d2 : T2.2.1 sc (7 * c + 2) = iI v2 := by rw [es]; exact e2
    have d3 : T2.2.1 sc (7 * c + 3) = iI v3 := by rw [es]; exact e3
    refine ⟨hG.1, Or.inl ⟨_, rfl, ?_⟩⟩
    generalize hTb : mSJ T2 o 0 _ = Tb
    have fJ : Fr (fun b => b = o) T2 Tb := by rw [← hTb]; exact Fr.oJ _
    have hDb := hD2.fr fJ (fun b hb q => by have := hb.2; omega)
    have hMb := hM2.fr fJ (fun b hb q => by have := hb.2; omega)
    have hWb := hW2.fr fJ
    have ksb := hWb.2.1
    have kmb := hMb.1.k
    have b1 : Tb.2.1 sc (7 * c + 1) = iI v1 := by rw [(fJ.2.2 sc (by omega)).1]; exact d1
    have b2 : Tb.2.1 sc (7 * c + 2) = iI v2 := by rw [(fJ.2.2 sc (by omega)).1]; exact d2
    have b3 : Tb.2.1 sc (7 * c + 3) = iI v3 := by rw [(fJ.2.2 sc (by omega)).1]; exact d3
    simp (maxSteps := 4000000) (disch := first | (simp (disch := omega) only [XB_i, XB_n, va_rf_s, va_rf_n, mSI_K, mSI_I, mSI_J, mSI_P, mSI_N, mSJ_K, mSJ_I, mSJ_J, mSJ_P, mSJ_N, mSP_K, mSP_I, mSP_J, mSP_P, mSP_N, mNn, mNi, mNr, mN0, al20, al21, al22, al23, al25, true_or, or_true, and_self, if_true, if_false, mCat_n, mCat_i, mCat_r, mCat_l, mCat_0, Nat.reduceAdd, Nat.reduceLeDiff, Nat.reduceLT, true_and, and_true, Nat.zero_le, bI_01, mInB_J, mInB_Z, mInB_N, ksb, b1, b2, b3, n5, n6, t2, t3, t4, t5, t6]; done) | omega | (unfold R32 at *; omega)) only [e_193_883, e_193_885, e_193_885_n, e_193_886, e_193_886_n, e_193_887, e_193_889, e_193_890, e_193_891, e_193_892, e_193_893, e_193_895, e_193_896, e_193_896_n, e_193_897, e_193_899, e_193_900, e_193_901, e_193_902, e_193_903, e_193_906, e_193_907, e_193_908, e_193_908_n, e_193_909, e_193_911, e_193_912, e_193_913, XB_i, XB_n, va_rf_s, va_rf_n, mSI_K, mSI_I, mSI_J, mSI_P, mSI_N, mSJ_K, mSJ_I, mSJ_J, mSJ_P, mSJ_N, mSP_K, mSP_I, mSP_J, mSP_P, mSP_N, mNn, mNi, mNr, mN0, al20, al21, al22, al23, al25, true_or, or_true, and_self, if_true, if_false, mCat_n, mCat_i, mCat_r, mCat_l, mCat_0, Nat.reduceAdd, Nat.reduceLeDiff, Nat.reduceLT, true_and, and_true, Nat.zero_le, bI_01, bI_0, i10, tf0, iI_add, iI_sub, iI_mul, iI_neg, iI_add1, iI_sub1, iI_m1, nca, nc1, ncm1, iI_clJ, iI_cl0, iI_clN, Int.toNat_natCast, mU_n, mU_s, p_min, p_max, p_abs, ni_2, ni_3, ni_4, ni_7, ni_8, ni_9, ni_12, ni_24, ni_97, ni_100, ni_122, ni_200, ni_256, ni_4096, ni_5000, ni_9999, iI_lt, iI_le, iI_eq, iz_eq, iz_lt, iz_le, iz_gt, iz_ge, iy_eq, iy_lt, iy_le, iI_ltN, iI_leN, iI_eqN, if_pos, if_neg, ksb, b1, b2, b3, n5, n6, t2, t3, t4, t5, t6]
    refine c_193_914 (by simp only [XB_i, XB_n, va_rf_s, va_rf_n, mSI_K, mSI_I, mSI_J, mSI_P, mSI_N, mSJ_K, mSJ_I, mSJ_J, mSJ_P, mSJ_N, mSP_K, mSP_I, mSP_J, mSP_P, mSP_N, mNn, mNi, mNr, mN0, al20, al21, al22, al23, al25, true_or, or_true, and_self, if_true, if_false, mCat_n, mCat_i, mCat_r, mCat_l, mCat_0, Nat.reduceAdd, Nat.reduceLeDiff, Nat.reduceLT, true_and, and_true, Nat.zero_le, bI_01]) (by rw [kmb]) (md_lookUp hMb hI.1 r3 (fun q2 => absurd q2 q) (fun _ T3 hM3 h13 hF => ?_))
    have hW3 := hWb.fr hF
    have hD3 := hDb.fr hF (fun b hb q => by have := hb.2; have := q.1; omega)
    have km3 := hM3.1.k
    have pt := fun Q => @m_thrown T3 Q m _ hM3.1 h13
    have ko3 := hW3.2.2.1
    have i0 : mInB 0 1 = true := mInB_Z (by omega) (by omega)
    have eb := (congrArg (fun z : mT => z.2.2.1 o 0) hTb).symm.trans (mU_s _ _ _ _)
    have eo := (congrFun (hF.2.2 o (fun q => by have := q.2; omega)).2.1 0).trans eb
    simp (maxSteps := 4000000) (disch := first | (simp (disch := omega) only [XB_i, XB_n, va_rf_s, va_rf_n, mSI_K, mSI_I, mSI_J, mSI_P, mSI_N, mSJ_K, mSJ_I, mSJ_J, mSJ_P, mSJ_N, mSP_K, mSP_I, mSP_J, mSP_P, mSP_N, mNn, mNi, mNr, mN0, al20, al21, al22, al23, al25, true_or, or_true, and_self, if_true, if_false, mCat_n, mCat_i, mCat_r, mCat_l, mCat_0, Nat.reduceAdd, Nat.reduceLeDiff, Nat.reduceLT, true_and, and_true, Nat.zero_le, bI_01, mInB_J, mInB_Z, mInB_N, km3, pt, ko3, i0, iI_cl0, eo, lg_z, eqT]; done) | omega | (unfold R32 at *; omega)) only [e_193_917, e_193_919, e_193_919_n, e_193_923, e_193_925, e_193_928, e_193_929, e_193_930, e_193_932, e_193_935, e_193_935_n, e_193_936, e_193_937, e_193_938, e_193_940, e_193_941, e_193_942, e_193_945, e_193_946, e_193_947, d_193_920, XB_i, XB_n, va_rf_s, va_rf_n, mSI_K, mSI_I, mSI_J, mSI_P, mSI_N, mSJ_K, mSJ_I, mSJ_J, mSJ_P, mSJ_N, mSP_K, mSP_I, mSP_J, mSP_P, mSP_N, mNn, mNi, mNr, mN0, al20, al21, al22, al23, al25, true_or, or_true, and_self, if_true, if_false, mCat_n, mCat_i, mCat_r, mCat_l, mCat_0, Nat.reduceAdd, Nat.reduceLeDiff, Nat.reduceLT, true_and, and_true, Nat.zero_le, bI_01, bI_0, i10, tf0, iI_add, iI_sub, iI_mul, iI_neg, iI_add1, iI_sub1, iI_m1, nca, nc1, ncm1, iI_clJ, iI_cl0, iI_clN, Int.toNat_natCast, mU_n, mU_s, p_min, p_max, p_abs, ni_2, ni_3, ni_4, ni_7, ni_8, ni_9, ni_12, ni_24, ni_97, ni_100, ni_122, ni_200, ni_256, ni_4096, ni_5000, ni_9999, iI_lt, iI_le, iI_eq, iz_eq, iz_lt, iz_le, iz_gt, iz_ge, iy_eq, iy_lt, iy_le, iI_ltN, iI_leN, iI_eqN, if_pos, if_neg, km3, pt, ko3, i0, iI_cl0, eo, lg_z, eqT]
    exact hQ T3 _ _ ⟨_, _, _, _, _, _, _, _, hD3, hM3, hI, by omega, hW3⟩
theorem lw_near (g : Geo sc x m o) (h : Wd T sc N x m o c n0 u0) (hN : 7 * c + 7 ≤ N) (hN2 : N ≤ 3584) (hQ : ∀ T2 l5 l6, Wd T2 sc N x m o (c + 1) n0 u0 → XW 193 1042 [some (.ref (sc)), some (.ref (x)), some (.ref (m)), some (.ref (o)), some (.int (iI ((7 * c : Nat) : Int))), l5, l6] [] T2 Q) (l5 l6 : Option Value) : XW 193 950 [some (.ref (sc)), some (.ref (x)), some (.ref (m)), some (.ref (o)), some (.int (iI ((7 * c : Nat) : Int))), l5, l6] [] T Q := by
  obtain ⟨cs, Fs, kp, cl, hb, rg, pk, df, hD, hM, hI, hcl, hW⟩ := h
  obtain ⟨gs, gx, gm⟩ := id g
  obtain ⟨v1, r1, e1⟩ := sc_v T sc (7 * c + 1)
  obtain ⟨v2, r2, e2⟩ := sc_v T sc (7 * c + 2)
  obtain ⟨v3, r3, e3⟩ := sc_v T sc (7 * c + 3)
  obtain ⟨v4, r4, e4⟩ := sc_v T sc (7 * c + 4)
  have ks := hW.2.1
  have ho := hW.2.2.1
  have hz := hW.1
  have hn := hW.2.2.2.1
  have kx := hD.kx
  have km := hM.1.k
  have hx : x + 857 ≤ T.2.2.2.2.1 := by omega
  have n5 : (5 : Int32) = iI 5 := rfl
  have n6 : (6 : Int32) = iI 6 := rfl
  have t2 : (((7 * c : Nat) : Int) + 2).toNat = 7 * c + 2 := by omega
  have t3 : (((7 * c : Nat) : Int) + 3).toNat = 7 * c + 3 := by omega
  have t4 : (((7 * c : Nat) : Int) + 4).toNat = 7 * c + 4 := by omega
  have t5 : (((7 * c : Nat) : Int) + 5).toNat = 7 * c + 5 := by omega
  have t6 : (((7 * c : Nat) : Int) + 6).toNat = 7 * c + 6 := by omega
  simp (maxSteps := 4000000) (disch := first | (simp (disch := omega) only [XB_i, XB_n, va_rf_s, va_rf_n, mSI_K, mSI_I, mSI_J, mSI_P, mSI_N, mSJ_K, mSJ_I, mSJ_J, mSJ_P, mSJ_N, mSP_K, mSP_I, mSP_J, mSP_P, mSP_N, mNn, mNi, mNr, mN0, al20, al21, al22, al23, al25, true_or, or_true, and_self, if_true, if_false, mCat_n, mCat_i, mCat_r, mCat_l, mCat_0, Nat.reduceAdd, Nat.reduceLeDiff, Nat.reduceLT, true_and, and_true, Nat.zero_le, bI_01, mInB_J, mInB_Z, mInB_N, ks, e1, e2, e3, e4, n5, n6, t2, t3, t4, t5, t6]; done) | omega | (unfold R32 at *; omega)) only [e_193_950, e_193_950_n, e_193_951, e_193_951_n, e_193_952, e_193_954, e_193_955, e_193_956, e_193_957, e_193_957_n, e_193_958, e_193_960, e_193_961, e_193_962, e_193_963, e_193_963_n, e_193_964, e_193_966, e_193_967, e_193_968, e_193_969, e_193_969_n, e_193_970, e_193_972, e_193_973, e_193_974, e_193_975, e_193_975_n, XB_i, XB_n, va_rf_s, va_rf_n, mSI_K, mSI_I, mSI_J, mSI_P, mSI_N, mSJ_K, mSJ_I, mSJ_J, mSJ_P, mSJ_N, mSP_K, mSP_I, mSP_J, mSP_P, mSP_N, mNn, mNi, mNr, mN0, al20, al21, al22, al23, al25, true_or, or_true, and_self, if_true, if_false, mCat_n, mCat_i, mCat_r, mCat_l, mCat_0, Nat.reduceAdd, Nat.reduceLeDiff, Nat.reduceLT, true_and, and_true, Nat.zero_le, bI_01, bI_0, i10, tf0, iI_add, iI_sub, iI_mul, iI_neg, iI_add1, iI_sub1, iI_m1, nca, nc1, ncm1, iI_clJ, iI_cl0, iI_clN, Int.toNat_natCast, mU_n, mU_s, p_min, p_max, p_abs, ni_2, ni_3, ni_4, ni_7, ni_8, ni_9, ni_12, ni_24, ni_97, ni_100, ni_122, ni_200, ni_256, ni_4096, ni_5000, ni_9999, iI_lt, iI_le, iI_eq, iz_eq, iz_lt, iz_le, iz_gt, iz_ge, iy_eq, iy_lt, iy_le, iI_ltN, iI_leN, iI_eqN, if_pos, if_neg, ks, e1, e2, e3, e4, n5, n6, t2, t3, t4, t5, t6]
  refine c_193_976 (by simp only [XB_i, XB_n, va_rf_s, va_rf_n, mSI_K, mSI_I, mSI_J, mSI_P, mSI_N, mSJ_K, mSJ_I, mSJ_J, mSJ_P, mSJ_N, mSP_K, mSP_I, mSP_J, mSP_P, mSP_N, mNn, mNi, mNr, mN0, al20, al21, al22, al23, al25, true_or, or_true, and_self, if_true, if_false, mCat_n, mCat_i, mCat_r, mCat_l, mCat_0, Nat.reduceAdd, Nat.reduceLeDiff, Nat.reduceLT, true_and, and_true, Nat.zero_le, bI_01]) (wr_near (by rw [kx]) ho (dk_near hz hx hD hI.1 r1 r2 r3 r4 (fun q T2 hD2 hG => ?_) (fun q T2 hD2 hG => ?_)))
  · have hM2 := hM.gr hG (by omega) (fun b hb q => by have := hb.1; have := q.2; omega)
    have hW2 := hW.gr hG
    have ks2 := hW2.2.1
    have km2 := hM2.1.k
    have es := (hG.2.2 sc (fun q => by have := q.1; omega) (by omega)).1
    have d1 : T2.2.1 sc (7 * c + 1) = iI v1 := by rw [es]; exact e1
    have d2 : T2.2.1 sc (7 * c + 2) = iI v2 := by rw [es]; exact e2
    have d3 : T2.2.1 sc (7 * c + 3) = iI v3 := by rw [es]; exact e3
    have d4 : T2.2.1 sc (7 * c + 4) = iI v4 := by rw [es]; exact e4
    refine ⟨hG.1, Or.inr ⟨3, 1, rfl, rfl, ?_⟩⟩
    have fJ : Fr (fun b => b = o) T2 T2 := Fr.rf
    have hDb := hD2.fr fJ (fun b hb q => by have := hb.2; omega)
    have hMb := hM2.fr fJ (fun b hb q => by have := hb.2; omega)
    have hWb := hW2.fr fJ
    have ksb := hWb.2.1
    have kmb := hMb.1.k
    have b1 : T2.2.1 sc (7 * c + 1) = iI v1 := by rw [(fJ.2.2 sc (by omega)).1]; exact d1
    have b2 : T2.2.1 sc (7 * c + 2) = iI v2 := by rw [(fJ.2.2 sc (by omega)).1]; exact d2
    have b3 : T2.2.1 sc (7 * c + 3) = iI v3 := by rw [(fJ.2.2 sc (by omega)).1]; exact d3
    have b4 : T2.2.1 sc (7 * c + 4) = iI v4 := by rw [(fJ.2.2 sc (by omega)).1]; exact d4
    simp (maxSteps := 4000000) (disch := first | (simp (disch := omega) only [XB_i, XB_n, va_rf_s, va_rf_n, mSI_K, mSI_I, mSI_J, mSI_P, mSI_N, mSJ_K, mSJ_I, mSJ_J, mSJ_P, mSJ_N, mSP_K, mSP_I, mSP_J, mSP_P, mSP_N, mNn, mNi, mNr, mN0, al20, al21, al22, al23, al25, true_or, or_true, and_self, if_true, if_false, mCat_n, mCat_i, mCat_r, mCat_l, mCat_0, Nat.reduceAdd, Nat.reduceLeDiff, Nat.reduceLT, true_and, and_true, Nat.zero_le, bI_01, mInB_J, mInB_Z, mInB_N, ksb, b1, b2, b3, b4, n5, n6, t2, t3, t4, t5, t6]; done) | omega | (unfold R32 at *; omega)) only [e_193_979, e_193_981, e_193_981_n, e_193_982, e_193_982_n, e_193_983, e_193_985, e_193_986, e_193_987, e_193_988, e_193_988_n, e_193_989, e_193_991, e_193_992, e_193_993, e_193_994, e_193_994_n, e_193_995, e_193_997, e_193_998, e_193_999, e_193_1000, e_193_1000_n, e_193_1001, e_193_1003, e_193_1004, e_193_1005, XB_i, XB_n, va_rf_s, va_rf_n, mSI_K, mSI_I, mSI_J, mSI_P, mSI_N, mSJ_K, mSJ_I, mSJ_J, mSJ_P, mSJ_N, mSP_K, mSP_I, mSP_J, mSP_P, mSP_N, mNn, mNi, mNr, mN0, al20, al21, al22, al23, al25, true_or, or_true, and_self, if_true, if_false, mCat_n, mCat_i, mCat_r, mCat_l, mCat_0, Nat.reduceAdd, Nat.reduceLeDiff, Nat.reduceLT, true_and, and_true, Nat.zero_le, bI_01, bI_0, i10, tf0, iI_add, iI_sub, iI_mul, iI_neg, iI_add1, iI_sub1, iI_m1, nca, nc1, ncm1, iI_clJ, iI_cl0, iI_clN, Int.toNat_natCast, mU_n, mU_s, p_min, p_max, p_abs, ni_2, ni_3, ni_4, ni_7, ni_8, ni_9, ni_12, ni_24, ni_97, ni_100, ni_122, ni_200, ni_256, ni_4096, ni_5000, ni_9999, iI_lt, iI_le, iI_eq, iz_eq, iz_lt, iz_le, iz_gt, iz_ge, iy_eq, iy_lt, iy_le, iI_ltN, iI_leN, iI_eqN, if_pos, if_neg, ksb, b1, b2, b3, b4, n5, n6, t2, t3, t4, t5, t6]
    refine c_193_1006 (by simp only [XB_i, XB_n, va_rf_s, va_rf_n, mSI_K, mSI_I, mSI_J, mSI_P, mSI_N, mSJ_K, mSJ_I, mSJ_J, mSJ_P, mSJ_N, mSP_K, mSP_I, mSP_J, mSP_P, mSP_N, mNn, mNi, mNr, mN0, al20, al21, al22, al23, al25, true_or, or_true, and_self, if_true, if_false, mCat_n, mCat_i, mCat_r, mCat_l, mCat_0, Nat.reduceAdd, Nat.reduceLeDiff, Nat.reduceLT, true_and, and_true, Nat.zero_le, bI_01]) (by rw [kmb]) (md_near hMb hI.1 r1 r2 r3 r4 (fun _ T3 hM3 h13 hF => ?_) (fun q2 => absurd q q2))
    change T3.2.1 m 13 = 1 at h13
    have hW3 := hWb.fr hF
    have hD3 := hDb.fr hF (fun b hb q => by have := hb.2; have := q.1; omega)
    have km3 := hM3.1.k
    have pt := fun Q => @m_thrown T3 Q m _ hM3.1 h13
    simp (maxSteps := 4000000) (disch := first | (simp (disch := omega) only [XB_i, XB_n, va_rf_s, va_rf_n, mSI_K, mSI_I, mSI_J, mSI_P, mSI_N, mSJ_K, mSJ_I, mSJ_J, mSJ_P, mSJ_N, mSP_K, mSP_I, mSP_J, mSP_P, mSP_N, mNn, mNi, mNr, mN0, al20, al21, al22, al23, al25, true_or, or_true, and_self, if_true, if_false, mCat_n, mCat_i, mCat_r, mCat_l, mCat_0, Nat.reduceAdd, Nat.reduceLeDiff, Nat.reduceLT, true_and, and_true, Nat.zero_le, bI_01, mInB_J, mInB_Z, mInB_N, km3, pt, eqT, i20]; done) | omega | (unfold R32 at *; omega)) only [e_193_1009, e_193_1011, e_193_1011_n, e_193_1015, e_193_1017, e_193_1020, e_193_1021, e_193_1022, e_193_1024, e_193_1027, e_193_1027_n, e_193_1028, e_193_1029, e_193_1030, e_193_1032, e_193_1033, e_193_1034, e_193_1037, e_193_1038, e_193_1039, d_193_1012, XB_i, XB_n, va_rf_s, va_rf_n, mSI_K, mSI_I, mSI_J, mSI_P, mSI_N, mSJ_K, mSJ_I, mSJ_J, mSJ_P, mSJ_N, mSP_K, mSP_I, mSP_J, mSP_P, mSP_N, mNn, mNi, mNr, mN0, al20, al21, al22, al23, al25, true_or, or_true, and_self, if_true, if_false, mCat_n, mCat_i, mCat_r, mCat_l, mCat_0, Nat.reduceAdd, Nat.reduceLeDiff, Nat.reduceLT, true_and, and_true, Nat.zero_le, bI_01, bI_0, i10, tf0, iI_add, iI_sub, iI_mul, iI_neg, iI_add1, iI_sub1, iI_m1, nca, nc1, ncm1, iI_clJ, iI_cl0, iI_clN, Int.toNat_natCast, mU_n, mU_s, p_min, p_max, p_abs, ni_2, ni_3, ni_4, ni_7, ni_8, ni_9, ni_12, ni_24, ni_97, ni_100, ni_122, ni_200, ni_256, ni_4096, ni_5000, ni_9999, iI_lt, iI_le, iI_eq, iz_eq, iz_lt, iz_le, iz_gt, iz_ge, iy_eq, iy_lt, iy_le, iI_ltN, iI_leN, iI_eqN, if_pos, if_neg, km3, pt, eqT, i20]
    exact hQ T3 _ _ ⟨_, _, _, _, _, _, _, _, hD3, hM3, hI, by omega, hW3⟩
  · have hM2 := hM.gr hG (by omega) (fun b hb q => by have := hb.1; have := q.2; omega)
    have hW2 := hW.gr hG
    have ks2 := hW2.2.1
    have km2 := hM2.1.k
    have es := (hG.2.2 sc (fun q => by have := q.1; omega) (by omega)).1
    have d1 : T2.2.1 sc (7 * c + 1) = iI v1 := by rw [es]; exact e1
    have d2 : T2.2.1 sc (7 * c + 2) = iI v2 := by rw [es]; exact e2
    have d3 : T2.2.1 sc (7 * c + 3) = iI v3 := by rw [es]; exact e3
    have d4 : T2.2.1 sc (7 * c + 4) = iI v4 := by rw [es]; exact e4
    refine ⟨hG.1, Or.inl ⟨_, rfl, ?_⟩⟩
    generalize hTb : mSJ T2 o 0 _ = Tb
    have fJ : Fr (fun b => b = o) T2 Tb := by rw [← hTb]; exact Fr.oJ _
    have hDb := hD2.fr fJ (fun b hb q => by have := hb.2; omega)
    have hMb := hM2.fr fJ (fun b hb q => by have := hb.2; omega)
    have hWb := hW2.fr fJ
    have ksb := hWb.2.1
    have kmb := hMb.1.k
    have b1 : Tb.2.1 sc (7 * c + 1) = iI v1 := by rw [(fJ.2.2 sc (by omega)).1]; exact d1
    have b2 : Tb.2.1 sc (7 * c + 2) = iI v2 := by rw [(fJ.2.2 sc (by omega)).1]; exact d2
    have b3 : Tb.2.1 sc (7 * c + 3) = iI v3 := by rw [(fJ.2.2 sc (by omega)).1]; exact d3
    have b4 : Tb.2.1 sc (7 * c + 4) = iI v4 := by rw [(fJ.2.2 sc (by omega)).1]; exact d4
    simp (maxSteps := 4000000) (disch := first | (simp (disch := omega) only [XB_i, XB_n, va_rf_s, va_rf_n, mSI_K, mSI_I, mSI_J, mSI_P, mSI_N, mSJ_K, mSJ_I, mSJ_J, mSJ_P, mSJ_N, mSP_K, mSP_I, mSP_J, mSP_P, mSP_N, mNn, mNi, mNr, mN0, al20, al21, al22, al23, al25, true_or, or_true, and_self, if_true, if_false, mCat_n, mCat_i, mCat_r, mCat_l, mCat_0, Nat.reduceAdd, Nat.reduceLeDiff, Nat.reduceLT, true_and, and_true, Nat.zero_le, bI_01, mInB_J, mInB_Z, mInB_N, ksb, b1, b2, b3, b4, n5, n6, t2, t3, t4, t5, t6]; done) | omega | (unfold R32 at *; omega)) only [e_193_979, e_193_981, e_193_981_n, e_193_982, e_193_982_n, e_193_983, e_193_985, e_193_986, e_193_987, e_193_988, e_193_988_n, e_193_989, e_193_991, e_193_992, e_193_993, e_193_994, e_193_994_n, e_193_995, e_193_997, e_193_998, e_193_999, e_193_1000, e_193_1000_n, e_193_1001, e_193_1003, e_193_1004, e_193_1005, XB_i, XB_n, va_rf_s, va_rf_n, mSI_K, mSI_I, mSI_J, mSI_P, mSI_N, mSJ_K, mSJ_I, mSJ_J, mSJ_P, mSJ_N, mSP_K, mSP_I, mSP_J, mSP_P, mSP_N, mNn, mNi, mNr, mN0, al20, al21, al22, al23, al25, true_or, or_true, and_self, if_true, if_false, mCat_n, mCat_i, mCat_r, mCat_l, mCat_0, Nat.reduceAdd, Nat.reduceLeDiff, Nat.reduceLT, true_and, and_true, Nat.zero_le, bI_01, bI_0, i10, tf0, iI_add, iI_sub, iI_mul, iI_neg, iI_add1, iI_sub1, iI_m1, nca, nc1, ncm1, iI_clJ, iI_cl0, iI_clN, Int.toNat_natCast, mU_n, mU_s, p_min, p_max, p_abs, ni_2, ni_3, ni_4, ni_7, ni_8, ni_9, ni_12, ni_24, ni_97, ni_100, ni_122, ni_200, ni_256, ni_4096, ni_5000, ni_9999, iI_lt, iI_le, iI_eq, iz_eq, iz_lt, iz_le, iz_gt, iz_ge, iy_eq, iy_lt, iy_le, iI_ltN, iI_leN, iI_eqN, if_pos, if_neg, ksb, b1, b2, b3, b4, n5, n6, t2, t3, t4, t5, t6]
    refine c_193_1006 (by simp only [XB_i, XB_n, va_rf_s, va_rf_n, mSI_K, mSI_I, mSI_J, mSI_P, mSI_N, mSJ_K, mSJ_I, mSJ_J, mSJ_P, mSJ_N, mSP_K, mSP_I, mSP_J, mSP_P, mSP_N, mNn, mNi, mNr, mN0, al20, al21, al22, al23, al25, true_or, or_true, and_self, if_true, if_false, mCat_n, mCat_i, mCat_r, mCat_l, mCat_0, Nat.reduceAdd, Nat.reduceLeDiff, Nat.reduceLT, true_and, and_true, Nat.zero_le, bI_01]) (by rw [kmb]) (md_near hMb hI.1 r1 r2 r3 r4 (fun q2 => absurd q2 q) (fun _ T3 hM3 h13 hF => ?_))
    have hW3 := hWb.fr hF
    have hD3 := hDb.fr hF (fun b hb q => by have := hb.2; have := q.1; omega)
    have km3 := hM3.1.k
    have pt := fun Q => @m_thrown T3 Q m _ hM3.1 h13
    have ko3 := hW3.2.2.1
    have i0 : mInB 0 1 = true := mInB_Z (by omega) (by omega)
    have eb := (congrArg (fun z : mT => z.2.2.1 o 0) hTb).symm.trans (mU_s _ _ _ _)
    have eo := (congrFun (hF.2.2 o (fun q => by have := q.2; omega)).2.1 0).trans eb
    simp (maxSteps := 4000000) (disch := first | (simp (disch := omega) only [XB_i, XB_n, va_rf_s, va_rf_n, mSI_K, mSI_I, mSI_J, mSI_P, mSI_N, mSJ_K, mSJ_I, mSJ_J, mSJ_P, mSJ_N, mSP_K, mSP_I, mSP_J, mSP_P, mSP_N, mNn, mNi, mNr, mN0, al20, al21, al22, al23, al25, true_or, or_true, and_self, if_true, if_false, mCat_n, mCat_i, mCat_r, mCat_l, mCat_0, Nat.reduceAdd, Nat.reduceLeDiff, Nat.reduceLT, true_and, and_true, Nat.zero_le, bI_01, mInB_J, mInB_Z, mInB_N, km3, pt, ko3, i0, iI_cl0, eo, lg_z, eqT]; done) | omega | (unfold R32 at *; omega)) only [e_193_1009, e_193_1011, e_193_1011_n, e_193_1015, e_193_1017, e_193_1020, e_193_1021, e_193_1022, e_193_1024, e_193_1027, e_193_1027_n, e_193_1028, e_193_1029, e_193_1030, e_193_1032, e_193_1033, e_193_1034, e_193_1037, e_193_1038, e_193_1039, d_193_1012, XB_i, XB_n, va_rf_s, va_rf_n, mSI_K, mSI_I, mSI_J, mSI_P, mSI_N, mSJ_K, mSJ_I, mSJ_J, mSJ_P, mSJ_N, mSP_K, mSP_I, mSP_J, mSP_P, mSP_N, mNn, mNi, mNr, mN0, al20, al21, al22, al23, al25, true_or, or_true, and_self, if_true, if_false, mCat_n, mCat_i, mCat_r, mCat_l, mCat_0, Nat.reduceAdd, Nat.reduceLeDiff, Nat.reduceLT, true_and, and_true, Nat.zero_le, bI_01, bI_0, i10, tf0, iI_add, iI_sub, iI_mul, iI_neg, iI_add1, iI_sub1, iI_m1, nca, nc1, ncm1, iI_clJ, iI_cl0, iI_clN, Int.toNat_natCast, mU_n, mU_s, p_min, p_max, p_abs, ni_2, ni_3, ni_4, ni_7, ni_8, ni_9, ni_12, ni_24, ni_97, ni_100, ni_122, ni_200, ni_256, ni_4096, ni_5000, ni_9999, iI_lt, iI_le, iI_eq, iz_eq, iz_lt, iz_le, iz_gt, iz_ge, iy_eq, iy_lt, iy_le, iI_ltN, iI_leN, iI_eqN, if_pos, if_neg, km3, pt, ko3, i0, iI_cl0, eo, lg_z, eqT]
    exact hQ T3 _ _ ⟨_, _, _, _, _, _, _, _, hD3, hM3, hI, by omega, hW3⟩
theorem lw_feature (g : Geo sc x m o) (h : Wd T sc N x m o c n0 u0) (hN : 7 * c + 7 ≤ N) (hN2 : N ≤ 3584) (hQ : ∀ T2 l5 l6, Wd T2 sc N x m o (c + 1) n0 u0 → XW 193 1042 [some (.ref (sc)), some (.ref (x)), some (.ref (m)), some (.ref (o)), some (.int (iI ((7 * c : Nat) : Int))), l5, l6] [] T2 Q) (l5 l6 : Option Value) : XW 193 157 [some (.ref (sc)), some (.ref (x)), some (.ref (m)), some (.ref (o)), some (.int (iI ((7 * c : Nat) : Int))), l5, l6] [] T Q := by
  obtain ⟨cs, Fs, kp, cl, hb, rg, pk, df, hD, hM, hI, hcl, hW⟩ := h
  obtain ⟨gs, gx, gm⟩ := id g
  obtain ⟨v1, r1, e1⟩ := sc_v T sc (7 * c + 1)
  obtain ⟨v2, r2, e2⟩ := sc_v T sc (7 * c + 2)
  obtain ⟨v3, r3, e3⟩ := sc_v T sc (7 * c + 3)
  obtain ⟨v4, r4, e4⟩ := sc_v T sc (7 * c + 4)
  obtain ⟨v5, r5, e5⟩ := sc_v T sc (7 * c + 5)
  obtain ⟨v6, r6, e6⟩ := sc_v T sc (7 * c + 6)
  have ks := hW.2.1
  have ho := hW.2.2.1
  have hz := hW.1
  have hn := hW.2.2.2.1
  have kx := hD.kx
  have km := hM.1.k
  have hx : x + 857 ≤ T.2.2.2.2.1 := by omega
  have n5 : (5 : Int32) = iI 5 := rfl
  have n6 : (6 : Int32) = iI 6 := rfl
  have t2 : (((7 * c : Nat) : Int) + 2).toNat = 7 * c + 2 := by omega
  have t3 : (((7 * c : Nat) : Int) + 3).toNat = 7 * c + 3 := by omega
  have t4 : (((7 * c : Nat) : Int) + 4).toNat = 7 * c + 4 := by omega
  have t5 : (((7 * c : Nat) : Int) + 5).toNat = 7 * c + 5 := by omega
  have t6 : (((7 * c : Nat) : Int) + 6).toNat = 7 * c + 6 := by omega
  simp (maxSteps := 4000000) (disch := first | (simp (disch := omega) only [XB_i, XB_n, va_rf_s, va_rf_n, mSI_K, mSI_I, mSI_J, mSI_P, mSI_N, mSJ_K, mSJ_I, mSJ_J, mSJ_P, mSJ_N, mSP_K, mSP_I, mSP_J, mSP_P, mSP_N, mNn, mNi, mNr, mN0, al20, al21, al22, al23, al25, true_or, or_true, and_self, if_true, if_false, mCat_n, mCat_i, mCat_r, mCat_l, mCat_0, Nat.reduceAdd, Nat.reduceLeDiff, Nat.reduceLT, true_and, and_true, Nat.zero_le, bI_01, mInB_J, mInB_Z, mInB_N, ks, e1, e2, e3, e4, e5, e6, n5, n6, t2, t3, t4, t5, t6]; done) | omega | (unfold R32 at *; omega)) only [e_193_157, e_193_157_n, e_193_158, e_193_158_n, e_193_159, e_193_161, e_193_162, e_193_163, e_193_164, e_193_164_n, e_193_165, e_193_167, e_193_168, e_193_169, e_193_170, e_193_170_n, e_193_171, e_193_173, e_193_174, e_193_175, e_193_176, e_193_176_n, e_193_177, e_193_179, e_193_180, e_193_181, e_193_182, e_193_182_n, e_193_183, e_193_185, e_193_186, e_193_187, e_193_188, e_193_189, e_193_191, e_193_192, e_193_192_n, e_193_193, e_193_195, e_193_197, e_193_198, e_193_199, e_193_200, e_193_203, e_193_204, e_193_205, e_193_205_n, XB_i, XB_n, va_rf_s, va_rf_n, mSI_K, mSI_I, mSI_J, mSI_P, mSI_N, mSJ_K, mSJ_I, mSJ_J, mSJ_P, mSJ_N, mSP_K, mSP_I, mSP_J, mSP_P, mSP_N, mNn, mNi, mNr, mN0, al20, al21, al22, al23, al25, true_or, or_true, and_self, if_true, if_false, mCat_n, mCat_i, mCat_r, mCat_l, mCat_0, Nat.reduceAdd, Nat.reduceLeDiff, Nat.reduceLT, true_and, and_true, Nat.zero_le, bI_01, bI_0, i10, tf0, iI_add, iI_sub, iI_mul, iI_neg, iI_add1, iI_sub1, iI_m1, nca, nc1, ncm1, iI_clJ, iI_cl0, iI_clN, Int.toNat_natCast, mU_n, mU_s, p_min, p_max, p_abs, ni_2, ni_3, ni_4, ni_7, ni_8, ni_9, ni_12, ni_24, ni_97, ni_100, ni_122, ni_200, ni_256, ni_4096, ni_5000, ni_9999, iI_lt, iI_le, iI_eq, iz_eq, iz_lt, iz_le, iz_gt, iz_ge, iy_eq, iy_lt, iy_le, iI_ltN, iI_leN, iI_eqN, if_pos, if_neg, ks, e1, e2, e3, e4, e5, e6, n5, n6, t2, t3, t4, t5, t6]
  refine c_193_206 (by simp only [XB_i, XB_n, va_rf_s, va_rf_n, mSI_K, mSI_I, mSI_J, mSI_P, mSI_N, mSJ_K, mSJ_I, mSJ_J, mSJ_P, mSJ_N, mSP_K, mSP_I, mSP_J, mSP_P, mSP_N, mNn, mNi, mNr, mN0, al20, al21, al22, al23, al25, true_or, or_true, and_self, if_true, if_false, mCat_n, mCat_i, mCat_r, mCat_l, mCat_0, Nat.reduceAdd, Nat.reduceLeDiff, Nat.reduceLT, true_and, and_true, Nat.zero_le, bI_01]) (wr_feature (by rw [kx]) ho (dk_feature hz hx hD hI.1 ⟨r1, r2, r3, r4⟩ (fun T2 hD2 hG => ?_)))
  have hM2 := hM.gr hG (by omega) (fun b hb q => by have := hb.1; have := q.2; omega)
  have hW2 := hW.gr hG
  have ks2 := hW2.2.1
  have km2 := hM2.1.k
  have es := (hG.2.2 sc (fun q => by have := q.1; omega) (by omega)).1
  have d1 : T2.2.1 sc (7 * c + 1) = iI v1 := by rw [es]; exact e1
  have d2 : T2.2.1 sc (7 * c + 2) = iI v2 := by rw [es]; exact e2
  have d3 : T2.2.1 sc (7 * c + 3) = iI v3 := by rw [es]; exact e3
  have d4 : T2.2.1 sc (7 * c + 4) = iI v4 := by rw [es]; exact e4
  have d5 : T2.2.1 sc (7 * c + 5) = iI v5 := by rw [es]; exact e5
  have d6 : T2.2.1 sc (7 * c + 6) = iI v6 := by rw [es]; exact e6
  have hi := hI.feature (d := (v1, v2, v3, v4)) (w := ((iI v5).toInt64 <<< ((32 : Int32).toInt64 &&& 63)) ||| ((iI v6).toInt64 &&& 4294967295)) hD.cs12
  generalize hw : ((iI v5).toInt64 <<< ((32 : Int32).toInt64 &&& 63)) ||| ((iI v6).toInt64 &&& 4294967295) = wd at *
  unfold oFe
  by_cases q1 : sFe ((v1, v2, v3, v4), wd, cs) = true
  · by_cases q2 : putB Fs ((v1, v2, v3, v4), wd, cs) = true
    · rw [if_pos q1, if_pos q2]
      refine ⟨hG.1, Or.inl ⟨_, rfl, ?_⟩⟩
      generalize hTb : mSJ T2 o 0 _ = Tb
      have fJ : Fr (fun b => b = o) T2 Tb := by rw [← hTb]; exact Fr.oJ _
      have hDb := hD2.fr fJ (fun b hb q => by have := hb.2; omega)
      have hMb := hM2.fr fJ (fun b hb q => by have := hb.2; omega)
      have hWb := hW2.fr fJ
      have ksb := hWb.2.1
      have kmb := hMb.1.k
      have b1 : Tb.2.1 sc (7 * c + 1) = iI v1 := by rw [(fJ.2.2 sc (by omega)).1]; exact d1
      have b2 : Tb.2.1 sc (7 * c + 2) = iI v2 := by rw [(fJ.2.2 sc (by omega)).1]; exact d2
      have b3 : Tb.2.1 sc (7 * c + 3) = iI v3 := by rw [(fJ.2.2 sc (by omega)).1]; exact d3
      have b4 : Tb.2.1 sc (7 * c + 4) = iI v4 := by rw [(fJ.2.2 sc (by omega)).1]; exact d4
      have b5 : Tb.2.1 sc (7 * c + 5) = iI v5 := by rw [(fJ.2.2 sc (by omega)).1]; exact d5
      have b6 : Tb.2.1 sc (7 * c + 6) = iI v6 := by rw [(fJ.2.2 sc (by omega)).1]; exact d6
      simp (maxSteps := 4000000) (disch := first | (simp (disch := omega) only [XB_i, XB_n, va_rf_s, va_rf_n, mSI_K, mSI_I, mSI_J, mSI_P, mSI_N, mSJ_K, mSJ_I, mSJ_J, mSJ_P, mSJ_N, mSP_K, mSP_I, mSP_J, mSP_P, mSP_N, mNn, mNi, mNr, mN0, al20, al21, al22, al23, al25, true_or, or_true, and_self, if_true, if_false, mCat_n, mCat_i, mCat_r, mCat_l, mCat_0, Nat.reduceAdd, Nat.reduceLeDiff, Nat.reduceLT, true_and, and_true, Nat.zero_le, bI_01, mInB_J, mInB_Z, mInB_N, ksb, b1, b2, b3, b4, b5, b6, n5, n6, t2, t3, t4, t5, t6]; done) | omega | (unfold R32 at *; omega)) only [e_193_209, e_193_211, e_193_211_n, e_193_212, e_193_212_n, e_193_213, e_193_215, e_193_216, e_193_217, e_193_218, e_193_218_n, e_193_219, e_193_221, e_193_222, e_193_223, e_193_224, e_193_224_n, e_193_225, e_193_227, e_193_228, e_193_229, e_193_230, e_193_230_n, e_193_231, e_193_233, e_193_234, e_193_235, e_193_236, e_193_236_n, e_193_237, e_193_239, e_193_240, e_193_241, e_193_242, e_193_243, e_193_245, e_193_246, e_193_246_n, e_193_247, e_193_249, e_193_251, e_193_252, e_193_253, e_193_254, e_193_257, e_193_258, XB_i, XB_n, va_rf_s, va_rf_n, mSI_K, mSI_I, mSI_J, mSI_P, mSI_N, mSJ_K, mSJ_I, mSJ_J, mSJ_P, mSJ_N, mSP_K, mSP_I, mSP_J, mSP_P, mSP_N, mNn, mNi, mNr, mN0, al20, al21, al22, al23, al25, true_or, or_true, and_self, if_true, if_false, mCat_n, mCat_i, mCat_r, mCat_l, mCat_0, Nat.reduceAdd, Nat.reduceLeDiff, Nat.reduceLT, true_and, and_true, Nat.zero_le, bI_01, bI_0, i10, tf0, iI_add, iI_sub, iI_mul, iI_neg, iI_add1, iI_sub1, iI_m1, nca, nc1, ncm1, iI_clJ, iI_cl0, iI_clN, Int.toNat_natCast, mU_n, mU_s, p_min, p_max, p_abs, ni_2, ni_3, ni_4, ni_7, ni_8, ni_9, ni_12, ni_24, ni_97, ni_100, ni_122, ni_200, ni_256, ni_4096, ni_5000, ni_9999, iI_lt, iI_le, iI_eq, iz_eq, iz_lt, iz_le, iz_gt, iz_ge, iy_eq, iy_lt, iy_le, iI_ltN, iI_leN, iI_eqN, if_pos, if_neg, ksb, b1, b2, b3, b4, b5, b6, n5, n6, t2, t3, t4, t5, t6]
      refine c_193_259 (by simp only [XB_i, XB_n, va_rf_s, va_rf_n, mSI_K, mSI_I, mSI_J, mSI_P, mSI_N, mSJ_K, mSJ_I, mSJ_J, mSJ_P, mSJ_N, mSP_K, mSP_I, mSP_J, mSP_P, mSP_N, mNn, mNi, mNr, mN0, al20, al21, al22, al23, al25, true_or, or_true, and_self, if_true, if_false, mCat_n, mCat_i, mCat_r, mCat_l, mCat_0, Nat.reduceAdd, Nat.reduceLeDiff, Nat.reduceLT, true_and, and_true, Nat.zero_le, bI_01]) (by rw [kmb]) (md_feature hMb hI.1 ⟨r1, r2, r3, r4⟩ (fun T3 v hv hM3 h13 hF => ?_))
      have ht : tFe Fs ((v1, v2, v3, v4), wd, cs) = 0 := by unfold tFe; rw [if_pos q1, if_pos q2]
      rw [hw] at h13 hM3 hv
      rw [ht] at h13
      have hv := hv q1 q2
      subst hv
      change T3.2.1 m 13 = 0 at h13
      have hW3 := hWb.fr hF
      have hD3 := hDb.fr hF (fun b hb q => by have := hb.2; have := q.1; omega)
      have km3 := hM3.1.k
      have pt := fun Q => @m_thrown T3 Q m _ hM3.1 h13
      have ko3 := hW3.2.2.1
      have i0 : mInB 0 1 = true := mInB_Z (by omega) (by omega)
      have eb := (congrArg (fun z : mT => z.2.2.1 o 0) hTb).symm.trans (mU_s _ _ _ _)
      have eo := (congrFun (hF.2.2 o (fun q => by have := q.2; omega)).2.1 0).trans eb
      simp (maxSteps := 4000000) (disch := first | (simp (disch := omega) only [XB_i, XB_n, va_rf_s, va_rf_n, mSI_K, mSI_I, mSI_J, mSI_P, mSI_N, mSJ_K, mSJ_I, mSJ_J, mSJ_P, mSJ_N, mSP_K, mSP_I, mSP_J, mSP_P, mSP_N, mNn, mNi, mNr, mN0, al20, al21, al22, al23, al25, true_or, or_true, and_self, if_true, if_false, mCat_n, mCat_i, mCat_r, mCat_l, mCat_0, Nat.reduceAdd, Nat.reduceLeDiff, Nat.reduceLT, true_and, and_true, Nat.zero_le, bI_01, mInB_J, mInB_Z, mInB_N, km3, pt, ko3, i0, iI_cl0, eo, lg_z, eqT]; done) | omega | (unfold R32 at *; omega)) only [e_193_262, e_193_264, e_193_264_n, e_193_268, e_193_270, e_193_273, e_193_274, e_193_275, e_193_277, e_193_280, e_193_280_n, e_193_281, e_193_282, e_193_283, e_193_285, e_193_286, e_193_287, e_193_290, e_193_291, e_193_292, d_193_265, XB_i, XB_n, va_rf_s, va_rf_n, mSI_K, mSI_I, mSI_J, mSI_P, mSI_N, mSJ_K, mSJ_I, mSJ_J, mSJ_P, mSJ_N, mSP_K, mSP_I, mSP_J, mSP_P, mSP_N, mNn, mNi, mNr, mN0, al20, al21, al22, al23, al25, true_or, or_true, and_self, if_true, if_false, mCat_n, mCat_i, mCat_r, mCat_l, mCat_0, Nat.reduceAdd, Nat.reduceLeDiff, Nat.reduceLT, true_and, and_true, Nat.zero_le, bI_01, bI_0, i10, tf0, iI_add, iI_sub, iI_mul, iI_neg, iI_add1, iI_sub1, iI_m1, nca, nc1, ncm1, iI_clJ, iI_cl0, iI_clN, Int.toNat_natCast, mU_n, mU_s, p_min, p_max, p_abs, ni_2, ni_3, ni_4, ni_7, ni_8, ni_9, ni_12, ni_24, ni_97, ni_100, ni_122, ni_200, ni_256, ni_4096, ni_5000, ni_9999, iI_lt, iI_le, iI_eq, iz_eq, iz_lt, iz_le, iz_gt, iz_ge, iy_eq, iy_lt, iy_le, iI_ltN, iI_leN, iI_eqN, if_pos, if_neg, km3, pt, ko3, i0, iI_cl0, eo, lg_z, eqT]
      exact hQ T3 _ _ ⟨_, _, _, _, _, _, _, _, hD3, hM3, hi, by omega, hW3⟩
    · rw [if_pos q1, if_neg q2]
      refine ⟨hG.1, Or.inr ⟨1, 2, rfl, rfl, ?_⟩⟩
      have fJ : Fr (fun b => b = o) T2 T2 := Fr.rf
      have hDb := hD2.fr fJ (fun b hb q => by have := hb.2; omega)
      have hMb := hM2.fr fJ (fun b hb q => by have := hb.2; omega)
      have hWb := hW2.fr fJ
      have ksb := hWb.2.1
      have kmb := hMb.1.k
      have b1 : T2.2.1 sc (7 * c + 1) = iI v1 := by rw [(fJ.2.2 sc (by omega)).1]; exact d1
      have b2 : T2.2.1 sc (7 * c + 2) = iI v2 := by rw [(fJ.2.2 sc (by omega)).1]; exact d2
      have b3 : T2.2.1 sc (7 * c + 3) = iI v3 := by rw [(fJ.2.2 sc (by omega)).1]; exact d3
      have b4 : T2.2.1 sc (7 * c + 4) = iI v4 := by rw [(fJ.2.2 sc (by omega)).1]; exact d4
      have b5 : T2.2.1 sc (7 * c + 5) = iI v5 := by rw [(fJ.2.2 sc (by omega)).1]; exact d5
      have b6 : T2.2.1 sc (7 * c + 6) = iI v6 := by rw [(fJ.2.2 sc (by omega)).1]; exact d6
      simp (maxSteps := 4000000) (disch := first | (simp (disch := omega) only [XB_i, XB_n, va_rf_s, va_rf_n, mSI_K, mSI_I, mSI_J, mSI_P, mSI_N, mSJ_K, mSJ_I, mSJ_J, mSJ_P, mSJ_N, mSP_K, mSP_I, mSP_J, mSP_P, mSP_N, mNn, mNi, mNr, mN0, al20, al21, al22, al23, al25, true_or, or_true, and_self, if_true, if_false, mCat_n, mCat_i, mCat_r, mCat_l, mCat_0, Nat.reduceAdd, Nat.reduceLeDiff, Nat.reduceLT, true_and, and_true, Nat.zero_le, bI_01, mInB_J, mInB_Z, mInB_N, ksb, b1, b2, b3, b4, b5, b6, n5, n6, t2, t3, t4, t5, t6]; done) | omega | (unfold R32 at *; omega)) only [e_193_209, e_193_211, e_193_211_n, e_193_212, e_193_212_n, e_193_213, e_193_215, e_193_216, e_193_217, e_193_218, e_193_218_n, e_193_219, e_193_221, e_193_222, e_193_223, e_193_224, e_193_224_n, e_193_225, e_193_227, e_193_228, e_193_229, e_193_230, e_193_230_n, e_193_231, e_193_233, e_193_234, e_193_235, e_193_236, e_193_236_n, e_193_237, e_193_239, e_193_240, e_193_241, e_193_242, e_193_243, e_193_245, e_193_246, e_193_246_n, e_193_247, e_193_249, e_193_251, e_193_252, e_193_253, e_193_254, e_193_257, e_193_258, XB_i, XB_n, va_rf_s, va_rf_n, mSI_K, mSI_I, mSI_J, mSI_P, mSI_N, mSJ_K, mSJ_I, mSJ_J, mSJ_P, mSJ_N, mSP_K, mSP_I, mSP_J, mSP_P, mSP_N, mNn, mNi, mNr, mN0, al20, al21, al22, al23, al25, true_or, or_true, and_self, if_true, if_false, mCat_n, mCat_i, mCat_r, mCat_l, mCat_0, Nat.reduceAdd, Nat.reduceLeDiff, Nat.reduceLT, true_and, and_true, Nat.zero_le, bI_01, bI_0, i10, tf0, iI_add, iI_sub, iI_mul, iI_neg, iI_add1, iI_sub1, iI_m1, nca, nc1, ncm1, iI_clJ, iI_cl0, iI_clN, Int.toNat_natCast, mU_n, mU_s, p_min, p_max, p_abs, ni_2, ni_3, ni_4, ni_7, ni_8, ni_9, ni_12, ni_24, ni_97, ni_100, ni_122, ni_200, ni_256, ni_4096, ni_5000, ni_9999, iI_lt, iI_le, iI_eq, iz_eq, iz_lt, iz_le, iz_gt, iz_ge, iy_eq, iy_lt, iy_le, iI_ltN, iI_leN, iI_eqN, if_pos, if_neg, ksb, b1, b2, b3, b4, b5, b6, n5, n6, t2, t3, t4, t5, t6]
      refine c_193_259 (by simp only [XB_i, XB_n, va_rf_s, va_rf_n, mSI_K, mSI_I, mSI_J, mSI_P, mSI_N, mSJ_K, mSJ_I, mSJ_J, mSJ_P, mSJ_N, mSP_K, mSP_I, mSP_J, mSP_P, mSP_N, mNn, mNi, mNr, mN0, al20, al21, al22, al23, al25, true_or, or_true, and_self, if_true, if_false, mCat_n, mCat_i, mCat_r, mCat_l, mCat_0, Nat.reduceAdd, Nat.reduceLeDiff, Nat.reduceLT, true_and, and_true, Nat.zero_le, bI_01]) (by rw [kmb]) (md_feature hMb hI.1 ⟨r1, r2, r3, r4⟩ (fun T3 v hv hM3 h13 hF => ?_))
      have ht : tFe Fs ((v1, v2, v3, v4), wd, cs) = 2 := by unfold tFe; rw [if_pos q1, if_neg q2]
      rw [hw] at h13 hM3 hv
      rw [ht] at h13
      change T3.2.1 m 13 = 2 at h13
      have hW3 := hWb.fr hF
      have hD3 := hDb.fr hF (fun b hb q => by have := hb.2; have := q.1; omega)
      have km3 := hM3.1.k
      have pt := fun Q => @m_thrown T3 Q m _ hM3.1 h13
      simp (maxSteps := 4000000) (disch := first | (simp (disch := omega) only [XB_i, XB_n, va_rf_s, va_rf_n, mSI_K, mSI_I, mSI_J, mSI_P, mSI_N, mSJ_K, mSJ_I, mSJ_J, mSJ_P, mSJ_N, mSP_K, mSP_I, mSP_J, mSP_P, mSP_N, mNn, mNi, mNr, mN0, al20, al21, al22, al23, al25, true_or, or_true, and_self, if_true, if_false, mCat_n, mCat_i, mCat_r, mCat_l, mCat_0, Nat.reduceAdd, Nat.reduceLeDiff, Nat.reduceLT, true_and, and_true, Nat.zero_le, bI_01, mInB_J, mInB_Z, mInB_N, km3, pt, eqT, i20]; done) | omega | (unfold R32 at *; omega)) only [e_193_262, e_193_264, e_193_264_n, e_193_268, e_193_270, e_193_273, e_193_274, e_193_275, e_193_277, e_193_280, e_193_280_n, e_193_281, e_193_282, e_193_283, e_193_285, e_193_286, e_193_287, e_193_290, e_193_291, e_193_292, d_193_265, XB_i, XB_n, va_rf_s, va_rf_n, mSI_K, mSI_I, mSI_J, mSI_P, mSI_N, mSJ_K, mSJ_I, mSJ_J, mSJ_P, mSJ_N, mSP_K, mSP_I, mSP_J, mSP_P, mSP_N, mNn, mNi, mNr, mN0, al20, al21, al22, al23, al25, true_or, or_true, and_self, if_true, if_false, mCat_n, mCat_i, mCat_r, mCat_l, mCat_0, Nat.reduceAdd, Nat.reduceLeDiff, Nat.reduceLT, true_and, and_true, Nat.zero_le, bI_01, bI_0, i10, tf0, iI_add, iI_sub, iI_mul, iI_neg, iI_add1, iI_sub1, iI_m1, nca, nc1, ncm1, iI_clJ, iI_cl0, iI_clN, Int.toNat_natCast, mU_n, mU_s, p_min, p_max, p_abs, ni_2, ni_3, ni_4, ni_7, ni_8, ni_9, ni_12, ni_24, ni_97, ni_100, ni_122, ni_200, ni_256, ni_4096, ni_5000, ni_9999, iI_lt, iI_le, iI_eq, iz_eq, iz_lt, iz_le, iz_gt, iz_ge, iy_eq, iy_lt, iy_le, iI_ltN, iI_leN, iI_eqN, if_pos, if_neg, km3, pt, eqT, i20]
      exact hQ T3 _ _ ⟨_, _, _, _, _, _, _, _, hD3, hM3, hi, by omega, hW3⟩
  · rw [if_neg q1]
    refine ⟨hG.1, Or.inr ⟨0, 1, rfl, rfl, ?_⟩⟩
    have fJ : Fr (fun b => b = o) T2 T2 := Fr.rf
    have hDb := hD2.fr fJ (fun b hb q => by have := hb.2; omega)
    have hMb := hM2.fr fJ (fun b hb q => by have := hb.2; omega)
    have hWb := hW2.fr fJ
    have ksb := hWb.2.1
    have kmb := hMb.1.k
    have b1 : T2.2.1 sc (7 * c + 1) = iI v1 := by rw [(fJ.2.2 sc (by omega)).1]; exact d1
    have b2 : T2.2.1 sc (7 * c + 2) = iI v2 := by rw [(fJ.2.2 sc (by omega)).1]; exact d2
    have b3 : T2.2.1 sc (7 * c + 3) = iI v3 := by rw [(fJ.2.2 sc (by omega)).1]; exact d3
    have b4 : T2.2.1 sc (7 * c + 4) = iI v4 := by rw [(fJ.2.2 sc (by omega)).1]; exact d4
    have b5 : T2.2.1 sc (7 * c + 5) = iI v5 := by rw [(fJ.2.2 sc (by omega)).1]; exact d5
    have b6 : T2.2.1 sc (7 * c + 6) = iI v6 := by rw [(fJ.2.2 sc (by omega)).1]; exact d6
    simp (maxSteps := 4000000) (disch := first | (simp (disch := omega) only [XB_i, XB_n, va_rf_s, va_rf_n, mSI_K, mSI_I, mSI_J, mSI_P, mSI_N, mSJ_K, mSJ_I, mSJ_J, mSJ_P, mSJ_N, mSP_K, mSP_I, mSP_J, mSP_P, mSP_N, mNn, mNi, mNr, mN0, al20, al21, al22, al23, al25, true_or, or_true, and_self, if_true, if_false, mCat_n, mCat_i, mCat_r, mCat_l, mCat_0, Nat.reduceAdd, Nat.reduceLeDiff, Nat.reduceLT, true_and, and_true, Nat.zero_le, bI_01, mInB_J, mInB_Z, mInB_N, ksb, b1, b2, b3, b4, b5, b6, n5, n6, t2, t3, t4, t5, t6]; done) | omega | (unfold R32 at *; omega)) only [e_193_209, e_193_211, e_193_211_n, e_193_212, e_193_212_n, e_193_213, e_193_215, e_193_216, e_193_217, e_193_218, e_193_218_n, e_193_219, e_193_221, e_193_222, e_193_223, e_193_224, e_193_224_n, e_193_225, e_193_227, e_193_228, e_193_229, e_193_230, e_193_230_n, e_193_231, e_193_233, e_193_234, e_193_235, e_193_236, e_193_236_n, e_193_237, e_193_239, e_193_240, e_193_241, e_193_242, e_193_243, e_193_245, e_193_246, e_193_246_n, e_193_247, e_193_249, e_193_251, e_193_252, e_193_253, e_193_254, e_193_257, e_193_258, XB_i, XB_n, va_rf_s, va_rf_n, mSI_K, mSI_I, mSI_J, mSI_P, mSI_N, mSJ_K, mSJ_I, mSJ_J, mSJ_P, mSJ_N, mSP_K, mSP_I, mSP_J, mSP_P, mSP_N, mNn, mNi, mNr, mN0, al20, al21, al22, al23, al25, true_or, or_true, and_self, if_true, if_false, mCat_n, mCat_i, mCat_r, mCat_l, mCat_0, Nat.reduceAdd, Nat.reduceLeDiff, Nat.reduceLT, true_and, and_true, Nat.zero_le, bI_01, bI_0, i10, tf0, iI_add, iI_sub, iI_mul, iI_neg, iI_add1, iI_sub1, iI_m1, nca, nc1, ncm1, iI_clJ, iI_cl0, iI_clN, Int.toNat_natCast, mU_n, mU_s, p_min, p_max, p_abs, ni_2, ni_3, ni_4, ni_7, ni_8, ni_9, ni_12, ni_24, ni_97, ni_100, ni_122, ni_200, ni_256, ni_4096, ni_5000, ni_9999, iI_lt, iI_le, iI_eq, iz_eq, iz_lt, iz_le, iz_gt, iz_ge, iy_eq, iy_lt, iy_le, iI_ltN, iI_leN, iI_eqN, if_pos, if_neg, ksb, b1, b2, b3, b4, b5, b6, n5, n6, t2, t3, t4, t5, t6]
    refine c_193_259 (by simp only [XB_i, XB_n, va_rf_s, va_rf_n, mSI_K, mSI_I, mSI_J, mSI_P, mSI_N, mSJ_K, mSJ_I, mSJ_J, mSJ_P, mSJ_N, mSP_K, mSP_I, mSP_J, mSP_P, mSP_N, mNn, mNi, mNr, mN0, al20, al21, al22, al23, al25, true_or, or_true, and_self, if_true, if_false, mCat_n, mCat_i, mCat_r, mCat_l, mCat_0, Nat.reduceAdd, Nat.reduceLeDiff, Nat.reduceLT, true_and, and_true, Nat.zero_le, bI_01]) (by rw [kmb]) (md_feature hMb hI.1 ⟨r1, r2, r3, r4⟩ (fun T3 v hv hM3 h13 hF => ?_))
    have ht : tFe Fs ((v1, v2, v3, v4), wd, cs) = 1 := by unfold tFe; rw [if_neg q1]
    rw [hw] at h13 hM3 hv
    rw [ht] at h13
    change T3.2.1 m 13 = 1 at h13
    have hW3 := hWb.fr hF
    have hD3 := hDb.fr hF (fun b hb q => by have := hb.2; have := q.1; omega)
    have km3 := hM3.1.k
    have pt := fun Q => @m_thrown T3 Q m _ hM3.1 h13
    simp (maxSteps := 4000000) (disch := first | (simp (disch := omega) only [XB_i, XB_n, va_rf_s, va_rf_n, mSI_K, mSI_I, mSI_J, mSI_P, mSI_N, mSJ_K, mSJ_I, mSJ_J, mSJ_P, mSJ_N, mSP_K, mSP_I, mSP_J, mSP_P, mSP_N, mNn, mNi, mNr, mN0, al20, al21, al22, al23, al25, true_or, or_true, and_self, if_true, if_false, mCat_n, mCat_i, mCat_r, mCat_l, mCat_0, Nat.reduceAdd, Nat.reduceLeDiff, Nat.reduceLT, true_and, and_true, Nat.zero_le, bI_01, mInB_J, mInB_Z, mInB_N, km3, pt, eqT, i20]; done) | omega | (unfold R32 at *; omega)) only [e_193_262, e_193_264, e_193_264_n, e_193_268, e_193_270, e_193_273, e_193_274, e_193_275, e_193_277, e_193_280, e_193_280_n, e_193_281, e_193_282, e_193_283, e_193_285, e_193_286, e_193_287, e_193_290, e_193_291, e_193_292, d_193_265, XB_i, XB_n, va_rf_s, va_rf_n, mSI_K, mSI_I, mSI_J, mSI_P, mSI_N, mSJ_K, mSJ_I, mSJ_J, mSJ_P, mSJ_N, mSP_K, mSP_I, mSP_J, mSP_P, mSP_N, mNn, mNi, mNr, mN0, al20, al21, al22, al23, al25, true_or, or_true, and_self, if_true, if_false, mCat_n, mCat_i, mCat_r, mCat_l, mCat_0, Nat.reduceAdd, Nat.reduceLeDiff, Nat.reduceLT, true_and, and_true, Nat.zero_le, bI_01, bI_0, i10, tf0, iI_add, iI_sub, iI_mul, iI_neg, iI_add1, iI_sub1, iI_m1, nca, nc1, ncm1, iI_clJ, iI_cl0, iI_clN, Int.toNat_natCast, mU_n, mU_s, p_min, p_max, p_abs, ni_2, ni_3, ni_4, ni_7, ni_8, ni_9, ni_12, ni_24, ni_97, ni_100, ni_122, ni_200, ni_256, ni_4096, ni_5000, ni_9999, iI_lt, iI_le, iI_eq, iz_eq, iz_lt, iz_le, iz_gt, iz_ge, iy_eq, iy_lt, iy_le, iI_ltN, iI_leN, iI_eqN, if_pos, if_neg, km3, pt, eqT, i20]
    exact hQ T3 _ _ ⟨_, _, _, _, _, _, _, _, hD3, hM3, hi, by omega, hW3⟩
end LWB
