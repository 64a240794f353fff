/-! the law: its plain calls -/
section LWA
variable {T : mT} {Q : mOut → mT → Prop} {sc N x m o c n0 u0 : Nat}
theorem eqT {α : Sort _} (a : α) : (a = a) = True := eq_self a
theorem lw_corner (g : Geo sc x m o) (h : Wd T sc N x m o c n0 u0) (hN : 7 * c + 7 ≤ N) (hN2 : N ≤ 3584) (hQ : ∀ T2 l5 l6, Wd T2 sc N x m o (c + 1) n0 u0 → XW 193 1042 [some (.ref (sc)), some (.ref (x)), some (.ref (m)), some (.ref (o)), some (.int (iI ((7 * c : Nat) : Int))), l5, l6] [] T2 Q) (l5 l6 : Option Value) : XW 193 120 [some (.ref (sc)), some (.ref (x)), some (.ref (m)), some (.ref (o)), some (.int (iI ((7 * c : Nat) : Int))), l5, l6] [] T Q := by
  obtain ⟨cs, Fs, kp, cl, hb, rg, pk, df, hD, hM, hI, hcl, hW⟩ := h
  obtain ⟨gs, gx, gm⟩ := id g
  obtain ⟨v1, r1, e1⟩ := sc_v T sc (7 * c + 1)
  obtain ⟨v2, r2, e2⟩ := sc_v T sc (7 * c + 2)
  have ks := hW.2.1
  have ho := hW.2.2.1
  have hz := hW.1
  have hn := hW.2.2.2.1
  have kx := hD.kx
  have km := hM.1.k
  have hx : x + 857 ≤ T.2.2.2.2.1 := by omega
  have n5 : (5 : Int32) = iI 5 := rfl
  have n6 : (6 : Int32) = iI 6 := rfl
  have t2 : (((7 * c : Nat) : Int) + 2).toNat = 7 * c + 2 := by omega
  have t3 : (((7 * c : Nat) : Int) + 3).toNat = 7 * c + 3 := by omega
  have t4 : (((7 * c : Nat) : Int) + 4).toNat = 7 * c + 4 := by omega
  have t5 : (((7 * c : Nat) : Int) + 5).toNat = 7 * c + 5 := by omega
  have t6 : (((7 * c : Nat) : Int) + 6).toNat = 7 * c + 6 := by omega
  simp (maxSteps := 4000000) (disch := first | (simp (disch := omega) only [XB_i, XB_n, va_rf_s, va_rf_n, mSI_K, mSI_I, mSI_J, mSI_P, mSI_N, mSJ_K, mSJ_I, mSJ_J, mSJ_P, mSJ_N, mSP_K, mSP_I, mSP_J, mSP_P, mSP_N, mNn, mNi, mNr, mN0, al20, al21, al22, al23, al25, true_or, or_true, and_self, if_true, if_false, mCat_n, mCat_i, mCat_r, mCat_l, mCat_0, Nat.reduceAdd, Nat.reduceLeDiff, Nat.reduceLT, true_and, and_true, Nat.zero_le, bI_01, mInB_J, mInB_Z, mInB_N, ks, e1, e2, n5, n6, t2, t3, t4, t5, t6]; done) | omega | (unfold R32 at *; omega)) only [e_193_120, e_193_120_n, e_193_121, e_193_121_n, e_193_122, e_193_124, e_193_125, e_193_126, e_193_127, e_193_127_n, e_193_128, e_193_130, e_193_131, e_193_132, XB_i, XB_n, va_rf_s, va_rf_n, mSI_K, mSI_I, mSI_J, mSI_P, mSI_N, mSJ_K, mSJ_I, mSJ_J, mSJ_P, mSJ_N, mSP_K, mSP_I, mSP_J, mSP_P, mSP_N, mNn, mNi, mNr, mN0, al20, al21, al22, al23, al25, true_or, or_true, and_self, if_true, if_false, mCat_n, mCat_i, mCat_r, mCat_l, mCat_0, Nat.reduceAdd, Nat.reduceLeDiff, Nat.reduceLT, true_and, and_true, Nat.zero_le, bI_01, bI_0, i10, tf0, iI_add, iI_sub, iI_mul, iI_neg, iI_add1, iI_sub1, iI_m1, nca, nc1, ncm1, iI_clJ, iI_cl0, iI_clN, Int.toNat_natCast, mU_n, mU_s, p_min, p_max, p_abs, ni_2, ni_3, ni_4, ni_7, ni_8, ni_9, ni_12, ni_24, ni_97, ni_100, ni_122, ni_200, ni_256, ni_4096, ni_5000, ni_9999, iI_lt, iI_le, iI_eq, iz_eq, iz_lt, iz_le, iz_gt, iz_ge, iy_eq, iy_lt, iy_le, iI_ltN, iI_leN, iI_eqN, if_pos, if_neg, ks, e1, e2, n5, n6, t2, t3, t4, t5, t6]
  refine c_193_133 (by simp only [XB_i, XB_n, va_rf_s, va_rf_n, mSI_K, mSI_I, mSI_J, mSI_P, mSI_N, mSJ_K, mSJ_I, mSJ_J, mSJ_P, mSJ_N, mSP_K, mSP_I, mSP_J, mSP_P, mSP_N, mNn, mNi, mNr, mN0, al20, al21, al22, al23, al25, true_or, or_true, and_self, if_true, if_false, mCat_n, mCat_i, mCat_r, mCat_l, mCat_0, Nat.reduceAdd, Nat.reduceLeDiff, Nat.reduceLT, true_and, and_true, Nat.zero_le, bI_01]) (by rw [kx]) (dk_corner hD r1 r2 (fun T2 hD2 hG => ?_))
  have hM2 := hM.gr hG (by omega) (fun b hb q => by have := hb.1; have := q.2; omega)
  have hW2 := hW.gr hG
  have ks2 := hW2.2.1
  have km2 := hM2.1.k
  have es := (hG.2.2 sc (fun q => by have := q.1; omega) (by omega)).1
  have d1 : T2.2.1 sc (7 * c + 1) = iI v1 := by rw [es]; exact e1
  have d2 : T2.2.1 sc (7 * c + 2) = iI v2 := by rw [es]; exact e2
  simp (maxSteps := 4000000) (disch := first | (simp (disch := omega) only [XB_i, XB_n, va_rf_s, va_rf_n, mSI_K, mSI_I, mSI_J, mSI_P, mSI_N, mSJ_K, mSJ_I, mSJ_J, mSJ_P, mSJ_N, mSP_K, mSP_I, mSP_J, mSP_P, mSP_N, mNn, mNi, mNr, mN0, al20, al21, al22, al23, al25, true_or, or_true, and_self, if_true, if_false, mCat_n, mCat_i, mCat_r, mCat_l, mCat_0, Nat.reduceAdd, Nat.reduceLeDiff, Nat.reduceLT, true_and, and_true, Nat.zero_le, bI_01, mInB_J, mInB_Z, mInB_N, ks2, d1, d2, n5, n6, t2, t3, t4, t5, t6]; done) | omega | (unfold R32 at *; omega)) only [e_193_136, e_193_136_n, e_193_137, e_193_137_n, e_193_138, e_193_140, e_193_141, e_193_142, e_193_143, e_193_143_n, e_193_144, e_193_146, e_193_147, e_193_148, XB_i, XB_n, va_rf_s, va_rf_n, mSI_K, mSI_I, mSI_J, mSI_P, mSI_N, mSJ_K, mSJ_I, mSJ_J, mSJ_P, mSJ_N, mSP_K, mSP_I, mSP_J, mSP_P, mSP_N, mNn, mNi, mNr, mN0, al20, al21, al22, al23, al25, true_or, or_true, and_self, if_true, if_false, mCat_n, mCat_i, mCat_r, mCat_l, mCat_0, Nat.reduceAdd, Nat.reduceLeDiff, Nat.reduceLT, true_and, and_true, Nat.zero_le, bI_01, bI_0, i10, tf0, iI_add, iI_sub, iI_mul, iI_neg, iI_add1, iI_sub1, iI_m1, nca, nc1, ncm1, iI_clJ, iI_cl0, iI_clN, Int.toNat_natCast, mU_n, mU_s, p_min, p_max, p_abs, ni_2, ni_3, ni_4, ni_7, ni_8, ni_9, ni_12, ni_24, ni_97, ni_100, ni_122, ni_200, ni_256, ni_4096, ni_5000, ni_9999, iI_lt, iI_le, iI_eq, iz_eq, iz_lt, iz_le, iz_gt, iz_ge, iy_eq, iy_lt, iy_le, iI_ltN, iI_leN, iI_eqN, if_pos, if_neg, ks2, d1, d2, n5, n6, t2, t3, t4, t5, t6]
  refine c_193_149 (by simp only [XB_i, XB_n, va_rf_s, va_rf_n, mSI_K, mSI_I, mSI_J, mSI_P, mSI_N, mSJ_K, mSJ_I, mSJ_J, mSJ_P, mSJ_N, mSP_K, mSP_I, mSP_J, mSP_P, mSP_N, mNn, mNi, mNr, mN0, al20, al21, al22, al23, al25, true_or, or_true, and_self, if_true, if_false, mCat_n, mCat_i, mCat_r, mCat_l, mCat_0, Nat.reduceAdd, Nat.reduceLeDiff, Nat.reduceLT, true_and, and_true, Nat.zero_le, bI_01]) (by rw [km2]) (md_corner hM2 r1 r2 (fun T3 hM3 hF => ?_))
  have hW3 := hW2.fr hF
  have hD3 := hD2.fr hF (fun b hb q => by have := hb.2; have := q.1; omega)
  simp (maxSteps := 4000000) (disch := first | (simp (disch := omega) only [XB_i, XB_n, va_rf_s, va_rf_n, mSI_K, mSI_I, mSI_J, mSI_P, mSI_N, mSJ_K, mSJ_I, mSJ_J, mSJ_P, mSJ_N, mSP_K, mSP_I, mSP_J, mSP_P, mSP_N, mNn, mNi, mNr, mN0, al20, al21, al22, al23, al25, true_or, or_true, and_self, if_true, if_false, mCat_n, mCat_i, mCat_r, mCat_l, mCat_0, Nat.reduceAdd, Nat.reduceLeDiff, Nat.reduceLT, true_and, and_true, Nat.zero_le, bI_01, mInB_J, mInB_Z, mInB_N, eqT]; done) | omega | (unfold R32 at *; omega)) only [e_193_152, XB_i, XB_n, va_rf_s, va_rf_n, mSI_K, mSI_I, mSI_J, mSI_P, mSI_N, mSJ_K, mSJ_I, mSJ_J, mSJ_P, mSJ_N, mSP_K, mSP_I, mSP_J, mSP_P, mSP_N, mNn, mNi, mNr, mN0, al20, al21, al22, al23, al25, true_or, or_true, and_self, if_true, if_false, mCat_n, mCat_i, mCat_r, mCat_l, mCat_0, Nat.reduceAdd, Nat.reduceLeDiff, Nat.reduceLT, true_and, and_true, Nat.zero_le, bI_01, bI_0, i10, tf0, iI_add, iI_sub, iI_mul, iI_neg, iI_add1, iI_sub1, iI_m1, nca, nc1, ncm1, iI_clJ, iI_cl0, iI_clN, Int.toNat_natCast, mU_n, mU_s, p_min, p_max, p_abs, ni_2, ni_3, ni_4, ni_7, ni_8, ni_9, ni_12, ni_24, ni_97, ni_100, ni_122, ni_200, ni_256, ni_4096, ni_5000, ni_9999, iI_lt, iI_le, iI_eq, iz_eq, iz_lt, iz_le, iz_gt, iz_ge, iy_eq, iy_lt, iy_le, iI_ltN, iI_leN, iI_eqN, if_pos, if_neg, eqT]
  exact hQ T3 _ _ ⟨_, _, _, _, _, _, _, _, hD3, hM3, hI.corner, by omega, hW3⟩
theorem lw_drop (g : Geo sc x m o) (h : Wd T sc N x m o c n0 u0) (hN : 7 * c + 7 ≤ N) (hN2 : N ≤ 3584) (hQ : ∀ T2 l5 l6, Wd T2 sc N x m o (c + 1) n0 u0 → XW 193 1042 [some (.ref (sc)), some (.ref (x)), some (.ref (m)), some (.ref (o)), some (.int (iI ((7 * c : Nat) : Int))), l5, l6] [] T2 Q) (l5 l6 : Option Value) : XW 193 295 [some (.ref (sc)), some (.ref (x)), some (.ref (m)), some (.ref (o)), some (.int (iI ((7 * c : Nat) : Int))), l5, l6] [] T Q := by
  obtain ⟨cs, Fs, kp, cl, hb, rg, pk, df, hD, hM, hI, hcl, hW⟩ := h
  obtain ⟨gs, gx, gm⟩ := id g
  obtain ⟨v1, r1, e1⟩ := sc_v T sc (7 * c + 1)
  have ks := hW.2.1
  have ho := hW.2.2.1
  have hz := hW.1
  have hn := hW.2.2.2.1
  have kx := hD.kx
  have km := hM.1.k
  have hx : x + 857 ≤ T.2.2.2.2.1 := by omega
  have n5 : (5 : Int32) = iI 5 := rfl
  have n6 : (6 : Int32) = iI 6 := rfl
  have t2 : (((7 * c : Nat) : Int) + 2).toNat = 7 * c + 2 := by omega
  have t3 : (((7 * c : Nat) : Int) + 3).toNat = 7 * c + 3 := by omega
  have t4 : (((7 * c : Nat) : Int) + 4).toNat = 7 * c + 4 := by omega
  have t5 : (((7 * c : Nat) : Int) + 5).toNat = 7 * c + 5 := by omega
  have t6 : (((7 * c : Nat) : Int) + 6).toNat = 7 * c + 6 := by omega
  simp (maxSteps := 4000000) (disch := first | (simp (disch := omega) only [XB_i, XB_n, va_rf_s, va_rf_n, mSI_K, mSI_I, mSI_J, mSI_P, mSI_N, mSJ_K, mSJ_I, mSJ_J, mSJ_P, mSJ_N, mSP_K, mSP_I, mSP_J, mSP_P, mSP_N, mNn, mNi, mNr, mN0, al20, al21, al22, al23, al25, true_or, or_true, and_self, if_true, if_false, mCat_n, mCat_i, mCat_r, mCat_l, mCat_0, Nat.reduceAdd, Nat.reduceLeDiff, Nat.reduceLT, true_and, and_true, Nat.zero_le, bI_01, mInB_J, mInB_Z, mInB_N, ks, e1, n5, n6, t2, t3, t4, t5, t6]; done) | omega | (unfold R32 at *; omega)) only [e_193_295, e_193_295_n, e_193_296, e_193_296_n, e_193_297, e_193_299, e_193_300, e_193_301, XB_i, XB_n, va_rf_s, va_rf_n, mSI_K, mSI_I, mSI_J, mSI_P, mSI_N, mSJ_K, mSJ_I, mSJ_J, mSJ_P, mSJ_N, mSP_K, mSP_I, mSP_J, mSP_P, mSP_N, mNn, mNi, mNr, mN0, al20, al21, al22, al23, al25, true_or, or_true, and_self, if_true, if_false, mCat_n, mCat_i, mCat_r, mCat_l, mCat_0, Nat.reduceAdd, Nat.reduceLeDiff, Nat.reduceLT, true_and, and_true, Nat.zero_le, bI_01, bI_0, i10, tf0, iI_add, iI_sub, iI_mul, iI_neg, iI_add1, iI_sub1, iI_m1, nca, nc1, ncm1, iI_clJ, iI_cl0, iI_clN, Int.toNat_natCast, mU_n, mU_s, p_min, p_max, p_abs, ni_2, ni_3, ni_4, ni_7, ni_8, ni_9, ni_12, ni_24, ni_97, ni_100, ni_122, ni_200, ni_256, ni_4096, ni_5000, ni_9999, iI_lt, iI_le, iI_eq, iz_eq, iz_lt, iz_le, iz_gt, iz_ge, iy_eq, iy_lt, iy_le, iI_ltN, iI_leN, iI_eqN, if_pos, if_neg, ks, e1, n5, n6, t2, t3, t4, t5, t6]
  refine c_193_302 (by simp only [XB_i, XB_n, va_rf_s, va_rf_n, mSI_K, mSI_I, mSI_J, mSI_P, mSI_N, mSJ_K, mSJ_I, mSJ_J, mSJ_P, mSJ_N, mSP_K, mSP_I, mSP_J, mSP_P, mSP_N, mNn, mNi, mNr, mN0, al20, al21, al22, al23, al25, true_or, or_true, and_self, if_true, if_false, mCat_n, mCat_i, mCat_r, mCat_l, mCat_0, Nat.reduceAdd, Nat.reduceLeDiff, Nat.reduceLT, true_and, and_true, Nat.zero_le, bI_01]) (by rw [kx]) (dk_drop hD hI.1 r1 (fun T2 hD2 hG => ?_))
  have hM2 := hM.gr hG (by omega) (fun b hb q => by have := hb.1; have := q.2; omega)
  have hW2 := hW.gr hG
  have ks2 := hW2.2.1
  have km2 := hM2.1.k
  have es := (hG.2.2 sc (fun q => by have := q.1; omega) (by omega)).1
  have d1 : T2.2.1 sc (7 * c + 1) = iI v1 := by rw [es]; exact e1
  simp (maxSteps := 4000000) (disch := first | (simp (disch := omega) only [XB_i, XB_n, va_rf_s, va_rf_n, mSI_K, mSI_I, mSI_J, mSI_P, mSI_N, mSJ_K, mSJ_I, mSJ_J, mSJ_P, mSJ_N, mSP_K, mSP_I, mSP_J, mSP_P, mSP_N, mNn, mNi, mNr, mN0, al20, al21, al22, al23, al25, true_or, or_true, and_self, if_true, if_false, mCat_n, mCat_i, mCat_r, mCat_l, mCat_0, Nat.reduceAdd, Nat.reduceLeDiff, Nat.reduceLT, true_and, and_true, Nat.zero_le, bI_01, mInB_J, mInB_Z, mInB_N, ks2, d1, n5, n6, t2, t3, t4, t5, t6]; done) | omega | (unfold R32 at *; omega)) only [e_193_305, e_193_305_n, e_193_306, e_193_306_n, e_193_307, e_193_309, e_193_310, e_193_311, XB_i, XB_n, va_rf_s, va_rf_n, mSI_K, mSI_I, mSI_J, mSI_P, mSI_N, mSJ_K, mSJ_I, mSJ_J, mSJ_P, mSJ_N, mSP_K, mSP_I, mSP_J, mSP_P, mSP_N, mNn, mNi, mNr, mN0, al20, al21, al22, al23, al25, true_or, or_true, and_self, if_true, if_false, mCat_n, mCat_i, mCat_r, mCat_l, mCat_0, Nat.reduceAdd, Nat.reduceLeDiff, Nat.reduceLT, true_and, and_true, Nat.zero_le, bI_01, bI_0, i10, tf0, iI_add, iI_sub, iI_mul, iI_neg, iI_add1, iI_sub1, iI_m1, nca, nc1, ncm1, iI_clJ, iI_cl0, iI_clN, Int.toNat_natCast, mU_n, mU_s, p_min, p_max, p_abs, ni_2, ni_3, ni_4, ni_7, ni_8, ni_9, ni_12, ni_24, ni_97, ni_100, ni_122, ni_200, ni_256, ni_4096, ni_5000, ni_9999, iI_lt, iI_le, iI_eq, iz_eq, iz_lt, iz_le, iz_gt, iz_ge, iy_eq, iy_lt, iy_le, iI_ltN, iI_leN, iI_eqN, if_pos, if_neg, ks2, d1, n5, n6, t2, t3, t4, t5, t6]
  refine c_193_312 (by simp only [XB_i, XB_n, va_rf_s, va_rf_n, mSI_K, mSI_I, mSI_J, mSI_P, mSI_N, mSJ_K, mSJ_I, mSJ_J, mSJ_P, mSJ_N, mSP_K, mSP_I, mSP_J, mSP_P, mSP_N, mNn, mNi, mNr, mN0, al20, al21, al22, al23, al25, true_or, or_true, and_self, if_true, if_false, mCat_n, mCat_i, mCat_r, mCat_l, mCat_0, Nat.reduceAdd, Nat.reduceLeDiff, Nat.reduceLT, true_and, and_true, Nat.zero_le, bI_01]) (by rw [km2]) (md_drop hM2 hI.1 r1 (fun T3 hM3 hF => ?_))
  have hW3 := hW2.fr hF
  have hD3 := hD2.fr hF (fun b hb q => by have := hb.2; have := q.1; omega)
  simp (maxSteps := 4000000) (disch := first | (simp (disch := omega) only [XB_i, XB_n, va_rf_s, va_rf_n, mSI_K, mSI_I, mSI_J, mSI_P, mSI_N, mSJ_K, mSJ_I, mSJ_J, mSJ_P, mSJ_N, mSP_K, mSP_I, mSP_J, mSP_P, mSP_N, mNn, mNi, mNr, mN0, al20, al21, al22, al23, al25, true_or, or_true, and_self, if_true, if_false, mCat_n, mCat_i, mCat_r, mCat_l, mCat_0, Nat.reduceAdd, Nat.reduceLeDiff, Nat.reduceLT, true_and, and_true, Nat.zero_le, bI_01, mInB_J, mInB_Z, mInB_N, eqT]; done) | omega | (unfold R32 at *; omega)) only [e_193_315, XB_i, XB_n, va_rf_s, va_rf_n, mSI_K, mSI_I, mSI_J, mSI_P, mSI_N, mSJ_K, mSJ_I, mSJ_J, mSJ_P, mSJ_N, mSP_K, mSP_I, mSP_J, mSP_P, mSP_N, mNn, mNi, mNr, mN0, al20, al21, al22, al23, al25, true_or, or_true, and_self, if_true, if_false, mCat_n, mCat_i, mCat_r, mCat_l, mCat_0, Nat.reduceAdd, Nat.reduceLeDiff, Nat.reduceLT, true_and, and_true, Nat.zero_le, bI_01, bI_0, i10, tf0, iI_add, iI_sub, iI_mul, iI_neg, iI_add1, iI_sub1, iI_m1, nca, nc1, ncm1, iI_clJ, iI_cl0, iI_clN, Int.toNat_natCast, mU_n, mU_s, p_min, p_max, p_abs, ni_2, ni_3, ni_4, ni_7, ni_8, ni_9, ni_12, ni_24, ni_97, ni_100, ni_122, ni_200, ni_256, ni_4096, ni_5000, ni_9999, iI_lt, iI_le, iI_eq, iz_eq, iz_lt, iz_le, iz_gt, iz_ge, iy_eq, iy_lt, iy_le, iI_ltN, iI_leN, iI_eqN, if_pos, if_neg, eqT]
  exact hQ T3 _ _ ⟨_, _, _, _, _, _, _, _, hD3, hM3, hI.drop, by omega, hW3⟩
theorem lw_edition (g : Geo sc x m o) (h : Wd T sc N x m o c n0 u0) (hN : 7 * c + 7 ≤ N) (hN2 : N ≤ 3584) (hQ : ∀ T2 l5 l6, Wd T2 sc N x m o (c + 1) n0 u0 → XW 193 1042 [some (.ref (sc)), some (.ref (x)), some (.ref (m)), some (.ref (o)), some (.int (iI ((7 * c : Nat) : Int))), l5, l6] [] T2 Q) (l5 l6 : Option Value) : XW 193 320 [some (.ref (sc)), some (.ref (x)), some (.ref (m)), some (.ref (o)), some (.int (iI ((7 * c : Nat) : Int))), l5, l6] [] T Q := by
  obtain ⟨cs, Fs, kp, cl, hb, rg, pk, df, hD, hM, hI, hcl, hW⟩ := h
  obtain ⟨gs, gx, gm⟩ := id g
  have ks := hW.2.1
  have ho := hW.2.2.1
  have hz := hW.1
  have hn := hW.2.2.2.1
  have kx := hD.kx
  have km := hM.1.k
  have hx : x + 857 ≤ T.2.2.2.2.1 := by omega
  have n5 : (5 : Int32) = iI 5 := rfl
  have n6 : (6 : Int32) = iI 6 := rfl
  have t2 : (((7 * c : Nat) : Int) + 2).toNat = 7 * c + 2 := by omega
  have t3 : (((7 * c : Nat) : Int) + 3).toNat = 7 * c + 3 := by omega
  have t4 : (((7 * c : Nat) : Int) + 4).toNat = 7 * c + 4 := by omega
  have t5 : (((7 * c : Nat) : Int) + 5).toNat = 7 * c + 5 := by omega
  have t6 : (((7 * c : Nat) : Int) + 6).toNat = 7 * c + 6 := by omega
  simp (maxSteps := 4000000) (disch := first | (simp (disch := omega) only [XB_i, XB_n, va_rf_s, va_rf_n, mSI_K, mSI_I, mSI_J, mSI_P, mSI_N, mSJ_K, mSJ_I, mSJ_J, mSJ_P, mSJ_N, mSP_K, mSP_I, mSP_J, mSP_P, mSP_N, mNn, mNi, mNr, mN0, al20, al21, al22, al23, al25, true_or, or_true, and_self, if_true, if_false, mCat_n, mCat_i, mCat_r, mCat_l, mCat_0, Nat.reduceAdd, Nat.reduceLeDiff, Nat.reduceLT, true_and, and_true, Nat.zero_le, bI_01, mInB_J, mInB_Z, mInB_N, ks, n5, n6, t2, t3, t4, t5, t6]; done) | omega | (unfold R32 at *; omega)) only [e_193_320, e_193_320_n, XB_i, XB_n, va_rf_s, va_rf_n, mSI_K, mSI_I, mSI_J, mSI_P, mSI_N, mSJ_K, mSJ_I, mSJ_J, mSJ_P, mSJ_N, mSP_K, mSP_I, mSP_J, mSP_P, mSP_N, mNn, mNi, mNr, mN0, al20, al21, al22, al23, al25, true_or, or_true, and_self, if_true, if_false, mCat_n, mCat_i, mCat_r, mCat_l, mCat_0, Nat.reduceAdd, Nat.reduceLeDiff, Nat.reduceLT, true_and, and_true, Nat.zero_le, bI_01, bI_0, i10, tf0, iI_add, iI_sub, iI_mul, iI_neg, iI_add1, iI_sub1, iI_m1, nca, nc1, ncm1, iI_clJ, iI_cl0, iI_clN, Int.toNat_natCast, mU_n, mU_s, p_min, p_max, p_abs, ni_2, ni_3, ni_4, ni_7, ni_8, ni_9, ni_12, ni_24, ni_97, ni_100, ni_122, ni_200, ni_256, ni_4096, ni_5000, ni_9999, iI_lt, iI_le, iI_eq, iz_eq, iz_lt, iz_le, iz_gt, iz_ge, iy_eq, iy_lt, iy_le, iI_ltN, iI_leN, iI_eqN, if_pos, if_neg, ks, n5, n6, t2, t3, t4, t5, t6]
  refine c_193_321 (by simp only [XB_i, XB_n, va_rf_s, va_rf_n, mSI_K, mSI_I, mSI_J, mSI_P, mSI_N, mSJ_K, mSJ_I, mSJ_J, mSJ_P, mSJ_N, mSP_K, mSP_I, mSP_J, mSP_P, mSP_N, mNn, mNi, mNr, mN0, al20, al21, al22, al23, al25, true_or, or_true, and_self, if_true, if_false, mCat_n, mCat_i, mCat_r, mCat_l, mCat_0, Nat.reduceAdd, Nat.reduceLeDiff, Nat.reduceLT, true_and, and_true, Nat.zero_le, bI_01]) (by rw [kx]) (dk_edition hD hI.1 (fun T2 hD2 hG => ?_))
  have hM2 := hM.gr hG (by omega) (fun b hb q => by have := hb.1; have := q.2; omega)
  have hW2 := hW.gr hG
  have ks2 := hW2.2.1
  have km2 := hM2.1.k
  have es := (hG.2.2 sc (fun q => by have := q.1; omega) (by omega)).1
  simp (maxSteps := 4000000) (disch := first | (simp (disch := omega) only [XB_i, XB_n, va_rf_s, va_rf_n, mSI_K, mSI_I, mSI_J, mSI_P, mSI_N, mSJ_K, mSJ_I, mSJ_J, mSJ_P, mSJ_N, mSP_K, mSP_I, mSP_J, mSP_P, mSP_N, mNn, mNi, mNr, mN0, al20, al21, al22, al23, al25, true_or, or_true, and_self, if_true, if_false, mCat_n, mCat_i, mCat_r, mCat_l, mCat_0, Nat.reduceAdd, Nat.reduceLeDiff, Nat.reduceLT, true_and, and_true, Nat.zero_le, bI_01, mInB_J, mInB_Z, mInB_N, ks2, n5, n6, t2, t3, t4, t5, t6]; done) | omega | (unfold R32 at *; omega)) only [e_193_324, e_193_324_n, XB_i, XB_n, va_rf_s, va_rf_n, mSI_K, mSI_I, mSI_J, mSI_P, mSI_N, mSJ_K, mSJ_I, mSJ_J, mSJ_P, mSJ_N, mSP_K, mSP_I, mSP_J, mSP_P, mSP_N, mNn, mNi, mNr, mN0, al20, al21, al22, al23, al25, true_or, or_true, and_self, if_true, if_false, mCat_n, mCat_i, mCat_r, mCat_l, mCat_0, Nat.reduceAdd, Nat.reduceLeDiff, Nat.reduceLT, true_and, and_true, Nat.zero_le, bI_01, bI_0, i10, tf0, iI_add, iI_sub, iI_mul, iI_neg, iI_add1, iI_sub1, iI_m1, nca, nc1, ncm1, iI_clJ, iI_cl0, iI_clN, Int.toNat_natCast, mU_n, mU_s, p_min, p_max, p_abs, ni_2, ni_3, ni_4, ni_7, ni_8, ni_9, ni_12, ni_24, ni_97, ni_100, ni_122, ni_200, ni_256, ni_4096, ni_5000, ni_9999, iI_lt, iI_le, iI_eq, iz_eq, iz_lt, iz_le, iz_gt, iz_ge, iy_eq, iy_lt, iy_le, iI_ltN, iI_leN, iI_eqN, if_pos, if_neg, ks2, n5, n6, t2, t3, t4, t5, t6]
  refine c_193_325 (by simp only [XB_i, XB_n, va_rf_s, va_rf_n, mSI_K, mSI_I, mSI_J, mSI_P, mSI_N, mSJ_K, mSJ_I, mSJ_J, mSJ_P, mSJ_N, mSP_K, mSP_I, mSP_J, mSP_P, mSP_N, mNn, mNi, mNr, mN0, al20, al21, al22, al23, al25, true_or, or_true, and_self, if_true, if_false, mCat_n, mCat_i, mCat_r, mCat_l, mCat_0, Nat.reduceAdd, Nat.reduceLeDiff, Nat.reduceLT, true_and, and_true, Nat.zero_le, bI_01]) (by rw [km2]) (md_edition hM2 hI.1 (fun T3 hM3 hF => ?_))
  have hW3 := hW2.fr hF
  have hD3 := hD2.fr hF (fun b hb q => by have := hb.2; have := q.1; omega)
  simp (maxSteps := 4000000) (disch := first | (simp (disch := omega) only [XB_i, XB_n, va_rf_s, va_rf_n, mSI_K, mSI_I, mSI_J, mSI_P, mSI_N, mSJ_K, mSJ_I, mSJ_J, mSJ_P, mSJ_N, mSP_K, mSP_I, mSP_J, mSP_P, mSP_N, mNn, mNi, mNr, mN0, al20, al21, al22, al23, al25, true_or, or_true, and_self, if_true, if_false, mCat_n, mCat_i, mCat_r, mCat_l, mCat_0, Nat.reduceAdd, Nat.reduceLeDiff, Nat.reduceLT, true_and, and_true, Nat.zero_le, bI_01, mInB_J, mInB_Z, mInB_N, eqT]; done) | omega | (unfold R32 at *; omega)) only [e_193_328, XB_i, XB_n, va_rf_s, va_rf_n, mSI_K, mSI_I, mSI_J, mSI_P, mSI_N, mSJ_K, mSJ_I, mSJ_J, mSJ_P, mSJ_N, mSP_K, mSP_I, mSP_J, mSP_P, mSP_N, mNn, mNi, mNr, mN0, al20, al21, al22, al23, al25, true_or, or_true, and_self, if_true, if_false, mCat_n, mCat_i, mCat_r, mCat_l, mCat_0, Nat.reduceAdd, Nat.reduceLeDiff, Nat.reduceLT, true_and, and_true, Nat.zero_le, bI_01, bI_0, i10, tf0, iI_add, iI_sub, iI_mul, iI_neg, iI_add1, iI_sub1, iI_m1, nca, nc1, ncm1, iI_clJ, iI_cl0, iI_clN, Int.toNat_natCast, mU_n, mU_s, p_min, p_max, p_abs, ni_2, ni_3, ni_4, ni_7, ni_8, ni_9, ni_12, ni_24, ni_97, ni_100, ni_122, ni_200, ni_256, ni_4096, ni_5000, ni_9999, iI_lt, iI_le, iI_eq, iz_eq, iz_lt, iz_le, iz_gt, iz_ge, iy_eq, iy_lt, iy_le, iI_ltN, iI_leN, iI_eqN, if_pos, if_neg, eqT]
  exact hQ T3 _ _ ⟨_, _, _, _, _, _, _, _, hD3, hM3, (hI.edition (by omega)), by omega, hW3⟩
theorem lw_octet (g : Geo sc x m o) (h : Wd T sc N x m o c n0 u0) (hN : 7 * c + 7 ≤ N) (hN2 : N ≤ 3584) (hQ : ∀ T2 l5 l6, Wd T2 sc N x m o (c + 1) n0 u0 → XW 193 1042 [some (.ref (sc)), some (.ref (x)), some (.ref (m)), some (.ref (o)), some (.int (iI ((7 * c : Nat) : Int))), l5, l6] [] T2 Q) (l5 l6 : Option Value) : XW 193 425 [some (.ref (sc)), some (.ref (x)), some (.ref (m)), some (.ref (o)), some (.int (iI ((7 * c : Nat) : Int))), l5, l6] [] T Q := by
  obtain ⟨cs, Fs, kp, cl, hb, rg, pk, df, hD, hM, hI, hcl, hW⟩ := h
  obtain ⟨gs, gx, gm⟩ := id g
  obtain ⟨v1, r1, e1⟩ := sc_v T sc (7 * c + 1)
  have ks := hW.2.1
  have ho := hW.2.2.1
  have hz := hW.1
  have hn := hW.2.2.2.1
  have kx := hD.kx
  have km := hM.1.k
  have hx : x + 857 ≤ T.2.2.2.2.1 := by omega
  have n5 : (5 : Int32) = iI 5 := rfl
  have n6 : (6 : Int32) = iI 6 := rfl
  have t2 : (((7 * c : Nat) : Int) + 2).toNat = 7 * c + 2 := by omega
  have t3 : (((7 * c : Nat) : Int) + 3).toNat = 7 * c + 3 := by omega
  have t4 : (((7 * c : Nat) : Int) + 4).toNat = 7 * c + 4 := by omega
  have t5 : (((7 * c : Nat) : Int) + 5).toNat = 7 * c + 5 := by omega
  have t6 : (((7 * c : Nat) : Int) + 6).toNat = 7 * c + 6 := by omega
  have pe := fun Q => dk_octet (T := T) (Q := Q) (i := v1) hD hI.1 r1
  simp (maxSteps := 4000000) (disch := first | (simp (disch := omega) only [XB_i, XB_n, va_rf_s, va_rf_n, mSI_K, mSI_I, mSI_J, mSI_P, mSI_N, mSJ_K, mSJ_I, mSJ_J, mSJ_P, mSJ_N, mSP_K, mSP_I, mSP_J, mSP_P, mSP_N, mNn, mNi, mNr, mN0, al20, al21, al22, al23, al25, true_or, or_true, and_self, if_true, if_false, mCat_n, mCat_i, mCat_r, mCat_l, mCat_0, Nat.reduceAdd, Nat.reduceLeDiff, Nat.reduceLT, true_and, and_true, Nat.zero_le, bI_01, mInB_J, mInB_Z, mInB_N, ks, kx, e1, pe, n5, n6, t2, t3, t4, t5, t6]; done) | omega | (unfold R32 at *; omega)) only [e_193_425, e_193_425_n, e_193_426, e_193_426_n, e_193_427, e_193_429, e_193_430, e_193_431, e_193_435, e_193_435_n, e_193_436, e_193_436_n, e_193_437, e_193_439, e_193_440, e_193_441, d_193_432, XB_i, XB_n, va_rf_s, va_rf_n, mSI_K, mSI_I, mSI_J, mSI_P, mSI_N, mSJ_K, mSJ_I, mSJ_J, mSJ_P, mSJ_N, mSP_K, mSP_I, mSP_J, mSP_P, mSP_N, mNn, mNi, mNr, mN0, al20, al21, al22, al23, al25, true_or, or_true, and_self, if_true, if_false, mCat_n, mCat_i, mCat_r, mCat_l, mCat_0, Nat.reduceAdd, Nat.reduceLeDiff, Nat.reduceLT, true_and, and_true, Nat.zero_le, bI_01, bI_0, i10, tf0, iI_add, iI_sub, iI_mul, iI_neg, iI_add1, iI_sub1, iI_m1, nca, nc1, ncm1, iI_clJ, iI_cl0, iI_clN, Int.toNat_natCast, mU_n, mU_s, p_min, p_max, p_abs, ni_2, ni_3, ni_4, ni_7, ni_8, ni_9, ni_12, ni_24, ni_97, ni_100, ni_122, ni_200, ni_256, ni_4096, ni_5000, ni_9999, iI_lt, iI_le, iI_eq, iz_eq, iz_lt, iz_le, iz_gt, iz_ge, iy_eq, iy_lt, iy_le, iI_ltN, iI_leN, iI_eqN, if_pos, if_neg, ks, kx, e1, pe, n5, n6, t2, t3, t4, t5, t6]
  refine c_193_442 (by simp only [XB_i, XB_n, va_rf_s, va_rf_n, mSI_K, mSI_I, mSI_J, mSI_P, mSI_N, mSJ_K, mSJ_I, mSJ_J, mSJ_P, mSJ_N, mSP_K, mSP_I, mSP_J, mSP_P, mSP_N, mNn, mNi, mNr, mN0, al20, al21, al22, al23, al25, true_or, or_true, and_self, if_true, if_false, mCat_n, mCat_i, mCat_r, mCat_l, mCat_0, Nat.reduceAdd, Nat.reduceLeDiff, Nat.reduceLT, true_and, and_true, Nat.zero_le, bI_01]) (by rw [km]) (md_octet hM r1 (fun T3 hM3 hF => ?_))
  have hW3 := (hW.fr hF).up
  have hD3 := hD.fr hF (fun b hb q => by have := hb.2; have := q.1; omega)
  simp (maxSteps := 4000000) (disch := first | (simp (disch := omega) only [XB_i, XB_n, va_rf_s, va_rf_n, mSI_K, mSI_I, mSI_J, mSI_P, mSI_N, mSJ_K, mSJ_I, mSJ_J, mSJ_P, mSJ_N, mSP_K, mSP_I, mSP_J, mSP_P, mSP_N, mNn, mNi, mNr, mN0, al20, al21, al22, al23, al25, true_or, or_true, and_self, if_true, if_false, mCat_n, mCat_i, mCat_r, mCat_l, mCat_0, Nat.reduceAdd, Nat.reduceLeDiff, Nat.reduceLT, true_and, and_true, Nat.zero_le, bI_01, mInB_J, mInB_Z, mInB_N, eqT]; done) | omega | (unfold R32 at *; omega)) only [e_193_445, XB_i, XB_n, va_rf_s, va_rf_n, mSI_K, mSI_I, mSI_J, mSI_P, mSI_N, mSJ_K, mSJ_I, mSJ_J, mSJ_P, mSJ_N, mSP_K, mSP_I, mSP_J, mSP_P, mSP_N, mNn, mNi, mNr, mN0, al20, al21, al22, al23, al25, true_or, or_true, and_self, if_true, if_false, mCat_n, mCat_i, mCat_r, mCat_l, mCat_0, Nat.reduceAdd, Nat.reduceLeDiff, Nat.reduceLT, true_and, and_true, Nat.zero_le, bI_01, bI_0, i10, tf0, iI_add, iI_sub, iI_mul, iI_neg, iI_add1, iI_sub1, iI_m1, nca, nc1, ncm1, iI_clJ, iI_cl0, iI_clN, Int.toNat_natCast, mU_n, mU_s, p_min, p_max, p_abs, ni_2, ni_3, ni_4, ni_7, ni_8, ni_9, ni_12, ni_24, ni_97, ni_100, ni_122, ni_200, ni_256, ni_4096, ni_5000, ni_9999, iI_lt, iI_le, iI_eq, iz_eq, iz_lt, iz_le, iz_gt, iz_ge, iy_eq, iy_lt, iy_le, iI_ltN, iI_leN, iI_eqN, if_pos, if_neg, eqT]
  exact hQ T3 _ _ ⟨_, _, _, _, _, _, _, _, hD3, hM3, hI, by omega, hW3⟩
theorem lw_packed (g : Geo sc x m o) (h : Wd T sc N x m o c n0 u0) (hN : 7 * c + 7 ≤ N) (hN2 : N ≤ 3584) (hQ : ∀ T2 l5 l6, Wd T2 sc N x m o (c + 1) n0 u0 → XW 193 1042 [some (.ref (sc)), some (.ref (x)), some (.ref (m)), some (.ref (o)), some (.int (iI ((7 * c : Nat) : Int))), l5, l6] [] T2 Q) (l5 l6 : Option Value) : XW 193 590 [some (.ref (sc)), some (.ref (x)), some (.ref (m)), some (.ref (o)), some (.int (iI ((7 * c : Nat) : Int))), l5, l6] [] T Q := by
  obtain ⟨cs, Fs, kp, cl, hb, rg, pk, df, hD, hM, hI, hcl, hW⟩ := h
  obtain ⟨gs, gx, gm⟩ := id g
  obtain ⟨v1, r1, e1⟩ := sc_v T sc (7 * c + 1)
  obtain ⟨v2, r2, e2⟩ := sc_v T sc (7 * c + 2)
  have ks := hW.2.1
  have ho := hW.2.2.1
  have hz := hW.1
  have hn := hW.2.2.2.1
  have kx := hD.kx
  have km := hM.1.k
  have hx : x + 857 ≤ T.2.2.2.2.1 := by omega
  have n5 : (5 : Int32) = iI 5 := rfl
  have n6 : (6 : Int32) = iI 6 := rfl
  have t2 : (((7 * c : Nat) : Int) + 2).toNat = 7 * c + 2 := by omega
  have t3 : (((7 * c : Nat) : Int) + 3).toNat = 7 * c + 3 := by omega
  have t4 : (((7 * c : Nat) : Int) + 4).toNat = 7 * c + 4 := by omega
  have t5 : (((7 * c : Nat) : Int) + 5).toNat = 7 * c + 5 := by omega
  have t6 : (((7 * c : Nat) : Int) + 6).toNat = 7 * c + 6 := by omega
  have pe := fun Q => dk_packed (T := T) (Q := Q) (k := v1) (w := v2) hD r1 r2
  simp (maxSteps := 4000000) (disch := first | (simp (disch := omega) only [XB_i, XB_n, va_rf_s, va_rf_n, mSI_K, mSI_I, mSI_J, mSI_P, mSI_N, mSJ_K, mSJ_I, mSJ_J, mSJ_P, mSJ_N, mSP_K, mSP_I, mSP_J, mSP_P, mSP_N, mNn, mNi, mNr, mN0, al20, al21, al22, al23, al25, true_or, or_true, and_self, if_true, if_false, mCat_n, mCat_i, mCat_r, mCat_l, mCat_0, Nat.reduceAdd, Nat.reduceLeDiff, Nat.reduceLT, true_and, and_true, Nat.zero_le, bI_01, mInB_J, mInB_Z, mInB_N, ks, kx, e1, e2, pe, n5, n6, t2, t3, t4, t5, t6]; done) | omega | (unfold R32 at *; omega)) only [e_193_590, e_193_590_n, e_193_591, e_193_591_n, e_193_592, e_193_594, e_193_595, e_193_596, e_193_597, e_193_597_n, e_193_598, e_193_600, e_193_601, e_193_602, e_193_606, e_193_606_n, e_193_607, e_193_607_n, e_193_608, e_193_610, e_193_611, e_193_612, e_193_613, e_193_613_n, e_193_614, e_193_616, e_193_617, e_193_618, d_193_603, XB_i, XB_n, va_rf_s, va_rf_n, mSI_K, mSI_I, mSI_J, mSI_P, mSI_N, mSJ_K, mSJ_I, mSJ_J, mSJ_P, mSJ_N, mSP_K, mSP_I, mSP_J, mSP_P, mSP_N, mNn, mNi, mNr, mN0, al20, al21, al22, al23, al25, true_or, or_true, and_self, if_true, if_false, mCat_n, mCat_i, mCat_r, mCat_l, mCat_0, Nat.reduceAdd, Nat.reduceLeDiff, Nat.reduceLT, true_and, and_true, Nat.zero_le, bI_01, bI_0, i10, tf0, iI_add, iI_sub, iI_mul, iI_neg, iI_add1, iI_sub1, iI_m1, nca, nc1, ncm1, iI_clJ, iI_cl0, iI_clN, Int.toNat_natCast, mU_n, mU_s, p_min, p_max, p_abs, ni_2, ni_3, ni_4, ni_7, ni_8, ni_9, ni_12, ni_24, ni_97, ni_100, ni_122, ni_200, ni_256, ni_4096, ni_5000, ni_9999, iI_lt, iI_le, iI_eq, iz_eq, iz_lt, iz_le, iz_gt, iz_ge, iy_eq, iy_lt, iy_le, iI_ltN, iI_leN, iI_eqN, if_pos, if_neg, ks, kx, e1, e2, pe, n5, n6, t2, t3, t4, t5, t6]
  refine c_193_619 (by simp only [XB_i, XB_n, va_rf_s, va_rf_n, mSI_K, mSI_I, mSI_J, mSI_P, mSI_N, mSJ_K, mSJ_I, mSJ_J, mSJ_P, mSJ_N, mSP_K, mSP_I, mSP_J, mSP_P, mSP_N, mNn, mNi, mNr, mN0, al20, al21, al22, al23, al25, true_or, or_true, and_self, if_true, if_false, mCat_n, mCat_i, mCat_r, mCat_l, mCat_0, Nat.reduceAdd, Nat.reduceLeDiff, Nat.reduceLT, true_and, and_true, Nat.zero_le, bI_01]) (by rw [km]) (md_packed hM r1 r2 (fun T3 hM3 hF => ?_))
  have hW3 := (hW.fr hF).up
  have hD3 := hD.fr hF (fun b hb q => by have := hb.2; have := q.1; omega)
  simp (maxSteps := 4000000) (disch := first | (simp (disch := omega) only [XB_i, XB_n, va_rf_s, va_rf_n, mSI_K, mSI_I, mSI_J, mSI_P, mSI_N, mSJ_K, mSJ_I, mSJ_J, mSJ_P, mSJ_N, mSP_K, mSP_I, mSP_J, mSP_P, mSP_N, mNn, mNi, mNr, mN0, al20, al21, al22, al23, al25, true_or, or_true, and_self, if_true, if_false, mCat_n, mCat_i, mCat_r, mCat_l, mCat_0, Nat.reduceAdd, Nat.reduceLeDiff, Nat.reduceLT, true_and, and_true, Nat.zero_le, bI_01, mInB_J, mInB_Z, mInB_N, eqT]; done) | omega | (unfold R32 at *; omega)) only [e_193_622, XB_i, XB_n, va_rf_s, va_rf_n, mSI_K, mSI_I, mSI_J, mSI_P, mSI_N, mSJ_K, mSJ_I, mSJ_J, mSJ_P, mSJ_N, mSP_K, mSP_I, mSP_J, mSP_P, mSP_N, mNn, mNi, mNr, mN0, al20, al21, al22, al23, al25, true_or, or_true, and_self, if_true, if_false, mCat_n, mCat_i, mCat_r, mCat_l, mCat_0, Nat.reduceAdd, Nat.reduceLeDiff, Nat.reduceLT, true_and, and_true, Nat.zero_le, bI_01, bI_0, i10, tf0, iI_add, iI_sub, iI_mul, iI_neg, iI_add1, iI_sub1, iI_m1, nca, nc1, ncm1, iI_clJ, iI_cl0, iI_clN, Int.toNat_natCast, mU_n, mU_s, p_min, p_max, p_abs, ni_2, ni_3, ni_4, ni_7, ni_8, ni_9, ni_12, ni_24, ni_97, ni_100, ni_122, ni_200, ni_256, ni_4096, ni_5000, ni_9999, iI_lt, iI_le, iI_eq, iz_eq, iz_lt, iz_le, iz_gt, iz_ge, iy_eq, iy_lt, iy_le, iI_ltN, iI_leN, iI_eqN, if_pos, if_neg, eqT]
  exact hQ T3 _ _ ⟨_, _, _, _, _, _, _, _, hD3, hM3, hI, by omega, hW3⟩
theorem lw_take (g : Geo sc x m o) (h : Wd T sc N x m o c n0 u0) (hN : 7 * c + 7 ≤ N) (hN2 : N ≤ 3584) (hQ : ∀ T2 l5 l6, Wd T2 sc N x m o (c + 1) n0 u0 → XW 193 1042 [some (.ref (sc)), some (.ref (x)), some (.ref (m)), some (.ref (o)), some (.int (iI ((7 * c : Nat) : Int))), l5, l6] [] T2 Q) (l5 l6 : Option Value) : XW 193 627 [some (.ref (sc)), some (.ref (x)), some (.ref (m)), some (.ref (o)), some (.int (iI ((7 * c : Nat) : Int))), l5, l6] [] T Q := by
  obtain ⟨cs, Fs, kp, cl, hb, rg, pk, df, hD, hM, hI, hcl, hW⟩ := h
  obtain ⟨gs, gx, gm⟩ := id g
  obtain ⟨v1, r1, e1⟩ := sc_v T sc (7 * c + 1)
  obtain ⟨v2, r2, e2⟩ := sc_v T sc (7 * c + 2)
  obtain ⟨v3, r3, e3⟩ := sc_v T sc (7 * c + 3)
  have ks := hW.2.1
  have ho := hW.2.2.1
  have hz := hW.1
  have hn := hW.2.2.2.1
  have kx := hD.kx
  have km := hM.1.k
  have hx : x + 857 ≤ T.2.2.2.2.1 := by omega
  have n5 : (5 : Int32) = iI 5 := rfl
  have n6 : (6 : Int32) = iI 6 := rfl
  have t2 : (((7 * c : Nat) : Int) + 2).toNat = 7 * c + 2 := by omega
  have t3 : (((7 * c : Nat) : Int) + 3).toNat = 7 * c + 3 := by omega
  have t4 : (((7 * c : Nat) : Int) + 4).toNat = 7 * c + 4 := by omega
  have t5 : (((7 * c : Nat) : Int) + 5).toNat = 7 * c + 5 := by omega
  have t6 : (((7 * c : Nat) : Int) + 6).toNat = 7 * c + 6 := by omega
  simp (maxSteps := 4000000) (disch := first | (simp (disch := omega) only [XB_i, XB_n, va_rf_s, va_rf_n, mSI_K, mSI_I, mSI_J, mSI_P, mSI_N, mSJ_K, mSJ_I, mSJ_J, mSJ_P, mSJ_N, mSP_K, mSP_I, mSP_J, mSP_P, mSP_N, mNn, mNi, mNr, mN0, al20, al21, al22, al23, al25, true_or, or_true, and_self, if_true, if_false, mCat_n, mCat_i, mCat_r, mCat_l, mCat_0, Nat.reduceAdd, Nat.reduceLeDiff, Nat.reduceLT, true_and, and_true, Nat.zero_le, bI_01, mInB_J, mInB_Z, mInB_N, ks, e1, e2, e3, n5, n6, t2, t3, t4, t5, t6]; done) | omega | (unfold R32 at *; omega)) only [e_193_627, e_193_627_n, e_193_628, e_193_628_n, e_193_629, e_193_631, e_193_632, e_193_633, e_193_634, e_193_634_n, e_193_635, e_193_637, e_193_638, e_193_639, e_193_640, e_193_640_n, e_193_641, e_193_643, e_193_644, e_193_645, XB_i, XB_n, va_rf_s, va_rf_n, mSI_K, mSI_I, mSI_J, mSI_P, mSI_N, mSJ_K, mSJ_I, mSJ_J, mSJ_P, mSJ_N, mSP_K, mSP_I, mSP_J, mSP_P, mSP_N, mNn, mNi, mNr, mN0, al20, al21, al22, al23, al25, true_or, or_true, and_self, if_true, if_false, mCat_n, mCat_i, mCat_r, mCat_l, mCat_0, Nat.reduceAdd, Nat.reduceLeDiff, Nat.reduceLT, true_and, and_true, Nat.zero_le, bI_01, bI_0, i10, tf0, iI_add, iI_sub, iI_mul, iI_neg, iI_add1, iI_sub1, iI_m1, nca, nc1, ncm1, iI_clJ, iI_cl0, iI_clN, Int.toNat_natCast, mU_n, mU_s, p_min, p_max, p_abs, ni_2, ni_3, ni_4, ni_7, ni_8, ni_9, ni_12, ni_24, ni_97, ni_100, ni_122, ni_200, ni_256, ni_4096, ni_5000, ni_9999, iI_lt, iI_le, iI_eq, iz_eq, iz_lt, iz_le, iz_gt, iz_ge, iy_eq, iy_lt, iy_le, iI_ltN, iI_leN, iI_eqN, if_pos, if_neg, ks, e1, e2, e3, n5, n6, t2, t3, t4, t5, t6]
  refine c_193_646 (by simp only [XB_i, XB_n, va_rf_s, va_rf_n, mSI_K, mSI_I, mSI_J, mSI_P, mSI_N, mSJ_K, mSJ_I, mSJ_J, mSJ_P, mSJ_N, mSP_K, mSP_I, mSP_J, mSP_P, mSP_N, mNn, mNi, mNr, mN0, al20, al21, al22, al23, al25, true_or, or_true, and_self, if_true, if_false, mCat_n, mCat_i, mCat_r, mCat_l, mCat_0, Nat.reduceAdd, Nat.reduceLeDiff, Nat.reduceLT, true_and, and_true, Nat.zero_le, bI_01]) (by rw [kx]) (dk_take hD hI.1 r1 r2 r3 (fun T2 hD2 hG hl => ?_))
  have hM2 := hM.gr hG (by omega) (fun b hb q => by have := hb.1; have := q.2; omega)
  have hW2 := hW.gr hG
  have ks2 := hW2.2.1
  have km2 := hM2.1.k
  have es := (hG.2.2 sc (fun q => by have := q.1; omega) (by omega)).1
  have d1 : T2.2.1 sc (7 * c + 1) = iI v1 := by rw [es]; exact e1
  have d2 : T2.2.1 sc (7 * c + 2) = iI v2 := by rw [es]; exact e2
  have d3 : T2.2.1 sc (7 * c + 3) = iI v3 := by rw [es]; exact e3
  simp (maxSteps := 4000000) (disch := first | (simp (disch := omega) only [XB_i, XB_n, va_rf_s, va_rf_n, mSI_K, mSI_I, mSI_J, mSI_P, mSI_N, mSJ_K, mSJ_I, mSJ_J, mSJ_P, mSJ_N, mSP_K, mSP_I, mSP_J, mSP_P, mSP_N, mNn, mNi, mNr, mN0, al20, al21, al22, al23, al25, true_or, or_true, and_self, if_true, if_false, mCat_n, mCat_i, mCat_r, mCat_l, mCat_0, Nat.reduceAdd, Nat.reduceLeDiff, Nat.reduceLT, true_and, and_true, Nat.zero_le, bI_01, mInB_J, mInB_Z, mInB_N, ks2, d1, d2, d3, n5, n6, t2, t3, t4, t5, t6]; done) | omega | (unfold R32 at *; omega)) only [e_193_649, e_193_649_n, e_193_650, e_193_650_n, e_193_651, e_193_653, e_193_654, e_193_655, e_193_656, e_193_656_n, e_193_657, e_193_659, e_193_660, e_193_661, e_193_662, e_193_662_n, e_193_663, e_193_665, e_193_666, e_193_667, XB_i, XB_n, va_rf_s, va_rf_n, mSI_K, mSI_I, mSI_J, mSI_P, mSI_N, mSJ_K, mSJ_I, mSJ_J, mSJ_P, mSJ_N, mSP_K, mSP_I, mSP_J, mSP_P, mSP_N, mNn, mNi, mNr, mN0, al20, al21, al22, al23, al25, true_or, or_true, and_self, if_true, if_false, mCat_n, mCat_i, mCat_r, mCat_l, mCat_0, Nat.reduceAdd, Nat.reduceLeDiff, Nat.reduceLT, true_and, and_true, Nat.zero_le, bI_01, bI_0, i10, tf0, iI_add, iI_sub, iI_mul, iI_neg, iI_add1, iI_sub1, iI_m1, nca, nc1, ncm1, iI_clJ, iI_cl0, iI_clN, Int.toNat_natCast, mU_n, mU_s, p_min, p_max, p_abs, ni_2, ni_3, ni_4, ni_7, ni_8, ni_9, ni_12, ni_24, ni_97, ni_100, ni_122, ni_200, ni_256, ni_4096, ni_5000, ni_9999, iI_lt, iI_le, iI_eq, iz_eq, iz_lt, iz_le, iz_gt, iz_ge, iy_eq, iy_lt, iy_le, iI_ltN, iI_leN, iI_eqN, if_pos, if_neg, ks2, d1, d2, d3, n5, n6, t2, t3, t4, t5, t6]
  refine c_193_668 (by simp only [XB_i, XB_n, va_rf_s, va_rf_n, mSI_K, mSI_I, mSI_J, mSI_P, mSI_N, mSJ_K, mSJ_I, mSJ_J, mSJ_P, mSJ_N, mSP_K, mSP_I, mSP_J, mSP_P, mSP_N, mNn, mNi, mNr, mN0, al20, al21, al22, al23, al25, true_or, or_true, and_self, if_true, if_false, mCat_n, mCat_i, mCat_r, mCat_l, mCat_0, Nat.reduceAdd, Nat.reduceLeDiff, Nat.reduceLT, true_and, and_true, Nat.zero_le, bI_01]) (by rw [km2]) (md_take hM2 hI.1 r1 r2 r3 (fun T3 hM3 hF => ?_))
  have hW3 := hW2.fr hF
  have hD3 := hD2.fr hF (fun b hb q => by have := hb.2; have := q.1; omega)
  simp (maxSteps := 4000000) (disch := first | (simp (disch := omega) only [XB_i, XB_n, va_rf_s, va_rf_n, mSI_K, mSI_I, mSI_J, mSI_P, mSI_N, mSJ_K, mSJ_I, mSJ_J, mSJ_P, mSJ_N, mSP_K, mSP_I, mSP_J, mSP_P, mSP_N, mNn, mNi, mNr, mN0, al20, al21, al22, al23, al25, true_or, or_true, and_self, if_true, if_false, mCat_n, mCat_i, mCat_r, mCat_l, mCat_0, Nat.reduceAdd, Nat.reduceLeDiff, Nat.reduceLT, true_and, and_true, Nat.zero_le, bI_01, mInB_J, mInB_Z, mInB_N, eqT]; done) | omega | (unfold R32 at *; omega)) only [e_193_671, XB_i, XB_n, va_rf_s, va_rf_n, mSI_K, mSI_I, mSI_J, mSI_P, mSI_N, mSJ_K, mSJ_I, mSJ_J, mSJ_P, mSJ_N, mSP_K, mSP_I, mSP_J, mSP_P, mSP_N, mNn, mNi, mNr, mN0, al20, al21, al22, al23, al25, true_or, or_true, and_self, if_true, if_false, mCat_n, mCat_i, mCat_r, mCat_l, mCat_0, Nat.reduceAdd, Nat.reduceLeDiff, Nat.reduceLT, true_and, and_true, Nat.zero_le, bI_01, bI_0, i10, tf0, iI_add, iI_sub, iI_mul, iI_neg, iI_add1, iI_sub1, iI_m1, nca, nc1, ncm1, iI_clJ, iI_cl0, iI_clN, Int.toNat_natCast, mU_n, mU_s, p_min, p_max, p_abs, ni_2, ni_3, ni_4, ni_7, ni_8, ni_9, ni_12, ni_24, ni_97, ni_100, ni_122, ni_200, ni_256, ni_4096, ni_5000, ni_9999, iI_lt, iI_le, iI_eq, iz_eq, iz_lt, iz_le, iz_gt, iz_ge, iy_eq, iy_lt, iy_le, iI_ltN, iI_leN, iI_eqN, if_pos, if_neg, eqT]
  exact hQ T3 _ _ ⟨_, _, _, _, _, _, _, _, hD3, hM3, hI.take, by omega, hW3⟩
theorem lw_pack (g : Geo sc x m o) (h : Wd T sc N x m o c n0 u0) (hN : 7 * c + 7 ≤ N) (hN2 : N ≤ 3584) (hQ : ∀ T2 l5 l6, Wd T2 sc N x m o (c + 1) n0 u0 → XW 193 1042 [some (.ref (sc)), some (.ref (x)), some (.ref (m)), some (.ref (o)), some (.int (iI ((7 * c : Nat) : Int))), l5, l6] [] T2 Q) (l5 l6 : Option Value) : XW 193 676 [some (.ref (sc)), some (.ref (x)), some (.ref (m)), some (.ref (o)), some (.int (iI ((7 * c : Nat) : Int))), l5, l6] [] T Q := by
  obtain ⟨cs, Fs, kp, cl, hb, rg, pk, df, hD, hM, hI, hcl, hW⟩ := h
  obtain ⟨gs, gx, gm⟩ := id g
  obtain ⟨v1, r1, e1⟩ := sc_v T sc (7 * c + 1)
  have ks := hW.2.1
  have ho := hW.2.2.1
  have hz := hW.1
  have hn := hW.2.2.2.1
  have kx := hD.kx
  have km := hM.1.k
  have hx : x + 857 ≤ T.2.2.2.2.1 := by omega
  have n5 : (5 : Int32) = iI 5 := rfl
  have n6 : (6 : Int32) = iI 6 := rfl
  have t2 : (((7 * c : Nat) : Int) + 2).toNat = 7 * c + 2 := by omega
  have t3 : (((7 * c : Nat) : Int) + 3).toNat = 7 * c + 3 := by omega
  have t4 : (((7 * c : Nat) : Int) + 4).toNat = 7 * c + 4 := by omega
  have t5 : (((7 * c : Nat) : Int) + 5).toNat = 7 * c + 5 := by omega
  have t6 : (((7 * c : Nat) : Int) + 6).toNat = 7 * c + 6 := by omega
  have pe := fun Q => dk_pack (T := T) (Q := Q) (w := v1) hD r1
  simp (maxSteps := 4000000) (disch := first | (simp (disch := omega) only [XB_i, XB_n, va_rf_s, va_rf_n, mSI_K, mSI_I, mSI_J, mSI_P, mSI_N, mSJ_K, mSJ_I, mSJ_J, mSJ_P, mSJ_N, mSP_K, mSP_I, mSP_J, mSP_P, mSP_N, mNn, mNi, mNr, mN0, al20, al21, al22, al23, al25, true_or, or_true, and_self, if_true, if_false, mCat_n, mCat_i, mCat_r, mCat_l, mCat_0, Nat.reduceAdd, Nat.reduceLeDiff, Nat.reduceLT, true_and, and_true, Nat.zero_le, bI_01, mInB_J, mInB_Z, mInB_N, ks, kx, e1, pe, n5, n6, t2, t3, t4, t5, t6]; done) | omega | (unfold R32 at *; omega)) only [e_193_676, e_193_676_n, e_193_677, e_193_677_n, e_193_678, e_193_680, e_193_681, e_193_682, e_193_686, e_193_686_n, e_193_687, e_193_687_n, e_193_688, e_193_690, e_193_691, e_193_692, d_193_683, XB_i, XB_n, va_rf_s, va_rf_n, mSI_K, mSI_I, mSI_J, mSI_P, mSI_N, mSJ_K, mSJ_I, mSJ_J, mSJ_P, mSJ_N, mSP_K, mSP_I, mSP_J, mSP_P, mSP_N, mNn, mNi, mNr, mN0, al20, al21, al22, al23, al25, true_or, or_true, and_self, if_true, if_false, mCat_n, mCat_i, mCat_r, mCat_l, mCat_0, Nat.reduceAdd, Nat.reduceLeDiff, Nat.reduceLT, true_and, and_true, Nat.zero_le, bI_01, bI_0, i10, tf0, iI_add, iI_sub, iI_mul, iI_neg, iI_add1, iI_sub1, iI_m1, nca, nc1, ncm1, iI_clJ, iI_cl0, iI_clN, Int.toNat_natCast, mU_n, mU_s, p_min, p_max, p_abs, ni_2, ni_3, ni_4, ni_7, ni_8, ni_9, ni_12, ni_24, ni_97, ni_100, ni_122, ni_200, ni_256, ni_4096, ni_5000, ni_9999, iI_lt, iI_le, iI_eq, iz_eq, iz_lt, iz_le, iz_gt, iz_ge, iy_eq, iy_lt, iy_le, iI_ltN, iI_leN, iI_eqN, if_pos, if_neg, ks, kx, e1, pe, n5, n6, t2, t3, t4, t5, t6]
  refine c_193_693 (by simp only [XB_i, XB_n, va_rf_s, va_rf_n, mSI_K, mSI_I, mSI_J, mSI_P, mSI_N, mSJ_K, mSJ_I, mSJ_J, mSJ_P, mSJ_N, mSP_K, mSP_I, mSP_J, mSP_P, mSP_N, mNn, mNi, mNr, mN0, al20, al21, al22, al23, al25, true_or, or_true, and_self, if_true, if_false, mCat_n, mCat_i, mCat_r, mCat_l, mCat_0, Nat.reduceAdd, Nat.reduceLeDiff, Nat.reduceLT, true_and, and_true, Nat.zero_le, bI_01]) (by rw [km]) (md_pack hM r1 (fun T3 hM3 hF => ?_))
  have hW3 := (hW.fr hF).up
  have hD3 := hD.fr hF (fun b hb q => by have := hb.2; have := q.1; omega)
  simp (maxSteps := 4000000) (disch := first | (simp (disch := omega) only [XB_i, XB_n, va_rf_s, va_rf_n, mSI_K, mSI_I, mSI_J, mSI_P, mSI_N, mSJ_K, mSJ_I, mSJ_J, mSJ_P, mSJ_N, mSP_K, mSP_I, mSP_J, mSP_P, mSP_N, mNn, mNi, mNr, mN0, al20, al21, al22, al23, al25, true_or, or_true, and_self, if_true, if_false, mCat_n, mCat_i, mCat_r, mCat_l, mCat_0, Nat.reduceAdd, Nat.reduceLeDiff, Nat.reduceLT, true_and, and_true, Nat.zero_le, bI_01, mInB_J, mInB_Z, mInB_N, eqT]; done) | omega | (unfold R32 at *; omega)) only [e_193_696, XB_i, XB_n, va_rf_s, va_rf_n, mSI_K, mSI_I, mSI_J, mSI_P, mSI_N, mSJ_K, mSJ_I, mSJ_J, mSJ_P, mSJ_N, mSP_K, mSP_I, mSP_J, mSP_P, mSP_N, mNn, mNi, mNr, mN0, al20, al21, al22, al23, al25, true_or, or_true, and_self, if_true, if_false, mCat_n, mCat_i, mCat_r, mCat_l, mCat_0, Nat.reduceAdd, Nat.reduceLeDiff, Nat.reduceLT, true_and, and_true, Nat.zero_le, bI_01, bI_0, i10, tf0, iI_add, iI_sub, iI_mul, iI_neg, iI_add1, iI_sub1, iI_m1, nca, nc1, ncm1, iI_clJ, iI_cl0, iI_clN, Int.toNat_natCast, mU_n, mU_s, p_min, p_max, p_abs, ni_2, ni_3, ni_4, ni_7, ni_8, ni_9, ni_12, ni_24, ni_97, ni_100, ni_122, ni_200, ni_256, ni_4096, ni_5000, ni_9999, iI_lt, iI_le, iI_eq, iz_eq, iz_lt, iz_le, iz_gt, iz_ge, iy_eq, iy_lt, iy_le, iI_ltN, iI_leN, iI_eqN, if_pos, if_neg, eqT]
  exact hQ T3 _ _ ⟨_, _, _, _, _, _, _, _, hD3, hM3, hI, by omega, hW3⟩
theorem lw_differs (g : Geo sc x m o) (h : Wd T sc N x m o c n0 u0) (hN : 7 * c + 7 ≤ N) (hN2 : N ≤ 3584) (hQ : ∀ T2 l5 l6, Wd T2 sc N x m o (c + 1) n0 u0 → XW 193 1042 [some (.ref (sc)), some (.ref (x)), some (.ref (m)), some (.ref (o)), some (.int (iI ((7 * c : Nat) : Int))), l5, l6] [] T2 Q) (l5 l6 : Option Value) : XW 193 769 [some (.ref (sc)), some (.ref (x)), some (.ref (m)), some (.ref (o)), some (.int (iI ((7 * c : Nat) : Int))), l5, l6] [] T Q := by
  obtain ⟨cs, Fs, kp, cl, hb, rg, pk, df, hD, hM, hI, hcl, hW⟩ := h
  obtain ⟨gs, gx, gm⟩ := id g
  obtain ⟨v1, r1, e1⟩ := sc_v T sc (7 * c + 1)
  obtain ⟨v2, r2, e2⟩ := sc_v T sc (7 * c + 2)
  have ks := hW.2.1
  have ho := hW.2.2.1
  have hz := hW.1
  have hn := hW.2.2.2.1
  have kx := hD.kx
  have km := hM.1.k
  have hx : x + 857 ≤ T.2.2.2.2.1 := by omega
  have n5 : (5 : Int32) = iI 5 := rfl
  have n6 : (6 : Int32) = iI 6 := rfl
  have t2 : (((7 * c : Nat) : Int) + 2).toNat = 7 * c + 2 := by omega
  have t3 : (((7 * c : Nat) : Int) + 3).toNat = 7 * c + 3 := by omega
  have t4 : (((7 * c : Nat) : Int) + 4).toNat = 7 * c + 4 := by omega
  have t5 : (((7 * c : Nat) : Int) + 5).toNat = 7 * c + 5 := by omega
  have t6 : (((7 * c : Nat) : Int) + 6).toNat = 7 * c + 6 := by omega
  have pe := fun Q => dk_differs (T := T) (Q := Q) (k := v1) (w := v2) hD r1 r2
  simp (maxSteps := 4000000) (disch := first | (simp (disch := omega) only [XB_i, XB_n, va_rf_s, va_rf_n, mSI_K, mSI_I, mSI_J, mSI_P, mSI_N, mSJ_K, mSJ_I, mSJ_J, mSJ_P, mSJ_N, mSP_K, mSP_I, mSP_J, mSP_P, mSP_N, mNn, mNi, mNr, mN0, al20, al21, al22, al23, al25, true_or, or_true, and_self, if_true, if_false, mCat_n, mCat_i, mCat_r, mCat_l, mCat_0, Nat.reduceAdd, Nat.reduceLeDiff, Nat.reduceLT, true_and, and_true, Nat.zero_le, bI_01, mInB_J, mInB_Z, mInB_N, ks, kx, e1, e2, pe, n5, n6, t2, t3, t4, t5, t6]; done) | omega | (unfold R32 at *; omega)) only [e_193_769, e_193_769_n, e_193_770, e_193_770_n, e_193_771, e_193_773, e_193_774, e_193_775, e_193_776, e_193_776_n, e_193_777, e_193_779, e_193_780, e_193_781, e_193_785, e_193_785_n, e_193_786, e_193_786_n, e_193_787, e_193_789, e_193_790, e_193_791, e_193_792, e_193_792_n, e_193_793, e_193_795, e_193_796, e_193_797, d_193_782, XB_i, XB_n, va_rf_s, va_rf_n, mSI_K, mSI_I, mSI_J, mSI_P, mSI_N, mSJ_K, mSJ_I, mSJ_J, mSJ_P, mSJ_N, mSP_K, mSP_I, mSP_J, mSP_P, mSP_N, mNn, mNi, mNr, mN0, al20, al21, al22, al23, al25, true_or, or_true, and_self, if_true, if_false, mCat_n, mCat_i, mCat_r, mCat_l, mCat_0, Nat.reduceAdd, Nat.reduceLeDiff, Nat.reduceLT, true_and, and_true, Nat.zero_le, bI_01, bI_0, i10, tf0, iI_add, iI_sub, iI_mul, iI_neg, iI_add1, iI_sub1, iI_m1, nca, nc1, ncm1, iI_clJ, iI_cl0, iI_clN, Int.toNat_natCast, mU_n, mU_s, p_min, p_max, p_abs, ni_2, ni_3, ni_4, ni_7, ni_8, ni_9, ni_12, ni_24, ni_97, ni_100, ni_122, ni_200, ni_256, ni_4096, ni_5000, ni_9999, iI_lt, iI_le, iI_eq, iz_eq, iz_lt, iz_le, iz_gt, iz_ge, iy_eq, iy_lt, iy_le, iI_ltN, iI_leN, iI_eqN, if_pos, if_neg, ks, kx, e1, e2, pe, n5, n6, t2, t3, t4, t5, t6]
  refine c_193_798 (by simp only [XB_i, XB_n, va_rf_s, va_rf_n, mSI_K, mSI_I, mSI_J, mSI_P, mSI_N, mSJ_K, mSJ_I, mSJ_J, mSJ_P, mSJ_N, mSP_K, mSP_I, mSP_J, mSP_P, mSP_N, mNn, mNi, mNr, mN0, al20, al21, al22, al23, al25, true_or, or_true, and_self, if_true, if_false, mCat_n, mCat_i, mCat_r, mCat_l, mCat_0, Nat.reduceAdd, Nat.reduceLeDiff, Nat.reduceLT, true_and, and_true, Nat.zero_le, bI_01]) (by rw [km]) (md_differs hM hI.1 hI.2.2.2 r1 r2 (fun T3 hM3 hF => ?_))
  have hW3 := (hW.fr hF).up
  have hD3 := hD.fr hF (fun b hb q => by have := hb.2; have := q.1; omega)
  simp (maxSteps := 4000000) (disch := first | (simp (disch := omega) only [XB_i, XB_n, va_rf_s, va_rf_n, mSI_K, mSI_I, mSI_J, mSI_P, mSI_N, mSJ_K, mSJ_I, mSJ_J, mSJ_P, mSJ_N, mSP_K, mSP_I, mSP_J, mSP_P, mSP_N, mNn, mNi, mNr, mN0, al20, al21, al22, al23, al25, true_or, or_true, and_self, if_true, if_false, mCat_n, mCat_i, mCat_r, mCat_l, mCat_0, Nat.reduceAdd, Nat.reduceLeDiff, Nat.reduceLT, true_and, and_true, Nat.zero_le, bI_01, mInB_J, mInB_Z, mInB_N, eqT]; done) | omega | (unfold R32 at *; omega)) only [e_193_801, XB_i, XB_n, va_rf_s, va_rf_n, mSI_K, mSI_I, mSI_J, mSI_P, mSI_N, mSJ_K, mSJ_I, mSJ_J, mSJ_P, mSJ_N, mSP_K, mSP_I, mSP_J, mSP_P, mSP_N, mNn, mNi, mNr, mN0, al20, al21, al22, al23, al25, true_or, or_true, and_self, if_true, if_false, mCat_n, mCat_i, mCat_r, mCat_l, mCat_0, Nat.reduceAdd, Nat.reduceLeDiff, Nat.reduceLT, true_and, and_true, Nat.zero_le, bI_01, bI_0, i10, tf0, iI_add, iI_sub, iI_mul, iI_neg, iI_add1, iI_sub1, iI_m1, nca, nc1, ncm1, iI_clJ, iI_cl0, iI_clN, Int.toNat_natCast, mU_n, mU_s, p_min, p_max, p_abs, ni_2, ni_3, ni_4, ni_7, ni_8, ni_9, ni_12, ni_24, ni_97, ni_100, ni_122, ni_200, ni_256, ni_4096, ni_5000, ni_9999, iI_lt, iI_le, iI_eq, iz_eq, iz_lt, iz_le, iz_gt, iz_ge, iy_eq, iy_lt, iy_le, iI_ltN, iI_leN, iI_eqN, if_pos, if_neg, eqT]
  exact hQ T3 _ _ ⟨_, _, _, _, _, _, _, _, hD3, hM3, hI, by omega, hW3⟩
end LWA
