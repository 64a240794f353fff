/-! Feature: the rest that reads -/
def bkL (w : Int64) : Int64 := w <<< ((iI (8 * (8 - (ltN (wv w) : Int)))).toInt64 &&& 63)
theorem wv_bkL (w : Int64) : wv (bkL w) = bkN (wv w) := wv_bk w
def frZ (cs : List Pt) (x y : Int) : Int := cX cs 0 * (cX cs 0 - 2 * x) + cY cs 0 * (cY cs 0 - 2 * y)
theorem nl_2 : (2 : Int64) = lI 2 := rfl
theorem mulB2 {x y a b : Int} (ha : 0 ≤ a) (hb : 0 ≤ b) (hx : -a ≤ x ∧ x ≤ a) (hy : -b ≤ y ∧ y ≤ b) : -(a * b) ≤ x * y ∧ x * y ≤ a * b := by
  rcases Int.le_total 0 x with h1 | h1 <;> rcases Int.le_total 0 y with h2 | h2
  · have a1 : 0 ≤ x * y := Int.mul_nonneg h1 h2
    have a2 : x * y ≤ a * b := Int.mul_le_mul hx.2 hy.2 h2 ha
    omega
  · have a1 : x * y ≤ 0 := Int.mul_nonpos_of_nonneg_of_nonpos h1 h2
    have a2 : x * (-y) ≤ a * b := Int.mul_le_mul hx.2 (by omega) (by omega) ha
    rw [Int.mul_neg] at a2
    omega
  · have a1 : x * y ≤ 0 := Int.mul_nonpos_of_nonpos_of_nonneg h1 h2
    have a2 : (-x) * y ≤ a * b := Int.mul_le_mul (by omega) hy.2 h2 ha
    rw [Int.neg_mul] at a2
    omega
  · have a1 : 0 ≤ x * y := Int.mul_nonneg_of_nonpos_of_nonpos h1 h2
    have a2 : (-x) * (-y) ≤ a * b := Int.mul_le_mul (by omega) (by omega) (by omega) ha
    rw [Int.neg_mul_neg] at a2
    omega
theorem frZ_B {cs : List Pt} (hb : csB cs) {x y : Int} (hx : R32 x) (hy : R32 y) : R64 (frZ cs x y) := by
  have h0 := hb 0
  unfold R32 at hx hy
  have h1 := mulB2 (x := cX cs 0) (y := cX cs 0 - 2 * x) (a := 4096) (b := 4294971392) (by omega) (by omega) (by omega) (by omega)
  have h2 := mulB2 (x := cY cs 0) (y := cY cs 0 - 2 * y) (a := 4096) (b := 4294971392) (by omega) (by omega) (by omega) (by omega)
  unfold R64 frZ
  omega
def dsP (F : Ft) : Prop := (1 ≤ F.1.1 ∧ F.1.1 ≤ 9999) ∧ (0 ≤ F.1.2.2.1 ∧ F.1.2.2.1 ≤ 9) ∧ zmP F.1.2.2.2 ∧ nmB (wv F.2.1) = true
def scP (F : Ft) : Prop := (F.1.2.1 = 0 ∧ F.2.2.length = 1) ∨ (F.1.2.1 = 1 ∧ 2 ≤ F.2.2.length ∧ goP F.2.2) ∨ (F.1.2.1 = 2 ∧ 3 ≤ F.2.2.length ∧ rgP F.2.2)
/-- its numbers are ints -/
def fR (F : Ft) : Prop := R32 F.1.1 ∧ R32 F.1.2.1 ∧ R32 F.1.2.2.1 ∧ R32 F.1.2.2.2
section F3
variable {T : mT} {Q : mOut → mT → Prop} {a b : Nat} {w v : Int64} {F G : Ft}
theorem p_book (hk : FeatK T a) (hw : T.2.2.1 a 4 = w) : XW 34 0 [some (.ref (a))] [] T Q = Q (.inl (some (.long (bkL w)))) T := by
  have k1 := hk.1
  simp (maxSteps := 4000000) (disch := first | (simp (disch := omega) only [XB_i, XB_n, va_rf_s, va_rf_n, mSI_K, mSI_I, mSI_J, mSI_P, mSI_N, mSJ_K, mSJ_I, mSJ_J, mSJ_P, mSJ_N, mSP_K, mSP_I, mSP_J, mSP_P, mSP_N, mNn, mNi, mNr, mN0, al20, al21, al22, al23, al25, true_or, or_true, and_self, if_true, if_false, mCat_n, mCat_i, mCat_r, mCat_l, mCat_0, Nat.reduceAdd, Nat.reduceLeDiff, Nat.reduceLT, true_and, and_true, Nat.zero_le, bI_01, mInB_J, mInB_Z, mInB_N, k1, hw, p_letters]; done) | omega | (unfold R32 at *; omega)) only [e_34_0, e_34_0_n, e_34_1, e_34_4, e_34_6, e_34_8, e_34_8_n, e_34_9, e_34_15, e_34_16, e_34_17, e_34_18, d_34_12, XB_i, XB_n, va_rf_s, va_rf_n, mSI_K, mSI_I, mSI_J, mSI_P, mSI_N, mSJ_K, mSJ_I, mSJ_J, mSJ_P, mSJ_N, mSP_K, mSP_I, mSP_J, mSP_P, mSP_N, mNn, mNi, mNr, mN0, al20, al21, al22, al23, al25, true_or, or_true, and_self, if_true, if_false, mCat_n, mCat_i, mCat_r, mCat_l, mCat_0, Nat.reduceAdd, Nat.reduceLeDiff, Nat.reduceLT, true_and, and_true, Nat.zero_le, bI_01, bI_0, iI_add, iI_sub, iI_mul, iI_neg, iI_add1, iI_sub1, iI_m1, nc1, ncm1, iI_clJ, iI_cl0, iI_clN, Int.toNat_natCast, mU_n, mU_s, p_min, p_max, p_abs, ni_2, ni_3, ni_4, ni_7, ni_8, ni_9, ni_12, ni_24, ni_97, ni_100, ni_122, ni_200, ni_256, ni_4096, ni_5000, ni_9999, iI_lt, iI_le, iI_eq, iz_eq, iz_lt, iz_le, iz_gt, iz_ge, iy_eq, iy_lt, iy_le, iI_ltN, iI_leN, iI_eqN, if_pos, if_neg, k1, hw, p_letters]
  rfl
theorem p_ahead (hF : FeatR T a F) (hG : FeatR T b G) (rF : R32 F.1.1) (rG : R32 G.1.1) (h1 : bkN (wv F.2.1) < 9223372036854775808) (h2 : bkN (wv G.2.1) < 9223372036854775808) : XW 35 0 [some (.ref (a)), some (.ref (b)), none, none, none, none] [] T Q = Q (.inl (some (.int (bI (decide (bkN (wv F.2.1) < bkN (wv G.2.1) ∨ (bkN (wv F.2.1) = bkN (wv G.2.1) ∧ F.1.1 < G.1.1))))))) T := by
  have k1 := hF.1.1
  have k2 := hG.1.1
  have n1 := hF.2.1.1
  have n2 := hG.2.1.1
  have q1 := @wv_lti (bkL F.2.1) (bkL G.2.1) (by rw [wv_bkL]; exact h1) (by rw [wv_bkL]; exact h2)
  have q2 : (bkL F.2.1 = bkL G.2.1) = (bkN (wv F.2.1) = bkN (wv G.2.1)) := by rw [← wv_bkL, ← wv_bkL, wv_inj]
  rw [wv_bkL, wv_bkL] at q1
  simp (maxSteps := 4000000) (disch := first | (simp (disch := omega) only [XB_i, XB_n, va_rf_s, va_rf_n, mSI_K, mSI_I, mSI_J, mSI_P, mSI_N, mSJ_K, mSJ_I, mSJ_J, mSJ_P, mSJ_N, mSP_K, mSP_I, mSP_J, mSP_P, mSP_N, mNn, mNi, mNr, mN0, al20, al21, al22, al23, al25, true_or, or_true, and_self, if_true, if_false, mCat_n, mCat_i, mCat_r, mCat_l, mCat_0, Nat.reduceAdd, Nat.reduceLeDiff, Nat.reduceLT, true_and, and_true, Nat.zero_le, bI_01, mInB_J, mInB_Z, mInB_N, k1, k2, n1, n2, lg_l, lg_z, q1, q2, rF, rG]; done) | omega | (unfold R32 at *; omega)) only [e_35_0, e_35_0_n, e_35_4, e_35_5, e_35_5_n, e_35_9, e_35_11, e_35_12, e_35_14, e_35_15, e_35_18, e_35_19, e_35_21, e_35_22, e_35_25, e_35_25_n, e_35_26, e_35_29, e_35_29_n, e_35_30, e_35_33, e_35_36, e_35_37, e_35_40, e_35_41, d_35_1, d_35_6, XB_i, XB_n, va_rf_s, va_rf_n, mSI_K, mSI_I, mSI_J, mSI_P, mSI_N, mSJ_K, mSJ_I, mSJ_J, mSJ_P, mSJ_N, mSP_K, mSP_I, mSP_J, mSP_P, mSP_N, mNn, mNi, mNr, mN0, al20, al21, al22, al23, al25, true_or, or_true, and_self, if_true, if_false, mCat_n, mCat_i, mCat_r, mCat_l, mCat_0, Nat.reduceAdd, Nat.reduceLeDiff, Nat.reduceLT, true_and, and_true, Nat.zero_le, bI_01, bI_0, iI_add, iI_sub, iI_mul, iI_neg, iI_add1, iI_sub1, iI_m1, nc1, ncm1, iI_clJ, iI_cl0, iI_clN, Int.toNat_natCast, mU_n, mU_s, p_min, p_max, p_abs, ni_2, ni_3, ni_4, ni_7, ni_8, ni_9, ni_12, ni_24, ni_97, ni_100, ni_122, ni_200, ni_256, ni_4096, ni_5000, ni_9999, iI_lt, iI_le, iI_eq, iz_eq, iz_lt, iz_le, iz_gt, iz_ge, iy_eq, iy_lt, iy_le, iI_ltN, iI_leN, iI_eqN, if_pos, if_neg, k1, k2, n1, n2, p_book hF.1 hF.2.1.2.2.2.2, p_book hG.1 hG.2.1.2.2.2.2, lg_l, lg_z, q1, q2, rF, rG]
  grind [bI]
theorem p_far (hk : FeatK T a) {cs : List Pt} (hc : FeatC T a cs) (hb : csB cs) (hl : 0 < cs.length) {x y : Int} (hx : R32 x) (hy : R32 y) : XW 37 0 [some (.ref (a)), some (.int (iI (x))), some (.int (iI (y)))] [] T Q = Q (.inl (some (.long (lI (frZ cs x y))))) T := by
  obtain ⟨k1, k2, k3, k4, k5⟩ := hk
  obtain ⟨c1, c2, c3, c4⟩ := hc
  have x0 := hb.x 0
  have y0 := hb.y 0
  simp (maxSteps := 4000000) (disch := first | (simp (disch := omega) only [XB_i, XB_n, va_rf_s, va_rf_n, mSI_K, mSI_I, mSI_J, mSI_P, mSI_N, mSJ_K, mSJ_I, mSJ_J, mSJ_P, mSJ_N, mSP_K, mSP_I, mSP_J, mSP_P, mSP_N, mNn, mNi, mNr, mN0, al20, al21, al22, al23, al25, true_or, or_true, and_self, if_true, if_false, mCat_n, mCat_i, mCat_r, mCat_l, mCat_0, Nat.reduceAdd, Nat.reduceLeDiff, Nat.reduceLT, true_and, and_true, Nat.zero_le, bI_01, mInB_J, mInB_Z, mInB_N, k1, k2, k3, k4, k5, c3, c4, x0, y0, hx, hy, i2l_i, nl_2, lI_mul, lI_sub, lI_add]; done) | omega | (unfold R32 at *; omega)) only [e_37_0, e_37_0_n, e_37_1, e_37_4, e_37_5, e_37_6, e_37_7, e_37_7_n, e_37_8, e_37_11, e_37_12, e_37_13, e_37_14, e_37_17, e_37_18, e_37_19, e_37_20, e_37_21, e_37_22, e_37_22_n, e_37_23, e_37_26, e_37_27, e_37_28, e_37_29, e_37_29_n, e_37_30, e_37_33, e_37_34, e_37_35, e_37_36, e_37_39, e_37_40, e_37_41, e_37_42, e_37_43, e_37_44, e_37_45, XB_i, XB_n, va_rf_s, va_rf_n, mSI_K, mSI_I, mSI_J, mSI_P, mSI_N, mSJ_K, mSJ_I, mSJ_J, mSJ_P, mSJ_N, mSP_K, mSP_I, mSP_J, mSP_P, mSP_N, mNn, mNi, mNr, mN0, al20, al21, al22, al23, al25, true_or, or_true, and_self, if_true, if_false, mCat_n, mCat_i, mCat_r, mCat_l, mCat_0, Nat.reduceAdd, Nat.reduceLeDiff, Nat.reduceLT, true_and, and_true, Nat.zero_le, bI_01, bI_0, iI_add, iI_sub, iI_mul, iI_neg, iI_add1, iI_sub1, iI_m1, nc1, ncm1, iI_clJ, iI_cl0, iI_clN, Int.toNat_natCast, mU_n, mU_s, p_min, p_max, p_abs, ni_2, ni_3, ni_4, ni_7, ni_8, ni_9, ni_12, ni_24, ni_97, ni_100, ni_122, ni_200, ni_256, ni_4096, ni_5000, ni_9999, iI_lt, iI_le, iI_eq, iz_eq, iz_lt, iz_le, iz_gt, iz_ge, iy_eq, iy_lt, iy_le, iI_ltN, iI_leN, iI_eqN, if_pos, if_neg, k1, k2, k3, k4, k5, c3, c4, x0, y0, hx, hy, i2l_i, nl_2, lI_mul, lI_sub, lI_add]
  rfl
theorem p_nearer (hF : FeatR T a F) (hG : FeatR T b G) (rF : R32 F.1.1) (rG : R32 G.1.1) (bF : csB F.2.2) (bG : csB G.2.2) (lF : 0 < F.2.2.length) (lG : 0 < G.2.2.length) {x y : Int} (hx : R32 x) (hy : R32 y) : XW 36 0 [some (.ref (a)), some (.ref (b)), some (.int (iI (x))), some (.int (iI (y))), none, none, none, none] [] T Q = Q (.inl (some (.int (bI (decide (frZ F.2.2 x y < frZ G.2.2 x y ∨ (frZ F.2.2 x y = frZ G.2.2 x y ∧ F.1.1 < G.1.1))))))) T := by
  have k1 := hF.1.1
  have k2 := hG.1.1
  have n1 := hF.2.1.1
  have n2 := hG.2.1.1
  have r1 := frZ_B bF hx hy
  have r2 := frZ_B bG hx hy
  have q1 := lI_lt r1 r2
  have q2 := lI_eq r1 r2
  simp (maxSteps := 4000000) (disch := first | (simp (disch := omega) only [XB_i, XB_n, va_rf_s, va_rf_n, mSI_K, mSI_I, mSI_J, mSI_P, mSI_N, mSJ_K, mSJ_I, mSJ_J, mSJ_P, mSJ_N, mSP_K, mSP_I, mSP_J, mSP_P, mSP_N, mNn, mNi, mNr, mN0, al20, al21, al22, al23, al25, true_or, or_true, and_self, if_true, if_false, mCat_n, mCat_i, mCat_r, mCat_l, mCat_0, Nat.reduceAdd, Nat.reduceLeDiff, Nat.reduceLT, true_and, and_true, Nat.zero_le, bI_01, mInB_J, mInB_Z, mInB_N, k1, k2, n1, n2, lg_l, lg_z, q1, q2, rF, rG]; done) | omega | (unfold R32 at *; omega)) only [e_36_0, e_36_0_n, e_36_1, e_36_2, e_36_6, e_36_8, e_36_8_n, e_36_9, e_36_10, e_36_14, e_36_16, e_36_18, e_36_20, e_36_21, e_36_24, e_36_26, e_36_28, e_36_29, e_36_32, e_36_32_n, e_36_33, e_36_36, e_36_36_n, e_36_37, e_36_40, e_36_43, e_36_44, e_36_47, e_36_48, d_36_3, d_36_11, XB_i, XB_n, va_rf_s, va_rf_n, mSI_K, mSI_I, mSI_J, mSI_P, mSI_N, mSJ_K, mSJ_I, mSJ_J, mSJ_P, mSJ_N, mSP_K, mSP_I, mSP_J, mSP_P, mSP_N, mNn, mNi, mNr, mN0, al20, al21, al22, al23, al25, true_or, or_true, and_self, if_true, if_false, mCat_n, mCat_i, mCat_r, mCat_l, mCat_0, Nat.reduceAdd, Nat.reduceLeDiff, Nat.reduceLT, true_and, and_true, Nat.zero_le, bI_01, bI_0, iI_add, iI_sub, iI_mul, iI_neg, iI_add1, iI_sub1, iI_m1, nc1, ncm1, iI_clJ, iI_cl0, iI_clN, Int.toNat_natCast, mU_n, mU_s, p_min, p_max, p_abs, ni_2, ni_3, ni_4, ni_7, ni_8, ni_9, ni_12, ni_24, ni_97, ni_100, ni_122, ni_200, ni_256, ni_4096, ni_5000, ni_9999, iI_lt, iI_le, iI_eq, iz_eq, iz_lt, iz_le, iz_gt, iz_ge, iy_eq, iy_lt, iy_le, iI_ltN, iI_leN, iI_eqN, if_pos, if_neg, k1, k2, n1, n2, p_far hF.1 hF.2.2 bF lF hx hy, p_far hG.1 hG.2.2 bG lG hx hy, lg_l, lg_z, q1, q2, rF, rG]
  grind [bI]
theorem p_pointOf (hF : FeatR T a F) (rK : R32 F.1.2.1) (rS : R32 F.1.2.2.1) {s : Int} (hs : R32 s) : XW 38 0 [some (.ref (a)), some (.int (iI (s)))] [] T Q = Q (.inl (some (.int (bI (decide (F.1.2.1 = 0) && decide (F.1.2.2.1 = s)))))) T := by
  have k1 := hF.1.1
  obtain ⟨n1, n2, n3, n4, n5⟩ := hF.2.1
  simp (maxSteps := 4000000) (disch := first | (simp (disch := omega) only [XB_i, XB_n, va_rf_s, va_rf_n, mSI_K, mSI_I, mSI_J, mSI_P, mSI_N, mSJ_K, mSJ_I, mSJ_J, mSJ_P, mSJ_N, mSP_K, mSP_I, mSP_J, mSP_P, mSP_N, mNn, mNi, mNr, mN0, al20, al21, al22, al23, al25, true_or, or_true, and_self, if_true, if_false, mCat_n, mCat_i, mCat_r, mCat_l, mCat_0, Nat.reduceAdd, Nat.reduceLeDiff, Nat.reduceLT, true_and, and_true, Nat.zero_le, bI_01, mInB_J, mInB_Z, mInB_N, k1, n2, n3, rK, rS, hs]; done) | omega | (unfold R32 at *; omega)) only [e_38_0, e_38_0_n, e_38_1, e_38_4, e_38_7, e_38_7_n, e_38_8, e_38_11, e_38_12, e_38_15, e_38_16, e_38_19, e_38_20, XB_i, XB_n, va_rf_s, va_rf_n, mSI_K, mSI_I, mSI_J, mSI_P, mSI_N, mSJ_K, mSJ_I, mSJ_J, mSJ_P, mSJ_N, mSP_K, mSP_I, mSP_J, mSP_P, mSP_N, mNn, mNi, mNr, mN0, al20, al21, al22, al23, al25, true_or, or_true, and_self, if_true, if_false, mCat_n, mCat_i, mCat_r, mCat_l, mCat_0, Nat.reduceAdd, Nat.reduceLeDiff, Nat.reduceLT, true_and, and_true, Nat.zero_le, bI_01, bI_0, iI_add, iI_sub, iI_mul, iI_neg, iI_add1, iI_sub1, iI_m1, nc1, ncm1, iI_clJ, iI_cl0, iI_clN, Int.toNat_natCast, mU_n, mU_s, p_min, p_max, p_abs, ni_2, ni_3, ni_4, ni_7, ni_8, ni_9, ni_12, ni_24, ni_97, ni_100, ni_122, ni_200, ni_256, ni_4096, ni_5000, ni_9999, iI_lt, iI_le, iI_eq, iz_eq, iz_lt, iz_le, iz_gt, iz_ge, iy_eq, iy_lt, iy_le, iI_ltN, iI_leN, iI_eqN, if_pos, if_neg, k1, n2, n3, rK, rS, hs]
  grind [bI]
theorem p_described (hF : FeatR T a F) (hr : fR F) : XW 18 0 [some (.ref (a))] [] T Q = Q (.inl (some (.int (bP (dsP F))))) T := by
  have k1 := hF.1.1
  obtain ⟨n1, n2, n3, n4, n5⟩ := hF.2.1
  obtain ⟨r1, r2, r3, r4⟩ := hr
  simp (maxSteps := 4000000) (disch := first | (simp (disch := omega) only [XB_i, XB_n, va_rf_s, va_rf_n, mSI_K, mSI_I, mSI_J, mSI_P, mSI_N, mSJ_K, mSJ_I, mSJ_J, mSJ_P, mSJ_N, mSP_K, mSP_I, mSP_J, mSP_P, mSP_N, mNn, mNi, mNr, mN0, al20, al21, al22, al23, al25, true_or, or_true, and_self, if_true, if_false, mCat_n, mCat_i, mCat_r, mCat_l, mCat_0, Nat.reduceAdd, Nat.reduceLeDiff, Nat.reduceLT, true_and, and_true, Nat.zero_le, bI_01, mInB_J, mInB_Z, mInB_N, k1, n1, n3, n4, n5, r1, r3, r4, p_zoom, p_isName]; done) | omega | (unfold R32 at *; omega)) only [e_18_0, e_18_0_n, e_18_1, e_18_4, e_18_5, e_18_8, e_18_8_n, e_18_9, e_18_12, e_18_15, e_18_18, e_18_18_n, e_18_19, e_18_22, e_18_25, e_18_25_n, e_18_26, e_18_29, e_18_31, e_18_34, e_18_34_n, e_18_35, e_18_41, e_18_44, e_18_44_n, e_18_45, e_18_51, e_18_54, e_18_55, e_18_58, e_18_59, d_18_38, d_18_48, XB_i, XB_n, va_rf_s, va_rf_n, mSI_K, mSI_I, mSI_J, mSI_P, mSI_N, mSJ_K, mSJ_I, mSJ_J, mSJ_P, mSJ_N, mSP_K, mSP_I, mSP_J, mSP_P, mSP_N, mNn, mNi, mNr, mN0, al20, al21, al22, al23, al25, true_or, or_true, and_self, if_true, if_false, mCat_n, mCat_i, mCat_r, mCat_l, mCat_0, Nat.reduceAdd, Nat.reduceLeDiff, Nat.reduceLT, true_and, and_true, Nat.zero_le, bI_01, bI_0, iI_add, iI_sub, iI_mul, iI_neg, iI_add1, iI_sub1, iI_m1, nc1, ncm1, iI_clJ, iI_cl0, iI_clN, Int.toNat_natCast, mU_n, mU_s, p_min, p_max, p_abs, ni_2, ni_3, ni_4, ni_7, ni_8, ni_9, ni_12, ni_24, ni_97, ni_100, ni_122, ni_200, ni_256, ni_4096, ni_5000, ni_9999, iI_lt, iI_le, iI_eq, iz_eq, iz_lt, iz_le, iz_gt, iz_ge, iy_eq, iy_lt, iy_le, iI_ltN, iI_leN, iI_eqN, if_pos, if_neg, k1, n1, n3, n4, n5, r1, r3, r4, p_zoom, p_isName]
  unfold dsP
  grind [bI, dB]
theorem p_sound (hF : FeatR T a F) (hr : fR F) (hb : csB F.2.2) : XW 19 0 [some (.ref (a))] [] T Q = Q (.inl (some (.int (bP (scP F))))) T := by
  have k1 := hF.1.1
  obtain ⟨n1, n2, n3, n4, n5⟩ := hF.2.1
  have c1 := hF.2.2.1
  have c2 := hF.2.2.2.1
  obtain ⟨r1, r2, r3, r4⟩ := hr
  have pr := @p_ring T Q a F.2.2 hF.1 hF.2.2 hb
  have pg := @p_goes T Q a F.2.2 hF.1 hF.2.2 hb
  have e0 : (iI F.1.2.1).toInt = F.1.2.1 := iI_toInt r2
  rw [e_19_0, e_19_1 (by rw [k1]), n2, e_19_4, e0]
  unfold scP
  by_cases q0 : F.1.2.1 = 0
  · rw [q0]
    simp only [show (if (0 : Int) < 0 ∨ 2 < (0 : Int) then 88 else ([32, 46, 67] : List Nat).getD ((0 : Int) - 0).toNat 88) = 32 by decide]
    simp (maxSteps := 4000000) (disch := first | (simp (disch := omega) only [XB_i, XB_n, va_rf_s, va_rf_n, mSI_K, mSI_I, mSI_J, mSI_P, mSI_N, mSJ_K, mSJ_I, mSJ_J, mSJ_P, mSJ_N, mSP_K, mSP_I, mSP_J, mSP_P, mSP_N, mNn, mNi, mNr, mN0, al20, al21, al22, al23, al25, true_or, or_true, and_self, if_true, if_false, mCat_n, mCat_i, mCat_r, mCat_l, mCat_0, Nat.reduceAdd, Nat.reduceLeDiff, Nat.reduceLT, true_and, and_true, Nat.zero_le, bI_01, mInB_J, mInB_Z, mInB_N, k1, c1]; done) | omega | (unfold R32 at *; omega)) only [e_19_0, e_19_0_n, e_19_1, e_19_4, e_19_32, e_19_32_n, e_19_33, e_19_36, e_19_37, e_19_40, e_19_41, e_19_44, e_19_45, e_19_46, e_19_46_n, e_19_47, e_19_50, e_19_51, e_19_54, e_19_54_n, e_19_58, e_19_61, e_19_62, e_19_65, e_19_66, e_19_67, e_19_67_n, e_19_68, e_19_71, e_19_72, e_19_75, e_19_75_n, e_19_79, e_19_82, e_19_83, e_19_86, e_19_87, e_19_88, e_19_89, d_19_55, d_19_76, XB_i, XB_n, va_rf_s, va_rf_n, mSI_K, mSI_I, mSI_J, mSI_P, mSI_N, mSJ_K, mSJ_I, mSJ_J, mSJ_P, mSJ_N, mSP_K, mSP_I, mSP_J, mSP_P, mSP_N, mNn, mNi, mNr, mN0, al20, al21, al22, al23, al25, true_or, or_true, and_self, if_true, if_false, mCat_n, mCat_i, mCat_r, mCat_l, mCat_0, Nat.reduceAdd, Nat.reduceLeDiff, Nat.reduceLT, true_and, and_true, Nat.zero_le, bI_01, bI_0, iI_add, iI_sub, iI_mul, iI_neg, iI_add1, iI_sub1, iI_m1, nc1, ncm1, iI_clJ, iI_cl0, iI_clN, Int.toNat_natCast, mU_n, mU_s, p_min, p_max, p_abs, ni_2, ni_3, ni_4, ni_7, ni_8, ni_9, ni_12, ni_24, ni_97, ni_100, ni_122, ni_200, ni_256, ni_4096, ni_5000, ni_9999, iI_lt, iI_le, iI_eq, iz_eq, iz_lt, iz_le, iz_gt, iz_ge, iy_eq, iy_lt, iy_le, iI_ltN, iI_leN, iI_eqN, if_pos, if_neg, k1, c1]
    by_cases q : F.2.2.length = 1 <;> simp [q, bI, dB]
    all_goals grind
  · by_cases q1 : F.1.2.1 = 1
    · rw [q1]
      simp only [show (if (1 : Int) < 0 ∨ 2 < (1 : Int) then 88 else ([32, 46, 67] : List Nat).getD ((1 : Int) - 0).toNat 88) = 46 by decide]
      simp (maxSteps := 4000000) (disch := first | (simp (disch := omega) only [XB_i, XB_n, va_rf_s, va_rf_n, mSI_K, mSI_I, mSI_J, mSI_P, mSI_N, mSJ_K, mSJ_I, mSJ_J, mSJ_P, mSJ_N, mSP_K, mSP_I, mSP_J, mSP_P, mSP_N, mNn, mNi, mNr, mN0, al20, al21, al22, al23, al25, true_or, or_true, and_self, if_true, if_false, mCat_n, mCat_i, mCat_r, mCat_l, mCat_0, Nat.reduceAdd, Nat.reduceLeDiff, Nat.reduceLT, true_and, and_true, Nat.zero_le, bI_01, mInB_J, mInB_Z, mInB_N, k1, c1]; done) | omega | (unfold R32 at *; omega)) only [e_19_0, e_19_0_n, e_19_1, e_19_4, e_19_32, e_19_32_n, e_19_33, e_19_36, e_19_37, e_19_40, e_19_41, e_19_44, e_19_45, e_19_46, e_19_46_n, e_19_47, e_19_50, e_19_51, e_19_54, e_19_54_n, e_19_58, e_19_61, e_19_62, e_19_65, e_19_66, e_19_67, e_19_67_n, e_19_68, e_19_71, e_19_72, e_19_75, e_19_75_n, e_19_79, e_19_82, e_19_83, e_19_86, e_19_87, e_19_88, e_19_89, d_19_55, d_19_76, XB_i, XB_n, va_rf_s, va_rf_n, mSI_K, mSI_I, mSI_J, mSI_P, mSI_N, mSJ_K, mSJ_I, mSJ_J, mSJ_P, mSJ_N, mSP_K, mSP_I, mSP_J, mSP_P, mSP_N, mNn, mNi, mNr, mN0, al20, al21, al22, al23, al25, true_or, or_true, and_self, if_true, if_false, mCat_n, mCat_i, mCat_r, mCat_l, mCat_0, Nat.reduceAdd, Nat.reduceLeDiff, Nat.reduceLT, true_and, and_true, Nat.zero_le, bI_01, bI_0, iI_add, iI_sub, iI_mul, iI_neg, iI_add1, iI_sub1, iI_m1, nc1, ncm1, iI_clJ, iI_cl0, iI_clN, Int.toNat_natCast, mU_n, mU_s, p_min, p_max, p_abs, ni_2, ni_3, ni_4, ni_7, ni_8, ni_9, ni_12, ni_24, ni_97, ni_100, ni_122, ni_200, ni_256, ni_4096, ni_5000, ni_9999, iI_lt, iI_le, iI_eq, iz_eq, iz_lt, iz_le, iz_gt, iz_ge, iy_eq, iy_lt, iy_le, iI_ltN, iI_leN, iI_eqN, if_pos, if_neg, k1, c1, p_goes hF.1 hF.2.2 hb]
      clear pr pg
      by_cases q : 2 ≤ F.2.2.length <;> by_cases q2 : goP F.2.2 <;> grind [bI, dB]
    · by_cases q2 : F.1.2.1 = 2
      · rw [q2]
        simp only [show (if (2 : Int) < 0 ∨ 2 < (2 : Int) then 88 else ([32, 46, 67] : List Nat).getD ((2 : Int) - 0).toNat 88) = 67 by decide]
        simp (maxSteps := 4000000) (disch := first | (simp (disch := omega) only [XB_i, XB_n, va_rf_s, va_rf_n, mSI_K, mSI_I, mSI_J, mSI_P, mSI_N, mSJ_K, mSJ_I, mSJ_J, mSJ_P, mSJ_N, mSP_K, mSP_I, mSP_J, mSP_P, mSP_N, mNn, mNi, mNr, mN0, al20, al21, al22, al23, al25, true_or, or_true, and_self, if_true, if_false, mCat_n, mCat_i, mCat_r, mCat_l, mCat_0, Nat.reduceAdd, Nat.reduceLeDiff, Nat.reduceLT, true_and, and_true, Nat.zero_le, bI_01, mInB_J, mInB_Z, mInB_N, k1, c1]; done) | omega | (unfold R32 at *; omega)) only [e_19_0, e_19_0_n, e_19_1, e_19_4, e_19_32, e_19_32_n, e_19_33, e_19_36, e_19_37, e_19_40, e_19_41, e_19_44, e_19_45, e_19_46, e_19_46_n, e_19_47, e_19_50, e_19_51, e_19_54, e_19_54_n, e_19_58, e_19_61, e_19_62, e_19_65, e_19_66, e_19_67, e_19_67_n, e_19_68, e_19_71, e_19_72, e_19_75, e_19_75_n, e_19_79, e_19_82, e_19_83, e_19_86, e_19_87, e_19_88, e_19_89, d_19_55, d_19_76, XB_i, XB_n, va_rf_s, va_rf_n, mSI_K, mSI_I, mSI_J, mSI_P, mSI_N, mSJ_K, mSJ_I, mSJ_J, mSJ_P, mSJ_N, mSP_K, mSP_I, mSP_J, mSP_P, mSP_N, mNn, mNi, mNr, mN0, al20, al21, al22, al23, al25, true_or, or_true, and_self, if_true, if_false, mCat_n, mCat_i, mCat_r, mCat_l, mCat_0, Nat.reduceAdd, Nat.reduceLeDiff, Nat.reduceLT, true_and, and_true, Nat.zero_le, bI_01, bI_0, iI_add, iI_sub, iI_mul, iI_neg, iI_add1, iI_sub1, iI_m1, nc1, ncm1, iI_clJ, iI_cl0, iI_clN, Int.toNat_natCast, mU_n, mU_s, p_min, p_max, p_abs, ni_2, ni_3, ni_4, ni_7, ni_8, ni_9, ni_12, ni_24, ni_97, ni_100, ni_122, ni_200, ni_256, ni_4096, ni_5000, ni_9999, iI_lt, iI_le, iI_eq, iz_eq, iz_lt, iz_le, iz_gt, iz_ge, iy_eq, iy_lt, iy_le, iI_ltN, iI_leN, iI_eqN, if_pos, if_neg, k1, c1, p_ring hF.1 hF.2.2 hb]
        clear pr pg
        by_cases q : 3 ≤ F.2.2.length <;> by_cases q3 : rgP F.2.2 <;> grind [bI, dB]
      · rw [if_pos (by omega)]
        simp (maxSteps := 4000000) (disch := first | (simp (disch := omega) only [XB_i, XB_n, va_rf_s, va_rf_n, mSI_K, mSI_I, mSI_J, mSI_P, mSI_N, mSJ_K, mSJ_I, mSJ_J, mSJ_P, mSJ_N, mSP_K, mSP_I, mSP_J, mSP_P, mSP_N, mNn, mNi, mNr, mN0, al20, al21, al22, al23, al25, true_or, or_true, and_self, if_true, if_false, mCat_n, mCat_i, mCat_r, mCat_l, mCat_0, Nat.reduceAdd, Nat.reduceLeDiff, Nat.reduceLT, true_and, and_true, Nat.zero_le, bI_01, mInB_J, mInB_Z, mInB_N]; done) | omega | (unfold R32 at *; omega)) only [e_19_0, e_19_0_n, e_19_1, e_19_4, e_19_32, e_19_32_n, e_19_33, e_19_36, e_19_37, e_19_40, e_19_41, e_19_44, e_19_45, e_19_46, e_19_46_n, e_19_47, e_19_50, e_19_51, e_19_54, e_19_54_n, e_19_58, e_19_61, e_19_62, e_19_65, e_19_66, e_19_67, e_19_67_n, e_19_68, e_19_71, e_19_72, e_19_75, e_19_75_n, e_19_79, e_19_82, e_19_83, e_19_86, e_19_87, e_19_88, e_19_89, XB_i, XB_n, va_rf_s, va_rf_n, mSI_K, mSI_I, mSI_J, mSI_P, mSI_N, mSJ_K, mSJ_I, mSJ_J, mSJ_P, mSJ_N, mSP_K, mSP_I, mSP_J, mSP_P, mSP_N, mNn, mNi, mNr, mN0, al20, al21, al22, al23, al25, true_or, or_true, and_self, if_true, if_false, mCat_n, mCat_i, mCat_r, mCat_l, mCat_0, Nat.reduceAdd, Nat.reduceLeDiff, Nat.reduceLT, true_and, and_true, Nat.zero_le, bI_01, bI_0, iI_add, iI_sub, iI_mul, iI_neg, iI_add1, iI_sub1, iI_m1, nc1, ncm1, iI_clJ, iI_cl0, iI_clN, Int.toNat_natCast, mU_n, mU_s, p_min, p_max, p_abs, ni_2, ni_3, ni_4, ni_7, ni_8, ni_9, ni_12, ni_24, ni_97, ni_100, ni_122, ni_200, ni_256, ni_4096, ni_5000, ni_9999, iI_lt, iI_le, iI_eq, iz_eq, iz_lt, iz_le, iz_gt, iz_ge, iy_eq, iy_lt, iy_le, iI_ltN, iI_leN, iI_eqN, if_pos, if_neg]
        simp [q0, q1, q2, bI, dB]
end F3
