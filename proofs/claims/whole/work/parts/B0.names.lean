/-! the reference: letters of a name -/
theorem wv_and (x : Int64) : (x &&& 255 = 0) ↔ wv x % 256 = 0 := by
  have h : wv (x &&& 255) = wv x % 256 := by
    have e : wv (x &&& 255) = (x.toUInt64 &&& (255 : Int64).toUInt64).toNat := by
      unfold wv
      rw [Int64.toUInt64_and]
    have e2 : ((255 : Int64).toUInt64).toNat = 2 ^ 8 - 1 := by decide
    rw [e, UInt64.toNat_and, e2, Nat.and_two_pow_sub_one_eq_mod]
    rfl
  rw [← h, ← wv_0]
  exact wv_inj.symm
theorem nm_byte {W : Nat} (h : W < 18446744073709551616) (hn : nmB W = true) {j : Nat} (hj : j < 8) : (wb W j = 0) ↔ ¬ j < ltN W := by
  have hi := (nmB_iff h).mp hn
  have hl := ltN_lt h
  constructor
  · intro z q
    have := hi j q
    rw [z] at this
    simp [isL] at this
  · intro q
    unfold wb
    have : W < 2 ^ (8 * j) := Nat.lt_of_lt_of_le hl (Nat.pow_le_pow_right (by omega) (by omega))
    rw [Nat.div_eq_of_lt this]
section LT
variable {T : mT} {Q : mOut → mT → Prop} {w : Int64}
theorem lm_letters (hn : nmB (wv w) = true) : ∀ (n j : Nat), 8 - j = n → j ≤ 8 → XW 174 4 [some (.long (w)), none, some (.int (iI ((min j (ltN (wv w)) : Nat) : Int))), some (.int (iI (8 * (j : Int))))] [] T Q = Q (.inl (some (.int (iI ((ltN (wv w) : Nat) : Int))))) T := by
  have l8 := ltN_le (wv w)
  have n64 : (64 : Int32) = iI 64 := rfl
  intro n
  induction n with
  | zero =>
    intro j hj h8
    have : j = 8 := by omega
    subst this
    rw [e_174_4, Nat.min_eq_right l8]
    simp (maxSteps := 4000000) (disch := first | (simp (disch := omega) only [XB_i, XB_n, va_rf_s, va_rf_n, mSI_K, mSI_I, mSI_J, mSI_P, mSI_N, mSJ_K, mSJ_I, mSJ_J, mSJ_P, mSJ_N, mSP_K, mSP_I, mSP_J, mSP_P, mSP_N, mNn, mNi, mNr, mN0, al20, al21, al22, al23, al25, true_or, or_true, and_self, if_true, if_false, mCat_n, mCat_i, mCat_r, mCat_l, mCat_0, Nat.reduceAdd, Nat.reduceLeDiff, Nat.reduceLT, true_and, and_true, Nat.zero_le, bI_01, mInB_J, mInB_Z, mInB_N, n64]; done) | omega | (unfold R32 at *; omega)) only [e_174_5, e_174_7, e_174_31, e_174_32, XB_i, XB_n, va_rf_s, va_rf_n, mSI_K, mSI_I, mSI_J, mSI_P, mSI_N, mSJ_K, mSJ_I, mSJ_J, mSJ_P, mSJ_N, mSP_K, mSP_I, mSP_J, mSP_P, mSP_N, mNn, mNi, mNr, mN0, al20, al21, al22, al23, al25, true_or, or_true, and_self, if_true, if_false, mCat_n, mCat_i, mCat_r, mCat_l, mCat_0, Nat.reduceAdd, Nat.reduceLeDiff, Nat.reduceLT, true_and, and_true, Nat.zero_le, bI_01, bI_0, i10, tf0, iI_add, iI_sub, iI_mul, iI_neg, iI_add1, iI_sub1, iI_m1, nca, nc1, ncm1, iI_clJ, iI_cl0, iI_clN, Int.toNat_natCast, mU_n, mU_s, p_min, p_max, p_abs, ni_2, ni_3, ni_4, ni_7, ni_8, ni_9, ni_12, ni_24, ni_97, ni_100, ni_122, ni_200, ni_256, ni_4096, ni_5000, ni_9999, iI_lt, iI_le, iI_eq, iz_eq, iz_lt, iz_le, iz_gt, iz_ge, iy_eq, iy_lt, iy_le, iI_ltN, iI_leN, iI_eqN, if_pos, if_neg, n64]
  | succ n ih =>
    intro j hj h8
    have i1 := ih (j + 1) (by omega) (by omega)
    have e8 : 8 * (j : Int) + 8 = 8 * ((j + 1 : Nat) : Int) := by omega
    have hb := nm_byte (wv_lt w) hn (show j < 8 by omega)
    have hz := wv_and ((w.toUInt64 >>> ((iI (8 * (j : Int))).toInt64.toUInt64 &&& Int64.toUInt64 63)).toInt64)
    rw [wv_lsr (by omega) (by omega), show (8 * (j : Int)).toNat = 8 * j by omega] at hz
    change _ ↔ wb (wv w) j = 0 at hz
    rw [e_174_4]
    by_cases q : j < ltN (wv w)
    · have z : ¬ ((w.toUInt64 >>> ((iI (8 * (j : Int))).toInt64.toUInt64 &&& Int64.toUInt64 63)).toInt64 &&& 255 = 0) := fun y => (hb.mp (hz.mp y)) q
      rw [Nat.min_eq_left (by omega)] at i1 ⊢
      simp (maxSteps := 4000000) (disch := first | (simp (disch := omega) only [XB_i, XB_n, va_rf_s, va_rf_n, mSI_K, mSI_I, mSI_J, mSI_P, mSI_N, mSJ_K, mSJ_I, mSJ_J, mSJ_P, mSJ_N, mSP_K, mSP_I, mSP_J, mSP_P, mSP_N, mNn, mNi, mNr, mN0, al20, al21, al22, al23, al25, true_or, or_true, and_self, if_true, if_false, mCat_n, mCat_i, mCat_r, mCat_l, mCat_0, Nat.reduceAdd, Nat.reduceLeDiff, Nat.reduceLT, true_and, and_true, Nat.zero_le, bI_01, mInB_J, mInB_Z, mInB_N, n64, lg_z, z, e8]; done) | omega | (unfold R32 at *; omega)) only [e_174_5, e_174_7, e_174_10, e_174_11, e_174_12, e_174_13, e_174_16, e_174_17, e_174_18, e_174_19, e_174_22, e_174_25, e_174_28, XB_i, XB_n, va_rf_s, va_rf_n, mSI_K, mSI_I, mSI_J, mSI_P, mSI_N, mSJ_K, mSJ_I, mSJ_J, mSJ_P, mSJ_N, mSP_K, mSP_I, mSP_J, mSP_P, mSP_N, mNn, mNi, mNr, mN0, al20, al21, al22, al23, al25, true_or, or_true, and_self, if_true, if_false, mCat_n, mCat_i, mCat_r, mCat_l, mCat_0, Nat.reduceAdd, Nat.reduceLeDiff, Nat.reduceLT, true_and, and_true, Nat.zero_le, bI_01, bI_0, i10, tf0, iI_add, iI_sub, iI_mul, iI_neg, iI_add1, iI_sub1, iI_m1, nca, nc1, ncm1, iI_clJ, iI_cl0, iI_clN, Int.toNat_natCast, mU_n, mU_s, p_min, p_max, p_abs, ni_2, ni_3, ni_4, ni_7, ni_8, ni_9, ni_12, ni_24, ni_97, ni_100, ni_122, ni_200, ni_256, ni_4096, ni_5000, ni_9999, iI_lt, iI_le, iI_eq, iz_eq, iz_lt, iz_le, iz_gt, iz_ge, iy_eq, iy_lt, iy_le, iI_ltN, iI_leN, iI_eqN, if_pos, if_neg, n64, lg_z, z, e8]
      exact i1
    · have z : (w.toUInt64 >>> ((iI (8 * (j : Int))).toInt64.toUInt64 &&& Int64.toUInt64 63)).toInt64 &&& 255 = 0 := hz.mpr (hb.mpr q)
      rw [Nat.min_eq_right (by omega)] at i1 ⊢
      simp (maxSteps := 4000000) (disch := first | (simp (disch := omega) only [XB_i, XB_n, va_rf_s, va_rf_n, mSI_K, mSI_I, mSI_J, mSI_P, mSI_N, mSJ_K, mSJ_I, mSJ_J, mSJ_P, mSJ_N, mSP_K, mSP_I, mSP_J, mSP_P, mSP_N, mNn, mNi, mNr, mN0, al20, al21, al22, al23, al25, true_or, or_true, and_self, if_true, if_false, mCat_n, mCat_i, mCat_r, mCat_l, mCat_0, Nat.reduceAdd, Nat.reduceLeDiff, Nat.reduceLT, true_and, and_true, Nat.zero_le, bI_01, mInB_J, mInB_Z, mInB_N, n64, lg_z, z, e8]; done) | omega | (unfold R32 at *; omega)) only [e_174_5, e_174_7, e_174_10, e_174_11, e_174_12, e_174_13, e_174_16, e_174_17, e_174_18, e_174_19, e_174_22, e_174_25, e_174_28, XB_i, XB_n, va_rf_s, va_rf_n, mSI_K, mSI_I, mSI_J, mSI_P, mSI_N, mSJ_K, mSJ_I, mSJ_J, mSJ_P, mSJ_N, mSP_K, mSP_I, mSP_J, mSP_P, mSP_N, mNn, mNi, mNr, mN0, al20, al21, al22, al23, al25, true_or, or_true, and_self, if_true, if_false, mCat_n, mCat_i, mCat_r, mCat_l, mCat_0, Nat.reduceAdd, Nat.reduceLeDiff, Nat.reduceLT, true_and, and_true, Nat.zero_le, bI_01, bI_0, i10, tf0, iI_add, iI_sub, iI_mul, iI_neg, iI_add1, iI_sub1, iI_m1, nca, nc1, ncm1, iI_clJ, iI_cl0, iI_clN, Int.toNat_natCast, mU_n, mU_s, p_min, p_max, p_abs, ni_2, ni_3, ni_4, ni_7, ni_8, ni_9, ni_12, ni_24, ni_97, ni_100, ni_122, ni_200, ni_256, ni_4096, ni_5000, ni_9999, iI_lt, iI_le, iI_eq, iz_eq, iz_lt, iz_le, iz_gt, iz_ge, iy_eq, iy_lt, iy_le, iI_ltN, iI_leN, iI_eqN, if_pos, if_neg, n64, lg_z, z, e8]
      exact i1
theorem m_letters (hn : nmB (wv w) = true) : XW 174 0 [some (.long (w)), none, none, none] [] T Q = Q (.inl (some (.int (iI ((ltN (wv w) : Nat) : Int))))) T := by
  simp (maxSteps := 4000000) (disch := first | (simp (disch := omega) only [XB_i, XB_n, va_rf_s, va_rf_n, mSI_K, mSI_I, mSI_J, mSI_P, mSI_N, mSJ_K, mSJ_I, mSJ_J, mSJ_P, mSJ_N, mSP_K, mSP_I, mSP_J, mSP_P, mSP_N, mNn, mNi, mNr, mN0, al20, al21, al22, al23, al25, true_or, or_true, and_self, if_true, if_false, mCat_n, mCat_i, mCat_r, mCat_l, mCat_0, Nat.reduceAdd, Nat.reduceLeDiff, Nat.reduceLT, true_and, and_true, Nat.zero_le, bI_01, mInB_J, mInB_Z, mInB_N]; done) | omega | (unfold R32 at *; omega)) only [e_174_0, e_174_1, e_174_2, e_174_3, XB_i, XB_n, va_rf_s, va_rf_n, mSI_K, mSI_I, mSI_J, mSI_P, mSI_N, mSJ_K, mSJ_I, mSJ_J, mSJ_P, mSJ_N, mSP_K, mSP_I, mSP_J, mSP_P, mSP_N, mNn, mNi, mNr, mN0, al20, al21, al22, al23, al25, true_or, or_true, and_self, if_true, if_false, mCat_n, mCat_i, mCat_r, mCat_l, mCat_0, Nat.reduceAdd, Nat.reduceLeDiff, Nat.reduceLT, true_and, and_true, Nat.zero_le, bI_01, bI_0, i10, tf0, iI_add, iI_sub, iI_mul, iI_neg, iI_add1, iI_sub1, iI_m1, nca, nc1, ncm1, iI_clJ, iI_cl0, iI_clN, Int.toNat_natCast, mU_n, mU_s, p_min, p_max, p_abs, ni_2, ni_3, ni_4, ni_7, ni_8, ni_9, ni_12, ni_24, ni_97, ni_100, ni_122, ni_200, ni_256, ni_4096, ni_5000, ni_9999, iI_lt, iI_le, iI_eq, iz_eq, iz_lt, iz_le, iz_gt, iz_ge, iy_eq, iy_lt, iy_le, iI_ltN, iI_leN, iI_eqN, if_pos, if_neg]
  have := lm_letters (T := T) (Q := Q) hn 8 0 rfl (by omega)
  rw [Nat.zero_min] at this
  exact this
theorem m_letter (hn : nmB (wv w) = true) {i : Nat} (hi : i < ltN (wv w)) : XW 175 0 [some (.long (w)), none, some (.int (iI ((i : Nat) : Int)))] [] T Q = Q (.inl (some (.int (iI ((wb (wv w) (ltN (wv w) - 1 - i) : Nat) : Int))))) T := by
  have l8 := ltN_le (wv w)
  have pl := fun Q => @m_letters T Q w hn
  have hw := @wsh w (8 * ((ltN (wv w) - 1 - i : Nat) : Int)) (by omega) (by omega)
  rw [show (8 * ((ltN (wv w) - 1 - i : Nat) : Int)).toNat = 8 * (ltN (wv w) - 1 - i) by omega] at hw
  change _ = iI ((wb (wv w) (ltN (wv w) - 1 - i) : Nat) : Int) at hw
  have e : ((ltN (wv w) - 1 : Nat) : Int) - (i : Int) = ((ltN (wv w) - 1 - i : Nat) : Int) := by omega
  simp (maxSteps := 4000000) (disch := first | (simp (disch := omega) only [XB_i, XB_n, va_rf_s, va_rf_n, mSI_K, mSI_I, mSI_J, mSI_P, mSI_N, mSJ_K, mSJ_I, mSJ_J, mSJ_P, mSJ_N, mSP_K, mSP_I, mSP_J, mSP_P, mSP_N, mNn, mNi, mNr, mN0, al20, al21, al22, al23, al25, true_or, or_true, and_self, if_true, if_false, mCat_n, mCat_i, mCat_r, mCat_l, mCat_0, Nat.reduceAdd, Nat.reduceLeDiff, Nat.reduceLT, true_and, and_true, Nat.zero_le, bI_01, mInB_J, mInB_Z, mInB_N, pl, e, hw]; done) | omega | (unfold R32 at *; omega)) only [e_175_0, e_175_1, e_175_3, e_175_7, e_175_8, e_175_9, e_175_10, e_175_11, e_175_12, e_175_13, e_175_14, e_175_17, e_175_18, d_175_4, XB_i, XB_n, va_rf_s, va_rf_n, mSI_K, mSI_I, mSI_J, mSI_P, mSI_N, mSJ_K, mSJ_I, mSJ_J, mSJ_P, mSJ_N, mSP_K, mSP_I, mSP_J, mSP_P, mSP_N, mNn, mNi, mNr, mN0, al20, al21, al22, al23, al25, true_or, or_true, and_self, if_true, if_false, mCat_n, mCat_i, mCat_r, mCat_l, mCat_0, Nat.reduceAdd, Nat.reduceLeDiff, Nat.reduceLT, true_and, and_true, Nat.zero_le, bI_01, bI_0, i10, tf0, iI_add, iI_sub, iI_mul, iI_neg, iI_add1, iI_sub1, iI_m1, nca, nc1, ncm1, iI_clJ, iI_cl0, iI_clN, Int.toNat_natCast, mU_n, mU_s, p_min, p_max, p_abs, ni_2, ni_3, ni_4, ni_7, ni_8, ni_9, ni_12, ni_24, ni_97, ni_100, ni_122, ni_200, ni_256, ni_4096, ni_5000, ni_9999, iI_lt, iI_le, iI_eq, iz_eq, iz_lt, iz_le, iz_gt, iz_ge, iy_eq, iy_lt, iy_le, iI_ltN, iI_leN, iI_eqN, if_pos, if_neg, pl, e, hw]
end LT
/-! the pure part: words as in a book -/
theorem wb_div (W d k : Nat) : wb (W / 2 ^ (8 * d)) k = wb W (d + k) := by
  unfold wb
  rw [Nat.div_div_eq_div_mul, ← Nat.pow_add, show 8 * d + 8 * k = 8 * (d + k) by omega]
theorem byte_ext : ∀ (n A B : Nat), A < 2 ^ (8 * n) → B < 2 ^ (8 * n) → (∀ j, j < n → wb A j = wb B j) → A = B
  | 0, A, B, ha, hb, _ => by
    have h1 : A < 1 := by simpa using ha
    have h2 : B < 1 := by simpa using hb
    omega
  | n + 1, A, B, ha, hb, h => by
    have e : 2 ^ (8 * (n + 1)) = 256 * 2 ^ (8 * n) := by rw [show 8 * (n + 1) = 8 + 8 * n by omega, Nat.pow_add]
    rw [e] at ha hb
    have i1 := byte_ext n (A / 256) (B / 256) (Nat.div_lt_of_lt_mul ha) (Nat.div_lt_of_lt_mul hb) (fun j hj => by
      have := h (j + 1) (by omega)
      rw [show j + 1 = 1 + j by omega, ← wb_div A 1 j, ← wb_div B 1 j] at this
      exact this)
    have i0 := h 0 (by omega)
    unfold wb at i0
    rw [Nat.mul_zero, Nat.pow_zero, Nat.div_one, Nat.div_one] at i0
    omega
def ltr (W i : Nat) : Nat := wb W (ltN W - 1 - i)
theorem nb_iff {W S : Nat} (hW : W < 18446744073709551616) (hS : S < 18446744073709551616) (hn : nmB W = true) : nbB W S = true ↔ (nmB S = true ∧ ltN S ≤ ltN W ∧ ∀ i, i < ltN S → ltr W i = ltr S i) := by
  have lw := ltN_lt hW
  have ls := ltN_lt hS
  have hi := (nmB_iff hW).mp hn
  unfold nbB
  by_cases q0 : ltN S = 0
  · rw [decide_eq_true q0]
    simp only [Bool.true_or, true_iff]
    exact ⟨(nmB_iff hS).mpr (fun i h => by omega), by omega, fun i h => by omega⟩
  · rw [decide_eq_false q0, Bool.false_or, Bool.and_eq_true, decide_eq_true_eq, decide_eq_true_eq]
    have key : ∀ (h : ltN S ≤ ltN W) i, i < ltN S → wb (W / 2 ^ (8 * (ltN W - ltN S))) (ltN S - 1 - i) = ltr W i := fun h i hj => by
      rw [wb_div]
      unfold ltr
      congr 1
      omega
    constructor
    · rintro ⟨h1, h2⟩
      refine ⟨(nmB_iff hS).mpr (fun i h => ?_), h1, fun i h => ?_⟩
      · have := key h1 (ltN S - 1 - i) (by omega)
        rw [h2, show ltN S - 1 - (ltN S - 1 - i) = i by omega] at this
        rw [this]
        exact hi _ (by omega)
      · rw [← key h1 i h, h2]
        rfl
    · rintro ⟨_, h1, h2⟩
      refine ⟨h1, byte_ext (ltN S) _ _ ?_ ls (fun j hj => ?_)⟩
      · apply Nat.div_lt_of_lt_mul
        rw [← Nat.pow_add, show 8 * (ltN W - ltN S) + 8 * ltN S = 8 * ltN W by omega]
        exact lw
      · have := key h1 (ltN S - 1 - j) (by omega)
        rw [show ltN S - 1 - (ltN S - 1 - j) = j by omega] at this
        rw [this, h2 _ (by omega)]
        unfold ltr
        congr 1
        omega
/-- the first i letters -/
def hdN (W i : Nat) : Nat := W / 2 ^ (8 * (ltN W - i))
theorem hdN_s {W i : Nat} (h : i < ltN W) : hdN W (i + 1) = hdN W i * 256 + ltr W i := by
  unfold hdN ltr wb
  rw [show ltN W - i = (ltN W - 1 - i) + 1 by omega, show ltN W - (i + 1) = ltN W - 1 - i by omega, show 8 * (ltN W - 1 - i + 1) = 8 * (ltN W - 1 - i) + 8 by omega, Nat.pow_add, ← Nat.div_div_eq_div_mul]
  omega
theorem bk_hd {W i : Nat} (h : i ≤ ltN W) : bkN W / 2 ^ (8 * (8 - i)) = hdN W i := by
  have := ltN_le W
  unfold bkN hdN
  rw [show 8 * (8 - i) = 8 * (ltN W - i) + 8 * (8 - ltN W) by omega, Nat.pow_add]
  exact Nat.mul_div_mul_right _ _ (Nat.two_pow_pos _)
theorem hdN_l (W : Nat) : hdN W (ltN W) = W := by
  unfold hdN
  rw [Nat.sub_self, Nat.mul_zero, Nat.pow_zero, Nat.div_one]
theorem hdN_0 {W : Nat} (h : W < 18446744073709551616) : hdN W 0 = 0 := by
  unfold hdN
  exact Nat.div_eq_of_lt (ltN_lt h)
/-- as two words are compared -/
def cpF (A B : Nat) : Nat → Nat → Int
  | 0, _ => (ltN A : Int) - ltN B
  | n + 1, i => if ltr A i = ltr B i then cpF A B n (i + 1) else (ltr A i : Int) - ltr B i
def cpZ (A B : Nat) : Int := cpF A B (min (ltN A) (ltN B)) 0
theorem ltr_lt (W i : Nat) : ltr W i < 256 := Nat.mod_lt _ (by omega)
theorem cpF_b (A B : Nat) : ∀ n i, -256 ≤ cpF A B n i ∧ cpF A B n i ≤ 256
  | 0, _ => by
    have := ltN_le A
    have := ltN_le B
    unfold cpF
    omega
  | n + 1, i => by
    have := ltr_lt A i
    have := ltr_lt B i
    unfold cpF
    split
    · exact cpF_b A B n (i + 1)
    · omega
theorem bk_lt {A B i : Nat} (ha : i ≤ ltN A) (hb : i ≤ ltN B) (h : hdN A i < hdN B i) : bkN A < bkN B := by
  rw [← bk_hd ha, ← bk_hd hb] at h
  exact Nat.lt_of_not_le (fun q => by have := Nat.div_le_div_right (c := 2 ^ (8 * (8 - i))) q; omega)
theorem bk_sh {A B : Nat} (hB : B < 18446744073709551616) (nB : nmB B = true) (hl : ltN A < ltN B) (h : A = hdN B (ltN A)) : bkN A < bkN B := by
  have l8 := ltN_le B
  have e1 := hdN_s hl
  rw [← h, ← bk_hd (show ltN A + 1 ≤ ltN B by omega)] at e1
  have e2 : bkN A / 2 ^ (8 * (8 - (ltN A + 1))) = A * 256 := by
    unfold bkN
    rw [show 8 * (8 - ltN A) = 8 + 8 * (8 - (ltN A + 1)) by omega, Nat.pow_add, ← Nat.mul_assoc]
    exact Nat.mul_div_cancel _ (Nat.two_pow_pos _)
  have e3 := (nmB_iff hB).mp nB (ltN B - 1 - ltN A) (by omega)
  change isL (ltr B (ltN A)) = true at e3
  simp only [isL, decide_eq_true_eq] at e3
  exact Nat.lt_of_not_le (fun q => by have := Nat.div_le_div_right (c := 2 ^ (8 * (8 - (ltN A + 1)))) q; omega)
theorem cpF_q {A B : Nat} (hA : A < 18446744073709551616) (hB : B < 18446744073709551616) (nA : nmB A = true) (nB : nmB B = true) : ∀ n i, i + n = min (ltN A) (ltN B) → hdN A i = hdN B i → (cpF A B n i < 0 ↔ bkN A < bkN B) ∧ (cpF A B n i = 0 ↔ bkN A = bkN B)
  | 0, i, hi, he => by
    unfold cpF
    rcases Nat.lt_trichotomy (ltN A) (ltN B) with q | q | q
    · have : i = ltN A := by omega
      subst this
      rw [hdN_l] at he
      have := bk_sh hB nB q he
      omega
    · have h1 : i = ltN A := by omega
      have h2 : i = ltN B := by omega
      have h3 : A = B := by rw [← hdN_l A, ← hdN_l B, ← h1, ← h2]; exact he
      subst h3
      omega
    · have : i = ltN B := by omega
      subst this
      rw [hdN_l] at he
      have := bk_sh hA nA q he.symm
      omega
  | n + 1, i, hi, he => by
    have e1 := hdN_s (W := A) (i := i) (by omega)
    have e2 := hdN_s (W := B) (i := i) (by omega)
    unfold cpF
    split
    · rename_i q
      exact cpF_q hA hB nA nB n (i + 1) (by omega) (by rw [e1, e2, he, q])
    · rename_i q
      rcases Nat.lt_or_gt_of_ne q with z | z
      · have := bk_lt (A := A) (B := B) (i := i + 1) (by omega) (by omega) (by rw [e1, e2, he]; omega)
        omega
      · have := bk_lt (A := B) (B := A) (i := i + 1) (by omega) (by omega) (by rw [e1, e2, he]; omega)
        omega
theorem cpZ_q {A B : Nat} (hA : A < 18446744073709551616) (hB : B < 18446744073709551616) (nA : nmB A = true) (nB : nmB B = true) : (cpZ A B < 0 ↔ bkN A < bkN B) ∧ (cpZ A B = 0 ↔ bkN A = bkN B) := cpF_q hA hB nA nB _ 0 (by omega) (by rw [hdN_0 hA, hdN_0 hB])
section LC
variable {T : mT} {Q : mOut → mT → Prop} {v w : Int64}
theorem lm_cmp (nv : nmB (wv v) = true) (nw : nmB (wv w) = true) : ∀ (n i : Nat), i + n = min (ltN (wv v)) (ltN (wv w)) → XW 176 27 [some (.long (v)), none, some (.long (w)), none, some (.int (iI ((min (ltN (wv v)) (ltN (wv w)) : Nat) : Int))), some (.int (iI ((i : Nat) : Int)))] [] T Q = Q (.inl (some (.int (iI (cpF (wv v) (wv w) n i))))) T := by
  have l8 := ltN_le (wv v)
  have m8 := ltN_le (wv w)
  have p1 := fun Q => @m_letters T Q v nv
  have p2 := fun Q => @m_letters T Q w nw
  intro n
  induction n with
  | zero =>
    intro i hi
    rw [e_176_27]
    unfold cpF
    simp (maxSteps := 4000000) (disch := first | (simp (disch := omega) only [XB_i, XB_n, va_rf_s, va_rf_n, mSI_K, mSI_I, mSI_J, mSI_P, mSI_N, mSJ_K, mSJ_I, mSJ_J, mSJ_P, mSJ_N, mSP_K, mSP_I, mSP_J, mSP_P, mSP_N, mNn, mNi, mNr, mN0, al20, al21, al22, al23, al25, true_or, or_true, and_self, if_true, if_false, mCat_n, mCat_i, mCat_r, mCat_l, mCat_0, Nat.reduceAdd, Nat.reduceLeDiff, Nat.reduceLT, true_and, and_true, Nat.zero_le, bI_01, mInB_J, mInB_Z, mInB_N, p1, p2]; done) | omega | (unfold R32 at *; omega)) only [e_176_29, e_176_31, e_176_34, e_176_35, e_176_40, e_176_41, e_176_46, e_176_49, e_176_50, e_176_55, e_176_56, e_176_61, e_176_62, e_176_63, e_176_66, e_176_69, e_176_73, e_176_77, e_176_78, d_176_70, d_176_74, XB_i, XB_n, va_rf_s, va_rf_n, mSI_K, mSI_I, mSI_J, mSI_P, mSI_N, mSJ_K, mSJ_I, mSJ_J, mSJ_P, mSJ_N, mSP_K, mSP_I, mSP_J, mSP_P, mSP_N, mNn, mNi, mNr, mN0, al20, al21, al22, al23, al25, true_or, or_true, and_self, if_true, if_false, mCat_n, mCat_i, mCat_r, mCat_l, mCat_0, Nat.reduceAdd, Nat.reduceLeDiff, Nat.reduceLT, true_and, and_true, Nat.zero_le, bI_01, bI_0, i10, tf0, iI_add, iI_sub, iI_mul, iI_neg, iI_add1, iI_sub1, iI_m1, nca, nc1, ncm1, iI_clJ, iI_cl0, iI_clN, Int.toNat_natCast, mU_n, mU_s, p_min, p_max, p_abs, ni_2, ni_3, ni_4, ni_7, ni_8, ni_9, ni_12, ni_24, ni_97, ni_100, ni_122, ni_200, ni_256, ni_4096, ni_5000, ni_9999, iI_lt, iI_le, iI_eq, iz_eq, iz_lt, iz_le, iz_gt, iz_ge, iy_eq, iy_lt, iy_le, iI_ltN, iI_leN, iI_eqN, if_pos, if_neg, p1, p2]
  | succ n ih =>
    intro i hi
    have i1 := ih (i + 1) (by omega)
    have q1 := fun Q => @m_letter T Q v nv i (by omega)
    have q2 := fun Q => @m_letter T Q w nw i (by omega)
    have b1 := ltr_lt (wv v) i
    have b2 := ltr_lt (wv w) i
    have e1 : wb (wv v) (ltN (wv v) - 1 - i) = ltr (wv v) i := rfl
    have e2 : wb (wv w) (ltN (wv w) - 1 - i) = ltr (wv w) i := rfl
    rw [e1] at q1
    rw [e2] at q2
    rw [e_176_27]
    unfold cpF
    by_cases q : ltr (wv v) i = ltr (wv w) i
    · rw [if_pos q, ← i1]
      rw [q] at q1
      simp (maxSteps := 4000000) (disch := first | (simp (disch := omega) only [XB_i, XB_n, va_rf_s, va_rf_n, mSI_K, mSI_I, mSI_J, mSI_P, mSI_N, mSJ_K, mSJ_I, mSJ_J, mSJ_P, mSJ_N, mSP_K, mSP_I, mSP_J, mSP_P, mSP_N, mNn, mNi, mNr, mN0, al20, al21, al22, al23, al25, true_or, or_true, and_self, if_true, if_false, mCat_n, mCat_i, mCat_r, mCat_l, mCat_0, Nat.reduceAdd, Nat.reduceLeDiff, Nat.reduceLT, true_and, and_true, Nat.zero_le, bI_01, mInB_J, mInB_Z, mInB_N, q1, q2]; done) | omega | (unfold R32 at *; omega)) only [e_176_29, e_176_31, e_176_34, e_176_35, e_176_40, e_176_41, e_176_46, e_176_49, e_176_50, e_176_55, e_176_56, e_176_61, e_176_62, e_176_63, e_176_66, d_176_37, d_176_43, d_176_52, d_176_58, XB_i, XB_n, va_rf_s, va_rf_n, mSI_K, mSI_I, mSI_J, mSI_P, mSI_N, mSJ_K, mSJ_I, mSJ_J, mSJ_P, mSJ_N, mSP_K, mSP_I, mSP_J, mSP_P, mSP_N, mNn, mNi, mNr, mN0, al20, al21, al22, al23, al25, true_or, or_true, and_self, if_true, if_false, mCat_n, mCat_i, mCat_r, mCat_l, mCat_0, Nat.reduceAdd, Nat.reduceLeDiff, Nat.reduceLT, true_and, and_true, Nat.zero_le, bI_01, bI_0, i10, tf0, iI_add, iI_sub, iI_mul, iI_neg, iI_add1, iI_sub1, iI_m1, nca, nc1, ncm1, iI_clJ, iI_cl0, iI_clN, Int.toNat_natCast, mU_n, mU_s, p_min, p_max, p_abs, ni_2, ni_3, ni_4, ni_7, ni_8, ni_9, ni_12, ni_24, ni_97, ni_100, ni_122, ni_200, ni_256, ni_4096, ni_5000, ni_9999, iI_lt, iI_le, iI_eq, iz_eq, iz_lt, iz_le, iz_gt, iz_ge, iy_eq, iy_lt, iy_le, iI_ltN, iI_leN, iI_eqN, if_pos, if_neg, q1, q2]
    · rw [if_neg q]
      simp (maxSteps := 4000000) (disch := first | (simp (disch := omega) only [XB_i, XB_n, va_rf_s, va_rf_n, mSI_K, mSI_I, mSI_J, mSI_P, mSI_N, mSJ_K, mSJ_I, mSJ_J, mSJ_P, mSJ_N, mSP_K, mSP_I, mSP_J, mSP_P, mSP_N, mNn, mNi, mNr, mN0, al20, al21, al22, al23, al25, true_or, or_true, and_self, if_true, if_false, mCat_n, mCat_i, mCat_r, mCat_l, mCat_0, Nat.reduceAdd, Nat.reduceLeDiff, Nat.reduceLT, true_and, and_true, Nat.zero_le, bI_01, mInB_J, mInB_Z, mInB_N, q1, q2]; done) | omega | (unfold R32 at *; omega)) only [e_176_29, e_176_31, e_176_34, e_176_35, e_176_40, e_176_41, e_176_46, e_176_49, e_176_50, e_176_55, e_176_56, e_176_61, e_176_62, e_176_63, e_176_66, d_176_37, d_176_43, d_176_52, d_176_58, XB_i, XB_n, va_rf_s, va_rf_n, mSI_K, mSI_I, mSI_J, mSI_P, mSI_N, mSJ_K, mSJ_I, mSJ_J, mSJ_P, mSJ_N, mSP_K, mSP_I, mSP_J, mSP_P, mSP_N, mNn, mNi, mNr, mN0, al20, al21, al22, al23, al25, true_or, or_true, and_self, if_true, if_false, mCat_n, mCat_i, mCat_r, mCat_l, mCat_0, Nat.reduceAdd, Nat.reduceLeDiff, Nat.reduceLT, true_and, and_true, Nat.zero_le, bI_01, bI_0, i10, tf0, iI_add, iI_sub, iI_mul, iI_neg, iI_add1, iI_sub1, iI_m1, nca, nc1, ncm1, iI_clJ, iI_cl0, iI_clN, Int.toNat_natCast, mU_n, mU_s, p_min, p_max, p_abs, ni_2, ni_3, ni_4, ni_7, ni_8, ni_9, ni_12, ni_24, ni_97, ni_100, ni_122, ni_200, ni_256, ni_4096, ni_5000, ni_9999, iI_lt, iI_le, iI_eq, iz_eq, iz_lt, iz_le, iz_gt, iz_ge, iy_eq, iy_lt, iy_le, iI_ltN, iI_leN, iI_eqN, if_pos, if_neg, q1, q2]
theorem m_compared (nv : nmB (wv v) = true) (nw : nmB (wv w) = true) : XW 176 0 [some (.long (v)), none, some (.long (w)), none, none, none] [] T Q = Q (.inl (some (.int (iI (cpZ (wv v) (wv w)))))) T := by
  have l8 := ltN_le (wv v)
  have m8 := ltN_le (wv w)
  have p1 := fun Q => @m_letters T Q v nv
  have p2 := fun Q => @m_letters T Q w nw
  have l1 := lm_cmp (T := T) (Q := Q) nv nw _ 0 (Nat.zero_add _)
  unfold cpZ
  by_cases q : ltN (wv v) < ltN (wv w)
  · rw [Nat.min_eq_left (by omega)] at l1 ⊢
    simp (maxSteps := 4000000) (disch := first | (simp (disch := omega) only [XB_i, XB_n, va_rf_s, va_rf_n, mSI_K, mSI_I, mSI_J, mSI_P, mSI_N, mSJ_K, mSJ_I, mSJ_J, mSJ_P, mSJ_N, mSP_K, mSP_I, mSP_J, mSP_P, mSP_N, mNn, mNi, mNr, mN0, al20, al21, al22, al23, al25, true_or, or_true, and_self, if_true, if_false, mCat_n, mCat_i, mCat_r, mCat_l, mCat_0, Nat.reduceAdd, Nat.reduceLeDiff, Nat.reduceLT, true_and, and_true, Nat.zero_le, bI_01, mInB_J, mInB_Z, mInB_N, p1, p2]; done) | omega | (unfold R32 at *; omega)) only [e_176_0, e_176_4, e_176_8, e_176_11, e_176_15, e_176_18, e_176_22, e_176_24, e_176_25, d_176_1, d_176_5, d_176_12, d_176_19, XB_i, XB_n, va_rf_s, va_rf_n, mSI_K, mSI_I, mSI_J, mSI_P, mSI_N, mSJ_K, mSJ_I, mSJ_J, mSJ_P, mSJ_N, mSP_K, mSP_I, mSP_J, mSP_P, mSP_N, mNn, mNi, mNr, mN0, al20, al21, al22, al23, al25, true_or, or_true, and_self, if_true, if_false, mCat_n, mCat_i, mCat_r, mCat_l, mCat_0, Nat.reduceAdd, Nat.reduceLeDiff, Nat.reduceLT, true_and, and_true, Nat.zero_le, bI_01, bI_0, i10, tf0, iI_add, iI_sub, iI_mul, iI_neg, iI_add1, iI_sub1, iI_m1, nca, nc1, ncm1, iI_clJ, iI_cl0, iI_clN, Int.toNat_natCast, mU_n, mU_s, p_min, p_max, p_abs, ni_2, ni_3, ni_4, ni_7, ni_8, ni_9, ni_12, ni_24, ni_97, ni_100, ni_122, ni_200, ni_256, ni_4096, ni_5000, ni_9999, iI_lt, iI_le, iI_eq, iz_eq, iz_lt, iz_le, iz_gt, iz_ge, iy_eq, iy_lt, iy_le, iI_ltN, iI_leN, iI_eqN, if_pos, if_neg, p1, p2]
    exact l1
  · rw [Nat.min_eq_right (by omega)] at l1 ⊢
    simp (maxSteps := 4000000) (disch := first | (simp (disch := omega) only [XB_i, XB_n, va_rf_s, va_rf_n, mSI_K, mSI_I, mSI_J, mSI_P, mSI_N, mSJ_K, mSJ_I, mSJ_J, mSJ_P, mSJ_N, mSP_K, mSP_I, mSP_J, mSP_P, mSP_N, mNn, mNi, mNr, mN0, al20, al21, al22, al23, al25, true_or, or_true, and_self, if_true, if_false, mCat_n, mCat_i, mCat_r, mCat_l, mCat_0, Nat.reduceAdd, Nat.reduceLeDiff, Nat.reduceLT, true_and, and_true, Nat.zero_le, bI_01, mInB_J, mInB_Z, mInB_N, p1, p2]; done) | omega | (unfold R32 at *; omega)) only [e_176_0, e_176_4, e_176_8, e_176_11, e_176_15, e_176_18, e_176_22, e_176_24, e_176_25, d_176_1, d_176_5, d_176_12, d_176_19, XB_i, XB_n, va_rf_s, va_rf_n, mSI_K, mSI_I, mSI_J, mSI_P, mSI_N, mSJ_K, mSJ_I, mSJ_J, mSJ_P, mSJ_N, mSP_K, mSP_I, mSP_J, mSP_P, mSP_N, mNn, mNi, mNr, mN0, al20, al21, al22, al23, al25, true_or, or_true, and_self, if_true, if_false, mCat_n, mCat_i, mCat_r, mCat_l, mCat_0, Nat.reduceAdd, Nat.reduceLeDiff, Nat.reduceLT, true_and, and_true, Nat.zero_le, bI_01, bI_0, i10, tf0, iI_add, iI_sub, iI_mul, iI_neg, iI_add1, iI_sub1, iI_m1, nca, nc1, ncm1, iI_clJ, iI_cl0, iI_clN, Int.toNat_natCast, mU_n, mU_s, p_min, p_max, p_abs, ni_2, ni_3, ni_4, ni_7, ni_8, ni_9, ni_12, ni_24, ni_97, ni_100, ni_122, ni_200, ni_256, ni_4096, ni_5000, ni_9999, iI_lt, iI_le, iI_eq, iz_eq, iz_lt, iz_le, iz_gt, iz_ge, iy_eq, iy_lt, iy_le, iI_ltN, iI_leN, iI_eqN, if_pos, if_neg, p1, p2]
    exact l1
theorem lm_sw (nv : nmB (wv v) = true) (nw : nmB (wv w) = true) (hl : ltN (wv w) ≤ ltN (wv v)) : ∀ (n i : Nat), i + n = ltN (wv w) → (∀ j, j < i → ltr (wv v) j = ltr (wv w) j) → XW 177 23 [some (.long (v)), none, some (.long (w)), none, some (.int (iI ((i : Nat) : Int)))] [] T Q = Q (.inl (some (.int (bI (nbB (wv v) (wv w)))))) T := by
  have hb := nb_iff (wv_lt v) (wv_lt w) nv
  have l8 := ltN_le (wv v)
  have m8 := ltN_le (wv w)
  have p2 := fun Q => @m_letters T Q w nw
  intro n
  induction n with
  | zero =>
    intro i hi hs
    rw [hb.mpr ⟨nw, hl, fun j hj => hs j (by omega)⟩, e_177_23]
    simp (maxSteps := 4000000) (disch := first | (simp (disch := omega) only [XB_i, XB_n, va_rf_s, va_rf_n, mSI_K, mSI_I, mSI_J, mSI_P, mSI_N, mSJ_K, mSJ_I, mSJ_J, mSJ_P, mSJ_N, mSP_K, mSP_I, mSP_J, mSP_P, mSP_N, mNn, mNi, mNr, mN0, al20, al21, al22, al23, al25, true_or, or_true, and_self, if_true, if_false, mCat_n, mCat_i, mCat_r, mCat_l, mCat_0, Nat.reduceAdd, Nat.reduceLeDiff, Nat.reduceLT, true_and, and_true, Nat.zero_le, bI_01, mInB_J, mInB_Z, mInB_N, p2]; done) | omega | (unfold R32 at *; omega)) only [e_177_25, e_177_29, e_177_32, e_177_33, e_177_38, e_177_39, e_177_44, e_177_47, e_177_48, e_177_49, e_177_52, e_177_55, e_177_56, d_177_26, XB_i, XB_n, va_rf_s, va_rf_n, mSI_K, mSI_I, mSI_J, mSI_P, mSI_N, mSJ_K, mSJ_I, mSJ_J, mSJ_P, mSJ_N, mSP_K, mSP_I, mSP_J, mSP_P, mSP_N, mNn, mNi, mNr, mN0, al20, al21, al22, al23, al25, true_or, or_true, and_self, if_true, if_false, mCat_n, mCat_i, mCat_r, mCat_l, mCat_0, Nat.reduceAdd, Nat.reduceLeDiff, Nat.reduceLT, true_and, and_true, Nat.zero_le, bI_01, bI_0, i10, tf0, iI_add, iI_sub, iI_mul, iI_neg, iI_add1, iI_sub1, iI_m1, nca, nc1, ncm1, iI_clJ, iI_cl0, iI_clN, Int.toNat_natCast, mU_n, mU_s, p_min, p_max, p_abs, ni_2, ni_3, ni_4, ni_7, ni_8, ni_9, ni_12, ni_24, ni_97, ni_100, ni_122, ni_200, ni_256, ni_4096, ni_5000, ni_9999, iI_lt, iI_le, iI_eq, iz_eq, iz_lt, iz_le, iz_gt, iz_ge, iy_eq, iy_lt, iy_le, iI_ltN, iI_leN, iI_eqN, if_pos, if_neg, p2]
    rfl
  | succ n ih =>
    intro i hi hs
    have q1 := fun Q => @m_letter T Q v nv i (by omega)
    have q2 := fun Q => @m_letter T Q w nw i (by omega)
    have b1 := ltr_lt (wv v) i
    have b2 := ltr_lt (wv w) i
    have e1 : wb (wv v) (ltN (wv v) - 1 - i) = ltr (wv v) i := rfl
    have e2 : wb (wv w) (ltN (wv w) - 1 - i) = ltr (wv w) i := rfl
    rw [e1] at q1
    rw [e2] at q2
    by_cases q : ltr (wv v) i = ltr (wv w) i
    · rw [← ih (i + 1) (by omega) (fun j hj => by rcases Nat.lt_succ_iff_lt_or_eq.mp hj with z | z; exact hs j z; rw [z]; exact q)]
      rw [q] at q1
      rw [e_177_23]
      simp (maxSteps := 4000000) (disch := first | (simp (disch := omega) only [XB_i, XB_n, va_rf_s, va_rf_n, mSI_K, mSI_I, mSI_J, mSI_P, mSI_N, mSJ_K, mSJ_I, mSJ_J, mSJ_P, mSJ_N, mSP_K, mSP_I, mSP_J, mSP_P, mSP_N, mNn, mNi, mNr, mN0, al20, al21, al22, al23, al25, true_or, or_true, and_self, if_true, if_false, mCat_n, mCat_i, mCat_r, mCat_l, mCat_0, Nat.reduceAdd, Nat.reduceLeDiff, Nat.reduceLT, true_and, and_true, Nat.zero_le, bI_01, mInB_J, mInB_Z, mInB_N, p2, q1, q2]; done) | omega | (unfold R32 at *; omega)) only [e_177_25, e_177_29, e_177_32, e_177_33, e_177_38, e_177_39, e_177_44, e_177_47, e_177_48, e_177_49, e_177_52, d_177_26, d_177_35, d_177_41, XB_i, XB_n, va_rf_s, va_rf_n, mSI_K, mSI_I, mSI_J, mSI_P, mSI_N, mSJ_K, mSJ_I, mSJ_J, mSJ_P, mSJ_N, mSP_K, mSP_I, mSP_J, mSP_P, mSP_N, mNn, mNi, mNr, mN0, al20, al21, al22, al23, al25, true_or, or_true, and_self, if_true, if_false, mCat_n, mCat_i, mCat_r, mCat_l, mCat_0, Nat.reduceAdd, Nat.reduceLeDiff, Nat.reduceLT, true_and, and_true, Nat.zero_le, bI_01, bI_0, i10, tf0, iI_add, iI_sub, iI_mul, iI_neg, iI_add1, iI_sub1, iI_m1, nca, nc1, ncm1, iI_clJ, iI_cl0, iI_clN, Int.toNat_natCast, mU_n, mU_s, p_min, p_max, p_abs, ni_2, ni_3, ni_4, ni_7, ni_8, ni_9, ni_12, ni_24, ni_97, ni_100, ni_122, ni_200, ni_256, ni_4096, ni_5000, ni_9999, iI_lt, iI_le, iI_eq, iz_eq, iz_lt, iz_le, iz_gt, iz_ge, iy_eq, iy_lt, iy_le, iI_ltN, iI_leN, iI_eqN, if_pos, if_neg, p2, q1, q2]
    · have hf : nbB (wv v) (wv w) = false := by
        cases z : nbB (wv v) (wv w) with
        | false => rfl
        | true => exact absurd ((hb.mp z).2.2 i (by omega)) q
      rw [hf, e_177_23]
      simp (maxSteps := 4000000) (disch := first | (simp (disch := omega) only [XB_i, XB_n, va_rf_s, va_rf_n, mSI_K, mSI_I, mSI_J, mSI_P, mSI_N, mSJ_K, mSJ_I, mSJ_J, mSJ_P, mSJ_N, mSP_K, mSP_I, mSP_J, mSP_P, mSP_N, mNn, mNi, mNr, mN0, al20, al21, al22, al23, al25, true_or, or_true, and_self, if_true, if_false, mCat_n, mCat_i, mCat_r, mCat_l, mCat_0, Nat.reduceAdd, Nat.reduceLeDiff, Nat.reduceLT, true_and, and_true, Nat.zero_le, bI_01, mInB_J, mInB_Z, mInB_N, p2, q1, q2]; done) | omega | (unfold R32 at *; omega)) only [e_177_25, e_177_29, e_177_32, e_177_33, e_177_38, e_177_39, e_177_44, e_177_47, e_177_48, e_177_49, e_177_52, d_177_26, d_177_35, d_177_41, XB_i, XB_n, va_rf_s, va_rf_n, mSI_K, mSI_I, mSI_J, mSI_P, mSI_N, mSJ_K, mSJ_I, mSJ_J, mSJ_P, mSJ_N, mSP_K, mSP_I, mSP_J, mSP_P, mSP_N, mNn, mNi, mNr, mN0, al20, al21, al22, al23, al25, true_or, or_true, and_self, if_true, if_false, mCat_n, mCat_i, mCat_r, mCat_l, mCat_0, Nat.reduceAdd, Nat.reduceLeDiff, Nat.reduceLT, true_and, and_true, Nat.zero_le, bI_01, bI_0, i10, tf0, iI_add, iI_sub, iI_mul, iI_neg, iI_add1, iI_sub1, iI_m1, nca, nc1, ncm1, iI_clJ, iI_cl0, iI_clN, Int.toNat_natCast, mU_n, mU_s, p_min, p_max, p_abs, ni_2, ni_3, ni_4, ni_7, ni_8, ni_9, ni_12, ni_24, ni_97, ni_100, ni_122, ni_200, ni_256, ni_4096, ni_5000, ni_9999, iI_lt, iI_le, iI_eq, iz_eq, iz_lt, iz_le, iz_gt, iz_ge, iy_eq, iy_lt, iy_le, iI_ltN, iI_leN, iI_eqN, if_pos, if_neg, p2, q1, q2]
      rfl
theorem m_starts (nv : nmB (wv v) = true) : XW 177 0 [some (.long (v)), none, some (.long (w)), none, none] [] T Q = Q (.inl (some (.int (bI (nbB (wv v) (wv w)))))) T := by
  have hb := nb_iff (wv_lt v) (wv_lt w) nv
  have l8 := ltN_le (wv v)
  have m8 := ltN_le (wv w)
  have p1 := fun Q => @m_letters T Q v nv
  have p0 := fun Q => @m_isName T Q w
  cases qn : nmB (wv w) with
  | false =>
    have hf : nbB (wv v) (wv w) = false := by
      cases z : nbB (wv v) (wv w) with
      | false => rfl
      | true => have := (hb.mp z).1; rw [qn] at this; cases this
    rw [qn] at p0
    rw [hf]
    simp (maxSteps := 4000000) (disch := first | (simp (disch := omega) only [XB_i, XB_n, va_rf_s, va_rf_n, mSI_K, mSI_I, mSI_J, mSI_P, mSI_N, mSJ_K, mSJ_I, mSJ_J, mSJ_P, mSJ_N, mSP_K, mSP_I, mSP_J, mSP_P, mSP_N, mNn, mNi, mNr, mN0, al20, al21, al22, al23, al25, true_or, or_true, and_self, if_true, if_false, mCat_n, mCat_i, mCat_r, mCat_l, mCat_0, Nat.reduceAdd, Nat.reduceLeDiff, Nat.reduceLT, true_and, and_true, Nat.zero_le, bI_01, mInB_J, mInB_Z, mInB_N, p0, bI_f]; done) | omega | (unfold R32 at *; omega)) only [e_177_0, e_177_4, e_177_7, e_177_11, e_177_15, e_177_18, e_177_19, d_177_1, XB_i, XB_n, va_rf_s, va_rf_n, mSI_K, mSI_I, mSI_J, mSI_P, mSI_N, mSJ_K, mSJ_I, mSJ_J, mSJ_P, mSJ_N, mSP_K, mSP_I, mSP_J, mSP_P, mSP_N, mNn, mNi, mNr, mN0, al20, al21, al22, al23, al25, true_or, or_true, and_self, if_true, if_false, mCat_n, mCat_i, mCat_r, mCat_l, mCat_0, Nat.reduceAdd, Nat.reduceLeDiff, Nat.reduceLT, true_and, and_true, Nat.zero_le, bI_01, bI_0, i10, tf0, iI_add, iI_sub, iI_mul, iI_neg, iI_add1, iI_sub1, iI_m1, nca, nc1, ncm1, iI_clJ, iI_cl0, iI_clN, Int.toNat_natCast, mU_n, mU_s, p_min, p_max, p_abs, ni_2, ni_3, ni_4, ni_7, ni_8, ni_9, ni_12, ni_24, ni_97, ni_100, ni_122, ni_200, ni_256, ni_4096, ni_5000, ni_9999, iI_lt, iI_le, iI_eq, iz_eq, iz_lt, iz_le, iz_gt, iz_ge, iy_eq, iy_lt, iy_le, iI_ltN, iI_leN, iI_eqN, if_pos, if_neg, p0, bI_f]
    all_goals rfl
  | true =>
    rw [qn] at p0
    have p2 := fun Q => @m_letters T Q w qn
    by_cases q : ltN (wv w) ≤ ltN (wv v)
    · have l1 := lm_sw (T := T) (Q := Q) nv qn q _ 0 (Nat.zero_add _) (fun j hj => by omega)
      simp (maxSteps := 4000000) (disch := first | (simp (disch := omega) only [XB_i, XB_n, va_rf_s, va_rf_n, mSI_K, mSI_I, mSI_J, mSI_P, mSI_N, mSJ_K, mSJ_I, mSJ_J, mSJ_P, mSJ_N, mSP_K, mSP_I, mSP_J, mSP_P, mSP_N, mNn, mNi, mNr, mN0, al20, al21, al22, al23, al25, true_or, or_true, and_self, if_true, if_false, mCat_n, mCat_i, mCat_r, mCat_l, mCat_0, Nat.reduceAdd, Nat.reduceLeDiff, Nat.reduceLT, true_and, and_true, Nat.zero_le, bI_01, mInB_J, mInB_Z, mInB_N, p0, p1, p2, bI_t]; done) | omega | (unfold R32 at *; omega)) only [e_177_0, e_177_4, e_177_7, e_177_11, e_177_15, e_177_18, e_177_19, e_177_20, e_177_21, d_177_1, d_177_8, d_177_12, XB_i, XB_n, va_rf_s, va_rf_n, mSI_K, mSI_I, mSI_J, mSI_P, mSI_N, mSJ_K, mSJ_I, mSJ_J, mSJ_P, mSJ_N, mSP_K, mSP_I, mSP_J, mSP_P, mSP_N, mNn, mNi, mNr, mN0, al20, al21, al22, al23, al25, true_or, or_true, and_self, if_true, if_false, mCat_n, mCat_i, mCat_r, mCat_l, mCat_0, Nat.reduceAdd, Nat.reduceLeDiff, Nat.reduceLT, true_and, and_true, Nat.zero_le, bI_01, bI_0, i10, tf0, iI_add, iI_sub, iI_mul, iI_neg, iI_add1, iI_sub1, iI_m1, nca, nc1, ncm1, iI_clJ, iI_cl0, iI_clN, Int.toNat_natCast, mU_n, mU_s, p_min, p_max, p_abs, ni_2, ni_3, ni_4, ni_7, ni_8, ni_9, ni_12, ni_24, ni_97, ni_100, ni_122, ni_200, ni_256, ni_4096, ni_5000, ni_9999, iI_lt, iI_le, iI_eq, iz_eq, iz_lt, iz_le, iz_gt, iz_ge, iy_eq, iy_lt, iy_le, iI_ltN, iI_leN, iI_eqN, if_pos, if_neg, p0, p1, p2, bI_t]
      exact l1
    · have hf : nbB (wv v) (wv w) = false := by
        cases z : nbB (wv v) (wv w) with
        | false => rfl
        | true => exact absurd (hb.mp z).2.1 q
      rw [hf]
      simp (maxSteps := 4000000) (disch := first | (simp (disch := omega) only [XB_i, XB_n, va_rf_s, va_rf_n, mSI_K, mSI_I, mSI_J, mSI_P, mSI_N, mSJ_K, mSJ_I, mSJ_J, mSJ_P, mSJ_N, mSP_K, mSP_I, mSP_J, mSP_P, mSP_N, mNn, mNi, mNr, mN0, al20, al21, al22, al23, al25, true_or, or_true, and_self, if_true, if_false, mCat_n, mCat_i, mCat_r, mCat_l, mCat_0, Nat.reduceAdd, Nat.reduceLeDiff, Nat.reduceLT, true_and, and_true, Nat.zero_le, bI_01, mInB_J, mInB_Z, mInB_N, p0, p1, p2, bI_t]; done) | omega | (unfold R32 at *; omega)) only [e_177_0, e_177_4, e_177_7, e_177_11, e_177_15, e_177_18, e_177_19, d_177_1, d_177_8, d_177_12, XB_i, XB_n, va_rf_s, va_rf_n, mSI_K, mSI_I, mSI_J, mSI_P, mSI_N, mSJ_K, mSJ_I, mSJ_J, mSJ_P, mSJ_N, mSP_K, mSP_I, mSP_J, mSP_P, mSP_N, mNn, mNi, mNr, mN0, al20, al21, al22, al23, al25, true_or, or_true, and_self, if_true, if_false, mCat_n, mCat_i, mCat_r, mCat_l, mCat_0, Nat.reduceAdd, Nat.reduceLeDiff, Nat.reduceLT, true_and, and_true, Nat.zero_le, bI_01, bI_0, i10, tf0, iI_add, iI_sub, iI_mul, iI_neg, iI_add1, iI_sub1, iI_m1, nca, nc1, ncm1, iI_clJ, iI_cl0, iI_clN, Int.toNat_natCast, mU_n, mU_s, p_min, p_max, p_abs, ni_2, ni_3, ni_4, ni_7, ni_8, ni_9, ni_12, ni_24, ni_97, ni_100, ni_122, ni_200, ni_256, ni_4096, ni_5000, ni_9999, iI_lt, iI_le, iI_eq, iz_eq, iz_lt, iz_le, iz_gt, iz_ge, iy_eq, iy_lt, iy_le, iI_ltN, iI_leN, iI_eqN, if_pos, if_neg, p0, p1, p2, bI_t]
      all_goals rfl
end LC
