/-! words as numbers; Feature: names -/
def wv (w : Int64) : Nat := w.toUInt64.toNat
theorem wv_lt (w : Int64) : wv w < 18446744073709551616 := by have := UInt64.toNat_lt w.toUInt64; simpa [wv] using this
theorem wv_inj {v w : Int64} : wv v = wv w ↔ v = w := by
  unfold wv
  constructor
  · intro h
    have h2 : v.toUInt64 = w.toUInt64 := UInt64.toNat_inj.mp h
    have := congrArg UInt64.toInt64 h2
    simpa using this
  · intro h; rw [h]
theorem wv_0 : wv 0 = 0 := rfl
theorem sh_key : ∀ s : Fin 64, (iI (s.val : Int)).toInt64.toUInt64 &&& Int64.toUInt64 63 = UInt64.ofNat s.val := by decide +kernel
theorem wv_lsr {w : Int64} {z : Int} (h0 : 0 ≤ z) (h1 : z < 64) : wv ((w.toUInt64 >>> ((iI z).toInt64.toUInt64 &&& Int64.toUInt64 63)).toInt64) = wv w / 2 ^ z.toNat := by
  have hz : z = ((⟨z.toNat, by omega⟩ : Fin 64).val : Int) := by simp; omega
  have := sh_key ⟨z.toNat, by omega⟩
  rw [← hz] at this
  rw [this]
  unfold wv
  rw [UInt64.toUInt64_toInt64, UInt64.toNat_shiftRight]
  have e : (UInt64.ofNat z.toNat).toNat % 64 = z.toNat := by
    rw [UInt64.toNat_ofNat']
    omega
  rw [e, Nat.shiftRight_eq_div_pow]
theorem lsrE {w v : Int64} {z : Int} (h0 : 0 ≤ z) (h1 : z < 64) : ((w.toUInt64 >>> ((iI z).toInt64.toUInt64 &&& Int64.toUInt64 63)).toInt64 = v) = (wv w / 2 ^ z.toNat = wv v) := by
  rw [← wv_lsr h0 h1, wv_inj]
theorem iI_bv (n : Nat) (h : n < 4294967296) : (iI (n : Int)).toUInt32.toNat = n := by
  unfold iI
  rw [Int32.ofInt_eq_ofNat]
  show (UInt32.ofNat n).toNat = n
  rw [UInt32.toNat_ofNat']
  omega
theorem w255 (w : Int64) : w.toInt32 &&& 255 = iI ((wv w % 256 : Nat) : Int) := by
  have h : (w.toInt32 &&& 255).toUInt32 = (iI ((wv w % 256 : Nat) : Int)).toUInt32 := by
    apply UInt32.toNat_inj.mp
    rw [iI_bv _ (by omega)]
    show (w.toInt32.toUInt32 &&& 255).toNat = _
    rw [UInt32.toNat_and]
    show w.toInt32.toUInt32.toNat &&& 255 = _
    have : w.toInt32.toUInt32.toNat = wv w % 4294967296 := by
      rw [← Int32.toNat_toBitVec, Int64.toBitVec_toInt32, BitVec.signExtend_eq_setWidth_of_le _ (by omega), BitVec.toNat_setWidth]
      rfl
    rw [this, show (255 : Nat) = 2 ^ 8 - 1 from rfl, Nat.and_two_pow_sub_one_eq_mod]
    omega
  have := congrArg UInt32.toInt32 h
  simpa using this
theorem wsh {w : Int64} {z : Int} (h0 : 0 ≤ z) (h1 : z < 64) : ((w.toUInt64 >>> ((iI z).toInt64.toUInt64 &&& Int64.toUInt64 63)).toInt64).toInt32 &&& 255 = iI ((wv w / 2 ^ z.toNat % 256 : Nat) : Int) := by
  rw [w255, wv_lsr h0 h1]
theorem lg_z (x y : Int64) : (lg_cmp x y = 0) = (x = y) := by
  unfold lg_cmp
  by_cases h1 : x = y
  · subst h1
    simp [Int64.lt_irrefl]
  · by_cases h2 : x > y <;> simp [h1, h2]
theorem lg_l (x y : Int64) : (lg_cmp x y < 0) = (x < y) := by
  unfold lg_cmp
  apply propext
  by_cases h2 : x > y
  · rw [if_pos h2]
    exact ⟨fun h => absurd h (by decide), fun h => absurd h (Int64.not_lt.mpr (Int64.le_of_lt h2))⟩
  · rw [if_neg h2]
    by_cases h1 : x = y
    · rw [if_pos h1]
      exact ⟨fun h => absurd h (by decide), fun h => by rw [h1] at h; exact absurd h (Int64.lt_irrefl)⟩
    · rw [if_neg h1]
      refine ⟨fun _ => ?_, fun _ => by decide⟩
      rw [Int64.lt_iff_toInt_lt]
      have h3 : ¬ y.toInt < x.toInt := by rw [← Int64.lt_iff_toInt_lt]; exact h2
      have h4 : x.toInt ≠ y.toInt := fun q => h1 (Int64.toInt_inj.mp q)
      omega
theorem lg_sw (x y : Int64) : (0 < lg_cmp x y) = (y < x) := by
  unfold lg_cmp
  by_cases h2 : x > y
  · rw [if_pos h2]; simp [show y < x from h2]
  · rw [if_neg h2]
    by_cases h1 : x = y
    · rw [if_pos h1]; simp [show ¬ y < x from h2]
    · rw [if_neg h1]; simp [show ¬ y < x from h2]
theorem lg_ge (x y : Int64) : (0 ≤ lg_cmp x y) = (y ≤ x) := propext (lg_cmp_ge x y)
theorem lg_le (x y : Int64) : (lg_cmp x y ≤ 0) = (x ≤ y) := by
  rw [← Int32.not_lt, lg_sw, Int64.not_lt]
theorem wv_toInt {w : Int64} (h : wv w < 9223372036854775808) : w.toInt = wv w := by
  have : w.toInt = (w.toUInt64.toNat : Int).bmod (2 ^ 64) := by
    rw [← Int64.toInt_toBitVec, BitVec.toInt_eq_toNat_bmod]
    rfl
  rw [this]
  show (wv w : Int).bmod (2 ^ 64) = wv w
  rw [Int.bmod_def]
  split <;> omega
theorem wv_lti {v w : Int64} (hv : wv v < 9223372036854775808) (hw : wv w < 9223372036854775808) : (v < w) = (wv v < wv w) := by
  rw [Int64.lt_iff_toInt_lt, wv_toInt hv, wv_toInt hw]
  exact propext ⟨fun h => by omega, fun h => by omega⟩
/-- byte i -/
def wb (W i : Nat) : Nat := W / 2 ^ (8 * i) % 256
def isL (c : Nat) : Bool := decide (97 ≤ c ∧ c ≤ 122)
/-- is it a name, from byte m - 1 downward, with letters begun or not -/
def nmR (W : Nat) : Nat → Bool → Bool
  | 0, _ => true
  | m + 1, b => if isL (wb W m) then nmR W m true else if b || decide (wb W m ≠ 0) then false else nmR W m false
def nmB (W : Nat) : Bool := nmR W 8 false
/-- how many letters, at most n -/
def ltF (W : Nat) : Nat → Nat
  | 0 => 0
  | n + 1 => if W / 2 ^ (8 * n) = 0 then ltF W n else n + 1
def ltN (W : Nat) : Nat := ltF W 8
theorem ltF_le (W : Nat) : ∀ n, ltF W n ≤ n
  | 0 => Nat.le_refl 0
  | n + 1 => by unfold ltF; split; exact Nat.le_succ_of_le (ltF_le W n); exact Nat.le_refl _
theorem ltN_le (W : Nat) : ltN W ≤ 8 := ltF_le W 8
theorem ltF_lt (W : Nat) : ∀ n, W < 2 ^ (8 * n) → W < 2 ^ (8 * ltF W n)
  | 0, h => h
  | n + 1, h => by
    unfold ltF
    split
    · rename_i q
      exact ltF_lt W n (by rcases Nat.div_eq_zero_iff.mp q with e | e; exact absurd e (Nat.ne_of_gt (Nat.two_pow_pos _)); exact e)
    · exact h
theorem ltN_lt {W : Nat} (h : W < 18446744073709551616) : W < 2 ^ (8 * ltN W) := ltF_lt W 8 (by simpa using h)
/-- does a name begin so -/
def nbB (W S : Nat) : Bool := decide (ltN S = 0) || (decide (ltN S ≤ ltN W) && decide (W / 2 ^ (8 * (ltN W - ltN S)) = S))
/-- the name as in a book -/
def bkN (W : Nat) : Nat := W * 2 ^ (8 * (8 - ltN W))
theorem bkN_lt {W : Nat} (h : W < 18446744073709551616) : bkN W < 18446744073709551616 := by
  have h1 := ltN_lt h
  have h2 := ltN_le W
  unfold bkN
  have h3 : 2 ^ (8 * ltN W) * 2 ^ (8 * (8 - ltN W)) = 18446744073709551616 := by
    rw [← Nat.pow_add, show 8 * ltN W + 8 * (8 - ltN W) = 64 by omega]
  calc W * 2 ^ (8 * (8 - ltN W)) < 2 ^ (8 * ltN W) * 2 ^ (8 * (8 - ltN W)) := Nat.mul_lt_mul_of_pos_right h1 (Nat.two_pow_pos _)
    _ = _ := h3
theorem shl_key : ∀ s : Fin 64, (((iI (s.val : Int)).toInt64 &&& 63).toBitVec.smod 64).toNat = s.val := by decide +kernel
theorem wv_shl {w : Int64} {z : Int} (h0 : 0 ≤ z) (h1 : z < 64) : wv (w <<< ((iI z).toInt64 &&& 63)) = wv w * 2 ^ z.toNat % 18446744073709551616 := by
  have hz : z = ((⟨z.toNat, by omega⟩ : Fin 64).val : Int) := by simp; omega
  have := shl_key ⟨z.toNat, by omega⟩
  rw [← hz] at this
  show (w <<< ((iI z).toInt64 &&& 63)).toBitVec.toNat = _
  rw [Int64.toBitVec_shiftLeft, BitVec.shiftLeft_eq', this, BitVec.toNat_shiftLeft, Nat.shiftLeft_eq]
  rfl
theorem shl_64 (w : Int64) : w <<< ((iI 64).toInt64 &&& 63) = w := by
  have : (iI 64).toInt64 &&& 63 = 0 := by decide +kernel
  rw [this]
  exact Int64.shiftLeft_zero
theorem wv_bk (w : Int64) : wv (w <<< ((iI (8 * (8 - (ltN (wv w) : Int)))).toInt64 &&& 63)) = bkN (wv w) := by
  have h := bkN_lt (wv_lt w)
  have h2 := ltN_le (wv w)
  rcases Nat.eq_zero_or_pos (ltN (wv w)) with e | e
  · have h3 := ltN_lt (wv_lt w)
    rw [e] at h3 ⊢
    rw [show (8 : Int) * (8 - ((0 : Nat) : Int)) = 64 from rfl, shl_64]
    unfold bkN
    have : wv w = 0 := by simpa using h3
    rw [this, Nat.zero_mul]
  · rw [wv_shl (by omega) (by omega), show ((8 : Int) * (8 - (ltN (wv w) : Int))).toNat = 8 * (8 - ltN (wv w)) by omega]
    exact Nat.mod_eq_of_lt h
section NM
variable {T : mT} {Q : mOut → mT → Prop} {a : Nat} {w v : Int64}
theorem l_isName : ∀ (m : Nat) (z : Int) (b : Bool) (l4 l5 : Option Value), z = (m : Int) - 1 → m ≤ 8 → XW 31 5 [some (.long (w)), none, some (.int (bI b)), some (.int (iI (z))), l4, l5] [] T Q = Q (.inl (some (.int (bI (nmR (wv w) m b))))) T := by
  intro m
  induction m with
  | zero =>
    intro z b l4 l5 hz hm
    rw [e_31_5]
    simp (maxSteps := 4000000) (disch := first | (simp (disch := omega) only [XB_i, XB_n, va_rf_s, va_rf_n, mSI_K, mSI_I, mSI_J, mSI_P, mSI_N, mSJ_K, mSJ_I, mSJ_J, mSJ_P, mSJ_N, mSP_K, mSP_I, mSP_J, mSP_P, mSP_N, mNn, mNi, mNr, mN0, al20, al21, al22, al23, al25, true_or, or_true, and_self, if_true, if_false, mCat_n, mCat_i, mCat_r, mCat_l, mCat_0, Nat.reduceAdd, Nat.reduceLeDiff, Nat.reduceLT, true_and, and_true, Nat.zero_le, bI_01, mInB_J, mInB_Z, mInB_N]; done) | omega | (unfold R32 at *; omega)) only [e_31_0, e_31_1, e_31_2, e_31_4, e_31_6, e_31_9, e_31_10, e_31_12, e_31_13, e_31_14, e_31_15, e_31_16, e_31_19, e_31_20, e_31_22, e_31_24, e_31_26, e_31_29, e_31_31, e_31_33, e_31_36, e_31_37, e_31_40, e_31_41, e_31_43, e_31_45, e_31_48, e_31_49, e_31_52, e_31_54, e_31_57, e_31_58, e_31_59, e_31_61, e_31_62, e_31_65, e_31_68, e_31_69, XB_i, XB_n, va_rf_s, va_rf_n, mSI_K, mSI_I, mSI_J, mSI_P, mSI_N, mSJ_K, mSJ_I, mSJ_J, mSJ_P, mSJ_N, mSP_K, mSP_I, mSP_J, mSP_P, mSP_N, mNn, mNi, mNr, mN0, al20, al21, al22, al23, al25, true_or, or_true, and_self, if_true, if_false, mCat_n, mCat_i, mCat_r, mCat_l, mCat_0, Nat.reduceAdd, Nat.reduceLeDiff, Nat.reduceLT, true_and, and_true, Nat.zero_le, bI_01, bI_0, iI_add, iI_sub, iI_mul, iI_neg, iI_add1, iI_sub1, iI_m1, nc1, ncm1, iI_clJ, iI_cl0, iI_clN, Int.toNat_natCast, mU_n, mU_s, p_min, p_max, p_abs, ni_2, ni_3, ni_4, ni_7, ni_8, ni_9, ni_12, ni_24, ni_97, ni_100, ni_122, ni_200, ni_256, ni_4096, ni_5000, ni_9999, iI_lt, iI_le, iI_eq, iz_eq, iz_lt, iz_le, iz_gt, iz_ge, iy_eq, iy_lt, iy_le, iI_ltN, iI_leN, iI_eqN, if_pos, if_neg]
    rfl
  | succ m ih =>
    intro z b l4 l5 hz hm
    have hw := @wsh w (8 * z) (by omega) (by omega)
    rw [show (8 * z).toNat = 8 * m by omega] at hw
    change _ = iI ((wb (wv w) m : Nat) : Int) at hw
    have hlt : wb (wv w) m < 256 := Nat.mod_lt _ (by omega)
    have i1 := ih (z - 1) true (some (.int (iI ((wb (wv w) m : Nat) : Int)))) (some (.int 1)) (by omega) (by omega)
    have i2 := ih (z - 1) false (some (.int (iI ((wb (wv w) m : Nat) : Int)))) (some (.int 0)) (by omega) (by omega)
    rw [bI_t] at i1
    rw [bI_f] at i2
    rw [e_31_5]
    unfold nmR isL
    generalize wb (wv w) m = c at *
    simp (maxSteps := 4000000) (disch := first | (simp (disch := omega) only [XB_i, XB_n, va_rf_s, va_rf_n, mSI_K, mSI_I, mSI_J, mSI_P, mSI_N, mSJ_K, mSJ_I, mSJ_J, mSJ_P, mSJ_N, mSP_K, mSP_I, mSP_J, mSP_P, mSP_N, mNn, mNi, mNr, mN0, al20, al21, al22, al23, al25, true_or, or_true, and_self, if_true, if_false, mCat_n, mCat_i, mCat_r, mCat_l, mCat_0, Nat.reduceAdd, Nat.reduceLeDiff, Nat.reduceLT, true_and, and_true, Nat.zero_le, bI_01, mInB_J, mInB_Z, mInB_N, hw, i1, i2]; done) | omega | (unfold R32 at *; omega)) only [e_31_0, e_31_1, e_31_2, e_31_4, e_31_6, e_31_9, e_31_10, e_31_12, e_31_13, e_31_14, e_31_15, e_31_16, e_31_19, e_31_20, e_31_22, e_31_24, e_31_26, e_31_29, e_31_31, e_31_33, e_31_36, e_31_37, e_31_40, e_31_41, e_31_43, e_31_45, e_31_48, e_31_49, e_31_52, e_31_54, e_31_57, e_31_58, e_31_59, e_31_61, e_31_62, e_31_65, e_31_68, e_31_69, XB_i, XB_n, va_rf_s, va_rf_n, mSI_K, mSI_I, mSI_J, mSI_P, mSI_N, mSJ_K, mSJ_I, mSJ_J, mSJ_P, mSJ_N, mSP_K, mSP_I, mSP_J, mSP_P, mSP_N, mNn, mNi, mNr, mN0, al20, al21, al22, al23, al25, true_or, or_true, and_self, if_true, if_false, mCat_n, mCat_i, mCat_r, mCat_l, mCat_0, Nat.reduceAdd, Nat.reduceLeDiff, Nat.reduceLT, true_and, and_true, Nat.zero_le, bI_01, bI_0, iI_add, iI_sub, iI_mul, iI_neg, iI_add1, iI_sub1, iI_m1, nc1, ncm1, iI_clJ, iI_cl0, iI_clN, Int.toNat_natCast, mU_n, mU_s, p_min, p_max, p_abs, ni_2, ni_3, ni_4, ni_7, ni_8, ni_9, ni_12, ni_24, ni_97, ni_100, ni_122, ni_200, ni_256, ni_4096, ni_5000, ni_9999, iI_lt, iI_le, iI_eq, iz_eq, iz_lt, iz_le, iz_gt, iz_ge, iy_eq, iy_lt, iy_le, iI_ltN, iI_leN, iI_eqN, if_pos, if_neg, hw, i1, i2]
    cases b <;> grind [bI]
theorem p_isName : XW 31 0 [some (.long (w)), none, none, none, none, none] [] T Q = Q (.inl (some (.int (bI (nmB (wv w)))))) T := by
  simp (maxSteps := 4000000) (disch := first | (simp (disch := omega) only [XB_i, XB_n, va_rf_s, va_rf_n, mSI_K, mSI_I, mSI_J, mSI_P, mSI_N, mSJ_K, mSJ_I, mSJ_J, mSJ_P, mSJ_N, mSP_K, mSP_I, mSP_J, mSP_P, mSP_N, mNn, mNi, mNr, mN0, al20, al21, al22, al23, al25, true_or, or_true, and_self, if_true, if_false, mCat_n, mCat_i, mCat_r, mCat_l, mCat_0, Nat.reduceAdd, Nat.reduceLeDiff, Nat.reduceLT, true_and, and_true, Nat.zero_le, bI_01, mInB_J, mInB_Z, mInB_N]; done) | omega | (unfold R32 at *; omega)) only [e_31_0, e_31_1, e_31_2, e_31_4, XB_i, XB_n, va_rf_s, va_rf_n, mSI_K, mSI_I, mSI_J, mSI_P, mSI_N, mSJ_K, mSJ_I, mSJ_J, mSJ_P, mSJ_N, mSP_K, mSP_I, mSP_J, mSP_P, mSP_N, mNn, mNi, mNr, mN0, al20, al21, al22, al23, al25, true_or, or_true, and_self, if_true, if_false, mCat_n, mCat_i, mCat_r, mCat_l, mCat_0, Nat.reduceAdd, Nat.reduceLeDiff, Nat.reduceLT, true_and, and_true, Nat.zero_le, bI_01, bI_0, iI_add, iI_sub, iI_mul, iI_neg, iI_add1, iI_sub1, iI_m1, nc1, ncm1, iI_clJ, iI_cl0, iI_clN, Int.toNat_natCast, mU_n, mU_s, p_min, p_max, p_abs, ni_2, ni_3, ni_4, ni_7, ni_8, ni_9, ni_12, ni_24, ni_97, ni_100, ni_122, ni_200, ni_256, ni_4096, ni_5000, ni_9999, iI_lt, iI_le, iI_eq, iz_eq, iz_lt, iz_le, iz_gt, iz_ge, iy_eq, iy_lt, iy_le, iI_ltN, iI_leN, iI_eqN, if_pos, if_neg]
  exact l_isName 8 7 false none none rfl (by omega)
theorem l_letters : ∀ (m : Nat) (z : Int), z = (m : Int) → m ≤ 8 → XW 32 3 [some (.long (w)), none, some (.int (iI (z)))] [] T Q = Q (.inl (some (.int (iI ((ltF (wv w) m : Nat) : Int))))) T := by
  intro m
  induction m with
  | zero =>
    intro z hz hm
    rw [e_32_3]
    simp (maxSteps := 4000000) (disch := first | (simp (disch := omega) only [XB_i, XB_n, va_rf_s, va_rf_n, mSI_K, mSI_I, mSI_J, mSI_P, mSI_N, mSJ_K, mSJ_I, mSJ_J, mSJ_P, mSJ_N, mSP_K, mSP_I, mSP_J, mSP_P, mSP_N, mNn, mNi, mNr, mN0, al20, al21, al22, al23, al25, true_or, or_true, and_self, if_true, if_false, mCat_n, mCat_i, mCat_r, mCat_l, mCat_0, Nat.reduceAdd, Nat.reduceLeDiff, Nat.reduceLT, true_and, and_true, Nat.zero_le, bI_01, mInB_J, mInB_Z, mInB_N]; done) | omega | (unfold R32 at *; omega)) only [e_32_0, e_32_2, e_32_4, e_32_7, e_32_8, e_32_10, e_32_11, e_32_12, e_32_13, e_32_14, e_32_15, e_32_16, e_32_17, e_32_20, e_32_21, e_32_22, e_32_25, e_32_28, e_32_29, XB_i, XB_n, va_rf_s, va_rf_n, mSI_K, mSI_I, mSI_J, mSI_P, mSI_N, mSJ_K, mSJ_I, mSJ_J, mSJ_P, mSJ_N, mSP_K, mSP_I, mSP_J, mSP_P, mSP_N, mNn, mNi, mNr, mN0, al20, al21, al22, al23, al25, true_or, or_true, and_self, if_true, if_false, mCat_n, mCat_i, mCat_r, mCat_l, mCat_0, Nat.reduceAdd, Nat.reduceLeDiff, Nat.reduceLT, true_and, and_true, Nat.zero_le, bI_01, bI_0, iI_add, iI_sub, iI_mul, iI_neg, iI_add1, iI_sub1, iI_m1, nc1, ncm1, iI_clJ, iI_cl0, iI_clN, Int.toNat_natCast, mU_n, mU_s, p_min, p_max, p_abs, ni_2, ni_3, ni_4, ni_7, ni_8, ni_9, ni_12, ni_24, ni_97, ni_100, ni_122, ni_200, ni_256, ni_4096, ni_5000, ni_9999, iI_lt, iI_le, iI_eq, iz_eq, iz_lt, iz_le, iz_gt, iz_ge, iy_eq, iy_lt, iy_le, iI_ltN, iI_leN, iI_eqN, if_pos, if_neg]
    rfl
  | succ m ih =>
    intro z hz hm
    have hw := @lsrE w 0 (8 * (z - 1)) (by omega) (by omega)
    rw [show (8 * (z - 1)).toNat = 8 * m by omega, wv_0] at hw
    rw [e_32_3]
    unfold ltF
    simp (maxSteps := 4000000) (disch := first | (simp (disch := omega) only [XB_i, XB_n, va_rf_s, va_rf_n, mSI_K, mSI_I, mSI_J, mSI_P, mSI_N, mSJ_K, mSJ_I, mSJ_J, mSJ_P, mSJ_N, mSP_K, mSP_I, mSP_J, mSP_P, mSP_N, mNn, mNi, mNr, mN0, al20, al21, al22, al23, al25, true_or, or_true, and_self, if_true, if_false, mCat_n, mCat_i, mCat_r, mCat_l, mCat_0, Nat.reduceAdd, Nat.reduceLeDiff, Nat.reduceLT, true_and, and_true, Nat.zero_le, bI_01, mInB_J, mInB_Z, mInB_N, lg_z, hw]; done) | omega | (unfold R32 at *; omega)) only [e_32_0, e_32_2, e_32_4, e_32_7, e_32_8, e_32_10, e_32_11, e_32_12, e_32_13, e_32_14, e_32_15, e_32_16, e_32_17, e_32_20, e_32_21, e_32_22, e_32_25, e_32_28, e_32_29, XB_i, XB_n, va_rf_s, va_rf_n, mSI_K, mSI_I, mSI_J, mSI_P, mSI_N, mSJ_K, mSJ_I, mSJ_J, mSJ_P, mSJ_N, mSP_K, mSP_I, mSP_J, mSP_P, mSP_N, mNn, mNi, mNr, mN0, al20, al21, al22, al23, al25, true_or, or_true, and_self, if_true, if_false, mCat_n, mCat_i, mCat_r, mCat_l, mCat_0, Nat.reduceAdd, Nat.reduceLeDiff, Nat.reduceLT, true_and, and_true, Nat.zero_le, bI_01, bI_0, iI_add, iI_sub, iI_mul, iI_neg, iI_add1, iI_sub1, iI_m1, nc1, ncm1, iI_clJ, iI_cl0, iI_clN, Int.toNat_natCast, mU_n, mU_s, p_min, p_max, p_abs, ni_2, ni_3, ni_4, ni_7, ni_8, ni_9, ni_12, ni_24, ni_97, ni_100, ni_122, ni_200, ni_256, ni_4096, ni_5000, ni_9999, iI_lt, iI_le, iI_eq, iz_eq, iz_lt, iz_le, iz_gt, iz_ge, iy_eq, iy_lt, iy_le, iI_ltN, iI_leN, iI_eqN, if_pos, if_neg, lg_z, hw]
    by_cases q : wv w / 2 ^ (8 * m) = 0
    · rw [if_pos q, if_pos q, ih (z - 1) (by omega) (by omega)]
    · rw [if_neg q, if_neg q, hz]
theorem p_letters : XW 32 0 [some (.long (w)), none, none] [] T Q = Q (.inl (some (.int (iI ((ltN (wv w) : Nat) : Int))))) T := by
  simp (maxSteps := 4000000) (disch := first | (simp (disch := omega) only [XB_i, XB_n, va_rf_s, va_rf_n, mSI_K, mSI_I, mSI_J, mSI_P, mSI_N, mSJ_K, mSJ_I, mSJ_J, mSJ_P, mSJ_N, mSP_K, mSP_I, mSP_J, mSP_P, mSP_N, mNn, mNi, mNr, mN0, al20, al21, al22, al23, al25, true_or, or_true, and_self, if_true, if_false, mCat_n, mCat_i, mCat_r, mCat_l, mCat_0, Nat.reduceAdd, Nat.reduceLeDiff, Nat.reduceLT, true_and, and_true, Nat.zero_le, bI_01, mInB_J, mInB_Z, mInB_N]; done) | omega | (unfold R32 at *; omega)) only [e_32_0, e_32_2, XB_i, XB_n, va_rf_s, va_rf_n, mSI_K, mSI_I, mSI_J, mSI_P, mSI_N, mSJ_K, mSJ_I, mSJ_J, mSJ_P, mSJ_N, mSP_K, mSP_I, mSP_J, mSP_P, mSP_N, mNn, mNi, mNr, mN0, al20, al21, al22, al23, al25, true_or, or_true, and_self, if_true, if_false, mCat_n, mCat_i, mCat_r, mCat_l, mCat_0, Nat.reduceAdd, Nat.reduceLeDiff, Nat.reduceLT, true_and, and_true, Nat.zero_le, bI_01, bI_0, iI_add, iI_sub, iI_mul, iI_neg, iI_add1, iI_sub1, iI_m1, nc1, ncm1, iI_clJ, iI_cl0, iI_clN, Int.toNat_natCast, mU_n, mU_s, p_min, p_max, p_abs, ni_2, ni_3, ni_4, ni_7, ni_8, ni_9, ni_12, ni_24, ni_97, ni_100, ni_122, ni_200, ni_256, ni_4096, ni_5000, ni_9999, iI_lt, iI_le, iI_eq, iz_eq, iz_lt, iz_le, iz_gt, iz_ge, iy_eq, iy_lt, iy_le, iI_ltN, iI_leN, iI_eqN, if_pos, if_neg]
  exact l_letters 8 8 rfl (by omega)
theorem p_begins (hk : FeatK T a) (hw : T.2.2.1 a 4 = w) : XW 33 0 [some (.ref (a)), some (.long (v)), none, none, none] [] T Q = Q (.inl (some (.int (bI (nbB (wv w) (wv v)))))) T := by
  have k1 := hk.1
  have h1 := ltN_le (wv w)
  have h2 := ltN_le (wv v)
  unfold nbB
  by_cases q0 : ltN (wv v) = 0
  · simp (maxSteps := 4000000) (disch := first | (simp (disch := omega) only [XB_i, XB_n, va_rf_s, va_rf_n, mSI_K, mSI_I, mSI_J, mSI_P, mSI_N, mSJ_K, mSJ_I, mSJ_J, mSJ_P, mSJ_N, mSP_K, mSP_I, mSP_J, mSP_P, mSP_N, mNn, mNi, mNr, mN0, al20, al21, al22, al23, al25, true_or, or_true, and_self, if_true, if_false, mCat_n, mCat_i, mCat_r, mCat_l, mCat_0, Nat.reduceAdd, Nat.reduceLeDiff, Nat.reduceLT, true_and, and_true, Nat.zero_le, bI_01, mInB_J, mInB_Z, mInB_N, k1, hw, p_letters]; done) | omega | (unfold R32 at *; omega)) only [e_33_0, e_33_4, e_33_5, e_33_5_n, e_33_6, e_33_12, e_33_14, e_33_15, e_33_18, e_33_20, e_33_21, e_33_24, e_33_24_n, e_33_25, e_33_28, e_33_30, e_33_32, e_33_33, e_33_34, e_33_35, e_33_36, e_33_37, e_33_38, e_33_41, e_33_42, e_33_45, e_33_46, d_33_1, d_33_9, XB_i, XB_n, va_rf_s, va_rf_n, mSI_K, mSI_I, mSI_J, mSI_P, mSI_N, mSJ_K, mSJ_I, mSJ_J, mSJ_P, mSJ_N, mSP_K, mSP_I, mSP_J, mSP_P, mSP_N, mNn, mNi, mNr, mN0, al20, al21, al22, al23, al25, true_or, or_true, and_self, if_true, if_false, mCat_n, mCat_i, mCat_r, mCat_l, mCat_0, Nat.reduceAdd, Nat.reduceLeDiff, Nat.reduceLT, true_and, and_true, Nat.zero_le, bI_01, bI_0, iI_add, iI_sub, iI_mul, iI_neg, iI_add1, iI_sub1, iI_m1, nc1, ncm1, iI_clJ, iI_cl0, iI_clN, Int.toNat_natCast, mU_n, mU_s, p_min, p_max, p_abs, ni_2, ni_3, ni_4, ni_7, ni_8, ni_9, ni_12, ni_24, ni_97, ni_100, ni_122, ni_200, ni_256, ni_4096, ni_5000, ni_9999, iI_lt, iI_le, iI_eq, iz_eq, iz_lt, iz_le, iz_gt, iz_ge, iy_eq, iy_lt, iy_le, iI_ltN, iI_leN, iI_eqN, if_pos, if_neg, k1, hw, p_letters]
    simp [q0, bI]
  · by_cases q1 : ltN (wv v) ≤ ltN (wv w)
    · have hs := @lsrE w v (8 * (((ltN (wv w) : Nat) : Int) - ((ltN (wv v) : Nat) : Int))) (by omega) (by omega)
      rw [show (8 * (((ltN (wv w) : Nat) : Int) - ((ltN (wv v) : Nat) : Int))).toNat = 8 * (ltN (wv w) - ltN (wv v)) by omega] at hs
      simp (maxSteps := 4000000) (disch := first | (simp (disch := omega) only [XB_i, XB_n, va_rf_s, va_rf_n, mSI_K, mSI_I, mSI_J, mSI_P, mSI_N, mSJ_K, mSJ_I, mSJ_J, mSJ_P, mSJ_N, mSP_K, mSP_I, mSP_J, mSP_P, mSP_N, mNn, mNi, mNr, mN0, al20, al21, al22, al23, al25, true_or, or_true, and_self, if_true, if_false, mCat_n, mCat_i, mCat_r, mCat_l, mCat_0, Nat.reduceAdd, Nat.reduceLeDiff, Nat.reduceLT, true_and, and_true, Nat.zero_le, bI_01, mInB_J, mInB_Z, mInB_N, k1, hw, p_letters, lg_z, hs]; done) | omega | (unfold R32 at *; omega)) only [e_33_0, e_33_4, e_33_5, e_33_5_n, e_33_6, e_33_12, e_33_14, e_33_15, e_33_18, e_33_20, e_33_21, e_33_24, e_33_24_n, e_33_25, e_33_28, e_33_30, e_33_32, e_33_33, e_33_34, e_33_35, e_33_36, e_33_37, e_33_38, e_33_41, e_33_42, e_33_45, e_33_46, d_33_1, d_33_9, XB_i, XB_n, va_rf_s, va_rf_n, mSI_K, mSI_I, mSI_J, mSI_P, mSI_N, mSJ_K, mSJ_I, mSJ_J, mSJ_P, mSJ_N, mSP_K, mSP_I, mSP_J, mSP_P, mSP_N, mNn, mNi, mNr, mN0, al20, al21, al22, al23, al25, true_or, or_true, and_self, if_true, if_false, mCat_n, mCat_i, mCat_r, mCat_l, mCat_0, Nat.reduceAdd, Nat.reduceLeDiff, Nat.reduceLT, true_and, and_true, Nat.zero_le, bI_01, bI_0, iI_add, iI_sub, iI_mul, iI_neg, iI_add1, iI_sub1, iI_m1, nc1, ncm1, iI_clJ, iI_cl0, iI_clN, Int.toNat_natCast, mU_n, mU_s, p_min, p_max, p_abs, ni_2, ni_3, ni_4, ni_7, ni_8, ni_9, ni_12, ni_24, ni_97, ni_100, ni_122, ni_200, ni_256, ni_4096, ni_5000, ni_9999, iI_lt, iI_le, iI_eq, iz_eq, iz_lt, iz_le, iz_gt, iz_ge, iy_eq, iy_lt, iy_le, iI_ltN, iI_leN, iI_eqN, if_pos, if_neg, k1, hw, p_letters, lg_z, hs]
      by_cases q2 : wv w / 2 ^ (8 * (ltN (wv w) - ltN (wv v))) = wv v <;> simp [q0, q1, q2, bI]
    · simp (maxSteps := 4000000) (disch := first | (simp (disch := omega) only [XB_i, XB_n, va_rf_s, va_rf_n, mSI_K, mSI_I, mSI_J, mSI_P, mSI_N, mSJ_K, mSJ_I, mSJ_J, mSJ_P, mSJ_N, mSP_K, mSP_I, mSP_J, mSP_P, mSP_N, mNn, mNi, mNr, mN0, al20, al21, al22, al23, al25, true_or, or_true, and_self, if_true, if_false, mCat_n, mCat_i, mCat_r, mCat_l, mCat_0, Nat.reduceAdd, Nat.reduceLeDiff, Nat.reduceLT, true_and, and_true, Nat.zero_le, bI_01, mInB_J, mInB_Z, mInB_N, k1, hw, p_letters, lg_z]; done) | omega | (unfold R32 at *; omega)) only [e_33_0, e_33_4, e_33_5, e_33_5_n, e_33_6, e_33_12, e_33_14, e_33_15, e_33_18, e_33_20, e_33_21, e_33_24, e_33_24_n, e_33_25, e_33_28, e_33_30, e_33_32, e_33_33, e_33_34, e_33_35, e_33_36, e_33_37, e_33_38, e_33_41, e_33_42, e_33_45, e_33_46, d_33_1, d_33_9, XB_i, XB_n, va_rf_s, va_rf_n, mSI_K, mSI_I, mSI_J, mSI_P, mSI_N, mSJ_K, mSJ_I, mSJ_J, mSJ_P, mSJ_N, mSP_K, mSP_I, mSP_J, mSP_P, mSP_N, mNn, mNi, mNr, mN0, al20, al21, al22, al23, al25, true_or, or_true, and_self, if_true, if_false, mCat_n, mCat_i, mCat_r, mCat_l, mCat_0, Nat.reduceAdd, Nat.reduceLeDiff, Nat.reduceLT, true_and, and_true, Nat.zero_le, bI_01, bI_0, iI_add, iI_sub, iI_mul, iI_neg, iI_add1, iI_sub1, iI_m1, nc1, ncm1, iI_clJ, iI_cl0, iI_clN, Int.toNat_natCast, mU_n, mU_s, p_min, p_max, p_abs, ni_2, ni_3, ni_4, ni_7, ni_8, ni_9, ni_12, ni_24, ni_97, ni_100, ni_122, ni_200, ni_256, ni_4096, ni_5000, ni_9999, iI_lt, iI_le, iI_eq, iz_eq, iz_lt, iz_le, iz_gt, iz_ge, iy_eq, iy_lt, iy_le, iI_ltN, iI_leN, iI_eqN, if_pos, if_neg, k1, hw, p_letters, lg_z]
      simp [q0, q1, bI]
end NM
