/-! Math.floorDiv, max, min, abs; Side -/
theorem iI_div {a b : Int} (ha : R32 a) (hb : R32 b) (ho : a ≠ -2147483648) : iI a / iI b = iI (a.tdiv b) := by
  rw [iI_of (iI a / iI b), Int32.toInt_div, iI_toInt ha, iI_toInt hb]
  have h1 : (a.tdiv b).natAbs ≤ a.natAbs := by rw [Int.natAbs_tdiv]; exact Nat.div_le_self _ _
  have h2 : (a.tdiv b).bmod (2 ^ 32) = a.tdiv b := by
    unfold R32 at ha
    rw [Int.bmod_def]
    split <;> omega
  rw [h2]
theorem iI_xor_neg (x y : Int32) : (x ^^^ y < 0) ↔ ((x < 0) ↔ ¬ y < 0) := by
  have h : ∀ z : Int32, (z < 0) ↔ z.toBitVec.msb = true := by
    intro z
    rw [BitVec.msb_eq_toInt, decide_eq_true_iff, Int32.lt_iff_toInt_lt]
    rfl
  rw [h, h, h, Int32.toBitVec_xor, BitVec.msb_xor]
  cases x.toBitVec.msb <;> cases y.toBitVec.msb <;> simp
theorem ct_floorDiv {T : mT} {Q : mOut → mT → Prop} {a b : Int} (ha : R32 a) (hb : R32 b) (hb0 : b ≠ 0) (ho : a ≠ -2147483648) (hQ : Q (.inl (some (.int (iI (a.fdiv b))))) T) : XW 181 0 [some (.int (iI a)), some (.int (iI b)), none] [] T Q := by
  have hnz : ¬ iI b = 0 := by rw [iI_0, iI_eq hb ⟨by omega, by omega⟩]; exact hb0
  have hrb : (a.tdiv b * b).natAbs ≤ a.natAbs := by
    rw [Int.natAbs_mul, Int.natAbs_tdiv]
    exact Nat.div_mul_le_self _ _
  have hr32 : R32 (a.tdiv b * b) := by unfold R32 at ha ⊢; omega
  have hdv : (a.tdiv b * b = a) ↔ b ∣ a := ⟨fun h => ⟨a.tdiv b, by rw [Int.mul_comm]; exact h.symm⟩, fun h => Int.tdiv_mul_cancel h⟩
  have hx : (0 ≤ iI a ^^^ iI b) ↔ ((a < 0) ↔ (b < 0)) := by
    rw [← Int32.not_lt, iI_xor_neg, iI_0, iI_lt ha ⟨by omega, by omega⟩, iI_lt hb ⟨by omega, by omega⟩]
    by_cases h1 : a < 0 <;> by_cases h2 : b < 0 <;> simp [h1, h2]
  have hc : (iI (a.tdiv b * b) = iI a) ↔ b ∣ a := by rw [iI_eq hr32 ha, hdv]
  simp only [e_181_0, e_181_1, e_181_2, e_181_3, e_181_4, e_181_5, e_181_6, e_181_7, e_181_10, e_181_11, e_181_12, e_181_13, e_181_14, e_181_17, e_181_18, e_181_19, e_181_20, e_181_21, e_181_22, XB_i, XB_n, va_rf_s, va_rf_n, mSI_K, mSI_I, mSI_J, mSI_P, mSI_N, mSJ_K, mSJ_I, mSJ_J, mSJ_P, mSJ_N, mSP_K, mSP_I, mSP_J, mSP_P, mSP_N, mNn, mNi, mNr, mN0, al20, al21, al22, al23, al25, true_or, or_true, and_self, if_true, if_false, mCat_n, mCat_i, mCat_r, mCat_l, mCat_0, Nat.reduceAdd, Nat.reduceLeDiff, Nat.reduceLT, true_and, and_true, Nat.zero_le, bI_01, hnz, not_false_eq_true, iI_div ha hb ho, iI_mul]
  have hfd := @Int.fdiv_eq_ediv a b
  have htd := @Int.tdiv_eq_ediv a b
  have hm1 : iI (a.tdiv b) - 1 = iI (a.tdiv b - 1) := by rw [iI_1, iI_sub]
  rw [hm1]
  by_cases h1 : 0 ≤ iI a ^^^ iI b
  · rw [if_pos h1]
    have h2 := hx.mp h1
    have he : a.fdiv b = a.tdiv b := by
      rw [hfd, htd]
      by_cases hd : b ∣ a
      · simp [hd]
      · simp only [hd, or_false]
        by_cases hbn : b < 0
        · have : a < 0 := h2.mpr hbn
          rw [if_neg (by omega), if_neg (by omega), Int.sign_eq_neg_one_of_neg hbn]
          omega
        · have : ¬ a < 0 := fun q => hbn (h2.mp q)
          rw [if_pos (by omega), if_pos (by omega)]
          omega
    rw [← he]
    exact hQ
  · rw [if_neg h1]
    have h2 : ¬ ((a < 0) ↔ (b < 0)) := fun q => h1 (hx.mpr q)
    by_cases hd : b ∣ a
    · rw [if_pos (hc.mpr hd)]
      have he : a.fdiv b = a.tdiv b := by rw [hfd, htd]; simp [hd]
      rw [← he]
      exact hQ
    · rw [if_neg (fun q => hd (hc.mp q))]
      have he : a.fdiv b = a.tdiv b - 1 := by
        rw [hfd, htd]
        simp only [hd, or_false]
        by_cases hbn : b < 0
        · have : ¬ a < 0 := fun q => h2 ⟨fun _ => hbn, fun _ => q⟩
          rw [if_neg (by omega), if_pos (by omega)]
          omega
        · have : a < 0 := by
            rcases Int.lt_or_le a 0 with q | q
            · exact q
            · exact absurd ⟨fun h => by omega, fun h => by omega⟩ h2
          rw [if_pos (by omega), if_neg (by omega), Int.sign_eq_one_of_pos (by omega)]
          omega
      rw [← he]
      exact hQ
theorem ct_max {T : mT} {Q : mOut → mT → Prop} {a b : Int} (ha : R32 a) (hb : R32 b) (hQ : Q (.inl (some (.int (iI (max a b))))) T) : XW 183 0 [some (.int (iI a)), some (.int (iI b))] [] T Q := by
  simp only [e_183_0, e_183_1, e_183_2, e_183_5, e_183_6, e_183_9, e_183_10, XB_i, XB_n, va_rf_s, va_rf_n, mSI_K, mSI_I, mSI_J, mSI_P, mSI_N, mSJ_K, mSJ_I, mSJ_J, mSJ_P, mSJ_N, mSP_K, mSP_I, mSP_J, mSP_P, mSP_N, mNn, mNi, mNr, mN0, al20, al21, al22, al23, al25, true_or, or_true, and_self, if_true, if_false, mCat_n, mCat_i, mCat_r, mCat_l, mCat_0, Nat.reduceAdd, Nat.reduceLeDiff, Nat.reduceLT, true_and, and_true, Nat.zero_le, bI_01, iI_lt ha hb]
  by_cases h : a < b
  · rw [if_pos h]
    rw [Int.max_eq_right (by omega)] at hQ
    exact hQ
  · rw [if_neg h]
    rw [Int.max_eq_left (by omega)] at hQ
    exact hQ
theorem ct_min {T : mT} {Q : mOut → mT → Prop} {a b : Int} (ha : R32 a) (hb : R32 b) (hQ : Q (.inl (some (.int (iI (min a b))))) T) : XW 184 0 [some (.int (iI a)), some (.int (iI b))] [] T Q := by
  simp only [e_184_0, e_184_1, e_184_2, e_184_5, e_184_6, e_184_9, e_184_10, XB_i, XB_n, va_rf_s, va_rf_n, mSI_K, mSI_I, mSI_J, mSI_P, mSI_N, mSJ_K, mSJ_I, mSJ_J, mSJ_P, mSJ_N, mSP_K, mSP_I, mSP_J, mSP_P, mSP_N, mNn, mNi, mNr, mN0, al20, al21, al22, al23, al25, true_or, or_true, and_self, if_true, if_false, mCat_n, mCat_i, mCat_r, mCat_l, mCat_0, Nat.reduceAdd, Nat.reduceLeDiff, Nat.reduceLT, true_and, and_true, Nat.zero_le, bI_01, iI_lt hb ha]
  by_cases h : b < a
  · rw [if_pos h]
    rw [Int.min_eq_right (by omega)] at hQ
    exact hQ
  · rw [if_neg h]
    rw [Int.min_eq_left (by omega)] at hQ
    exact hQ
theorem ct_abs {T : mT} {Q : mOut → mT → Prop} {a : Int} (ha : R32 a) (hQ : Q (.inl (some (.int (iI (a.natAbs : Int))))) T) : XW 182 0 [some (.int (iI a))] [] T Q := by
  have hc : (0 ≤ iI a) = (0 ≤ a) := by rw [iI_0, iI_le ⟨by omega, by omega⟩ ha]
  simp only [e_182_0, e_182_1, e_182_4, e_182_5, e_182_6, e_182_9, e_182_10, XB_i, XB_n, va_rf_s, va_rf_n, mSI_K, mSI_I, mSI_J, mSI_P, mSI_N, mSJ_K, mSJ_I, mSJ_J, mSJ_P, mSJ_N, mSP_K, mSP_I, mSP_J, mSP_P, mSP_N, mNn, mNi, mNr, mN0, al20, al21, al22, al23, al25, true_or, or_true, and_self, if_true, if_false, mCat_n, mCat_i, mCat_r, mCat_l, mCat_0, Nat.reduceAdd, Nat.reduceLeDiff, Nat.reduceLT, true_and, and_true, Nat.zero_le, bI_01, hc, iI_neg]
  by_cases h : 0 ≤ a
  · rw [if_pos h]
    rw [show (a.natAbs : Int) = a by omega] at hQ
    exact hQ
  · rw [if_neg h]
    rw [show (a.natAbs : Int) = -a by omega] at hQ
    exact hQ
/-- a side: upright or not, the least or the greatest, its border -/
def SideR (T : mT) (s : Nat) (u l : Bool) (b : Int) : Prop := T.1 s = (9, 0) ∧ T.2.1 s 0 = bI u ∧ T.2.1 s 1 = bI l ∧ T.2.1 s 2 = iI b
theorem SideR.fr {S : Nat → Prop} {T T2 : mT} {s : Nat} {u l : Bool} {b : Int} (h : SideR T s u l b) (hf : Fr S T T2) (hs : ¬ S s) : SideR T2 s u l b := ⟨by rw [hf.K]; exact h.1, by rw [hf.I hs]; exact h.2.1, by rw [hf.I hs]; exact h.2.2.1, by rw [hf.I hs]; exact h.2.2.2⟩
def inS (u l : Bool) (b x y : Int) : Bool := if l then decide (b ≤ if u then x else y) else decide ((if u then x else y) ≤ b)
theorem ct_holds {T : mT} {Q : mOut → mT → Prop} {s : Nat} {u l : Bool} {b x y : Int} (h : SideR T s u l b) (hb : R32 b) (hx : R32 x) (hy : R32 y) (hQ : Q (.inl (some (.int (bI (inS u l b x y))))) T) : XW 79 0 [some (.ref s), some (.int (iI x)), some (.int (iI y)), none] [] T Q := by
  obtain ⟨h1, h2, h3, h4⟩ := h
  have h10 : ¬ (1 : Int32) = 0 := by decide
  have e01 : (0 : Int32) = 0 ∨ (0 : Int32) = 1 := Or.inl rfl
  have e11 : (1 : Int32) = 0 ∨ (1 : Int32) = 1 := Or.inr rfl
  cases u <;> cases l <;> simp only [e_79_0, e_79_0_n, e_79_1, e_79_4, e_79_7, e_79_8, e_79_11, e_79_12, e_79_13, e_79_13_n, e_79_14, e_79_17, e_79_20, e_79_21, e_79_21_n, e_79_22, e_79_25, e_79_28, e_79_29, e_79_32, e_79_33, e_79_36, e_79_37, e_79_37_n, e_79_38, e_79_41, e_79_44, e_79_45, e_79_48, e_79_49, XB_i, XB_n, va_rf_s, va_rf_n, mSI_K, mSI_I, mSI_J, mSI_P, mSI_N, mSJ_K, mSJ_I, mSJ_J, mSJ_P, mSJ_N, mSP_K, mSP_I, mSP_J, mSP_P, mSP_N, mNn, mNi, mNr, mN0, al20, al21, al22, al23, al25, true_or, or_true, and_self, if_true, if_false, mCat_n, mCat_i, mCat_r, mCat_l, mCat_0, Nat.reduceAdd, Nat.reduceLeDiff, Nat.reduceLT, true_and, and_true, Nat.zero_le, bI_01, h1, h2, h3, h4, bI_t, bI_f, h10, iI_lt hx hb, iI_lt hy hb, iI_lt hb hx, iI_lt hb hy, e01, e11] <;> simp only [inS] at hQ
  · by_cases q : b < y
    · rw [if_pos q]; simpa [bI, show ¬ y ≤ b by omega] using hQ
    · rw [if_neg q]; simpa [bI, show y ≤ b by omega] using hQ
  · by_cases q : y < b
    · rw [if_pos q]; simpa [bI, show ¬ b ≤ y by omega] using hQ
    · rw [if_neg q]; simpa [bI, show b ≤ y by omega] using hQ
  · by_cases q : b < x
    · rw [if_pos q]; simpa [bI, show ¬ x ≤ b by omega] using hQ
    · rw [if_neg q]; simpa [bI, show x ≤ b by omega] using hQ
  · by_cases q : x < b
    · rw [if_pos q]; simpa [bI, show ¬ b ≤ x by omega] using hQ
    · rw [if_neg q]; simpa [bI, show b ≤ x by omega] using hQ
/-- where an edge meets a border -/
def crS (b v0 w0 v1 w1 : Int) : Int := if v1 - v0 = 0 then w0 else w0 + (2 * (w1 - w0) * (b - v0) + (v1 - v0)).fdiv (2 * (v1 - v0))
theorem ct_cross {T : mT} {Q : mOut → mT → Prop} {s : Nat} {u l : Bool} {b v0 w0 v1 w1 : Int} (h : SideR T s u l b) (hb : -8192 ≤ b ∧ b ≤ 8192) (h0 : -8192 ≤ v0 ∧ v0 ≤ 8192) (h1 : -8192 ≤ w0 ∧ w0 ≤ 8192) (h2 : -8192 ≤ v1 ∧ v1 ≤ 8192) (h3 : -8192 ≤ w1 ∧ w1 ≤ 8192) (hQ : Q (.inl (some (.int (iI (crS b v0 w0 v1 w1))))) T) : XW 80 0 [some (.ref s), some (.int (iI v0)), some (.int (iI w0)), some (.int (iI v1)), some (.int (iI w1)), none] [] T Q := by
  obtain ⟨k1, k2, k3, k4⟩ := h
  have hrun : (iI (v1 - v0) = 0) = (v1 - v0 = 0) := by rw [iI_0, iI_eq ⟨by omega, by omega⟩ ⟨by omega, by omega⟩]
  simp only [e_80_0, e_80_1, e_80_2, e_80_3, e_80_5, e_80_7, e_80_10, e_80_11, XB_i, XB_n, va_rf_s, va_rf_n, mSI_K, mSI_I, mSI_J, mSI_P, mSI_N, mSJ_K, mSJ_I, mSJ_J, mSJ_P, mSJ_N, mSP_K, mSP_I, mSP_J, mSP_P, mSP_N, mNn, mNi, mNr, mN0, al20, al21, al22, al23, al25, true_or, or_true, and_self, if_true, if_false, mCat_n, mCat_i, mCat_r, mCat_l, mCat_0, Nat.reduceAdd, Nat.reduceLeDiff, Nat.reduceLT, true_and, and_true, Nat.zero_le, bI_01, iI_sub, hrun]
  unfold crS at hQ
  by_cases hr : v1 - v0 = 0
  · rw [if_pos hr] at hQ ⊢
    exact hQ
  · rw [if_neg hr] at hQ ⊢
    have hm := mulB (x := w1 - w0) (y := b - v0) (b := 16384) (by omega) (by omega)
    have hN : R32 (2 * (w1 - w0) * (b - v0) + (v1 - v0)) := by
      rw [Int.mul_assoc]
      unfold R32
      omega
    have hN2 : 2 * (w1 - w0) * (b - v0) + (v1 - v0) ≠ -2147483648 := by
      rw [Int.mul_assoc]
      omega
    simp only [e_80_12, e_80_13, e_80_14, e_80_16, e_80_17, e_80_18, e_80_19, e_80_19_n, e_80_20, e_80_23, e_80_24, e_80_25, e_80_26, e_80_28, e_80_29, e_80_30, e_80_32, XB_i, XB_n, va_rf_s, va_rf_n, mSI_K, mSI_I, mSI_J, mSI_P, mSI_N, mSJ_K, mSJ_I, mSJ_J, mSJ_P, mSJ_N, mSP_K, mSP_I, mSP_J, mSP_P, mSP_N, mNn, mNi, mNr, mN0, al20, al21, al22, al23, al25, true_or, or_true, and_self, if_true, if_false, mCat_n, mCat_i, mCat_r, mCat_l, mCat_0, Nat.reduceAdd, Nat.reduceLeDiff, Nat.reduceLT, true_and, and_true, Nat.zero_le, bI_01, k1, k4, iI_lit, iI_sub, iI_mul, iI_add]
    refine c_80_33 (by simp only [XB_i, XB_n, va_rf_s, va_rf_n, mSI_K, mSI_I, mSI_J, mSI_P, mSI_N, mSJ_K, mSJ_I, mSJ_J, mSJ_P, mSJ_N, mSP_K, mSP_I, mSP_J, mSP_P, mSP_N, mNn, mNi, mNr, mN0, al20, al21, al22, al23, al25, true_or, or_true, and_self, if_true, if_false, mCat_n, mCat_i, mCat_r, mCat_l, mCat_0, Nat.reduceAdd, Nat.reduceLeDiff, Nat.reduceLT, true_and, and_true, Nat.zero_le, bI_01]) (ct_floorDiv hN ⟨by omega, by omega⟩ (by omega) hN2 ?_)
    simp only [e_80_36, e_80_37, XB_i, XB_n, va_rf_s, va_rf_n, mSI_K, mSI_I, mSI_J, mSI_P, mSI_N, mSJ_K, mSJ_I, mSJ_J, mSJ_P, mSJ_N, mSP_K, mSP_I, mSP_J, mSP_P, mSP_N, mNn, mNi, mNr, mN0, al20, al21, al22, al23, al25, true_or, or_true, and_self, if_true, if_false, mCat_n, mCat_i, mCat_r, mCat_l, mCat_0, Nat.reduceAdd, Nat.reduceLeDiff, Nat.reduceLT, true_and, and_true, Nat.zero_le, bI_01, iI_add]
    exact hQ
/-- a tile's sides -/
def bdS (w : Nat) (left top : Int) : Int := if w % 2 = 0 then (if w < 2 then left else top) - 8 else (if w < 2 then left else top) + 264
theorem ct_side_set {T : mT} {Q : mOut → mT → Prop} {s w : Nat} {left top : Int} (hk : T.1 s = (9, 0)) (hw : w < 4) (hQ : ∀ T2, SideR T2 s (decide (w < 2)) (decide (w % 2 = 0)) (bdS w left top) → Fr (iv s (s + 1)) T T2 → Q (.inl none) T2) : XW 78 0 [some (.ref s), some (.int (iI w)), some (.int (iI left)), some (.int (iI top)), none] [] T Q := by
  have h10 : ¬ (1 : Int32) = 0 := by decide
  have h20 : ¬ (2 : Int32) = 0 := by decide
  have e01 : (0 : Int32) = 0 ∨ (0 : Int32) = 1 := Or.inl rfl
  have e11 : (1 : Int32) = 0 ∨ (1 : Int32) = 1 := Or.inr rfl
  have f1 : ¬ (s = s ∧ 0 = 1) := by omega
  have f2 : ¬ (s = s ∧ 1 = 0) := by omega
  have fin : ∀ (u l : Bool) (b : Int), u = decide (w < 2) → l = decide (w % 2 = 0) → b = bdS w left top → Q (.inl none) (mSI (mSI (mSI T s 0 (bI u)) s 1 (bI l)) s 2 (iI b)) := by
    intro u l b hu hl hb
    subst hu; subst hl; subst hb
    refine hQ _ ⟨hk, ?_, ?_, ?_⟩ ?_
    · simp only [mSI_I]; rw [mU_n _ _ (by omega), mU_n _ _ (by omega), mU_s]
    · simp only [mSI_I]; rw [mU_n _ _ (by omega), mU_s]
    · simp only [mSI_I]; rw [mU_s]
    · exact Fr.iI (Fr.iI (Fr.iI Fr.rf ⟨by omega, by omega⟩) ⟨by omega, by omega⟩) ⟨by omega, by omega⟩
  have c0 : ¬ (2 : Int32) ≤ iI ((0 : Nat) : Int) := by decide
  have c1 : ¬ (2 : Int32) ≤ iI ((1 : Nat) : Int) := by decide
  have c2 : (2 : Int32) ≤ iI ((2 : Nat) : Int) := by decide
  have c3 : (2 : Int32) ≤ iI ((3 : Nat) : Int) := by decide
  have d0 : iI ((0 : Nat) : Int) - iI ((0 : Nat) : Int) / 2 * 2 = 0 := by decide
  have d1 : ¬ iI ((1 : Nat) : Int) - iI ((1 : Nat) : Int) / 2 * 2 = 0 := by decide
  have d2 : iI ((2 : Nat) : Int) - iI ((2 : Nat) : Int) / 2 * 2 = 0 := by decide
  have d3 : ¬ iI ((3 : Nat) : Int) - iI ((3 : Nat) : Int) / 2 * 2 = 0 := by decide
  have g8 : ∀ z : Int, iI z - 8 = iI (z - 8) := fun z => by rw [iI_lit, iI_sub]
  have g64 : ∀ z : Int, iI z + 256 + 8 = iI (z + 264) := fun z => by rw [iI_lit, iI_lit, iI_add, iI_add]; congr 1; omega
  match w, hw with
  | 0, _ =>
    simp only [e_78_0, e_78_0_n, e_78_1, e_78_2, e_78_3, e_78_6, e_78_7, e_78_10, e_78_11, e_78_14, e_78_14_n, e_78_15, e_78_16, e_78_17, e_78_18, e_78_21, e_78_22, e_78_25, e_78_26, e_78_29, e_78_29_n, e_78_30, e_78_33, e_78_36, e_78_37, e_78_40, e_78_41, e_78_43, e_78_43_n, e_78_44, e_78_44_n, e_78_45, e_78_48, e_78_51, e_78_53, e_78_55, e_78_56, e_78_59, e_78_61, e_78_64, e_78_65, e_78_67, e_78_68, e_78_71, XB_i, XB_n, va_rf_s, va_rf_n, mSI_K, mSI_I, mSI_J, mSI_P, mSI_N, mSJ_K, mSJ_I, mSJ_J, mSJ_P, mSJ_N, mSP_K, mSP_I, mSP_J, mSP_P, mSP_N, mNn, mNi, mNr, mN0, al20, al21, al22, al23, al25, true_or, or_true, and_self, if_true, if_false, mCat_n, mCat_i, mCat_r, mCat_l, mCat_0, Nat.reduceAdd, Nat.reduceLeDiff, Nat.reduceLT, true_and, and_true, Nat.zero_le, bI_01, hk, h10, h20, not_false_eq_true, c0, d0, e01, e11, mU_s, mU_n _ _ f1, mU_n _ _ f2, g8, g64]
    exact fin true true _ rfl rfl rfl
  | 1, _ =>
    simp only [e_78_0, e_78_0_n, e_78_1, e_78_2, e_78_3, e_78_6, e_78_7, e_78_10, e_78_11, e_78_14, e_78_14_n, e_78_15, e_78_16, e_78_17, e_78_18, e_78_21, e_78_22, e_78_25, e_78_26, e_78_29, e_78_29_n, e_78_30, e_78_33, e_78_36, e_78_37, e_78_40, e_78_41, e_78_43, e_78_43_n, e_78_44, e_78_44_n, e_78_45, e_78_48, e_78_51, e_78_53, e_78_55, e_78_56, e_78_59, e_78_61, e_78_64, e_78_65, e_78_67, e_78_68, e_78_71, XB_i, XB_n, va_rf_s, va_rf_n, mSI_K, mSI_I, mSI_J, mSI_P, mSI_N, mSJ_K, mSJ_I, mSJ_J, mSJ_P, mSJ_N, mSP_K, mSP_I, mSP_J, mSP_P, mSP_N, mNn, mNi, mNr, mN0, al20, al21, al22, al23, al25, true_or, or_true, and_self, if_true, if_false, mCat_n, mCat_i, mCat_r, mCat_l, mCat_0, Nat.reduceAdd, Nat.reduceLeDiff, Nat.reduceLT, true_and, and_true, Nat.zero_le, bI_01, hk, h10, h20, not_false_eq_true, c1, d1, e01, e11, mU_s, mU_n _ _ f1, mU_n _ _ f2, g8, g64]
    exact fin true false _ rfl rfl rfl
  | 2, _ =>
    simp only [e_78_0, e_78_0_n, e_78_1, e_78_2, e_78_3, e_78_6, e_78_7, e_78_10, e_78_11, e_78_14, e_78_14_n, e_78_15, e_78_16, e_78_17, e_78_18, e_78_21, e_78_22, e_78_25, e_78_26, e_78_29, e_78_29_n, e_78_30, e_78_33, e_78_36, e_78_37, e_78_40, e_78_41, e_78_43, e_78_43_n, e_78_44, e_78_44_n, e_78_45, e_78_48, e_78_51, e_78_53, e_78_55, e_78_56, e_78_59, e_78_61, e_78_64, e_78_65, e_78_67, e_78_68, e_78_71, XB_i, XB_n, va_rf_s, va_rf_n, mSI_K, mSI_I, mSI_J, mSI_P, mSI_N, mSJ_K, mSJ_I, mSJ_J, mSJ_P, mSJ_N, mSP_K, mSP_I, mSP_J, mSP_P, mSP_N, mNn, mNi, mNr, mN0, al20, al21, al22, al23, al25, true_or, or_true, and_self, if_true, if_false, mCat_n, mCat_i, mCat_r, mCat_l, mCat_0, Nat.reduceAdd, Nat.reduceLeDiff, Nat.reduceLT, true_and, and_true, Nat.zero_le, bI_01, hk, h10, h20, not_false_eq_true, c2, d2, e01, e11, mU_s, mU_n _ _ f1, mU_n _ _ f2, g8, g64]
    exact fin false true _ rfl rfl rfl
  | 3, _ =>
    simp only [e_78_0, e_78_0_n, e_78_1, e_78_2, e_78_3, e_78_6, e_78_7, e_78_10, e_78_11, e_78_14, e_78_14_n, e_78_15, e_78_16, e_78_17, e_78_18, e_78_21, e_78_22, e_78_25, e_78_26, e_78_29, e_78_29_n, e_78_30, e_78_33, e_78_36, e_78_37, e_78_40, e_78_41, e_78_43, e_78_43_n, e_78_44, e_78_44_n, e_78_45, e_78_48, e_78_51, e_78_53, e_78_55, e_78_56, e_78_59, e_78_61, e_78_64, e_78_65, e_78_67, e_78_68, e_78_71, XB_i, XB_n, va_rf_s, va_rf_n, mSI_K, mSI_I, mSI_J, mSI_P, mSI_N, mSJ_K, mSJ_I, mSJ_J, mSJ_P, mSJ_N, mSP_K, mSP_I, mSP_J, mSP_P, mSP_N, mNn, mNi, mNr, mN0, al20, al21, al22, al23, al25, true_or, or_true, and_self, if_true, if_false, mCat_n, mCat_i, mCat_r, mCat_l, mCat_0, Nat.reduceAdd, Nat.reduceLeDiff, Nat.reduceLT, true_and, and_true, Nat.zero_le, bI_01, hk, h10, h20, not_false_eq_true, c3, d3, e01, e11, mU_s, mU_n _ _ f1, mU_n _ _ f2, g8, g64]
    exact fin false false _ rfl rfl rfl
