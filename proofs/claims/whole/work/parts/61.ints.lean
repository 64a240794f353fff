/-! ints by their numbers -/
def iI (z : Int) : Int32 := Int32.ofInt z
def lI (z : Int) : Int64 := Int64.ofInt z
def R32 (z : Int) : Prop := -2147483648 ≤ z ∧ z < 2147483648
theorem nI_i (n : Nat) : nI n = iI n := by
  unfold nI iI
  rw [Int32.ofInt_eq_ofNat]
theorem iI_toInt {z : Int} (h : R32 z) : (iI z).toInt = z := by
  unfold iI
  rw [Int32.toInt_ofInt, show Int32.size = 4294967296 from rfl]
  unfold R32 at h
  rw [Int.bmod_def]
  split <;> omega
theorem iI_of (x : Int32) : x = iI x.toInt := (Int32.ofInt_toInt x).symm
theorem R32_of (x : Int32) : R32 x.toInt := ⟨by have := Int32.le_toInt x; simpa using this, by have := Int32.toInt_lt x; simpa using this⟩
theorem iI_ex (x : Int32) : ∃ z, R32 z ∧ x = iI z := ⟨x.toInt, R32_of x, iI_of x⟩
theorem iI_add (a b : Int) : iI a + iI b = iI (a + b) := (Int32.ofInt_add a b).symm
theorem iI_sub (a b : Int) : iI a - iI b = iI (a - b) := (Int32.ofInt_sub a b).symm
theorem iI_mul (a b : Int) : iI a * iI b = iI (a * b) := (Int32.ofInt_mul a b).symm
theorem iI_neg (a : Int) : -iI a = iI (-a) := (Int32.ofInt_neg a).symm
theorem iI_inj {a b : Int} (ha : R32 a) (hb : R32 b) (h : iI a = iI b) : a = b := by
  have := congrArg Int32.toInt h
  rwa [iI_toInt ha, iI_toInt hb] at this
theorem iI_eq {a b : Int} (ha : R32 a) (hb : R32 b) : (iI a = iI b) = (a = b) := propext ⟨iI_inj ha hb, fun h => by rw [h]⟩
theorem iI_lt {a b : Int} (ha : R32 a) (hb : R32 b) : (iI a < iI b) = (a < b) := by rw [Int32.lt_iff_toInt_lt, iI_toInt ha, iI_toInt hb]
theorem iI_le {a b : Int} (ha : R32 a) (hb : R32 b) : (iI a ≤ iI b) = (a ≤ b) := by rw [Int32.le_iff_toInt_le, iI_toInt ha, iI_toInt hb]
theorem iI_0 : (0 : Int32) = iI 0 := rfl
theorem iI_1 : (1 : Int32) = iI 1 := rfl
theorem iI_lit (n : Nat) : (OfNat.ofNat n : Int32) = iI (OfNat.ofNat n) := by
  show Int32.ofNat n = Int32.ofInt (n : Int)
  rw [Int32.ofInt_eq_ofNat]
theorem iI_cl {z : Int} (h0 : 0 ≤ z) (h : z < 2147483648) : (iI z).toNatClampNeg = z.toNat := by
  show (iI z).toInt.toNat = z.toNat
  rw [iI_toInt ⟨by omega, h⟩]
theorem mInB_i {z : Int} {n : Nat} (h0 : 0 ≤ z) (h : z < n) (hn : n < 2 ^ 31) : mInB (iI z) n = true := by
  refine mInB_t.mpr ⟨?_, ?_⟩
  · rw [iI_0, iI_lt ⟨by omega, by omega⟩ ⟨by omega, by omega⟩]; omega
  · rw [iI_cl h0 (by omega)]; omega
theorem bI_i (b : Bool) : bI b = iI (if b then 1 else 0) := by cases b <;> rfl
theorem lI_add (a b : Int) : lI a + lI b = lI (a + b) := (Int64.ofInt_add a b).symm
theorem lI_sub (a b : Int) : lI a - lI b = lI (a - b) := (Int64.ofInt_sub a b).symm
theorem lI_mul (a b : Int) : lI a * lI b = lI (a * b) := (Int64.ofInt_mul a b).symm
theorem lI_neg (a : Int) : -lI a = lI (-a) := (Int64.ofInt_neg a).symm
def R64 (z : Int) : Prop := -9223372036854775808 ≤ z ∧ z < 9223372036854775808
theorem lI_toInt {z : Int} (h : R64 z) : (lI z).toInt = z := by
  unfold lI
  rw [Int64.toInt_ofInt, show Int64.size = 18446744073709551616 from rfl]
  unfold R64 at h
  rw [Int.bmod_def]
  split <;> omega
theorem lI_of (x : Int64) : x = lI x.toInt := (Int64.ofInt_toInt x).symm
theorem R64_of (x : Int64) : R64 x.toInt := ⟨by have := Int64.le_toInt x; simpa using this, by have := Int64.toInt_lt x; simpa using this⟩
theorem lI_eq {a b : Int} (ha : R64 a) (hb : R64 b) : (lI a = lI b) = (a = b) := propext ⟨fun h => by have := congrArg Int64.toInt h; rwa [lI_toInt ha, lI_toInt hb] at this, fun h => by rw [h]⟩
theorem lI_lt {a b : Int} (ha : R64 a) (hb : R64 b) : (lI a < lI b) = (a < b) := by rw [Int64.lt_iff_toInt_lt, lI_toInt ha, lI_toInt hb]
theorem lI_le {a b : Int} (ha : R64 a) (hb : R64 b) : (lI a ≤ lI b) = (a ≤ b) := by rw [Int64.le_iff_toInt_le, lI_toInt ha, lI_toInt hb]
theorem lI_lit (n : Nat) : (OfNat.ofNat n : Int64) = lI (OfNat.ofNat n) := by
  show Int64.ofNat n = Int64.ofInt (n : Int)
  rw [Int64.ofInt_eq_ofNat]
theorem i2l_i {z : Int} (h : R32 z) : (iI z).toInt64 = lI z := by
  rw [lI_of (iI z).toInt64, Int32.toInt_toInt64, iI_toInt h]
theorem l2i_l (z : Int) : (lI z).toInt32 = iI z := by
  unfold lI iI
  rw [Int64.toInt32_ofInt]
theorem mulB {x y b : Int} (hx : -b ≤ x ∧ x ≤ b) (hy : -b ≤ y ∧ y ≤ b) : -(b * b) ≤ x * y ∧ x * y ≤ b * b := by
  have hb : 0 ≤ b := by omega
  rcases Int.le_total 0 x with h1 | h1 <;> rcases Int.le_total 0 y with h2 | h2
  · have a1 : 0 ≤ x * y := Int.mul_nonneg h1 h2
    have a2 : x * y ≤ b * b := Int.mul_le_mul hx.2 hy.2 h2 hb
    omega
  · have a1 : x * y ≤ 0 := Int.mul_nonpos_of_nonneg_of_nonpos h1 h2
    have a2 : x * (-y) ≤ b * b := Int.mul_le_mul hx.2 (by omega) (by omega) hb
    rw [Int.mul_neg] at a2
    omega
  · have a1 : x * y ≤ 0 := Int.mul_nonpos_of_nonpos_of_nonneg h1 h2
    have a2 : (-x) * y ≤ b * b := Int.mul_le_mul (by omega) hy.2 h2 hb
    rw [Int.neg_mul] at a2
    omega
  · have a1 : 0 ≤ x * y := Int.mul_nonneg_of_nonpos_of_nonpos h1 h2
    have a2 : (-x) * (-y) ≤ b * b := Int.mul_le_mul (by omega) (by omega) (by omega) hb
    rw [Int.neg_mul_neg] at a2
    omega
