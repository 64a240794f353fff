/-! frames, and what else every contract uses -/
/-- between T and T2 only addresses in S were written -/
def Fr (S : Nat → Prop) (T T2 : mT) : Prop := T2.1 = T.1 ∧ T2.2.2.2.2 = T.2.2.2.2 ∧ ∀ b, ¬ S b → T2.2.1 b = T.2.1 b ∧ T2.2.2.1 b = T.2.2.1 b ∧ T2.2.2.2.1 b = T.2.2.2.1 b
/-- the addresses from a on, below b -/
def iv (a b : Nat) : Nat → Prop := fun q => a ≤ q ∧ q < b
theorem Fr.rf {S : Nat → Prop} {T : mT} : Fr S T T := ⟨rfl, rfl, fun _ _ => ⟨rfl, rfl, rfl⟩⟩
theorem Fr.tr {S : Nat → Prop} {T T1 T2 : mT} (h : Fr S T T1) (h2 : Fr S T1 T2) : Fr S T T2 := ⟨h2.1.trans h.1, h2.2.1.trans h.2.1, fun b hb => ⟨((h2.2.2 b hb).1).trans (h.2.2 b hb).1, ((h2.2.2 b hb).2.1).trans (h.2.2 b hb).2.1, ((h2.2.2 b hb).2.2).trans (h.2.2 b hb).2.2⟩⟩
theorem Fr.mono {S S2 : Nat → Prop} {T T1 : mT} (h : Fr S T T1) (hs : ∀ b, S b → S2 b) : Fr S2 T T1 := ⟨h.1, h.2.1, fun b hb => h.2.2 b (fun q => hb (hs b q))⟩
theorem Fr.sI {S : Nat → Prop} {T : mT} {a k : Nat} {x : Int32} (h : S a) : Fr S T (mSI T a k x) := ⟨rfl, rfl, fun b hb => ⟨mU_b _ _ (fun q => hb (by rw [q]; exact h)), rfl, rfl⟩⟩
theorem Fr.sJ {S : Nat → Prop} {T : mT} {a k : Nat} {x : Int64} (h : S a) : Fr S T (mSJ T a k x) := ⟨rfl, rfl, fun b hb => ⟨rfl, mU_b _ _ (fun q => hb (by rw [q]; exact h)), rfl⟩⟩
theorem Fr.sP {S : Nat → Prop} {T : mT} {a k : Nat} {x : Option Nat} (h : S a) : Fr S T (mSP T a k x) := ⟨rfl, rfl, fun b hb => ⟨rfl, rfl, mU_b _ _ (fun q => hb (by rw [q]; exact h))⟩⟩
theorem Fr.iI {S : Nat → Prop} {T T1 : mT} {a k : Nat} {x : Int32} (h : Fr S T T1) (ha : S a) : Fr S T (mSI T1 a k x) := h.tr (Fr.sI ha)
theorem Fr.iJ {S : Nat → Prop} {T T1 : mT} {a k : Nat} {x : Int64} (h : Fr S T T1) (ha : S a) : Fr S T (mSJ T1 a k x) := h.tr (Fr.sJ ha)
theorem Fr.iP {S : Nat → Prop} {T T1 : mT} {a k : Nat} {x : Option Nat} (h : Fr S T T1) (ha : S a) : Fr S T (mSP T1 a k x) := h.tr (Fr.sP ha)
theorem Fr.K {S : Nat → Prop} {T T2 : mT} (h : Fr S T T2) (b : Nat) : T2.1 b = T.1 b := by rw [h.1]
theorem Fr.I {S : Nat → Prop} {T T2 : mT} (h : Fr S T T2) {b : Nat} (hb : ¬ S b) : T2.2.1 b = T.2.1 b := (h.2.2 b hb).1
theorem Fr.J {S : Nat → Prop} {T T2 : mT} (h : Fr S T T2) {b : Nat} (hb : ¬ S b) : T2.2.2.1 b = T.2.2.1 b := (h.2.2 b hb).2.1
theorem Fr.P {S : Nat → Prop} {T T2 : mT} (h : Fr S T T2) {b : Nat} (hb : ¬ S b) : T2.2.2.2.1 b = T.2.2.2.1 b := (h.2.2 b hb).2.2
theorem va_rf_s (x : Nat) : va_rf (some x) = .ref x := rfl
theorem va_rf_n : va_rf none = .null := rfl
theorem mCat_n : mCat [] = 0 := by simp [mCat]
theorem mCat_i (x : Int32) (r : List Value) : mCat (.int x :: r) = 1 + mCat r := by simp [mCat, Value.category]
theorem mCat_r (x : Nat) (r : List Value) : mCat (.ref x :: r) = 1 + mCat r := by simp [mCat, Value.category]
theorem mCat_0 (r : List Value) : mCat (.null :: r) = 1 + mCat r := by simp [mCat, Value.category]
theorem mCat_l (x : Int64) (r : List Value) : mCat (.long x :: r) = 2 + mCat r := by simp [mCat, Value.category]
theorem mCat_f (x : Option Nat) (r : List Value) : mCat (va_rf x :: r) = 1 + mCat r := by cases x <;> simp [mCat, va_rf, Value.category]
theorem XB_i {k pc : Nat} {lv : mLv} {r : List Value} {Q : mOut → mT → Prop} {v : Value} {T : mT} : XB k pc lv r Q (.inl (some v)) T = XW k (pc + 3) lv (v :: r) T Q := rfl
theorem XB_n {k pc : Nat} {lv : mLv} {r : List Value} {Q : mOut → mT → Prop} {T : mT} : XB k pc lv r Q (.inl none) T = XW k (pc + 3) lv r T Q := rfl
/-- a boolean as the JVM has it -/
def bI (b : Bool) : Int32 := if b then 1 else 0
theorem bI_01 (b : Bool) : bI b = 0 ∨ bI b = 1 := by cases b <;> simp [bI]
theorem bI_t : bI true = 1 := rfl
theorem bI_f : bI false = 0 := rfl
theorem bI_0 (b : Bool) : (bI b = 0) = (b = false) := by cases b <;> simp [bI]
theorem toInt8_idem (x : Int32) : x.toInt8.toInt32.toInt8.toInt32 = x.toInt8.toInt32 := by
  rw [Int8.toInt8_toInt32]
theorem al20 : (20 ≤ 20 ∧ 20 < 27) = True := by simp
theorem al21 : (20 ≤ 21 ∧ 21 < 27) = True := by simp
theorem al22 : (20 ≤ 22 ∧ 22 < 27) = True := by simp
theorem al23 : (20 ≤ 23 ∧ 23 < 27) = True := by simp
theorem al25 : (20 ≤ 25 ∧ 25 < 27) = True := by simp
theorem mNn : mNL none = true := by unfold mNL; rfl
theorem mNi (x : Int32) : mNL (some (Value.int x)) = true := by unfold mNL; rfl
theorem mNr (x : Nat) : mNL (some (Value.ref x)) = true := by unfold mNL; rfl
theorem mN0 : mNL (some Value.null) = true := by unfold mNL; rfl
