/-! rules: a run from here is a run from the next place -/
/-- no long begins here -/
def mNL (o : Option Value) : Bool := match o with
  | some v => !(v.category == 2)
  | none => true
theorem mNL_n : mNL none = true := rfl
theorem mNL_i (x : Int32) : mNL (some (.int x)) = true := rfl
theorem mNL_r (x : Nat) : mNL (some (.ref x)) = true := rfl
theorem mNL_0 : mNL (some .null) = true := rfl
theorem mNL_rf (x : Option Nat) : mNL (some (va_rf x)) = true := by cases x <;> rfl
theorem mPl_of {lv : mLv} {i : Nat} {o : Option Value} (h : lv[i]? = some o) (hn : mNL o = true) : mPl lv (i + 1) = false := by
  simp only [mPl, h]
  cases o with
  | none => rfl
  | some v => simpa [mNL] using hn
theorem mSI_K (T : mT) (a k : Nat) (x : Int32) : (mSI T a k x).1 = T.1 := rfl
theorem mSI_I (T : mT) (a k : Nat) (x : Int32) : (mSI T a k x).2.1 = mU T.2.1 a k x := rfl
theorem mSI_J (T : mT) (a k : Nat) (x : Int32) : (mSI T a k x).2.2.1 = T.2.2.1 := rfl
theorem mSI_P (T : mT) (a k : Nat) (x : Int32) : (mSI T a k x).2.2.2.1 = T.2.2.2.1 := rfl
theorem mSI_N (T : mT) (a k : Nat) (x : Int32) : (mSI T a k x).2.2.2.2 = T.2.2.2.2 := rfl
theorem mSJ_K (T : mT) (a k : Nat) (x : Int64) : (mSJ T a k x).1 = T.1 := rfl
theorem mSJ_I (T : mT) (a k : Nat) (x : Int64) : (mSJ T a k x).2.1 = T.2.1 := rfl
theorem mSJ_J (T : mT) (a k : Nat) (x : Int64) : (mSJ T a k x).2.2.1 = mU T.2.2.1 a k x := rfl
theorem mSJ_P (T : mT) (a k : Nat) (x : Int64) : (mSJ T a k x).2.2.2.1 = T.2.2.2.1 := rfl
theorem mSJ_N (T : mT) (a k : Nat) (x : Int64) : (mSJ T a k x).2.2.2.2 = T.2.2.2.2 := rfl
theorem mSP_K (T : mT) (a k : Nat) (x : Option Nat) : (mSP T a k x).1 = T.1 := rfl
theorem mSP_I (T : mT) (a k : Nat) (x : Option Nat) : (mSP T a k x).2.1 = T.2.1 := rfl
theorem mSP_J (T : mT) (a k : Nat) (x : Option Nat) : (mSP T a k x).2.2.1 = T.2.2.1 := rfl
theorem mSP_P (T : mT) (a k : Nat) (x : Option Nat) : (mSP T a k x).2.2.2.1 = mU T.2.2.2.1 a k x := rfl
theorem mSP_N (T : mT) (a k : Nat) (x : Option Nat) : (mSP T a k x).2.2.2.2 = T.2.2.2.2 := rfl
section QR
variable {tab : Nat → Nat → Option mEnt} {ml : Nat → Nat} {hdl : Nat → Nat → Nat → Option Nat} {k pc n i : Nat} {lv : mLv} {st : List Value} {T : mT} {Q : mOut → mT → Prop}
theorem q_s {g : List Value → Option (List Value)} {st' : List Value} (ht : tab k pc = some (.inl (oS n g))) (hg : g st = some st') : AW tab ml hdl k pc lv st T Q = AW tab ml hdl k (pc + n) lv st' T Q := AW_op ht (by unfold oS; rw [hg]) (Nat.le_refl _) (Nat.le_refl _)
theorem q_iiz {f : Int32 → Int32 → Int32} {a b : Int32} (ht : tab k pc = some (.inl (oS n (s_iiz f)))) (hb : ¬ b = 0) : AW tab ml hdl k pc lv (.int b :: .int a :: st) T Q = AW tab ml hdl k (pc + n) lv (.int (f a b) :: st) T Q := q_s ht (by simp [s_iiz, hb])
theorem q_llz {f : Int64 → Int64 → Int64} {a b : Int64} (ht : tab k pc = some (.inl (oS n (s_llz f)))) (hb : ¬ b = 0) : AW tab ml hdl k pc lv (.long b :: .long a :: st) T Q = AW tab ml hdl k (pc + n) lv (.long (f a b) :: st) T Q := q_s ht (by simp [s_llz, hb])
theorem q_dup {v : Value} (ht : tab k pc = some (.inl (oS n s_dup))) (hv : v.category = 1) : AW tab ml hdl k pc lv (v :: st) T Q = AW tab ml hdl k (pc + n) lv (v :: v :: st) T Q := q_s ht (by simp [s_dup, hv])
theorem q_pop {v : Value} (ht : tab k pc = some (.inl (oS n s_pop))) (hv : v.category = 1) : AW tab ml hdl k pc lv (v :: st) T Q = AW tab ml hdl k (pc + n) lv st T Q := q_s ht (by simp [s_pop, hv])
theorem q_dup2 {v w : Value} (ht : tab k pc = some (.inl (oS n s_dup2))) (hv : v.category = 1) (hw : w.category = 1) : AW tab ml hdl k pc lv (v :: w :: st) T Q = AW tab ml hdl k (pc + n) lv (v :: w :: v :: w :: st) T Q := q_s ht (by simp [s_dup2, hv, hw])
theorem q_il {x : Int32} (ht : tab k pc = some (.inl (o_il i n))) (h : lv[i]? = some (some (.int x))) : AW tab ml hdl k pc lv st T Q = AW tab ml hdl k (pc + n) lv (.int x :: st) T Q := AW_op ht (by unfold o_il; rw [h]) (Nat.le_refl _) (Nat.le_refl _)
theorem q_ll {x : Int64} (ht : tab k pc = some (.inl (o_ll i n))) (h : lv[i]? = some (some (.long x))) : AW tab ml hdl k pc lv st T Q = AW tab ml hdl k (pc + n) lv (.long x :: st) T Q := AW_op ht (by unfold o_ll; rw [h]) (Nat.le_refl _) (Nat.le_refl _)
theorem q_al {x : Nat} (ht : tab k pc = some (.inl (o_al i n))) (h : lv[i]? = some (some (.ref x))) : AW tab ml hdl k pc lv st T Q = AW tab ml hdl k (pc + n) lv (.ref x :: st) T Q := AW_op ht (by unfold o_al; rw [h]) (Nat.le_refl _) (Nat.le_refl _)
theorem q_alN (ht : tab k pc = some (.inl (o_al i n))) (h : lv[i]? = some (some .null)) : AW tab ml hdl k pc lv st T Q = AW tab ml hdl k (pc + n) lv (.null :: st) T Q := AW_op ht (by unfold o_al; rw [h]) (Nat.le_refl _) (Nat.le_refl _)
theorem q_is {x : Int32} {lv' : mLv} (ht : tab k pc = some (.inl (o_is i n))) (hl : i < lv.length) (hp : mPl lv i = false) (he : lv.set i (some (.int x)) = lv') : AW tab ml hdl k pc lv (.int x :: st) T Q = AW tab ml hdl k (pc + n) lv' st T Q := AW_op ht (by unfold o_is; simp only [hl, hp, he, and_self, if_true]) (Nat.le_refl _) (Nat.le_refl _)
theorem q_as {x : Nat} {lv' : mLv} (ht : tab k pc = some (.inl (o_as i n))) (hl : i < lv.length) (hp : mPl lv i = false) (he : lv.set i (some (.ref x)) = lv') : AW tab ml hdl k pc lv (.ref x :: st) T Q = AW tab ml hdl k (pc + n) lv' st T Q := AW_op ht (by unfold o_as; simp only [hl, hp, he, and_self, if_true]) (Nat.le_refl _) (Nat.le_refl _)
theorem q_asN {lv' : mLv} (ht : tab k pc = some (.inl (o_as i n))) (hl : i < lv.length) (hp : mPl lv i = false) (he : lv.set i (some .null) = lv') : AW tab ml hdl k pc lv (.null :: st) T Q = AW tab ml hdl k (pc + n) lv' st T Q := AW_op ht (by unfold o_as; simp only [hl, hp, he, and_self, if_true]) (Nat.le_refl _) (Nat.le_refl _)
theorem q_ls {x : Int64} {lv' : mLv} (ht : tab k pc = some (.inl (o_ls i n))) (hl : i + 1 < lv.length) (hp : mPl lv i = false) (he : (lv.set i (some (.long x))).set (i + 1) none = lv') : AW tab ml hdl k pc lv (.long x :: st) T Q = AW tab ml hdl k (pc + n) lv' st T Q := AW_op ht (by unfold o_ls; simp only [hl, hp, he, and_self, if_true]) (Nat.le_refl _) (Nat.le_refl _)
theorem q_inc {d x : Int32} {lv' : mLv} (ht : tab k pc = some (.inl (o_inc i d))) (h : lv[i]? = some (some (.int x))) (hp : mPl lv i = false) (he : lv.set i (some (.int (x + d))) = lv') : AW tab ml hdl k pc lv st T Q = AW tab ml hdl k (pc + 3) lv' st T Q := AW_op ht (by unfold o_inc; rw [h]; simp only [hp, he, if_true]) (Nat.le_refl _) (Nat.le_refl _)
theorem q_goto {t : Nat} (ht : tab k pc = some (.inl (o_goto t))) : AW tab ml hdl k pc lv st T Q = AW tab ml hdl k t lv st T Q := AW_op ht rfl (Nat.le_refl _) (Nat.le_refl _)
theorem q_ite {c : Prop} [Decidable c] {a b : Nat} : AW tab ml hdl k (if c then a else b) lv st T Q = if c then AW tab ml hdl k a lv st T Q else AW tab ml hdl k b lv st T Q := by split <;> rfl
theorem q_zeq {t : Nat} {x : Int32} (ht : tab k pc = some (.inl (o_zeq t))) : AW tab ml hdl k pc lv (.int x :: st) T Q = if x = 0 then AW tab ml hdl k t lv st T Q else AW tab ml hdl k (pc + 3) lv st T Q := (AW_op ht rfl (Nat.le_refl _) (Nat.le_refl _)).trans q_ite
theorem q_zne {t : Nat} {x : Int32} (ht : tab k pc = some (.inl (o_zne t))) : AW tab ml hdl k pc lv (.int x :: st) T Q = if x = 0 then AW tab ml hdl k (pc + 3) lv st T Q else AW tab ml hdl k t lv st T Q := ((AW_op ht rfl (Nat.le_refl _) (Nat.le_refl _)).trans q_ite).trans (by by_cases h : x = 0 <;> simp [h])
theorem q_zlt {t : Nat} {x : Int32} (ht : tab k pc = some (.inl (o_zlt t))) : AW tab ml hdl k pc lv (.int x :: st) T Q = if x < 0 then AW tab ml hdl k t lv st T Q else AW tab ml hdl k (pc + 3) lv st T Q := (AW_op ht rfl (Nat.le_refl _) (Nat.le_refl _)).trans q_ite
theorem q_zge {t : Nat} {x : Int32} (ht : tab k pc = some (.inl (o_zge t))) : AW tab ml hdl k pc lv (.int x :: st) T Q = if 0 ≤ x then AW tab ml hdl k t lv st T Q else AW tab ml hdl k (pc + 3) lv st T Q := (AW_op ht rfl (Nat.le_refl _) (Nat.le_refl _)).trans q_ite
theorem q_zgt {t : Nat} {x : Int32} (ht : tab k pc = some (.inl (o_zgt t))) : AW tab ml hdl k pc lv (.int x :: st) T Q = if 0 < x then AW tab ml hdl k t lv st T Q else AW tab ml hdl k (pc + 3) lv st T Q := (AW_op ht rfl (Nat.le_refl _) (Nat.le_refl _)).trans q_ite
theorem q_zle {t : Nat} {x : Int32} (ht : tab k pc = some (.inl (o_zle t))) : AW tab ml hdl k pc lv (.int x :: st) T Q = if x ≤ 0 then AW tab ml hdl k t lv st T Q else AW tab ml hdl k (pc + 3) lv st T Q := (AW_op ht rfl (Nat.le_refl _) (Nat.le_refl _)).trans q_ite
theorem q_ceq {t : Nat} {a b : Int32} (ht : tab k pc = some (.inl (o_ceq t))) : AW tab ml hdl k pc lv (.int b :: .int a :: st) T Q = if a = b then AW tab ml hdl k t lv st T Q else AW tab ml hdl k (pc + 3) lv st T Q := (AW_op ht rfl (Nat.le_refl _) (Nat.le_refl _)).trans q_ite
theorem q_cne {t : Nat} {a b : Int32} (ht : tab k pc = some (.inl (o_cne t))) : AW tab ml hdl k pc lv (.int b :: .int a :: st) T Q = if a = b then AW tab ml hdl k (pc + 3) lv st T Q else AW tab ml hdl k t lv st T Q := ((AW_op ht rfl (Nat.le_refl _) (Nat.le_refl _)).trans q_ite).trans (by by_cases h : a = b <;> simp [h])
theorem q_clt {t : Nat} {a b : Int32} (ht : tab k pc = some (.inl (o_clt t))) : AW tab ml hdl k pc lv (.int b :: .int a :: st) T Q = if a < b then AW tab ml hdl k t lv st T Q else AW tab ml hdl k (pc + 3) lv st T Q := (AW_op ht rfl (Nat.le_refl _) (Nat.le_refl _)).trans q_ite
theorem q_cge {t : Nat} {a b : Int32} (ht : tab k pc = some (.inl (o_cge t))) : AW tab ml hdl k pc lv (.int b :: .int a :: st) T Q = if b ≤ a then AW tab ml hdl k t lv st T Q else AW tab ml hdl k (pc + 3) lv st T Q := (AW_op ht rfl (Nat.le_refl _) (Nat.le_refl _)).trans q_ite
theorem q_cgt {t : Nat} {a b : Int32} (ht : tab k pc = some (.inl (o_cgt t))) : AW tab ml hdl k pc lv (.int b :: .int a :: st) T Q = if b < a then AW tab ml hdl k t lv st T Q else AW tab ml hdl k (pc + 3) lv st T Q := (AW_op ht rfl (Nat.le_refl _) (Nat.le_refl _)).trans q_ite
theorem q_cle {t : Nat} {a b : Int32} (ht : tab k pc = some (.inl (o_cle t))) : AW tab ml hdl k pc lv (.int b :: .int a :: st) T Q = if a ≤ b then AW tab ml hdl k t lv st T Q else AW tab ml hdl k (pc + 3) lv st T Q := (AW_op ht rfl (Nat.le_refl _) (Nat.le_refl _)).trans q_ite
theorem q_null {t : Nat} {x : Option Nat} (ht : tab k pc = some (.inl (o_null t))) : AW tab ml hdl k pc lv (va_rf x :: st) T Q = if x = none then AW tab ml hdl k t lv st T Q else AW tab ml hdl k (pc + 3) lv st T Q := by
  cases x with
  | none => rw [if_pos rfl]; exact AW_op ht rfl (Nat.le_refl _) (Nat.le_refl _)
  | some a => rw [if_neg (by simp)]; exact AW_op ht rfl (Nat.le_refl _) (Nat.le_refl _)
theorem q_nnull {t : Nat} {x : Option Nat} (ht : tab k pc = some (.inl (o_nnull t))) : AW tab ml hdl k pc lv (va_rf x :: st) T Q = if x = none then AW tab ml hdl k (pc + 3) lv st T Q else AW tab ml hdl k t lv st T Q := by
  cases x with
  | none => rw [if_pos rfl]; exact AW_op ht rfl (Nat.le_refl _) (Nat.le_refl _)
  | some a => rw [if_neg (by simp)]; exact AW_op ht rfl (Nat.le_refl _) (Nat.le_refl _)
theorem q_tsw {lo hi : Int} {ts : List Nat} {d : Nat} {x : Int32} (ht : tab k pc = some (.inl (o_tsw lo hi ts d))) : AW tab ml hdl k pc lv (.int x :: st) T Q = AW tab ml hdl k (if x.toInt < lo ∨ hi < x.toInt then d else ts.getD (x.toInt - lo).toNat d) lv st T Q := AW_op ht rfl (Nat.le_refl _) (Nat.le_refl _)
theorem q_gI {ci f a : Nat} (ht : tab k pc = some (.inl (o_gI ci f))) (ha : (T.1 a).1 = ci + 1) : AW tab ml hdl k pc lv (.ref a :: st) T Q = AW tab ml hdl k (pc + 3) lv (.int (T.2.1 a f) :: st) T Q := AW_op ht (by unfold o_gI; simp only [ha, if_true]) (Nat.le_refl _) (Nat.le_refl _)
theorem q_gJ {ci f a : Nat} (ht : tab k pc = some (.inl (o_gJ ci f))) (ha : (T.1 a).1 = ci + 1) : AW tab ml hdl k pc lv (.ref a :: st) T Q = AW tab ml hdl k (pc + 3) lv (.long (T.2.2.1 a f) :: st) T Q := AW_op ht (by unfold o_gJ; simp only [ha, if_true]) (Nat.le_refl _) (Nat.le_refl _)
theorem q_gP {ci f a : Nat} (ht : tab k pc = some (.inl (o_gP ci f))) (ha : (T.1 a).1 = ci + 1) : AW tab ml hdl k pc lv (.ref a :: st) T Q = AW tab ml hdl k (pc + 3) lv (va_rf (T.2.2.2.1 a f) :: st) T Q := AW_op ht (by unfold o_gP; simp only [ha, if_true]) (Nat.le_refl _) (Nat.le_refl _)
theorem q_pI {ci f a : Nat} {x : Int32} (ht : tab k pc = some (.inl (o_pI ci f))) (ha : (T.1 a).1 = ci + 1) : AW tab ml hdl k pc lv (.int x :: .ref a :: st) T Q = AW tab ml hdl k (pc + 3) lv st (mSI T a f x) Q := AW_op ht (by unfold o_pI; simp only [ha, if_true]) (Nat.le_refl _) (Nat.le_refl _)
theorem q_pZ {ci f a : Nat} {x : Int32} (ht : tab k pc = some (.inl (o_pZ ci f))) (ha : (T.1 a).1 = ci + 1) (hx : x = 0 ∨ x = 1) : AW tab ml hdl k pc lv (.int x :: .ref a :: st) T Q = AW tab ml hdl k (pc + 3) lv st (mSI T a f x) Q := AW_op ht (by unfold o_pZ; simp only [ha, hx, and_self, if_true]) (Nat.le_refl _) (Nat.le_refl _)
theorem q_pJ {ci f a : Nat} {x : Int64} (ht : tab k pc = some (.inl (o_pJ ci f))) (ha : (T.1 a).1 = ci + 1) : AW tab ml hdl k pc lv (.long x :: .ref a :: st) T Q = AW tab ml hdl k (pc + 3) lv st (mSJ T a f x) Q := AW_op ht (by unfold o_pJ; simp only [ha, if_true]) (Nat.le_refl _) (Nat.le_refl _)
theorem q_pP {ci f a x : Nat} (ht : tab k pc = some (.inl (o_pP ci f))) (ha : (T.1 a).1 = ci + 1) : AW tab ml hdl k pc lv (.ref x :: .ref a :: st) T Q = AW tab ml hdl k (pc + 3) lv st (mSP T a f (some x)) Q := AW_op ht (by unfold o_pP; simp only [ha, if_true]) (Nat.le_refl _) (Nat.le_refl _)
theorem q_iald {a : Nat} {j : Int32} (ht : tab k pc = some (.inl o_iald)) (ha : (T.1 a).1 = 21) (hj : mInB j (T.1 a).2 = true) : AW tab ml hdl k pc lv (.int j :: .ref a :: st) T Q = AW tab ml hdl k (pc + 1) lv (.int (T.2.1 a j.toNatClampNeg) :: st) T Q := AW_op ht (by unfold o_iald; simp only [ha, hj, and_self, if_true]) (Nat.le_refl _) (Nat.le_refl _)
theorem q_sld {a : Nat} {j : Int32} (ht : tab k pc = some (.inl o_sld)) (ha : (T.1 a).1 = 30) (hj : mInB j (T.1 a).2 = true) : AW tab ml hdl k pc lv (.int j :: .ref a :: st) T Q = AW tab ml hdl k (pc + 1) lv (.int (T.2.1 a j.toNatClampNeg) :: st) T Q := AW_op ht (by unfold o_sld; simp only [ha, hj, and_self, if_true]) (Nat.le_refl _) (Nat.le_refl _)
theorem q_bald {a : Nat} {j : Int32} (ht : tab k pc = some (.inl o_bald)) (ha : (T.1 a).1 = 20 ∨ (T.1 a).1 = 23) (hj : mInB j (T.1 a).2 = true) : AW tab ml hdl k pc lv (.int j :: .ref a :: st) T Q = AW tab ml hdl k (pc + 1) lv (.int (T.2.1 a j.toNatClampNeg) :: st) T Q := AW_op ht (by unfold o_bald; simp only [ha, hj, and_self, if_true]) (Nat.le_refl _) (Nat.le_refl _)
theorem q_lald {a : Nat} {j : Int32} (ht : tab k pc = some (.inl o_lald)) (ha : (T.1 a).1 = 22) (hj : mInB j (T.1 a).2 = true) : AW tab ml hdl k pc lv (.int j :: .ref a :: st) T Q = AW tab ml hdl k (pc + 1) lv (.long (T.2.2.1 a j.toNatClampNeg) :: st) T Q := AW_op ht (by unfold o_lald; simp only [ha, hj, and_self, if_true]) (Nat.le_refl _) (Nat.le_refl _)
theorem q_aald {a : Nat} {j : Int32} (ht : tab k pc = some (.inl o_aald)) (ha : (T.1 a).1 = 24 ∨ (T.1 a).1 = 25 ∨ (T.1 a).1 = 26) (hj : mInB j (T.1 a).2 = true) : AW tab ml hdl k pc lv (.int j :: .ref a :: st) T Q = AW tab ml hdl k (pc + 1) lv (va_rf (T.2.2.2.1 a j.toNatClampNeg) :: st) T Q := AW_op ht (by unfold o_aald; simp only [ha, hj, and_self, if_true]) (Nat.le_refl _) (Nat.le_refl _)
theorem q_alen {a : Nat} (ht : tab k pc = some (.inl o_alen)) (ha : 20 ≤ (T.1 a).1 ∧ (T.1 a).1 < 27) : AW tab ml hdl k pc lv (.ref a :: st) T Q = AW tab ml hdl k (pc + 1) lv (.int (nI (T.1 a).2) :: st) T Q := AW_op ht (by unfold o_alen; exact if_pos ha) (Nat.le_refl _) (Nat.le_refl _)
theorem q_slen {a : Nat} (ht : tab k pc = some (.inl o_slen)) (ha : (T.1 a).1 = 30) : AW tab ml hdl k pc lv (.ref a :: st) T Q = AW tab ml hdl k (pc + 1) lv (.int (nI (T.1 a).2) :: st) T Q := AW_op ht (by unfold o_slen; exact if_pos ha) (Nat.le_refl _) (Nat.le_refl _)
theorem q_iast {a : Nat} {j x : Int32} (ht : tab k pc = some (.inl o_iast)) (ha : (T.1 a).1 = 21) (hj : mInB j (T.1 a).2 = true) : AW tab ml hdl k pc lv (.int x :: .int j :: .ref a :: st) T Q = AW tab ml hdl k (pc + 1) lv st (mSI T a j.toNatClampNeg x) Q := AW_op ht (by unfold o_iast; simp only [ha, hj, and_self, if_true]) (Nat.le_refl _) (Nat.le_refl _)
theorem q_bast {a : Nat} {j x : Int32} (ht : tab k pc = some (.inl o_bast)) (ha : (T.1 a).1 = 20) (hj : mInB j (T.1 a).2 = true) : AW tab ml hdl k pc lv (.int x :: .int j :: .ref a :: st) T Q = AW tab ml hdl k (pc + 1) lv st (mSI T a j.toNatClampNeg x.toInt8.toInt32) Q := AW_op ht (by unfold o_bast; simp only [ha, hj, and_self, if_true]) (Nat.le_refl _) (Nat.le_refl _)
theorem q_zast {a : Nat} {j x : Int32} (ht : tab k pc = some (.inl o_bast)) (ha : (T.1 a).1 = 23) (hj : mInB j (T.1 a).2 = true) (hx : x = 0 ∨ x = 1) : AW tab ml hdl k pc lv (.int x :: .int j :: .ref a :: st) T Q = AW tab ml hdl k (pc + 1) lv st (mSI T a j.toNatClampNeg x) Q := AW_op ht (by unfold o_bast; simp only [ha, hj, hx, and_self, if_true]; rfl) (Nat.le_refl _) (Nat.le_refl _)
theorem q_last {a : Nat} {j : Int32} {x : Int64} (ht : tab k pc = some (.inl o_last)) (ha : (T.1 a).1 = 22) (hj : mInB j (T.1 a).2 = true) : AW tab ml hdl k pc lv (.long x :: .int j :: .ref a :: st) T Q = AW tab ml hdl k (pc + 1) lv st (mSJ T a j.toNatClampNeg x) Q := AW_op ht (by unfold o_last; simp only [ha, hj, and_self, if_true]) (Nat.le_refl _) (Nat.le_refl _)
theorem q_aast {a x : Nat} {j : Int32} (ht : tab k pc = some (.inl o_aast)) (ha : (T.1 a).1 = 24 ∨ (T.1 a).1 = 25 ∨ (T.1 a).1 = 26) (hx : (T.1 x).1 = mCo (T.1 a).1) (hj : mInB j (T.1 a).2 = true) : AW tab ml hdl k pc lv (.ref x :: .int j :: .ref a :: st) T Q = AW tab ml hdl k (pc + 1) lv st (mSP T a j.toNatClampNeg (some x)) Q := AW_op ht (by unfold o_aast; exact if_pos ⟨ha, hx, hj⟩) (Nat.le_refl _) (Nat.le_refl _)
theorem q_new {ci : Nat} (ht : tab k pc = some (.inl (o_new ci))) : AW tab ml hdl k pc lv st T Q = AW tab ml hdl k (pc + 3) lv (.ref T.2.2.2.2.1 :: st) (mNw T (ci + 1) 0 (mNF ci)) Q := AW_op ht rfl (Nat.le_succ _) (Nat.le_add_right _ _)
theorem q_newa {t : Nat} {x : Int32} (ht : tab k pc = some (.inl (o_newa t))) (hx : ¬ x < 0 ∧ x.toNatClampNeg ≤ 65536) : AW tab ml hdl k pc lv (.int x :: st) T Q = AW tab ml hdl k (pc + 2) lv (.ref T.2.2.2.2.1 :: st) (mNw T (20 + t) x.toNatClampNeg x.toNatClampNeg) Q := AW_op ht (by unfold o_newa; exact if_pos hx) (Nat.le_succ _) (Nat.le_add_right _ _)
theorem q_newq {t : Nat} {x : Int32} (ht : tab k pc = some (.inl (o_newq t))) (hx : ¬ x < 0 ∧ x.toNatClampNeg ≤ 65536) : AW tab ml hdl k pc lv (.int x :: st) T Q = AW tab ml hdl k (pc + 3) lv (.ref T.2.2.2.2.1 :: st) (mNw T (20 + t) x.toNatClampNeg x.toNatClampNeg) Q := AW_op ht (by unfold o_newq; exact if_pos hx) (Nat.le_succ _) (Nat.le_add_right _ _)
end QR
/-! a table's tree -/
theorem nd {α : Type} {P : Prop} {b : Bool} {x y : Option α} {q : α} (h : (bif b then x else y) = some q) (hx : x = some q → P) (hy : y = some q → P) : P := by
  cases b
  · exact hy h
  · exact hx h
theorem lf {P : Nat → mEnt → Prop} {pc n : Nat} {e q : mEnt} (h : (bif Nat.beq pc n then some e else none) = some q) (hp : P n e) : P pc q := by
  cases hb : Nat.beq pc n
  · rw [hb] at h; cases h
  · rw [hb] at h
    cases h
    rw [Nat.eq_of_beq_eq_true hb]
    exact hp
theorem lk {P : Nat → Prop} {k n : Nat} {x : Option mEnt} {q : mEnt} (h : (bif Nat.beq k n then x else none) = some q) (hp : x = some q → P n) : P k := by
  cases hb : Nat.beq k n
  · rw [hb] at h; cases h
  · rw [hb] at h
    rw [Nat.eq_of_beq_eq_true hb]
    exact hp h
