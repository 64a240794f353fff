/-! the machine's run -/
abbrev mEnt : Type := mOp ⊕ (Nat × Nat × Nat × Nat)
abbrev mOut : Type := Option Value ⊕ Nat
abbrev mM : Type := MethodName × ByteArray × Nat × Option FieldType
/-- the topmost n of the stack: the first of them as the first argument -/
def mPop : Nat → List Value → List Value → Option (List Value × List Value)
  | 0, acc, st => some (acc, st)
  | n + 1, acc, v :: st => mPop n (v :: acc) st
  | _ + 1, _, [] => none
def mFlat : List Value → mLv
  | [] => []
  | v :: r => if v.category = 2 then some v :: none :: mFlat r else some v :: mFlat r
def mEntry (n : Nat) (as : List Value) : mLv := mFlat as ++ List.replicate (n - (mFlat as).length) none
def mRet (x : Nat) (st : List Value) (T : mT) : Option (mOut × mT) := match st with
  | [.int v] => if x = 0 ∨ (x = 4 ∧ (v = 0 ∨ v = 1)) then some (.inl (some (.int v)), T) else none
  | [.long v] => if x = 1 then some (.inl (some (.long v)), T) else none
  | [.ref v] => if x = 2 then some (.inl (some (.ref v)), T) else none
  | [.null] => if x = 2 then some (.inl (some .null), T) else none
  | [] => if x = 3 then some (.inl none, T) else none
  | _ => none
def mCat (r : List Value) : Nat := (r.map fun v => v.category).sum
/-- System.arraycopy of ints or bytes from one array to another one -/
def mCopy (st : List Value) (T : mT) : Option (List Value × mT) := match st with
  | .int n :: .int dp :: .ref a :: .int sp :: .ref b :: r =>
    if a ≠ b ∧ ((T.1 a).1 = 20 ∨ (T.1 a).1 = 21) ∧ (T.1 b).1 = (T.1 a).1 ∧ (¬ sp < 0 ∧ ¬ dp < 0 ∧ ¬ n < 0) ∧ sp.toNatClampNeg + n.toNatClampNeg ≤ (T.1 b).2 ∧ dp.toNatClampNeg + n.toNatClampNeg ≤ (T.1 a).2 ∧ mCat r ≤ 8
    then some (r, (T.1, va_up T.2.1 a (va_cpy (T.2.1 b) (T.2.1 a) sp.toNatClampNeg dp.toNatClampNeg n.toNatClampNeg), T.2.2.1, T.2.2.2.1, T.2.2.2.2.1, T.2.2.2.2.2)) else none
  | _ => none
/-- is the receiver as the call wants it: 2, 6, 11 static calls; 3, 10 calls of an object of class x; 4, 7 constructors -/
def mRcv (md x : Nat) (as : List Value) (T : mT) : Bool := match as with
  | .ref b :: _ => if md = 3 ∨ md = 10 then (T.1 b).1 == x + 1 else true
  | _ => md == 2 || md == 6 || md == 11
def mObj (st : List Value) : Option (List Value) := match st with
  | .ref _ :: r => if mCat r ≤ 8 then some r else none
  | _ => none
abbrev mRun : Type := Nat → Nat → mLv → List Value → mT → Option (mOut × mT)
/-- behind a call -/
def mBack (hdl : Nat → Nat → Nat → Option Nat) (rec : mRun) (k pc : Nat) (lv : mLv) (r : List Value) (w : mOut × mT) : Option (mOut × mT) := match w.1 with
  | .inl v => rec k (pc + 3) lv (v.toList ++ r) w.2
  | .inr z => (hdl k pc z).bind (fun h => rec k h lv [.ref (w.2.2.2.2.2.1 - 1)] w.2)
/-- modes: 0 return (x: 0 int, 1 long, 2 reference, 3 none, 4 boolean), 1 arraycopy, 5 Object's constructor, 9 throw (x: what; na: its slots), else a call of method k' with na arguments, the receiver's class x -/
def mSpec (ml : Nat → Nat) (hdl : Nat → Nat → Nat → Option Nat) (rec : mRun) (k pc : Nat) (lv : mLv) (st : List Value) (T : mT) (md k' na x : Nat) : Option (mOut × mT) :=
  if md = 0 then mRet x st T
  else if md = 1 then (mCopy st T).bind (fun q => rec k (pc + 3) lv q.1 q.2)
  else if md = 5 then (mObj st).bind (fun r => rec k (pc + 3) lv r T)
  else if md = 9 then (match st with | [] => some (.inr x, mNw T 0 0 na) | _ :: _ => none)
  else (mPop na [] st).bind (fun q =>
    if (mFlat q.1).length ≤ ml k' ∧ mCat q.2 ≤ 8 ∧ mRcv md x q.1 T = true then (rec k' 0 (mEntry (ml k') q.1) [] T).bind (mBack hdl rec k pc lv q.2) else none)
def mStep (tab : Nat → Nat → Option mEnt) (ml : Nat → Nat) (hdl : Nat → Nat → Nat → Option Nat) (rec : mRun) : mRun := fun k pc lv st T => match tab k pc with
  | none => none
  | some (.inl f) => (f pc lv st T).bind (fun q => if T.2.2.2.2.1 ≤ q.2.2.2.2.2.2.2.1 ∧ T.2.2.2.2.2 ≤ q.2.2.2.2.2.2.2.2 then rec k q.1 q.2.1 q.2.2.1 q.2.2.2 else none)
  | some (.inr e) => mSpec ml hdl rec k pc lv st T e.1 e.2.1 e.2.2.1 e.2.2.2
def aev (tab : Nat → Nat → Option mEnt) (ml : Nat → Nat) (hdl : Nat → Nat → Nat → Option Nat) : Nat → mRun
  | 0 => fun _ _ _ _ _ => none
  | n + 1 => mStep tab ml hdl (aev tab ml hdl n)
section EV
variable {tab : Nat → Nat → Option mEnt} {ml : Nat → Nat} {hdl : Nat → Nat → Nat → Option Nat}
theorem bind_mono2 {α β : Type} {o o' : Option α} {f g : α → Option β} (ho : ∀ a, o = some a → o' = some a) (h : ∀ a b, f a = some b → g a = some b) {b : β} (hb : o.bind f = some b) : o'.bind g = some b := by
  cases o with
  | none => cases hb
  | some a => rw [ho a rfl]; exact h a b hb
theorem mBack_mono {rec rec' : mRun} (h : ∀ k pc lv st T r, rec k pc lv st T = some r → rec' k pc lv st T = some r) {k pc : Nat} {lv : mLv} {r : List Value} {w b : mOut × mT} (hw : mBack hdl rec k pc lv r w = some b) : mBack hdl rec' k pc lv r w = some b := by
  obtain ⟨w1, w2⟩ := w
  cases w1 with
  | inl v => exact h _ _ _ _ _ _ hw
  | inr z => exact bind_mono2 (fun a ha => ha) (fun a b hb => h _ _ _ _ _ _ hb) hw
theorem mStep_mono {rec rec' : mRun} (h : ∀ k pc lv st T r, rec k pc lv st T = some r → rec' k pc lv st T = some r) {k pc : Nat} {lv : mLv} {st : List Value} {T : mT} {r : mOut × mT} (hs : mStep tab ml hdl rec k pc lv st T = some r) : mStep tab ml hdl rec' k pc lv st T = some r := by
  unfold mStep at hs ⊢
  cases htab : tab k pc with
  | none => rw [htab] at hs; cases hs
  | some q =>
    rw [htab] at hs
    cases q with
    | inl f =>
      refine bind_mono2 (fun a ha => ha) (fun a b hb => ?_) hs
      split at hb
      · rename_i hz
        rw [if_pos hz]
        exact h _ _ _ _ _ _ hb
      · cases hb
    | inr q =>
      obtain ⟨md, k', na, x⟩ := q
      dsimp only at hs ⊢
      unfold mSpec at hs ⊢
      by_cases h0 : md = 0
      · rw [if_pos h0] at hs ⊢; exact hs
      · rw [if_neg h0] at hs ⊢
        by_cases h1 : md = 1
        · rw [if_pos h1] at hs ⊢
          exact bind_mono2 (fun a ha => ha) (fun a b hb => h _ _ _ _ _ _ hb) hs
        · rw [if_neg h1] at hs ⊢
          by_cases h5 : md = 5
          · rw [if_pos h5] at hs ⊢
            exact bind_mono2 (fun a ha => ha) (fun a b hb => h _ _ _ _ _ _ hb) hs
          · rw [if_neg h5] at hs ⊢
            by_cases h9 : md = 9
            · rw [if_pos h9] at hs ⊢; exact hs
            · rw [if_neg h9] at hs ⊢
              refine bind_mono2 (fun a ha => ha) (fun a b hb => ?_) hs
              split at hb
              · rename_i hz
                rw [if_pos hz]
                exact bind_mono2 (fun a ha => h _ _ _ _ _ _ ha) (fun w b hw => mBack_mono h hw) hb
              · cases hb
theorem aev_mono1 : ∀ (n k pc : Nat) (lv : mLv) (st : List Value) (T : mT) (r : mOut × mT), aev tab ml hdl n k pc lv st T = some r → aev tab ml hdl (n + 1) k pc lv st T = some r := by
  intro n
  induction n with
  | zero => intro k pc lv st T r h; cases h
  | succ n ih => intro k pc lv st T r h; exact mStep_mono ih h
theorem aev_mono {n m k pc : Nat} {lv : mLv} {st : List Value} {T : mT} {r : mOut × mT} (hnm : n ≤ m) (h : aev tab ml hdl n k pc lv st T = some r) : aev tab ml hdl m k pc lv st T = some r := by
  induction hnm with
  | refl => exact h
  | step _ ih => exact aev_mono1 _ _ _ _ _ _ _ ih
end EV
theorem mPop_spec : ∀ (n : Nat) (acc st as r : List Value), mPop n acc st = some (as, r) → ∃ l : List Value, l.length = n ∧ st = l ++ r ∧ as = l.reverse ++ acc
  | 0, acc, st, as, r, h => by
    cases h
    exact ⟨[], rfl, rfl, rfl⟩
  | n + 1, acc, [], as, r, h => by cases h
  | n + 1, acc, v :: st, as, r, h => by
    obtain ⟨l, h1, h2, h3⟩ := mPop_spec n (v :: acc) st as r h
    exact ⟨v :: l, by rw [List.length_cons, h1], by rw [h2]; rfl, by rw [h3]; simp⟩
theorem mFlat_len (as : List Value) : (mFlat as).length = (lg_sl as).length := by
  induction as with
  | nil => rfl
  | cons v r ih =>
    unfold mFlat
    simp only [lg_sl, List.flatMap_cons, List.length_append] at ih ⊢
    split
    · simp only [List.length_cons, ih, List.length_nil]; omega
    · simp only [List.length_cons, ih, List.length_nil]; omega
theorem mFlat_at : ∀ (as : List Value) (j i : Nat) (v : Value), (mFlat as)[i]? = some (some v) → (j + i, v) ∈ lv_args j as
  | [], j, i, v, h => by cases h
  | w :: r, j, i, v, h => by
    unfold mFlat at h
    unfold lv_args
    split at h
    · rename_i hc
      rw [if_pos hc]
      match i, h with
      | 0, h => cases h; exact List.mem_cons_self
      | 1, h => cases h
      | i + 2, h =>
        have := mFlat_at r (j + 2) i v h
        rw [show j + (i + 2) = j + 2 + i by omega]
        exact List.mem_cons_of_mem _ this
    · rename_i hc
      rw [if_neg hc]
      match i, h with
      | 0, h => cases h; exact List.mem_cons_self
      | i + 1, h =>
        have := mFlat_at r (j + 1) i v h
        rw [show j + (i + 1) = j + 1 + i by omega]
        exact List.mem_cons_of_mem _ this
theorem mEntry_ok {as : List Value} {n : Nat} (h : (mFlat as).length ≤ n) : mL ((lg_sl as ++ List.replicate (n - (lg_sl as).length) Slot.unset).toArray) n (mEntry n as) := by
  obtain ⟨h1, h2, h3⟩ := lv_entry as (n := n) (by rw [← mFlat_len]; exact h)
  refine ⟨by simp only [mEntry, List.length_append, List.length_replicate]; omega, h1, h2, fun i v hv => ?_⟩
  unfold mEntry at hv
  by_cases hi : i < (mFlat as).length
  · rw [List.getElem?_append_left hi] at hv
    have := h3 _ (mFlat_at as 0 i v hv)
    rwa [Nat.zero_add] at this
  · rw [List.getElem?_append_right (by omega), List.getElem?_replicate] at hv
    split at hv <;> cases hv
