/-! A MACHINE OF MY OWN over a typed heap; its steps are the JVM's steps (proved below, kind by kind). -/
/-- the heap: kind and length by address; ints, longs, references by address and place (a field's number, an array's index); the next address; slots used -/
abbrev mT : Type := (Nat → Nat × Nat) × (Nat → Nat → Int32) × (Nat → Nat → Int64) × (Nat → Nat → Option Nat) × Nat × Nat
abbrev mLv : Type := List (Option Value)
abbrev mCf : Type := Nat × mLv × List Value × mT
abbrev mOp : Type := Nat → mLv → List Value → mT → Option mCf
def mU {α : Type} (f : Nat → Nat → α) (a k : Nat) (v : α) : Nat → Nat → α := fun b j => if b = a ∧ j = k then v else f b j
theorem mU_s {α : Type} (f : Nat → Nat → α) (a k : Nat) (v : α) : mU f a k v a k = v := by simp [mU]
theorem mU_n {α : Type} (f : Nat → Nat → α) {a k b j : Nat} (v : α) (h : ¬ (b = a ∧ j = k)) : mU f a k v b j = f b j := by simp [mU, h]
def mFT (ci k : Nat) : Nat := (mFTs.getD ci []).getD k 9
def mNF (ci : Nat) : Nat := (mFTs.getD ci []).length
/-- what place j of a holds, by the place's type: 1 a long, 2 a reference, else an int -/
def mVal (c : Nat) (T : mT) (a j : Nat) : Value := if c = 1 then .long (T.2.2.1 a j) else if c = 2 then va_rf (T.2.2.2.1 a j) else .int (T.2.1 a j)
theorem mVal_0 (T : mT) (a j : Nat) : mVal 0 T a j = .int (T.2.1 a j) := rfl
theorem mVal_1 (T : mT) (a j : Nat) : mVal 1 T a j = .long (T.2.2.1 a j) := rfl
theorem mVal_2 (T : mT) (a j : Nat) : mVal 2 T a j = va_rf (T.2.2.2.1 a j) := rfl
theorem mVal_3 (T : mT) (a j : Nat) : mVal 3 T a j = .int (T.2.1 a j) := rfl
def mF (T : mT) (a ci k : Nat) : Value := mVal (mFT ci k) T a k
/-- array kinds: 0 byte, 1 int, 2 long, 3 boolean, 4 and on: of objects -/
def mEt (t : Nat) : Nat := if t = 2 then 1 else if t < 4 then 0 else 2
def mTys (cA : Nat → ClassId) : List (ClassId × FieldType) := [(cA 0, .byte), (cA 1, .int), (cA 2, .long), (cA 3, .boolean), (cA 4, .object "AtlasDesk$Edition"), (cA 5, .object "AtlasDesk$Feature"), (cA 6, .object "AtlasDesk$Path")]
/-- what the JVM's heap holds at a: kinds 1 and on: an object of class kind - 1; 20 and on: an array; 30: the script; 0: not known -/
def mAt (D : va_G) (cA : Nat → ClassId) (T : mT) (a : Nat) (H : Heap) : Prop :=
  if (T.1 a).1 < 20 then ∃ r : vw_C, vwCl[(T.1 a).1 - 1]? = some r ∧ t_OB a (D.1 ((T.1 a).1 - 1)) r.2.2 (D.2 ((T.1 a).1 - 1)) H (mF T a ((T.1 a).1 - 1))
  else H[a]? = some (arrV (cA ((T.1 a).1 - 20)) (T.1 a).2 (mVal (mEt ((T.1 a).1 - 20)) T a))
def mR (D : va_G) (cA : Nat → ClassId) (B0 : Nat) (U : State) (T : mT) (H : Heap) : Prop :=
  H.size = T.2.2.2.2.1 ∧ B0 ≤ H.size ∧ (∀ a, (T.1 a).1 ≠ 0 → (T.1 a).1 < 30 → B0 ≤ a ∧ a < H.size ∧ mAt D cA T a H) ∧ (∀ a, (T.1 a).1 = 30 → a < B0 ∧ va_X a (T.1 a).2 (T.2.1 a) U H) ∧ ∀ a, (T.1 a).1 = 20 → ∀ j, fits .byte (.int (T.2.1 a j)) = true
def mL (ls : Array Slot) (n : Nat) (lv : mLv) : Prop := lv.length = n ∧ ls.size = n ∧ lv_wf ls ∧ ∀ (i : Nat) (v : Value), lv[i]? = some (some v) → ls[i]? = some (.val v)
def mWs : List Cond := lw_tbl.filter goodWord
theorem mWs_in {w : Cond} (h : w ∈ lw_tbl) (hg : goodWord w = true) : w ∈ mWs := List.mem_filter.mpr ⟨h, hg⟩
/-- words that go from state to state in another way: calls of a nest mate's private members, arrays of objects -/
def mNest : Cond → Bool
  | .methodLinkNest _ _ _ _ => true
  | .castable _ _ => true
  | .declares _ => true
  | _ => false
def mX (U : State) : Prop := (∀ w ∈ lw_tbl, mNest w = true → va_Nw w U) ∧ va_AO "AtlasDesk$Edition" U ∧ va_AO "AtlasDesk$Feature" U ∧ va_AO "AtlasDesk$Path" U
theorem mX.warm {s U : State} (hW : s.WarmedH U.vm) (h : mX s) : mX U := by
  refine ⟨fun w hw hn => ?_, h.2.1.moved hW.alike, h.2.2.1.moved hW.alike, h.2.2.2.moved hW.alike⟩
  have h1 := h.1 w hw hn
  cases w <;> first | exact va_Nw.warmM hW h1 | exact va_Nw.warmC hW h1 | exact va_Nw.warmD hW h1 | (simp [mNest] at hn)
/-- what throwing and catching ask of a state: the texts, classes that aren't one another's, two statics of Throwable -/
def mY (B0 : Nat) (U : State) : Prop := (∀ own k tx, Jvm.Cond.stringRef own k tx ∈ lw_tbl → ∃ a, vk_R own k tx a U) ∧ (va_Nc "java/lang/IllegalStateException" "java/lang/IllegalArgumentException" U ∧ va_Nc "java/lang/IllegalStateException" "java/lang/IndexOutOfBoundsException" U) ∧ vx_Zq Bundle.tN "UNASSIGNED_STACK" Bundle.steD (fun q => B0 ≤ q) U U.heap ∧ vx_Zq Bundle.tN "SUPPRESSED_SENTINEL" Bundle.listD (fun q => B0 ≤ q) U U.heap
theorem mY.warm {B0 : Nat} {s U : State} {locs : List Loc} (hW : s.WarmedH U.vm) (hS : va_S (fun q => B0 ≤ q) s.heap U.heap locs) (h : mY B0 s) : mY B0 U := ⟨fun own k tx hw => by obtain ⟨a, ha⟩ := h.1 own k tx hw; exact ⟨a, ha.warm hW⟩, ⟨h.2.1.1.moved hW.alike, h.2.1.2.moved hW.alike⟩, vx_Zq.moved hW.alike (h.2.2.1.kept hS.2.1), vx_Zq.moved hW.alike (h.2.2.2.kept hS.2.1)⟩
/-- the exception table of a method: as its word has it -/
def mTb (y : MethodName) (c : Code) : Prop := (∀ (cc : ByteArray) (n : Nat) (r : Option FieldType) (hh : List (Nat × Nat × Nat × Nat)), Jvm.Cond.codeWith y cc n r hh ∈ mWs → c.exceptionTable.toList = tableOf hh) ∧ ∀ (cc : ByteArray) (n : Nat) (r : Option FieldType), Jvm.Cond.code y cc n r ∈ mWs → ∀ x ∈ c.exceptionTable.toList, False
/-- what holds of a method's run -/
def mC (p : Program) (s : State) (m : MethodId) (args : Array Value) (meth : Method) (c : Code) (D : va_G) (cA : Nat → ClassId) (B0 : Nat) (y : MethodName) (cc : ByteArray) (ml : Nat) (rt : Option FieldType) : Prop :=
  p.tables.exec = Jvm.exec ∧ c.code = cc ∧ c.maxLocals = ml ∧ s.vm.findClass y.cls = some m.cls ∧ (∀ w ∈ mWs, w.before args s = true) ∧ va_K D vwCl (mTys cA) s ∧ meth.sig.returnType = rt ∧ meth.locks = false ∧ meth.name = y.name ∧ B0 ≤ s.heap.size ∧ mX s ∧ mY B0 s ∧ mTb y c
def mW (p : Program) (l : Launch) (e : Env) (R : Room) (s : State) (m : MethodId) (args : Array Value) (below : List Frame) (meth : Method) (c : Code) (D : va_G) (cA : Nat → ClassId) (B0 ml n0 u0 : Nat) (Q : State → Prop) (pc : Nat) (lv : mLv) (st : List Value) (T : mT) : Prop :=
  ∀ (H : Heap) (locs : List Loc) (ls : Array Slot), mR D cA B0 s T H → va_S (fun q => B0 ≤ q) s.heap H locs → mL ls ml lv → W p l e R s m args below meth c H locs (T.2.2.2.2.1 - n0) (T.2.2.2.2.2 - u0) Q (F0 m pc ls st)
/-- a step of my machine is one of the JVM's -/
def mOk (y : MethodName) (cc : ByteArray) (ml : Nat) (rt : Option FieldType) (pc : Nat) (f : mOp) : Prop :=
  ∀ (p : Program) (l : Launch) (e : Env) (R : Room) (s : State) (m : MethodId) (args : Array Value) (below : List Frame) (meth : Method) (c : Code) (D : va_G) (cA : Nat → ClassId) (B0 n0 u0 : Nat) (Q : State → Prop),
    mC p s m args meth c D cA B0 y cc ml rt → ∀ (lv : mLv) (st : List Value) (T : mT) (pc' : Nat) (lv' : mLv) (st' : List Value) (T' : mT), f pc lv st T = some (pc', lv', st', T') → n0 ≤ T.2.2.2.2.1 → u0 ≤ T.2.2.2.2.2 →
      T.2.2.2.2.1 ≤ T'.2.2.2.2.1 ∧ T.2.2.2.2.2 ≤ T'.2.2.2.2.2 ∧
      (T'.2.2.2.2.1 ≤ n0 + R.cells → T'.2.2.2.2.2 ≤ u0 + R.slots → mW p l e R s m args below meth c D cA B0 ml n0 u0 Q pc' lv' st' T' → mW p l e R s m args below meth c D cA B0 ml n0 u0 Q pc lv st T)
/-! locals -/
def mAl (lv : mLv) : List (Nat × Value) := (List.range lv.length).filterMap (fun i => (lv.getD i none).map (fun v => (i, v)))
theorem mAl_mem {lv : mLv} {i : Nat} {v : Value} (h : lv[i]? = some (some v)) : (i, v) ∈ mAl lv := by
  have hi : i < lv.length := (List.getElem?_eq_some_iff.mp h).1
  refine List.mem_filterMap.mpr ⟨i, List.mem_range.mpr hi, ?_⟩
  simp [List.getD, h]
theorem mAl_of {lv : mLv} {q : Nat × Value} (h : q ∈ mAl lv) : lv[q.1]? = some (some q.2) := by
  obtain ⟨i, hi, he⟩ := List.mem_filterMap.mp h
  have hi := List.mem_range.mp hi
  cases hv : lv.getD i none with
  | none => rw [hv] at he; cases he
  | some v =>
    rw [hv] at he
    cases he
    simp only [List.getD, List.getElem?_eq_getElem hi, Option.getD_some] at hv ⊢
    rw [hv]
theorem mL_has {ls : Array Slot} {n : Nat} {lv : mLv} (h : mL ls n lv) : lv_has ls n (mAl lv) := ⟨h.2.1, h.2.2.1, fun q hq => h.2.2.2 q.1 q.2 (mAl_of hq)⟩
/-- is the place ahead of i the first half of a long -/
def mPl (lv : mLv) (i : Nat) : Bool := match i with
  | 0 => false
  | j + 1 => match lv[j]? with
    | some (some v) => v.category == 2
    | _ => false
theorem mL_st1 {ls ls' : Array Slot} {n i : Nat} {lv : mLv} {x : Value} (h : mL ls n lv) (hp : mPl lv i = false) (h' : lv_has ls' n ((i, x) :: (mAl lv).filter (fun q => !(q.1 == i) && !(q.1 + 1 == i && q.2.category == 2)))) : mL ls' n (lv.set i (some x)) := by
  refine ⟨by rw [List.length_set]; exact h.1, h'.1, h'.2.1, fun j v hj => ?_⟩
  by_cases hji : j = i
  · subst hji
    have hl : j < lv.length := by
      have := (List.getElem?_eq_some_iff.mp hj).1
      rwa [List.length_set] at this
    rw [List.getElem?_set_self hl] at hj
    cases hj
    exact h'.2.2 (j, _) List.mem_cons_self
  · rw [List.getElem?_set_ne (Ne.symm hji)] at hj
    refine h'.2.2 (j, v) (List.mem_cons_of_mem _ (List.mem_filter.mpr ⟨mAl_mem hj, ?_⟩))
    have h1 : (j == i) = false := by simpa using hji
    by_cases hj1 : j + 1 = i
    · subst hj1
      simp only [mPl, hj] at hp
      simp [hp]
    · have h2 : (j + 1 == i) = false := by simpa using hj1
      simp [h1, h2]
theorem mL_st2 {ls ls' : Array Slot} {n i : Nat} {lv : mLv} {x : Value} (h : mL ls n lv) (hp : mPl lv i = false) (h' : lv_has ls' n ((i, x) :: (mAl lv).filter (fun q => !(q.1 == i) && (!(q.1 == i + 1) && !(q.1 + 1 == i && q.2.category == 2))))) : mL ls' n ((lv.set i (some x)).set (i + 1) none) := by
  refine ⟨by rw [List.length_set, List.length_set]; exact h.1, h'.1, h'.2.1, fun j v hj => ?_⟩
  by_cases hj2 : j = i + 1
  · subst hj2
    have hl := (List.getElem?_eq_some_iff.mp hj).1
    rw [List.length_set] at hl
    rw [List.getElem?_set_self hl] at hj
    cases hj
  · rw [List.getElem?_set_ne (Ne.symm hj2)] at hj
    by_cases hji : j = i
    · subst hji
      have hl : j < lv.length := by
        have := (List.getElem?_eq_some_iff.mp hj).1
        rwa [List.length_set] at this
      rw [List.getElem?_set_self hl] at hj
      cases hj
      exact h'.2.2 (j, _) List.mem_cons_self
    · rw [List.getElem?_set_ne (Ne.symm hji)] at hj
      refine h'.2.2 (j, v) (List.mem_cons_of_mem _ (List.mem_filter.mpr ⟨mAl_mem hj, ?_⟩))
      have h1 : (j == i) = false := by simpa using hji
      have h3 : (j == i + 1) = false := by simpa using hj2
      by_cases hj1 : j + 1 = i
      · subst hj1
        simp only [mPl, hj] at hp
        simp [hp]
        omega
      · have h2 : (j + 1 == i) = false := by simpa using hj1
        simp [h1, h2, h3]
/-! stack steps -/
def oS (n : Nat) (g : List Value → Option (List Value)) : mOp := fun pc lv st T => match g st with
  | some st' => some (pc + n, lv, st', T)
  | none => none
theorem mOk_st {y : MethodName} {cc : ByteArray} {ml : Nat} {rt : Option FieldType} {pc n : Nat} {g : List Value → Option (List Value)}
    (h : ∀ (p : Program) (l : Launch) (e : Env) (R : Room) (s : State) (m : MethodId) (args : Array Value) (below : List Frame) (meth : Method) (c : Code) (H : Heap) (locs : List Loc) (cells slots : Nat) (Q : State → Prop) (ls : Array Slot), p.tables.exec = Jvm.exec → c.code = cc → s.vm.findClass y.cls = some m.cls → (∀ w ∈ mWs, w.before args s = true) →
      ∀ st st', g st = some st' → W p l e R s m args below meth c H locs cells slots Q (F0 m (pc + n) ls st') → W p l e R s m args below meth c H locs cells slots Q (F0 m pc ls st)) : mOk y cc ml rt pc (oS n g) := by
  intro p l e R s m args below meth c D cA B0 n0 u0 Q hC lv st T pc' lv' st' T' hf hn hu
  simp only [oS] at hf
  split at hf
  · rename_i st2 hg
    cases hf
    exact ⟨Nat.le_refl _, Nat.le_refl _, fun _ _ k H locs ls hR hS hl => h p l e R s m args below meth c H locs _ _ Q ls hC.1 hC.2.1 hC.2.2.2.1 hC.2.2.2.2.1 st _ hg (k H locs ls hR hS hl)⟩
  · cases hf
