/-! stack steps: constants -/
def s_push (v : Value) : List Value → Option (List Value) := fun st => some (v :: st)
theorem ok_iconst {y : MethodName} {cc : ByteArray} {ml : Nat} {rt : Option FieldType} {pc : Nat} {n : Int} {v : Int32} (hd : decode cc pc = .ok (.iconst n, 1)) (hv : Int32.ofInt n = v) : mOk y cc ml rt pc (oS 1 (s_push (.int v))) := mOk_st (by
  intro p l e R s m args below meth c H locs cells slots Q ls hx hb ho hw st st' hg k
  cases hg
  exact lv_iconst hx hb hd hv k)
theorem ok_bipush {y : MethodName} {cc : ByteArray} {ml : Nat} {rt : Option FieldType} {pc : Nat} {n : Int} {v : Int32} (hd : decode cc pc = .ok (.bipush n, 2)) (hv : (Int8.ofInt n).toInt32 = v) : mOk y cc ml rt pc (oS 2 (s_push (.int v))) := mOk_st (by
  intro p l e R s m args below meth c H locs cells slots Q ls hx hb ho hw st st' hg k
  cases hg
  exact lv_bipush hx hb hd hv k)
theorem ok_sipush {y : MethodName} {cc : ByteArray} {ml : Nat} {rt : Option FieldType} {pc : Nat} {n : Int} {v : Int32} (hd : decode cc pc = .ok (.sipush n, 3)) (hv : (Int16.ofInt n).toInt32 = v) : mOk y cc ml rt pc (oS 3 (s_push (.int v))) := mOk_st (by
  intro p l e R s m args below meth c H locs cells slots Q ls hx hb ho hw st st' hg k
  cases hg
  exact lv_sipush hx hb hd hv k)
theorem ok_lconst {y : MethodName} {cc : ByteArray} {ml : Nat} {rt : Option FieldType} {pc : Nat} {n : Fin 2} {v : Int64} (hd : decode cc pc = .ok (.lconst n, 1)) (hv : Int64.ofNat (n : Nat) = v) : mOk y cc ml rt pc (oS 1 (s_push (.long v))) := mOk_st (by
  intro p l e R s m args below meth c H locs cells slots Q ls hx hb ho hw st st' hg k
  cases hg
  exact lv_lconst hx hb hd hv k)
theorem ok_ldc {y : MethodName} {cc : ByteArray} {ml : Nat} {rt : Option FieldType} {pc : Nat} {i : Nat} {v : Int32} (hd : decode cc pc = .ok (.ldc i, 2)) (hc : Jvm.Cond.constant y.cls i v ∈ mWs) : mOk y cc ml rt pc (oS 2 (s_push (.int v))) := mOk_st (by
  intro p l e R s m args below meth c H locs cells slots Q ls hx hb ho hw st st' hg k
  cases hg
  exact lv_ldc hx hb ho (hw _ hc) hd k)
theorem ok_ldcw {y : MethodName} {cc : ByteArray} {ml : Nat} {rt : Option FieldType} {pc : Nat} {i : Nat} {v : Int32} (hd : decode cc pc = .ok (.ldc_w i, 3)) (hc : Jvm.Cond.constant y.cls i v ∈ mWs) : mOk y cc ml rt pc (oS 3 (s_push (.int v))) := mOk_st (by
  intro p l e R s m args below meth c H locs cells slots Q ls hx hb ho hw st st' hg k
  cases hg
  exact lv_ldcw hx hb ho (hw _ hc) hd k)
theorem ok_ldc2 {y : MethodName} {cc : ByteArray} {ml : Nat} {rt : Option FieldType} {pc : Nat} {i : Nat} {v : Int64} (hd : decode cc pc = .ok (.ldc2_w i, 3)) (hc : Jvm.Cond.constantLong y.cls i v ∈ mWs) : mOk y cc ml rt pc (oS 3 (s_push (.long v))) := mOk_st (by
  intro p l e R s m args below meth c H locs cells slots Q ls hx hb ho hw st st' hg k
  cases hg
  exact lv_ldc2 hx hb ho (hw _ hc) hd k)
theorem ok_null {y : MethodName} {cc : ByteArray} {ml : Nat} {rt : Option FieldType} {pc : Nat}  (hd : decode cc pc = .ok (.aconst_null, 1)) : mOk y cc ml rt pc (oS 1 (s_push .null)) := mOk_st (by
  intro p l e R s m args below meth c H locs cells slots Q ls hx hb ho hw st st' hg k
  cases hg
  exact lv_null hx hb hd k)
/-! stack steps: arithmetic -/
def s_ii (f : Int32 → Int32 → Int32) : List Value → Option (List Value) := fun st => match st with
  | .int b :: .int a :: r => some (.int (f a b) :: r) 
  | _ => none
def s_ll (f : Int64 → Int64 → Int64) : List Value → Option (List Value) := fun st => match st with
  | .long b :: .long a :: r => some (.long (f a b) :: r) 
  | _ => none
def s_li (f : Int64 → Int32 → Int64) : List Value → Option (List Value) := fun st => match st with
  | .int b :: .long a :: r => some (.long (f a b) :: r) 
  | _ => none
def s_i1 (f : Int32 → Int32) : List Value → Option (List Value) := fun st => match st with
  | .int a :: r => some (.int (f a) :: r) 
  | _ => none
def s_l1 (f : Int64 → Int64) : List Value → Option (List Value) := fun st => match st with
  | .long a :: r => some (.long (f a) :: r) 
  | _ => none
def s_iiz (f : Int32 → Int32 → Int32) : List Value → Option (List Value) := fun st => match st with
  | .int b :: .int a :: r => if b = 0 then none else some (.int (f a b) :: r)
  | _ => none
def s_llz (f : Int64 → Int64 → Int64) : List Value → Option (List Value) := fun st => match st with
  | .long b :: .long a :: r => if b = 0 then none else some (.long (f a b) :: r)
  | _ => none
def s_i2l  : List Value → Option (List Value) := fun st => match st with
  | .int a :: r => some (.long a.toInt64 :: r) 
  | _ => none
def s_l2i  : List Value → Option (List Value) := fun st => match st with
  | .long a :: r => some (.int a.toInt32 :: r) 
  | _ => none
def s_lcmp  : List Value → Option (List Value) := fun st => match st with
  | .long b :: .long a :: r => some (.int (lg_cmp a b) :: r) 
  | _ => none
theorem ok_iadd {y : MethodName} {cc : ByteArray} {ml : Nat} {rt : Option FieldType} {pc : Nat} (hd : decode cc pc = .ok (.iadd, 1)) : mOk y cc ml rt pc (oS 1 (s_ii (fun a b => a + b))) := mOk_st (by
  intro p l e R s m args below meth c H locs cells slots Q ls hx hb ho hw st st' hg k
  unfold s_ii at hg
  split at hg
  · cases hg
    exact lv_iadd hx hb hd k
  · cases hg)
theorem ok_isub {y : MethodName} {cc : ByteArray} {ml : Nat} {rt : Option FieldType} {pc : Nat} (hd : decode cc pc = .ok (.isub, 1)) : mOk y cc ml rt pc (oS 1 (s_ii (fun a b => a - b))) := mOk_st (by
  intro p l e R s m args below meth c H locs cells slots Q ls hx hb ho hw st st' hg k
  unfold s_ii at hg
  split at hg
  · cases hg
    exact lv_isub hx hb hd k
  · cases hg)
theorem ok_imul {y : MethodName} {cc : ByteArray} {ml : Nat} {rt : Option FieldType} {pc : Nat} (hd : decode cc pc = .ok (.imul, 1)) : mOk y cc ml rt pc (oS 1 (s_ii (fun a b => a * b))) := mOk_st (by
  intro p l e R s m args below meth c H locs cells slots Q ls hx hb ho hw st st' hg k
  unfold s_ii at hg
  split at hg
  · cases hg
    exact lv_imul hx hb hd k
  · cases hg)
theorem ok_iand {y : MethodName} {cc : ByteArray} {ml : Nat} {rt : Option FieldType} {pc : Nat} (hd : decode cc pc = .ok (.iand, 1)) : mOk y cc ml rt pc (oS 1 (s_ii (fun a b => a &&& b))) := mOk_st (by
  intro p l e R s m args below meth c H locs cells slots Q ls hx hb ho hw st st' hg k
  unfold s_ii at hg
  split at hg
  · cases hg
    exact lv_iand hx hb hd k
  · cases hg)
theorem ok_ior {y : MethodName} {cc : ByteArray} {ml : Nat} {rt : Option FieldType} {pc : Nat} (hd : decode cc pc = .ok (.ior, 1)) : mOk y cc ml rt pc (oS 1 (s_ii (fun a b => a ||| b))) := mOk_st (by
  intro p l e R s m args below meth c H locs cells slots Q ls hx hb ho hw st st' hg k
  unfold s_ii at hg
  split at hg
  · cases hg
    exact lv_ior hx hb hd k
  · cases hg)
theorem ok_ixor {y : MethodName} {cc : ByteArray} {ml : Nat} {rt : Option FieldType} {pc : Nat} (hd : decode cc pc = .ok (.ixor, 1)) : mOk y cc ml rt pc (oS 1 (s_ii (fun a b => a ^^^ b))) := mOk_st (by
  intro p l e R s m args below meth c H locs cells slots Q ls hx hb ho hw st st' hg k
  unfold s_ii at hg
  split at hg
  · cases hg
    exact lv_ixor hx hb hd k
  · cases hg)
theorem ok_ishl {y : MethodName} {cc : ByteArray} {ml : Nat} {rt : Option FieldType} {pc : Nat} (hd : decode cc pc = .ok (.ishl, 1)) : mOk y cc ml rt pc (oS 1 (s_ii (fun a b => a <<< (b &&& 31)))) := mOk_st (by
  intro p l e R s m args below meth c H locs cells slots Q ls hx hb ho hw st st' hg k
  unfold s_ii at hg
  split at hg
  · cases hg
    exact lv_ishl hx hb hd k
  · cases hg)
theorem ok_ishr {y : MethodName} {cc : ByteArray} {ml : Nat} {rt : Option FieldType} {pc : Nat} (hd : decode cc pc = .ok (.ishr, 1)) : mOk y cc ml rt pc (oS 1 (s_ii (fun a b => a >>> (b &&& 31)))) := mOk_st (by
  intro p l e R s m args below meth c H locs cells slots Q ls hx hb ho hw st st' hg k
  unfold s_ii at hg
  split at hg
  · cases hg
    exact lv_ishr hx hb hd k
  · cases hg)
theorem ok_iushr {y : MethodName} {cc : ByteArray} {ml : Nat} {rt : Option FieldType} {pc : Nat} (hd : decode cc pc = .ok (.iushr, 1)) : mOk y cc ml rt pc (oS 1 (s_ii (fun a b => (a.toUInt32 >>> (b.toUInt32 &&& Int32.toUInt32 31)).toInt32))) := mOk_st (by
  intro p l e R s m args below meth c H locs cells slots Q ls hx hb ho hw st st' hg k
  unfold s_ii at hg
  split at hg
  · cases hg
    exact lv_iushr hx hb hd rfl k
  · cases hg)
theorem ok_idiv {y : MethodName} {cc : ByteArray} {ml : Nat} {rt : Option FieldType} {pc : Nat} (hd : decode cc pc = .ok (.idiv, 1)) : mOk y cc ml rt pc (oS 1 (s_iiz (fun a b => a / b))) := mOk_st (by
  intro p l e R s m args below meth c H locs cells slots Q ls hx hb ho hw st st' hg k
  unfold s_iiz at hg
  split at hg
  · split at hg
    · cases hg
    · rename_i hz
      cases hg
      exact lv_idiv hx hb hd hz k
  · cases hg)
theorem ok_irem {y : MethodName} {cc : ByteArray} {ml : Nat} {rt : Option FieldType} {pc : Nat} (hd : decode cc pc = .ok (.irem, 1)) : mOk y cc ml rt pc (oS 1 (s_iiz (fun a b => a - a / b * b))) := mOk_st (by
  intro p l e R s m args below meth c H locs cells slots Q ls hx hb ho hw st st' hg k
  unfold s_iiz at hg
  split at hg
  · split at hg
    · cases hg
    · rename_i hz
      cases hg
      exact lv_irem hx hb hd hz k
  · cases hg)
theorem ok_ineg {y : MethodName} {cc : ByteArray} {ml : Nat} {rt : Option FieldType} {pc : Nat} (hd : decode cc pc = .ok (.ineg, 1)) : mOk y cc ml rt pc (oS 1 (s_i1 (fun a => -a))) := mOk_st (by
  intro p l e R s m args below meth c H locs cells slots Q ls hx hb ho hw st st' hg k
  unfold s_i1 at hg
  split at hg
  · cases hg
    exact lv_ineg hx hb hd k
  · cases hg)
theorem ok_i2b {y : MethodName} {cc : ByteArray} {ml : Nat} {rt : Option FieldType} {pc : Nat} (hd : decode cc pc = .ok (.i2b, 1)) : mOk y cc ml rt pc (oS 1 (s_i1 (fun a => a.toInt8.toInt32))) := mOk_st (by
  intro p l e R s m args below meth c H locs cells slots Q ls hx hb ho hw st st' hg k
  unfold s_i1 at hg
  split at hg
  · cases hg
    exact lv_i2b hx hb hd rfl k
  · cases hg)
theorem ok_ladd {y : MethodName} {cc : ByteArray} {ml : Nat} {rt : Option FieldType} {pc : Nat} (hd : decode cc pc = .ok (.ladd, 1)) : mOk y cc ml rt pc (oS 1 (s_ll (fun a b => a + b))) := mOk_st (by
  intro p l e R s m args below meth c H locs cells slots Q ls hx hb ho hw st st' hg k
  unfold s_ll at hg
  split at hg
  · cases hg
    exact lv_ladd hx hb hd k
  · cases hg)
theorem ok_lsub {y : MethodName} {cc : ByteArray} {ml : Nat} {rt : Option FieldType} {pc : Nat} (hd : decode cc pc = .ok (.lsub, 1)) : mOk y cc ml rt pc (oS 1 (s_ll (fun a b => a - b))) := mOk_st (by
  intro p l e R s m args below meth c H locs cells slots Q ls hx hb ho hw st st' hg k
  unfold s_ll at hg
  split at hg
  · cases hg
    exact lv_lsub hx hb hd k
  · cases hg)
theorem ok_lmul {y : MethodName} {cc : ByteArray} {ml : Nat} {rt : Option FieldType} {pc : Nat} (hd : decode cc pc = .ok (.lmul, 1)) : mOk y cc ml rt pc (oS 1 (s_ll (fun a b => a * b))) := mOk_st (by
  intro p l e R s m args below meth c H locs cells slots Q ls hx hb ho hw st st' hg k
  unfold s_ll at hg
  split at hg
  · cases hg
    exact lv_lmul hx hb hd k
  · cases hg)
theorem ok_land {y : MethodName} {cc : ByteArray} {ml : Nat} {rt : Option FieldType} {pc : Nat} (hd : decode cc pc = .ok (.land, 1)) : mOk y cc ml rt pc (oS 1 (s_ll (fun a b => a &&& b))) := mOk_st (by
  intro p l e R s m args below meth c H locs cells slots Q ls hx hb ho hw st st' hg k
  unfold s_ll at hg
  split at hg
  · cases hg
    exact lv_land hx hb hd k
  · cases hg)
theorem ok_lor {y : MethodName} {cc : ByteArray} {ml : Nat} {rt : Option FieldType} {pc : Nat} (hd : decode cc pc = .ok (.lor, 1)) : mOk y cc ml rt pc (oS 1 (s_ll (fun a b => a ||| b))) := mOk_st (by
  intro p l e R s m args below meth c H locs cells slots Q ls hx hb ho hw st st' hg k
  unfold s_ll at hg
  split at hg
  · cases hg
    exact lv_lor hx hb hd k
  · cases hg)
theorem ok_ldiv {y : MethodName} {cc : ByteArray} {ml : Nat} {rt : Option FieldType} {pc : Nat} (hd : decode cc pc = .ok (.ldiv, 1)) : mOk y cc ml rt pc (oS 1 (s_llz (fun a b => a / b))) := mOk_st (by
  intro p l e R s m args below meth c H locs cells slots Q ls hx hb ho hw st st' hg k
  unfold s_llz at hg
  split at hg
  · split at hg
    · cases hg
    · rename_i hz
      cases hg
      exact lv_ldiv hx hb hd hz k
  · cases hg)
theorem ok_lrem {y : MethodName} {cc : ByteArray} {ml : Nat} {rt : Option FieldType} {pc : Nat} (hd : decode cc pc = .ok (.lrem, 1)) : mOk y cc ml rt pc (oS 1 (s_llz (fun a b => a - a / b * b))) := mOk_st (by
  intro p l e R s m args below meth c H locs cells slots Q ls hx hb ho hw st st' hg k
  unfold s_llz at hg
  split at hg
  · split at hg
    · cases hg
    · rename_i hz
      cases hg
      exact lv_lrem hx hb hd hz k
  · cases hg)
theorem ok_lneg {y : MethodName} {cc : ByteArray} {ml : Nat} {rt : Option FieldType} {pc : Nat} (hd : decode cc pc = .ok (.lneg, 1)) : mOk y cc ml rt pc (oS 1 (s_l1 (fun a => -a))) := mOk_st (by
  intro p l e R s m args below meth c H locs cells slots Q ls hx hb ho hw st st' hg k
  unfold s_l1 at hg
  split at hg
  · cases hg
    exact lv_lneg hx hb hd k
  · cases hg)
theorem ok_lshl {y : MethodName} {cc : ByteArray} {ml : Nat} {rt : Option FieldType} {pc : Nat} (hd : decode cc pc = .ok (.lshl, 1)) : mOk y cc ml rt pc (oS 1 (s_li (fun a b => a <<< (b.toInt64 &&& 63)))) := mOk_st (by
  intro p l e R s m args below meth c H locs cells slots Q ls hx hb ho hw st st' hg k
  unfold s_li at hg
  split at hg
  · cases hg
    exact lv_lshl hx hb hd rfl k
  · cases hg)
theorem ok_lushr {y : MethodName} {cc : ByteArray} {ml : Nat} {rt : Option FieldType} {pc : Nat} (hd : decode cc pc = .ok (.lushr, 1)) : mOk y cc ml rt pc (oS 1 (s_li (fun a b => (a.toUInt64 >>> (b.toInt64.toUInt64 &&& Int64.toUInt64 63)).toInt64))) := mOk_st (by
  intro p l e R s m args below meth c H locs cells slots Q ls hx hb ho hw st st' hg k
  unfold s_li at hg
  split at hg
  · cases hg
    exact lv_lushr hx hb hd rfl k
  · cases hg)
theorem ok_i2l {y : MethodName} {cc : ByteArray} {ml : Nat} {rt : Option FieldType} {pc : Nat} (hd : decode cc pc = .ok (.i2l, 1)) : mOk y cc ml rt pc (oS 1 (s_i2l)) := mOk_st (by
  intro p l e R s m args below meth c H locs cells slots Q ls hx hb ho hw st st' hg k
  unfold s_i2l at hg
  split at hg
  · cases hg
    exact lv_i2l hx hb hd rfl k
  · cases hg)
theorem ok_l2i {y : MethodName} {cc : ByteArray} {ml : Nat} {rt : Option FieldType} {pc : Nat} (hd : decode cc pc = .ok (.l2i, 1)) : mOk y cc ml rt pc (oS 1 (s_l2i)) := mOk_st (by
  intro p l e R s m args below meth c H locs cells slots Q ls hx hb ho hw st st' hg k
  unfold s_l2i at hg
  split at hg
  · cases hg
    exact lv_l2i hx hb hd rfl k
  · cases hg)
theorem ok_lcmp {y : MethodName} {cc : ByteArray} {ml : Nat} {rt : Option FieldType} {pc : Nat} (hd : decode cc pc = .ok (.lcmp, 1)) : mOk y cc ml rt pc (oS 1 (s_lcmp)) := mOk_st (by
  intro p l e R s m args below meth c H locs cells slots Q ls hx hb ho hw st st' hg k
  unfold s_lcmp at hg
  split at hg
  · cases hg
    exact W.lcmp hx hb hd k
  · cases hg)
/-! stack steps: the stack's own -/
def s_dup : List Value → Option (List Value) := fun st => match st with
  | a :: r => if a.category = 1 then some (a :: a :: r) else none
  | _ => none
def s_pop : List Value → Option (List Value) := fun st => match st with
  | a :: r => if a.category = 1 then some r else none
  | _ => none
def s_dup2 : List Value → Option (List Value) := fun st => match st with
  | a :: b :: r => if a.category = 1 ∧ b.category = 1 then some (a :: b :: a :: b :: r) else none
  | _ => none
theorem ok_dup {y : MethodName} {cc : ByteArray} {ml : Nat} {rt : Option FieldType} {pc : Nat} (hd : decode cc pc = .ok (.dup, 1)) : mOk y cc ml rt pc (oS 1 s_dup) := mOk_st (by
  intro p l e R s m args below meth c H locs cells slots Q ls hx hb ho hw st st' hg k
  unfold s_dup at hg
  split at hg
  · split at hg
    · rename_i hz
      cases hg
      exact lv_dup hx hb hd hz k
    · cases hg
  · cases hg)
theorem ok_pop {y : MethodName} {cc : ByteArray} {ml : Nat} {rt : Option FieldType} {pc : Nat} (hd : decode cc pc = .ok (.pop, 1)) : mOk y cc ml rt pc (oS 1 s_pop) := mOk_st (by
  intro p l e R s m args below meth c H locs cells slots Q ls hx hb ho hw st st' hg k
  unfold s_pop at hg
  split at hg
  · split at hg
    · rename_i hz
      cases hg
      exact lv_pop hx hb hd hz k
    · cases hg
  · cases hg)
theorem ok_dup2 {y : MethodName} {cc : ByteArray} {ml : Nat} {rt : Option FieldType} {pc : Nat} (hd : decode cc pc = .ok (.dup2, 1)) : mOk y cc ml rt pc (oS 1 s_dup2) := mOk_st (by
  intro p l e R s m args below meth c H locs cells slots Q ls hx hb ho hw st st' hg k
  unfold s_dup2 at hg
  split at hg
  · split at hg
    · rename_i hz
      cases hg
      exact lv_dup2_11 hx hb hd hz.1 hz.2 k
    · cases hg
  · cases hg)
/-! locals -/
def o_il (i n : Nat) : mOp := fun pc lv st T => match lv[i]? with
  | some (some (.int x)) => some (pc + n, lv, .int x :: st, T)
  | _ => none
theorem ok_iload_n {y : MethodName} {cc : ByteArray} {ml : Nat} {rt : Option FieldType} {pc : Nat} {k : Fin 4} {i : Nat} (hd : decode cc pc = .ok (.iload_n k, 1)) (hi : (k : Nat) = i) : mOk y cc ml rt pc (o_il i 1) := by
  intro p l e R s m args below meth c D cA B0 n0 u0 Q hC lv st T pc' lv' st' T' hf hn hu
  unfold o_il at hf
  split at hf
  · rename_i hv
    cases hf
    exact ⟨Nat.le_refl _, Nat.le_refl _, fun _ _ k H locs ls hR hS hl => lv_iload_n hC.1 hC.2.1 hd hi (hl.2.2.2 _ _ hv) (k H locs ls hR hS hl)⟩
  · cases hf
theorem ok_iload {y : MethodName} {cc : ByteArray} {ml : Nat} {rt : Option FieldType} {pc : Nat} {i : Nat} (hd : decode cc pc = .ok (.iload i, 2)) : mOk y cc ml rt pc (o_il i 2) := by
  intro p l e R s m args below meth c D cA B0 n0 u0 Q hC lv st T pc' lv' st' T' hf hn hu
  unfold o_il at hf
  split at hf
  · rename_i hv
    cases hf
    exact ⟨Nat.le_refl _, Nat.le_refl _, fun _ _ k H locs ls hR hS hl => lv_iload hC.1 hC.2.1 hd (hl.2.2.2 _ _ hv) (k H locs ls hR hS hl)⟩
  · cases hf
def o_ll (i n : Nat) : mOp := fun pc lv st T => match lv[i]? with
  | some (some (.long x)) => some (pc + n, lv, .long x :: st, T)
  | _ => none
theorem ok_lload_n {y : MethodName} {cc : ByteArray} {ml : Nat} {rt : Option FieldType} {pc : Nat} {k : Fin 4} {i : Nat} (hd : decode cc pc = .ok (.lload_n k, 1)) (hi : (k : Nat) = i) : mOk y cc ml rt pc (o_ll i 1) := by
  intro p l e R s m args below meth c D cA B0 n0 u0 Q hC lv st T pc' lv' st' T' hf hn hu
  unfold o_ll at hf
  split at hf
  · rename_i hv
    cases hf
    exact ⟨Nat.le_refl _, Nat.le_refl _, fun _ _ k H locs ls hR hS hl => lv_lload_n hC.1 hC.2.1 hd hi (hl.2.2.2 _ _ hv) (k H locs ls hR hS hl)⟩
  · cases hf
theorem ok_lload {y : MethodName} {cc : ByteArray} {ml : Nat} {rt : Option FieldType} {pc : Nat} {i : Nat} (hd : decode cc pc = .ok (.lload i, 2)) : mOk y cc ml rt pc (o_ll i 2) := by
  intro p l e R s m args below meth c D cA B0 n0 u0 Q hC lv st T pc' lv' st' T' hf hn hu
  unfold o_ll at hf
  split at hf
  · rename_i hv
    cases hf
    exact ⟨Nat.le_refl _, Nat.le_refl _, fun _ _ k H locs ls hR hS hl => lv_lload hC.1 hC.2.1 hd (hl.2.2.2 _ _ hv) (k H locs ls hR hS hl)⟩
  · cases hf
def o_al (i n : Nat) : mOp := fun pc lv st T => match lv[i]? with
  | some (some (.ref x)) => some (pc + n, lv, .ref x :: st, T)
  | some (some .null) => some (pc + n, lv, .null :: st, T)
  | _ => none
theorem ok_aload_n {y : MethodName} {cc : ByteArray} {ml : Nat} {rt : Option FieldType} {pc : Nat} {k : Fin 4} {i : Nat} (hd : decode cc pc = .ok (.aload_n k, 1)) (hi : (k : Nat) = i) : mOk y cc ml rt pc (o_al i 1) := by
  intro p l e R s m args below meth c D cA B0 n0 u0 Q hC lv st T pc' lv' st' T' hf hn hu
  unfold o_al at hf
  split at hf
  · rename_i hv
    cases hf
    exact ⟨Nat.le_refl _, Nat.le_refl _, fun _ _ k H locs ls hR hS hl => lv_aload_n hC.1 hC.2.1 hd hi (hl.2.2.2 _ _ hv) (k H locs ls hR hS hl)⟩
  · rename_i hv
    cases hf
    exact ⟨Nat.le_refl _, Nat.le_refl _, fun _ _ k H locs ls hR hS hl => lv_aload_nN hC.1 hC.2.1 hd hi (hl.2.2.2 _ _ hv) (k H locs ls hR hS hl)⟩
  · cases hf
theorem ok_aload {y : MethodName} {cc : ByteArray} {ml : Nat} {rt : Option FieldType} {pc : Nat} {i : Nat} (hd : decode cc pc = .ok (.aload i, 2)) : mOk y cc ml rt pc (o_al i 2) := by
  intro p l e R s m args below meth c D cA B0 n0 u0 Q hC lv st T pc' lv' st' T' hf hn hu
  unfold o_al at hf
  split at hf
  · rename_i hv
    cases hf
    exact ⟨Nat.le_refl _, Nat.le_refl _, fun _ _ k H locs ls hR hS hl => lv_aload hC.1 hC.2.1 hd (hl.2.2.2 _ _ hv) (k H locs ls hR hS hl)⟩
  · rename_i hv
    cases hf
    exact ⟨Nat.le_refl _, Nat.le_refl _, fun _ _ k H locs ls hR hS hl => lv_aloadN hC.1 hC.2.1 hd (hl.2.2.2 _ _ hv) (k H locs ls hR hS hl)⟩
  · cases hf
def o_is (i n : Nat) : mOp := fun pc lv st T => match st with
  | .int x :: r => if i < lv.length ∧ mPl lv i = false then some (pc + n, lv.set i (some (.int x)), r, T) else none
  | _ => none
def o_as (i n : Nat) : mOp := fun pc lv st T => match st with
  | .ref x :: r => if i < lv.length ∧ mPl lv i = false then some (pc + n, lv.set i (some (.ref x)), r, T) else none
  | .null :: r => if i < lv.length ∧ mPl lv i = false then some (pc + n, lv.set i (some .null), r, T) else none
  | _ => none
def o_ls (i n : Nat) : mOp := fun pc lv st T => match st with
  | .long x :: r => if i + 1 < lv.length ∧ mPl lv i = false then some (pc + n, (lv.set i (some (.long x))).set (i + 1) none, r, T) else none
  | _ => none
theorem ok_istore_n {y : MethodName} {cc : ByteArray} {ml : Nat} {rt : Option FieldType} {pc : Nat} {k : Fin 4} {i : Nat} (hd : decode cc pc = .ok (.istore_n k, 1)) (hi : (k : Nat) = i) : mOk y cc ml rt pc (o_is i 1) := by
  intro p l e R s m args below meth c D cA B0 n0 u0 Q hC lv st T pc' lv' st' T' hf hn hu
  unfold o_is at hf
  split at hf
  · split at hf
    · rename_i hz
      cases hf
      exact ⟨Nat.le_refl _, Nat.le_refl _, fun _ _ k H locs ls hR hS hl => lv_istore_n hC.1 hC.2.1 hd hi (mL_has hl) (hl.1 ▸ hz.1) rfl (fun ls' hl' => k H locs ls' hR hS (mL_st1 hl hz.2 hl'))⟩
    · cases hf
  · cases hf
theorem ok_istore {y : MethodName} {cc : ByteArray} {ml : Nat} {rt : Option FieldType} {pc : Nat} {i : Nat} (hd : decode cc pc = .ok (.istore i, 2)) : mOk y cc ml rt pc (o_is i 2) := by
  intro p l e R s m args below meth c D cA B0 n0 u0 Q hC lv st T pc' lv' st' T' hf hn hu
  unfold o_is at hf
  split at hf
  · split at hf
    · rename_i hz
      cases hf
      exact ⟨Nat.le_refl _, Nat.le_refl _, fun _ _ k H locs ls hR hS hl => lv_istore hC.1 hC.2.1 hd (mL_has hl) (hl.1 ▸ hz.1) rfl (fun ls' hl' => k H locs ls' hR hS (mL_st1 hl hz.2 hl'))⟩
    · cases hf
  · cases hf
theorem ok_lstore_n {y : MethodName} {cc : ByteArray} {ml : Nat} {rt : Option FieldType} {pc : Nat} {k : Fin 4} {i : Nat} (hd : decode cc pc = .ok (.lstore_n k, 1)) (hi : (k : Nat) = i) : mOk y cc ml rt pc (o_ls i 1) := by
  intro p l e R s m args below meth c D cA B0 n0 u0 Q hC lv st T pc' lv' st' T' hf hn hu
  unfold o_ls at hf
  split at hf
  · split at hf
    · rename_i hz
      cases hf
      exact ⟨Nat.le_refl _, Nat.le_refl _, fun _ _ k H locs ls hR hS hl => lv_lstore_n hC.1 hC.2.1 hd hi (mL_has hl) (hl.1 ▸ hz.1) rfl (fun ls' hl' => k H locs ls' hR hS (mL_st2 hl hz.2 hl'))⟩
    · cases hf
  · cases hf
theorem ok_lstore {y : MethodName} {cc : ByteArray} {ml : Nat} {rt : Option FieldType} {pc : Nat} {i : Nat} (hd : decode cc pc = .ok (.lstore i, 2)) : mOk y cc ml rt pc (o_ls i 2) := by
  intro p l e R s m args below meth c D cA B0 n0 u0 Q hC lv st T pc' lv' st' T' hf hn hu
  unfold o_ls at hf
  split at hf
  · split at hf
    · rename_i hz
      cases hf
      exact ⟨Nat.le_refl _, Nat.le_refl _, fun _ _ k H locs ls hR hS hl => lv_lstore hC.1 hC.2.1 hd (mL_has hl) (hl.1 ▸ hz.1) rfl (fun ls' hl' => k H locs ls' hR hS (mL_st2 hl hz.2 hl'))⟩
    · cases hf
  · cases hf
theorem ok_astore_n {y : MethodName} {cc : ByteArray} {ml : Nat} {rt : Option FieldType} {pc : Nat} {k : Fin 4} {i : Nat} (hd : decode cc pc = .ok (.astore_n k, 1)) (hi : (k : Nat) = i) : mOk y cc ml rt pc (o_as i 1) := by
  intro p l e R s m args below meth c D cA B0 n0 u0 Q hC lv st T pc' lv' st' T' hf hn hu
  unfold o_as at hf
  split at hf
  · split at hf
    · rename_i hz
      cases hf
      exact ⟨Nat.le_refl _, Nat.le_refl _, fun _ _ k H locs ls hR hS hl => lv_astore_n hC.1 hC.2.1 hd hi (mL_has hl) (hl.1 ▸ hz.1) rfl (fun ls' hl' => k H locs ls' hR hS (mL_st1 hl hz.2 hl'))⟩
    · cases hf
  · split at hf
    · rename_i hz
      cases hf
      exact ⟨Nat.le_refl _, Nat.le_refl _, fun _ _ k H locs ls hR hS hl => lv_astore_nN hC.1 hC.2.1 hd hi (mL_has hl) (hl.1 ▸ hz.1) rfl (fun ls' hl' => k H locs ls' hR hS (mL_st1 hl hz.2 hl'))⟩
    · cases hf
  · cases hf
theorem ok_astore {y : MethodName} {cc : ByteArray} {ml : Nat} {rt : Option FieldType} {pc : Nat} {i : Nat} (hd : decode cc pc = .ok (.astore i, 2)) : mOk y cc ml rt pc (o_as i 2) := by
  intro p l e R s m args below meth c D cA B0 n0 u0 Q hC lv st T pc' lv' st' T' hf hn hu
  unfold o_as at hf
  split at hf
  · split at hf
    · rename_i hz
      cases hf
      exact ⟨Nat.le_refl _, Nat.le_refl _, fun _ _ k H locs ls hR hS hl => lv_astore hC.1 hC.2.1 hd (mL_has hl) (hl.1 ▸ hz.1) rfl (fun ls' hl' => k H locs ls' hR hS (mL_st1 hl hz.2 hl'))⟩
    · cases hf
  · split at hf
    · rename_i hz
      cases hf
      exact ⟨Nat.le_refl _, Nat.le_refl _, fun _ _ k H locs ls hR hS hl => lv_astoreN hC.1 hC.2.1 hd (mL_has hl) (hl.1 ▸ hz.1) rfl (fun ls' hl' => k H locs ls' hR hS (mL_st1 hl hz.2 hl'))⟩
    · cases hf
  · cases hf
def o_inc (i : Nat) (d : Int32) : mOp := fun pc lv st T => match lv[i]? with
  | some (some (.int x)) => if mPl lv i = false then some (pc + 3, lv.set i (some (.int (x + d))), st, T) else none
  | _ => none
theorem ok_iinc {y : MethodName} {cc : ByteArray} {ml : Nat} {rt : Option FieldType} {pc : Nat} {i : Nat} {n : Int} {d : Int32} (hd : decode cc pc = .ok (.iinc i n, 3)) (hv : Int32.ofInt n = d) : mOk y cc ml rt pc (o_inc i d) := by
  intro p l e R s m args below meth c D cA B0 n0 u0 Q hC lv st T pc' lv' st' T' hf hn hu
  unfold o_inc at hf
  split at hf
  · rename_i x hx
    split at hf
    · rename_i hz
      cases hf
      refine ⟨Nat.le_refl _, Nat.le_refl _, fun _ _ k H locs ls hR hS hl => ?_⟩
      obtain ⟨j, hj⟩ := List.getElem?_of_mem (mAl_mem hx)
      exact lv_iinc hC.1 hC.2.1 hd (mL_has hl) hj (by rw [hv]) (hl.1 ▸ (List.getElem?_eq_some_iff.mp hx).1) rfl (fun ls' hl' => k H locs ls' hR hS (mL_st1 hl hz hl'))
    · cases hf
  · cases hf
/-! branches -/
def o_goto (t : Nat) : mOp := fun _ lv st T => some (t, lv, st, T)
theorem ok_goto {y : MethodName} {cc : ByteArray} {ml : Nat} {rt : Option FieldType} {pc : Nat} {off : Int} {t : Nat} (hd : decode cc pc = .ok (.goto off, 3)) (ht : (pc : Int) + off = (t : Int)) : mOk y cc ml rt pc (o_goto t) := by
  intro p l e R s m args below meth c D cA B0 n0 u0 Q hC lv st T pc' lv' st' T' hf hn hu
  cases hf
  exact ⟨Nat.le_refl _, Nat.le_refl _, fun _ _ k H locs ls hR hS hl => lv_goto hC.1 hC.2.1 hd ht (k H locs ls hR hS hl)⟩
def o_zeq (t : Nat) : mOp := fun pc lv st T => match st with
  | .int x :: r => some (if x = 0 then t else pc + 3, lv, r, T)
  | _ => none
def o_ceq (t : Nat) : mOp := fun pc lv st T => match st with
  | .int b :: .int a :: r => some (if a = b then t else pc + 3, lv, r, T)
  | _ => none
theorem ok_zeq {y : MethodName} {cc : ByteArray} {ml : Nat} {rt : Option FieldType} {pc : Nat} {off : Int} {t : Nat} (hd : decode cc pc = .ok (.ifCond .eq off, 3)) (ht : (pc : Int) + off = (t : Int)) : mOk y cc ml rt pc (o_zeq t) := by
  intro p l e R s m args below meth c D cA B0 n0 u0 Q hC lv st T pc' lv' st' T' hf hn hu
  unfold o_zeq at hf
  split at hf
  · cases hf
    exact ⟨Nat.le_refl _, Nat.le_refl _, fun _ _ k H locs ls hR hS hl => lv_if_eq hC.1 hC.2.1 hd ht (fun q => by rw [if_pos q] at k; exact k H locs ls hR hS hl) (fun q => by rw [if_neg q] at k; exact k H locs ls hR hS hl)⟩
  · cases hf
theorem ok_ceq {y : MethodName} {cc : ByteArray} {ml : Nat} {rt : Option FieldType} {pc : Nat} {off : Int} {t : Nat} (hd : decode cc pc = .ok (.if_icmp .eq off, 3)) (ht : (pc : Int) + off = (t : Int)) : mOk y cc ml rt pc (o_ceq t) := by
  intro p l e R s m args below meth c D cA B0 n0 u0 Q hC lv st T pc' lv' st' T' hf hn hu
  unfold o_ceq at hf
  split at hf
  · cases hf
    exact ⟨Nat.le_refl _, Nat.le_refl _, fun _ _ k H locs ls hR hS hl => lv_icmp_eq hC.1 hC.2.1 hd ht (fun q => by rw [if_pos q] at k; exact k H locs ls hR hS hl) (fun q => by rw [if_neg q] at k; exact k H locs ls hR hS hl)⟩
  · cases hf
def o_zne (t : Nat) : mOp := fun pc lv st T => match st with
  | .int x :: r => some (if ¬ x = 0 then t else pc + 3, lv, r, T)
  | _ => none
def o_cne (t : Nat) : mOp := fun pc lv st T => match st with
  | .int b :: .int a :: r => some (if ¬ a = b then t else pc + 3, lv, r, T)
  | _ => none
theorem ok_zne {y : MethodName} {cc : ByteArray} {ml : Nat} {rt : Option FieldType} {pc : Nat} {off : Int} {t : Nat} (hd : decode cc pc = .ok (.ifCond .ne off, 3)) (ht : (pc : Int) + off = (t : Int)) : mOk y cc ml rt pc (o_zne t) := by
  intro p l e R s m args below meth c D cA B0 n0 u0 Q hC lv st T pc' lv' st' T' hf hn hu
  unfold o_zne at hf
  split at hf
  · cases hf
    exact ⟨Nat.le_refl _, Nat.le_refl _, fun _ _ k H locs ls hR hS hl => lv_if_ne hC.1 hC.2.1 hd ht (fun q => by rw [if_pos q] at k; exact k H locs ls hR hS hl) (fun q => by rw [if_neg (fun z => z q)] at k; exact k H locs ls hR hS hl)⟩
  · cases hf
theorem ok_cne {y : MethodName} {cc : ByteArray} {ml : Nat} {rt : Option FieldType} {pc : Nat} {off : Int} {t : Nat} (hd : decode cc pc = .ok (.if_icmp .ne off, 3)) (ht : (pc : Int) + off = (t : Int)) : mOk y cc ml rt pc (o_cne t) := by
  intro p l e R s m args below meth c D cA B0 n0 u0 Q hC lv st T pc' lv' st' T' hf hn hu
  unfold o_cne at hf
  split at hf
  · cases hf
    exact ⟨Nat.le_refl _, Nat.le_refl _, fun _ _ k H locs ls hR hS hl => lv_icmp_ne hC.1 hC.2.1 hd ht (fun q => by rw [if_pos q] at k; exact k H locs ls hR hS hl) (fun q => by rw [if_neg (fun z => z q)] at k; exact k H locs ls hR hS hl)⟩
  · cases hf
def o_zlt (t : Nat) : mOp := fun pc lv st T => match st with
  | .int x :: r => some (if x < 0 then t else pc + 3, lv, r, T)
  | _ => none
def o_clt (t : Nat) : mOp := fun pc lv st T => match st with
  | .int b :: .int a :: r => some (if a < b then t else pc + 3, lv, r, T)
  | _ => none
theorem ok_zlt {y : MethodName} {cc : ByteArray} {ml : Nat} {rt : Option FieldType} {pc : Nat} {off : Int} {t : Nat} (hd : decode cc pc = .ok (.ifCond .lt off, 3)) (ht : (pc : Int) + off = (t : Int)) : mOk y cc ml rt pc (o_zlt t) := by
  intro p l e R s m args below meth c D cA B0 n0 u0 Q hC lv st T pc' lv' st' T' hf hn hu
  unfold o_zlt at hf
  split at hf
  · cases hf
    exact ⟨Nat.le_refl _, Nat.le_refl _, fun _ _ k H locs ls hR hS hl => lv_if_lt hC.1 hC.2.1 hd ht (fun q => by rw [if_pos q] at k; exact k H locs ls hR hS hl) (fun q => by rw [if_neg q] at k; exact k H locs ls hR hS hl)⟩
  · cases hf
theorem ok_clt {y : MethodName} {cc : ByteArray} {ml : Nat} {rt : Option FieldType} {pc : Nat} {off : Int} {t : Nat} (hd : decode cc pc = .ok (.if_icmp .lt off, 3)) (ht : (pc : Int) + off = (t : Int)) : mOk y cc ml rt pc (o_clt t) := by
  intro p l e R s m args below meth c D cA B0 n0 u0 Q hC lv st T pc' lv' st' T' hf hn hu
  unfold o_clt at hf
  split at hf
  · cases hf
    exact ⟨Nat.le_refl _, Nat.le_refl _, fun _ _ k H locs ls hR hS hl => lv_icmp_lt hC.1 hC.2.1 hd ht (fun q => by rw [if_pos q] at k; exact k H locs ls hR hS hl) (fun q => by rw [if_neg q] at k; exact k H locs ls hR hS hl)⟩
  · cases hf
def o_zge (t : Nat) : mOp := fun pc lv st T => match st with
  | .int x :: r => some (if 0 ≤ x then t else pc + 3, lv, r, T)
  | _ => none
def o_cge (t : Nat) : mOp := fun pc lv st T => match st with
  | .int b :: .int a :: r => some (if b ≤ a then t else pc + 3, lv, r, T)
  | _ => none
theorem ok_zge {y : MethodName} {cc : ByteArray} {ml : Nat} {rt : Option FieldType} {pc : Nat} {off : Int} {t : Nat} (hd : decode cc pc = .ok (.ifCond .ge off, 3)) (ht : (pc : Int) + off = (t : Int)) : mOk y cc ml rt pc (o_zge t) := by
  intro p l e R s m args below meth c D cA B0 n0 u0 Q hC lv st T pc' lv' st' T' hf hn hu
  unfold o_zge at hf
  split at hf
  · cases hf
    exact ⟨Nat.le_refl _, Nat.le_refl _, fun _ _ k H locs ls hR hS hl => lv_if_ge hC.1 hC.2.1 hd ht (fun q => by rw [if_pos q] at k; exact k H locs ls hR hS hl) (fun q => by rw [if_neg q] at k; exact k H locs ls hR hS hl)⟩
  · cases hf
theorem ok_cge {y : MethodName} {cc : ByteArray} {ml : Nat} {rt : Option FieldType} {pc : Nat} {off : Int} {t : Nat} (hd : decode cc pc = .ok (.if_icmp .ge off, 3)) (ht : (pc : Int) + off = (t : Int)) : mOk y cc ml rt pc (o_cge t) := by
  intro p l e R s m args below meth c D cA B0 n0 u0 Q hC lv st T pc' lv' st' T' hf hn hu
  unfold o_cge at hf
  split at hf
  · cases hf
    exact ⟨Nat.le_refl _, Nat.le_refl _, fun _ _ k H locs ls hR hS hl => lv_icmp_ge hC.1 hC.2.1 hd ht (fun q => by rw [if_pos q] at k; exact k H locs ls hR hS hl) (fun q => by rw [if_neg q] at k; exact k H locs ls hR hS hl)⟩
  · cases hf
def o_zgt (t : Nat) : mOp := fun pc lv st T => match st with
  | .int x :: r => some (if 0 < x then t else pc + 3, lv, r, T)
  | _ => none
def o_cgt (t : Nat) : mOp := fun pc lv st T => match st with
  | .int b :: .int a :: r => some (if b < a then t else pc + 3, lv, r, T)
  | _ => none
theorem ok_zgt {y : MethodName} {cc : ByteArray} {ml : Nat} {rt : Option FieldType} {pc : Nat} {off : Int} {t : Nat} (hd : decode cc pc = .ok (.ifCond .gt off, 3)) (ht : (pc : Int) + off = (t : Int)) : mOk y cc ml rt pc (o_zgt t) := by
  intro p l e R s m args below meth c D cA B0 n0 u0 Q hC lv st T pc' lv' st' T' hf hn hu
  unfold o_zgt at hf
  split at hf
  · cases hf
    exact ⟨Nat.le_refl _, Nat.le_refl _, fun _ _ k H locs ls hR hS hl => lv_if_gt hC.1 hC.2.1 hd ht (fun q => by rw [if_pos q] at k; exact k H locs ls hR hS hl) (fun q => by rw [if_neg q] at k; exact k H locs ls hR hS hl)⟩
  · cases hf
theorem ok_cgt {y : MethodName} {cc : ByteArray} {ml : Nat} {rt : Option FieldType} {pc : Nat} {off : Int} {t : Nat} (hd : decode cc pc = .ok (.if_icmp .gt off, 3)) (ht : (pc : Int) + off = (t : Int)) : mOk y cc ml rt pc (o_cgt t) := by
  intro p l e R s m args below meth c D cA B0 n0 u0 Q hC lv st T pc' lv' st' T' hf hn hu
  unfold o_cgt at hf
  split at hf
  · cases hf
    exact ⟨Nat.le_refl _, Nat.le_refl _, fun _ _ k H locs ls hR hS hl => lv_icmp_gt hC.1 hC.2.1 hd ht (fun q => by rw [if_pos q] at k; exact k H locs ls hR hS hl) (fun q => by rw [if_neg q] at k; exact k H locs ls hR hS hl)⟩
  · cases hf
def o_zle (t : Nat) : mOp := fun pc lv st T => match st with
  | .int x :: r => some (if x ≤ 0 then t else pc + 3, lv, r, T)
  | _ => none
def o_cle (t : Nat) : mOp := fun pc lv st T => match st with
  | .int b :: .int a :: r => some (if a ≤ b then t else pc + 3, lv, r, T)
  | _ => none
theorem ok_zle {y : MethodName} {cc : ByteArray} {ml : Nat} {rt : Option FieldType} {pc : Nat} {off : Int} {t : Nat} (hd : decode cc pc = .ok (.ifCond .le off, 3)) (ht : (pc : Int) + off = (t : Int)) : mOk y cc ml rt pc (o_zle t) := by
  intro p l e R s m args below meth c D cA B0 n0 u0 Q hC lv st T pc' lv' st' T' hf hn hu
  unfold o_zle at hf
  split at hf
  · cases hf
    exact ⟨Nat.le_refl _, Nat.le_refl _, fun _ _ k H locs ls hR hS hl => lv_if_le hC.1 hC.2.1 hd ht (fun q => by rw [if_pos q] at k; exact k H locs ls hR hS hl) (fun q => by rw [if_neg q] at k; exact k H locs ls hR hS hl)⟩
  · cases hf
theorem ok_cle {y : MethodName} {cc : ByteArray} {ml : Nat} {rt : Option FieldType} {pc : Nat} {off : Int} {t : Nat} (hd : decode cc pc = .ok (.if_icmp .le off, 3)) (ht : (pc : Int) + off = (t : Int)) : mOk y cc ml rt pc (o_cle t) := by
  intro p l e R s m args below meth c D cA B0 n0 u0 Q hC lv st T pc' lv' st' T' hf hn hu
  unfold o_cle at hf
  split at hf
  · cases hf
    exact ⟨Nat.le_refl _, Nat.le_refl _, fun _ _ k H locs ls hR hS hl => lv_icmp_le hC.1 hC.2.1 hd ht (fun q => by rw [if_pos q] at k; exact k H locs ls hR hS hl) (fun q => by rw [if_neg q] at k; exact k H locs ls hR hS hl)⟩
  · cases hf
def o_null (t : Nat) : mOp := fun pc lv st T => match st with
  | .ref _ :: r => some (pc + 3, lv, r, T)
  | .null :: r => some (t, lv, r, T)
  | _ => none
def o_nnull (t : Nat) : mOp := fun pc lv st T => match st with
  | .ref _ :: r => some (t, lv, r, T)
  | .null :: r => some (pc + 3, lv, r, T)
  | _ => none
theorem ok_ifnull {y : MethodName} {cc : ByteArray} {ml : Nat} {rt : Option FieldType} {pc : Nat} {off : Int} {t : Nat} (hd : decode cc pc = .ok (.ifnull off, 3)) (ht : (pc : Int) + off = (t : Int)) : mOk y cc ml rt pc (o_null t) := by
  intro p l e R s m args below meth c D cA B0 n0 u0 Q hC lv st T pc' lv' st' T' hf hn hu
  unfold o_null at hf
  split at hf
  · cases hf
    exact ⟨Nat.le_refl _, Nat.le_refl _, fun _ _ k H locs ls hR hS hl => lv_ifnull hC.1 hC.2.1 hd (k H locs ls hR hS hl)⟩
  · cases hf
    exact ⟨Nat.le_refl _, Nat.le_refl _, fun _ _ k H locs ls hR hS hl => lv_ifnullN hC.1 hC.2.1 hd ht (k H locs ls hR hS hl)⟩
  · cases hf
theorem ok_ifnonnull {y : MethodName} {cc : ByteArray} {ml : Nat} {rt : Option FieldType} {pc : Nat} {off : Int} {t : Nat} (hd : decode cc pc = .ok (.ifnonnull off, 3)) (ht : (pc : Int) + off = (t : Int)) : mOk y cc ml rt pc (o_nnull t) := by
  intro p l e R s m args below meth c D cA B0 n0 u0 Q hC lv st T pc' lv' st' T' hf hn hu
  unfold o_nnull at hf
  split at hf
  · cases hf
    exact ⟨Nat.le_refl _, Nat.le_refl _, fun _ _ k H locs ls hR hS hl => lv_ifnonnull hC.1 hC.2.1 hd ht (k H locs ls hR hS hl)⟩
  · cases hf
    exact ⟨Nat.le_refl _, Nat.le_refl _, fun _ _ k H locs ls hR hS hl => lv_ifnonnullN hC.1 hC.2.1 hd (k H locs ls hR hS hl)⟩
  · cases hf
def o_tsw (lo hi : Int) (ts : List Nat) (d : Nat) : mOp := fun _ lv st T => match st with
  | .int x :: r => some (if x.toInt < lo ∨ hi < x.toInt then d else ts.getD (x.toInt - lo).toNat d, lv, r, T)
  | _ => none
theorem ok_tsw {y : MethodName} {cc : ByteArray} {ml : Nat} {rt : Option FieldType} {pc : Nat} {dflt lo hi : Int} {offs : Array Int} {len : Nat} {ts : List Nat} {d : Nat} (hd : decode cc pc = .ok (.tableswitch dflt lo hi offs, len)) (h0 : (pc : Int) + dflt = (d : Int)) (h1 : offs.toList.map (fun o => (pc : Int) + o) = ts.map (fun (t : Nat) => (t : Int))) (h2 : (ts.length : Int) = hi - lo + 1) : mOk y cc ml rt pc (o_tsw lo hi ts d) := by
  intro p l e R s m args below meth c D cA B0 n0 u0 Q hC lv st T pc' lv' st' T' hf hn hu
  unfold o_tsw at hf
  split at hf
  · rename_i x r
    cases hf
    refine ⟨Nat.le_refl _, Nat.le_refl _, fun _ _ k H locs ls hR hS hl => ?_⟩
    by_cases hz : x.toInt < lo ∨ hi < x.toInt
    · rw [if_pos hz] at k
      exact lv_tableOut hC.1 hC.2.1 hd hz h0 (k H locs ls hR hS hl)
    · rw [if_neg hz] at k
      have hlt : (x.toInt - lo).toNat < ts.length := by omega
      have hlo : offs.toList.length = ts.length := by have := congrArg List.length h1; simpa using this
      have hlo2 : (x.toInt - lo).toNat < offs.size := by rw [← Array.length_toList]; omega
      have he : (pc : Int) + offs[(x.toInt - lo).toNat] = ((ts.getD (x.toInt - lo).toNat d : Nat) : Int) := by
        have h3 := congrArg (fun l => l[(x.toInt - lo).toNat]?) h1
        simp only [List.getElem?_map, List.getElem?_eq_getElem hlt, List.getElem?_eq_getElem (show (x.toInt - lo).toNat < offs.toList.length by omega), Option.map_some, Option.some.injEq, Array.getElem_toList] at h3
        rw [List.getD_eq_getElem?_getD, List.getElem?_eq_getElem hlt]
        exact h3
      exact lv_tableIn hC.1 hC.2.1 hd (fun q => hz (Or.inl q)) (fun q => hz (Or.inr q)) (Array.getElem?_eq_getElem hlo2) he (k H locs ls hR hS hl)
  · cases hf
