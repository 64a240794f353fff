/-! making objects and arrays; arrays of objects; arraycopy -/
/-- a new cell of a kind, of length n, with w slots -/
def mNw (T : mT) (kd n w : Nat) : mT := (va_up T.1 T.2.2.2.2.1 (kd, n), va_up T.2.1 T.2.2.2.2.1 (fun _ => 0), va_up T.2.2.1 T.2.2.2.2.1 (fun _ => 0), va_up T.2.2.2.1 T.2.2.2.2.1 (fun _ => none), T.2.2.2.2.1 + 1, T.2.2.2.2.2 + w)
def o_new (ci : Nat) : mOp := fun pc lv st T => some (pc + 3, lv, .ref T.2.2.2.2.1 :: st, mNw T (ci + 1) 0 (mNF ci))
def o_newa (t : Nat) : mOp := fun pc lv st T => match st with
  | .int n :: r => if ¬ n < 0 ∧ n.toNatClampNeg ≤ 65536 then some (pc + 2, lv, .ref T.2.2.2.2.1 :: r, mNw T (20 + t) n.toNatClampNeg n.toNatClampNeg) else none
  | _ => none
def o_newq (t : Nat) : mOp := fun pc lv st T => match st with
  | .int n :: r => if ¬ n < 0 ∧ n.toNatClampNeg ≤ 65536 then some (pc + 3, lv, .ref T.2.2.2.2.1 :: r, mNw T (20 + t) n.toNatClampNeg n.toNatClampNeg) else none
  | _ => none
theorem va_up_s {α : Type} (f : Nat → α) (k : Nat) (v : α) : va_up f k v k = v := by simp [va_up]
theorem va_up_n {α : Type} (f : Nat → α) {k j : Nat} (v : α) (h : j ≠ k) : va_up f k v j = f j := by simp [va_up, h]
theorem mR_new {D : va_G} {cA : Nat → ClassId} {B0 kd n w : Nat} {U : State} {T : mT} {H H1 : Heap} (hR : mR D cA B0 U T H) (hk3 : kd < 30) (z : H1.size = H.size + 1) (oq : ∀ q : Nat, q < H.size → H1[q]? = H[q]?) (ha : mAt D cA (mNw T kd n w) T.2.2.2.2.1 H1) : mR D cA B0 U (mNw T kd n w) H1 := by
  obtain ⟨h1, h2, h3, h4, h5⟩ := hR
  refine ⟨by rw [z, h1]; rfl, by omega, fun b hb0 hb3 => ?_, fun b hb => ?_, fun b hb => ?_⟩
  · by_cases hb : b = T.2.2.2.2.1
    · subst hb
      exact ⟨by omega, by omega, ha⟩
    · have hK : (mNw T kd n w).1 b = T.1 b := va_up_n _ _ hb
      rw [hK] at hb0 hb3
      obtain ⟨g1, g2, g3⟩ := h3 b hb0 hb3
      exact ⟨g1, by omega, mAt_congr g3 hK (va_up_n _ _ hb) (va_up_n _ _ hb) (va_up_n _ _ hb) (oq b g2)⟩
  · have hbn : b ≠ T.2.2.2.2.1 := fun q => by
      have hK : (mNw T kd n w).1 b = (kd, n) := by rw [q]; exact va_up_s _ _ _
      rw [hK] at hb
      have : kd = 30 := hb
      omega
    have hK : (mNw T kd n w).1 b = T.1 b := va_up_n _ _ hbn
    have hI : (mNw T kd n w).2.1 b = T.2.1 b := va_up_n _ _ hbn
    rw [hK] at hb ⊢
    rw [hI]
    obtain ⟨g1, g2⟩ := h4 b hb
    exact ⟨g1, g2.kept (oq b (by omega))⟩
  · intro j
    by_cases hbn : b = T.2.2.2.2.1
    · have hI : (mNw T kd n w).2.1 b = (fun _ => 0) := by rw [hbn]; exact va_up_s _ _ _
      rw [hI]
      rfl
    · have hK : (mNw T kd n w).1 b = T.1 b := va_up_n _ _ hbn
      have hI : (mNw T kd n w).2.1 b = T.2.1 b := va_up_n _ _ hbn
      rw [hK] at hb
      rw [hI]
      exact h5 b hb j
theorem mS_new {A : Nat → Prop} {H0 H H1 : Heap} {locs : List Loc} (hS : va_S A H0 H locs) (z : H1.size = H.size + 1) (oq : ∀ q : Nat, q < H.size → H1[q]? = H[q]?) : va_S A H0 H1 locs := ⟨Nat.le_trans hS.1 (by omega), fun x h1 h2 => (oq x (Nat.lt_of_lt_of_le h1 hS.1)).trans (hS.2.1 x h1 h2), hS.2.2⟩
theorem mVal_new (T : mT) (kd n w c j : Nat) : mVal c (mNw T kd n w) T.2.2.2.2.1 j = if c = 1 then .long 0 else if c = 2 then .null else .int 0 := by
  simp [mVal, mNw, va_up, va_rf]
theorem mTy_dflt {c : Nat} {ty : FieldType} (h : mTy c ty = true) : defaultValue ty = if c = 1 then .long 0 else if c = 2 then .null else .int 0 := by
  unfold mTy at h
  split at h <;> first | rfl | cases h
section MK
variable {y : MethodName} {cc : ByteArray} {ml : Nat} {rt : Option FieldType} {pc : Nat}
theorem ok_new {ci idx N : Nat} {C : String} {TT : u_T} {ty : Nat → FieldType} (hd : decode cc pc = .ok (.new idx, 3)) (hc : mCl ci C TT N ty) (hN : mNF ci = N) (h1 : Jvm.Cond.classLink y.cls idx C ∈ mWs) (h2 : Jvm.Cond.instantiable C N ∈ mWs) (h3 : Jvm.Cond.initialized C ∈ mWs) : mOk y cc ml rt pc (o_new ci) := by
  intro p l e R s m args below meth c D cA B0 n0 u0 Q hC lv st T pc' lv' st' T' hf hn hu
  cases hf
  refine ⟨Nat.le_succ _, Nat.le_add_right _ _, fun hcap1 hcap2 kk H locs ls hR hS hL => ?_⟩
  obtain ⟨hx, hb, -, hown, hts, hK, -⟩ := hC
  have hKn := hK.1 ci _ hc.1
  have e1 : (mNw T (ci + 1) 0 (mNF ci)).2.2.2.2.1 = T.2.2.2.2.1 + 1 := rfl
  have e2 : (mNw T (ci + 1) 0 (mNF ci)).2.2.2.2.2 = T.2.2.2.2.2 + N := by rw [← hN]; rfl
  rw [e1] at hcap1
  rw [e2] at hcap2
  refine W.newcK hx hb hown (hts _ h1) (hts _ h2) (hts _ h3) rfl hd (by omega) (by omega) hKn.2.1 hR.1 fun H1 kC hkC f1 z1 o1 => ?_
  have hz : H1.size = H.size + 1 := by rw [z1, hR.1]
  have ho : ∀ q : Nat, q < H.size → H1[q]? = H[q]? := fun q hq => o1 q (by rw [← hR.1]; exact hq)
  have hg := kk H1 locs ls (mR_new hR (by have := hc.2.1; omega) hz ho ?_) (mS_new hS hz ho) hL
  · have hc1 : (mNw T (ci + 1) 0 (mNF ci)).2.2.2.2.1 - n0 = T.2.2.2.2.1 - n0 + 1 := by rw [e1]; omega
    have hc2 : (mNw T (ci + 1) 0 (mNF ci)).2.2.2.2.2 - u0 = T.2.2.2.2.2 - u0 + N := by rw [e2]; omega
    rw [hc1, hc2] at hg
    exact hg
  · unfold mAt
    have hk : (mNw T (ci + 1) 0 (mNF ci)).1 T.2.2.2.2.1 = (ci + 1, 0) := va_up_s _ _ _
    rw [hk]
    rw [if_pos hc.2.1]
    refine ⟨_, hc.1, (u_born ty hts hc.2.2.1 hKn hkC f1 hc.2.2.2.1).to (fun k hk => ?_)⟩
    show defaultValue (ty k) = mVal _ _ _ _
    rw [mVal_new]
    exact mTy_dflt (hc.2.2.2.2.2 k hk)
theorem ok_newa {t : Nat} {atype : ArrayType} (hd : decode cc pc = .ok (.newarray atype, 2)) (ht : t < 4) (h1 : Jvm.Cond.arrayClass (newarray.typeOf atype) ∈ mWs) (h2 : ∀ cA : Nat → ClassId, (mTys cA)[t]? = some (cA t, newarray.typeOf atype)) (h3 : ∀ (U : State) (c : ClassId), va_RA U c (newarray.typeOf atype) → U.vm.findClass ("[" ++ (newarray.typeOf atype).toString) = some c) (h4 : componentBytes (newarray.typeOf atype) ≤ 8) (h5 : defaultValue (newarray.typeOf atype) = if mEt t = 1 then .long 0 else if mEt t = 2 then .null else .int 0) : mOk y cc ml rt pc (o_newa t) := by
  intro p l e R s m args below meth c D cA B0 n0 u0 Q hC lv st T pc' lv' st' T' hf hn hu
  unfold o_newa at hf
  split at hf
  · rename_i n r
    split at hf
    · rename_i hz
      cases hf
      refine ⟨Nat.le_succ _, Nat.le_add_right _ _, fun hcap1 hcap2 kk H locs ls hR hS hL => ?_⟩
      obtain ⟨hx, hb, -, hown, hts, hK, -⟩ := hC
      have e1 : (mNw T (20 + t) n.toNatClampNeg n.toNatClampNeg).2.2.2.2.1 = T.2.2.2.2.1 + 1 := rfl
      have e2 : (mNw T (20 + t) n.toNatClampNeg n.toNatClampNeg).2.2.2.2.2 = T.2.2.2.2.2 + n.toNatClampNeg := rfl
      rw [e1] at hcap1
      rw [e2] at hcap2
      have hby : n.toNatClampNeg * componentBytes (newarray.typeOf atype) ≤ 536870912 := Nat.le_trans (Nat.mul_le_mul hz.2 h4) (by decide)
      refine va_newaK hx hb (hts _ h1) rfl hd rfl hz.1 rfl hby (by omega) (by omega) hR.1 fun H1 cA' f1 z1 o1 hAr hNm => ?_
      have hcA : cA' = cA t := Option.some.inj (hNm.symm.trans (h3 _ _ (hK.2 t _ (h2 cA)).2))
      subst hcA
      have hzz : H1.size = H.size + 1 := by rw [z1, hR.1]
      have ho : ∀ q : Nat, q < H.size → H1[q]? = H[q]? := fun q hq => o1 q (by rw [← hR.1]; exact hq)
      have hg := kk H1 locs ls (mR_new hR (by omega) hzz ho ?_) (mS_new hS hzz ho) hL
      · have hc1 : (mNw T (20 + t) n.toNatClampNeg n.toNatClampNeg).2.2.2.2.1 - n0 = T.2.2.2.2.1 - n0 + 1 := by rw [e1]; omega
        have hc2 : (mNw T (20 + t) n.toNatClampNeg n.toNatClampNeg).2.2.2.2.2 - u0 = T.2.2.2.2.2 - u0 + n.toNatClampNeg := by rw [e2]; omega
        rw [hc1, hc2] at hg
        exact hg
      · unfold mAt
        have hk : (mNw T (20 + t) n.toNatClampNeg n.toNatClampNeg).1 T.2.2.2.2.1 = (20 + t, n.toNatClampNeg) := va_up_s _ _ _
        rw [hk]
        rw [if_neg (show ¬ 20 + t < 20 by omega), Nat.add_sub_cancel_left, f1]
        congr 2
        funext j
        rw [mVal_new, h5]
    · cases hf
  · cases hf
theorem ok_newq {t idx : Nat} {C : String} (hd : decode cc pc = .ok (.anewarray idx, 3)) (ht : 4 ≤ t ∧ t < 7) (h1 : Jvm.Cond.classLink y.cls idx C ∈ mWs) (hao : ∀ U, mX U → va_AO C U) (h2 : ∀ cA : Nat → ClassId, (mTys cA)[t]? = some (cA t, .object C)) : mOk y cc ml rt pc (o_newq t) := by
  intro p l e R s m args below meth c D cA B0 n0 u0 Q hC lv st T pc' lv' st' T' hf hn hu
  unfold o_newq at hf
  split at hf
  · rename_i n r
    split at hf
    · rename_i hz
      cases hf
      refine ⟨Nat.le_succ _, Nat.le_add_right _ _, fun hcap1 hcap2 kk H locs ls hR hS hL => ?_⟩
      obtain ⟨hx, hb, -, hown, hts, hK, -, -, -, -, hX⟩ := hC
      have e1 : (mNw T (20 + t) n.toNatClampNeg n.toNatClampNeg).2.2.2.2.1 = T.2.2.2.2.1 + 1 := rfl
      have e2 : (mNw T (20 + t) n.toNatClampNeg n.toNatClampNeg).2.2.2.2.2 = T.2.2.2.2.2 + n.toNatClampNeg := rfl
      rw [e1] at hcap1
      rw [e2] at hcap2
      refine W.anew hx hb hown (hts _ h1) (va_AO.use (hao s hX.1)) rfl hd rfl hz.1 (by have := hz.2; omega) (by omega) (by omega) fun cA' kA comp f1 f2 f3 f4 => ?_
      obtain ⟨kA2, comp2, g1, g2, g3, g4⟩ := (hK.2 t _ (h2 cA)).2
      have hcA : cA' = cA t := Option.some.inj (f1.symm.trans g4)
      subst hcA
      generalize hH1 : H.push ({ cls := cA t, slots := Array.replicate n.toNatClampNeg .null, vm := .none } : Cell) = H1
      have z1 : H1.size = H.size + 1 := by rw [← hH1, Array.size_push]
      have e3 : H1[H.size]? = some (arrV (cA t) n.toNatClampNeg (fun _ => .null)) := by rw [← hH1, Array.getElem?_push_size, ← arrV_new]
      have o1 : ∀ q : Nat, q < H.size → H1[q]? = H[q]? := fun q hq => by rw [← hH1, Array.getElem?_push, if_neg (Nat.ne_of_lt hq)]
      have hg := kk H1 locs ls (mR_new hR (by omega) z1 o1 ?_) (mS_new hS z1 o1) hL
      · have hc1 : (mNw T (20 + t) n.toNatClampNeg n.toNatClampNeg).2.2.2.2.1 - n0 = T.2.2.2.2.1 - n0 + 1 := by rw [e1]; omega
        have hc2 : (mNw T (20 + t) n.toNatClampNeg n.toNatClampNeg).2.2.2.2.2 - u0 = T.2.2.2.2.2 - u0 + n.toNatClampNeg := by rw [e2]; omega
        rw [hc1, hc2] at hg
        rw [hR.1]
        exact hg
      · unfold mAt
        have hk : (mNw T (20 + t) n.toNatClampNeg n.toNatClampNeg).1 T.2.2.2.2.1 = (20 + t, n.toNatClampNeg) := va_up_s _ _ _
        rw [hk]
        rw [if_neg (show ¬ 20 + t < 20 by omega), Nat.add_sub_cancel_left, ← hR.1, e3]
        congr 2
        funext j
        rw [hR.1, mVal_new]
        have h8 : mEt t = 2 := by unfold mEt; rw [if_neg (by omega), if_neg (by omega)]
        rw [h8]
        rfl
    · cases hf
  · cases hf
theorem aast_one {p : Program} {l : Launch} {e : Env} {R : Room} {s : State} {m : MethodId} {args : Array Value} {below : List Frame} {meth : Method} {c : Code} {H : Heap} {locs : List Loc} {cells slots : Nat} {Q : State → Prop} {ls : Array Slot} {r : List Value} {D : va_G} {cA : Nat → ClassId} {B0 a x t ci : Nat} {i : Int32} {T : mT} {q : vw_C} (hC : mC p s m args meth c D cA B0 y cc ml rt) (hd : decode cc pc = .ok (.aastore, 1)) (hR : mR D cA B0 s T H) (hS : va_S (fun q => B0 ≤ q) s.heap H locs) (ht : 4 ≤ t ∧ t < 7) (ha : (T.1 a).1 = 20 + t) (hxk : (T.1 x).1 = ci + 1) (hci : ci + 1 < 20) (hq : vwCl[ci]? = some q) (h2 : (mTys cA)[t]? = some (cA t, .object q.1)) (hi : mInB i (T.1 a).2 = true)
    (kk : ∀ (H1 : Heap) (locs1 : List Loc), mR D cA B0 s (mSP T a i.toNatClampNeg (some x)) H1 → va_S (fun q => B0 ≤ q) s.heap H1 locs1 → W p l e R s m args below meth c H1 locs1 cells slots Q (F0 m (pc + 1) ls r)) : W p l e R s m args below meth c H locs cells slots Q (F0 m pc ls (.ref x :: .int i :: .ref a :: r)) := by
  obtain ⟨hx, hb, -, hown, hts, hK, -⟩ := hC
  obtain ⟨r', hr', cellV, g1, g2, g3, -⟩ := mR_obj hR hxk hci
  have hcls := (hK.1 ci q hq).2
  obtain ⟨kA, comp, k1, k2, k3, -⟩ := (hK.2 t _ h2).2
  have hcomp : comp = D.1 ci := Option.some.inj (k3.symm.trans hcls.1)
  subst hcomp
  obtain ⟨kC, hkC, -⟩ := hcls.2
  have h8 : mEt t = 2 := by unfold mEt; rw [if_neg (by omega), if_neg (by omega)]
  refine W.aast hx hb (mR_arr (t := t) hR (mK_pair ha) (by omega)) (fun q h => by cases h) (fun h => by cases h) k1 k2 rfl hkC ⟨(mInB_t.mp hi).1, by rw [arrV_size]; exact (mInB_t.mp hi).2⟩ g1 (fun q h => by rw [g3] at h; cases h) (by rw [g2]; exact hkC) (by rw [g2]; exact va_assign hcls) rfl rfl hd fun H1 e z oq => ?_
  exact kk H1 _ (mR_ast (t := t) hR ha (by omega) rfl rfl (fun _ _ => rfl) (fun _ _ => rfl) (fun b hb => mU_b _ _ hb) (fun q => by omega) (by simp [mVal, h8, mSP, mU, va_rf]) (fun q hq => by simp [mVal, h8, mSP, mU, hq]) e z oq) (hS.put z oq (mB0 hR ha (by omega) (by omega)))
theorem ok_aast (hd : decode cc pc = .ok (.aastore, 1)) : mOk y cc ml rt pc o_aast := by
  intro p l e R s m args below meth c D cA B0 n0 u0 Q hC lv st T pc' lv' st' T' hf hn hu
  unfold o_aast at hf
  split at hf
  · rename_i x i a r
    split at hf
    · rename_i hz
      cases hf
      refine ⟨Nat.le_refl _, Nat.le_refl _, fun _ _ kk H locs ls hR hS hL => ?_⟩
      obtain ⟨h1, h2, h3⟩ := hz
      rcases h1 with h1 | h1 | h1
      · rw [h1] at h2
        exact aast_one (t := 4) (ci := 1) (q := (RX1, TX1, 2)) hC hd hR hS (by omega) h1 h2 (by decide) rfl rfl h3 (fun H1 locs1 hR1 hS1 => kk H1 locs1 ls hR1 hS1 hL)
      · rw [h1] at h2
        exact aast_one (t := 5) (ci := 2) (q := (RX2, TX2, 8)) hC hd hR hS (by omega) h1 h2 (by decide) rfl rfl h3 (fun H1 locs1 hR1 hS1 => kk H1 locs1 ls hR1 hS1 hL)
      · rw [h1] at h2
        exact aast_one (t := 6) (ci := 6) (q := (RX6, TX6, 8)) hC hd hR hS (by omega) h1 h2 (by decide) rfl rfl h3 (fun H1 locs1 hR1 hS1 => kk H1 locs1 ls hR1 hS1 hL)
    · cases hf
  · cases hf
end MK
