/-! the heap's steps -/
def mTy (c : Nat) (ty : FieldType) : Bool := match c, ty with
  | 0, .int => true
  | 1, .long => true
  | 3, .boolean => true
  | 2, .object _ => true
  | 2, .array _ => true
  | _, _ => false
/-- what is known of a class by its number -/
def mCl (ci : Nat) (C : String) (TT : u_T) (N : Nat) (ty : Nat → FieldType) : Prop :=
  vwCl[ci]? = some (C, TT, N) ∧ ci + 1 < 20 ∧ (∀ w ∈ u_ws C TT N, w ∈ mWs) ∧ (∀ k, k < N → parseFieldDescriptor (TT k).2.2.1 = some (ty k)) ∧ (∀ a, a < N → ∀ b, b < N → a ≠ b → (TT a).2.1 ≠ (TT b).2.1) ∧ (∀ k, k < N → mTy (mFT ci k) (ty k) = true)
theorem mR_obj {D : va_G} {cA : Nat → ClassId} {B0 a ci : Nat} {U : State} {T : mT} {H : Heap} (hR : mR D cA B0 U T H) (hk : (T.1 a).1 = ci + 1) (hci : ci + 1 < 20) : ∃ r : vw_C, vwCl[ci]? = some r ∧ t_OB a (D.1 ci) r.2.2 (D.2 ci) H (mF T a ci) := by
  have h := (hR.2.2.1 a (by omega) (by omega)).2.2
  unfold mAt at h
  rw [if_pos (by omega), hk] at h
  exact h
theorem mR_arr {D : va_G} {cA : Nat → ClassId} {B0 a t n : Nat} {U : State} {T : mT} {H : Heap} (hR : mR D cA B0 U T H) (hk : T.1 a = (20 + t, n)) (ht : t < 10) : H[a]? = some (arrV (cA t) n (mVal (mEt t) T a)) := by
  have h := (hR.2.2.1 a (by rw [hk]; show 20 + t ≠ 0; omega) (by rw [hk]; show 20 + t < 30; omega)).2.2
  unfold mAt at h
  rw [if_neg (by rw [hk]; show ¬ 20 + t < 20; omega), hk] at h
  simp only [Nat.add_sub_cancel_left] at h
  exact h
theorem mAt_congr {D : va_G} {cA : Nat → ClassId} {b : Nat} {T T' : mT} {H H1 : Heap} (h : mAt D cA T b H) (h0 : T'.1 b = T.1 b) (h1 : T'.2.1 b = T.2.1 b) (h2 : T'.2.2.1 b = T.2.2.1 b) (h3 : T'.2.2.2.1 b = T.2.2.2.1 b) (hq : H1[b]? = H[b]?) : mAt D cA T' b H1 := by
  have hv : ∀ c j, mVal c T' b j = mVal c T b j := fun c j => by simp only [mVal, h1, h2, h3]
  unfold mAt at h ⊢
  rw [h0]
  split at h
  · rename_i hc
    obtain ⟨r, h4, h5⟩ := h
    rw [if_pos hc]
    refine ⟨r, h4, (h5.kept hq).to (fun k _ => ?_)⟩
    simp only [mF, hv]
  · rename_i hc
    rw [if_neg hc, hq, h]
    congr 2
    funext j
    exact (hv _ _).symm
theorem mR_upd {D : va_G} {cA : Nat → ClassId} {B0 a : Nat} {U : State} {T T' : mT} {H H1 : Heap} (hR : mR D cA B0 U T H) (hk0 : (T.1 a).1 ≠ 0) (hk3 : (T.1 a).1 < 30) (hK : T'.1 = T.1) (hn : T'.2.2.2.2.1 = T.2.2.2.2.1) (z : H1.size = H.size) (oq : ∀ q : Nat, q ≠ a → H1[q]? = H[q]?)
    (hI : ∀ b, b ≠ a → T'.2.1 b = T.2.1 b) (hJ : ∀ b, b ≠ a → T'.2.2.1 b = T.2.2.1 b) (hP : ∀ b, b ≠ a → T'.2.2.2.1 b = T.2.2.2.1 b) (h8 : (T.1 a).1 = 20 → ∀ j, fits .byte (.int (T'.2.1 a j)) = true) (ha : mAt D cA T' a H1) : mR D cA B0 U T' H1 := by
  obtain ⟨h1, h2, h3, h4, h5⟩ := hR
  refine ⟨by rw [z, h1, hn], by rw [z]; exact h2, fun b hb0 hb3 => ?_, fun b hb => ?_, fun b hb => ?_⟩
  · rw [hK] at hb0 hb3
    obtain ⟨g1, g2, g3⟩ := h3 b hb0 hb3
    refine ⟨g1, by rw [z]; exact g2, ?_⟩
    by_cases hba : b = a
    · subst hba; exact ha
    · exact mAt_congr g3 (by rw [hK]) (hI b hba) (hJ b hba) (hP b hba) (oq b hba)
  · rw [hK] at hb
    have hba : b ≠ a := fun q => by subst q; omega
    obtain ⟨g1, g2⟩ := h4 b hb
    rw [hK, hI b hba]
    exact ⟨g1, g2.kept (oq b hba)⟩
  · rw [hK] at hb
    by_cases hba : b = a
    · subst hba; exact h8 hb
    · rw [hI b hba]; exact h5 b hb
section HP
variable {p : Program} {l : Launch} {e : Env} {R : Room} {s : State} {m : MethodId} {args : Array Value} {below : List Frame} {meth : Method} {c : Code} {H : Heap} {locs : List Loc} {cells slots : Nat} {Q : State → Prop}
variable {y : MethodName} {cc : ByteArray} {ml : Nat} {rt : Option FieldType} {pc : Nat} {ls : Array Slot} {rest : List Value} {D : va_G} {cA : Nat → ClassId} {B0 a ci k idx N : Nat} {C : String} {TT : u_T} {ty : Nat → FieldType} {T T' : mT}
theorem mget (hC : mC p s m args meth c D cA B0 y cc ml rt) (hc : mCl ci C TT N ty) (hk : k < N) (hl : Jvm.Cond.fieldLink y.cls idx C (TT k).2.1 (TT k).2.2.1 ∈ mWs) (hs : (TT k).1 = C) (hd : decode cc pc = .ok (.getfield idx, 3)) (hR : mR D cA B0 s T H) (ha : (T.1 a).1 = ci + 1) {v : Value} (hv : mF T a ci k = v)
    (kk : W p l e R s m args below meth c H locs cells slots Q (F0 m (pc + 3) ls (v :: rest))) : W p l e R s m args below meth c H locs cells slots Q (F0 m pc ls (.ref a :: rest)) := by
  obtain ⟨hx, hb, -, hown, hts, hK, -⟩ := hC
  obtain ⟨r, h1, cell, q1, q2, q3, q4⟩ := mR_obj hR ha hc.2.1
  have hr : r = (C, TT, N) := Option.some.inj (h1.symm.trans hc.1)
  subst hr
  obtain ⟨hS, hfc, kC, hkC, hkind⟩ := hK.1 ci _ hc.1
  obtain ⟨cf, kf, fi, f, hi, hsl⟩ := hS k hk
  refine W.getf hx hb hown (hts _ hl) (by rw [← hs]; exact hi) (u_facts hfc hkC (u_lays hts hc.2.2.1 hk) hi).1 q1 (by rw [q3]; exact fun h => by cases h) (v := v) ?_ rfl rfl hd kk
  rw [hsl, q4 k hk, hv]
theorem mput (hC : mC p s m args meth c D cA B0 y cc ml rt) (hc : mCl ci C TT N ty) (hk : k < N) (hl : Jvm.Cond.fieldLink y.cls idx C (TT k).2.1 (TT k).2.2.1 ∈ mWs) (hs : (TT k).1 = C) (hfin : (TT k).2.2.2 = false ∨ ((TT k).2.2.2 = true ∧ y.name = "<init>" ∧ y.cls = C)) (hd : decode cc pc = .ok (.putfield idx, 3)) (hR : mR D cA B0 s T H) (hS0 : va_S (fun q => B0 ≤ q) s.heap H locs) (ha : (T.1 a).1 = ci + 1) {v : Value} (hn : narrow (ty k) v = v) (hfit : fits (ty k) v = true)
    (hK' : T'.1 = T.1) (hnx : T'.2.2.2.2.1 = T.2.2.2.2.1) (hI : ∀ b, b ≠ a → T'.2.1 b = T.2.1 b) (hJ : ∀ b, b ≠ a → T'.2.2.1 b = T.2.2.1 b) (hP : ∀ b, b ≠ a → T'.2.2.2.1 b = T.2.2.2.1 b) (hv : mF T' a ci k = v) (ho : ∀ j, j < N → j ≠ k → mF T' a ci j = mF T a ci j)
    (kk : ∀ (H1 : Heap) (locs1 : List Loc), mR D cA B0 s T' H1 → va_S (fun q => B0 ≤ q) s.heap H1 locs1 → W p l e R s m args below meth c H1 locs1 cells slots Q (F0 m (pc + 3) ls rest)) : W p l e R s m args below meth c H locs cells slots Q (F0 m pc ls (v :: .ref a :: rest)) := by
  obtain ⟨hx, hb, -, hown, hts, hK, -, -, hnm, -⟩ := hC
  have hap := va_apart (own := y.cls) hts hc.2.2.1 ty hc.2.2.2.1 hc.2.2.2.2.1 hK hc.1
  have hB : B0 ≤ a := (hR.2.2.1 a (by omega) (by have := hc.2.1; omega)).1
  obtain ⟨r, h1, cell, q1, q2, q3, q4⟩ := mR_obj hR ha hc.2.1
  have hr : r = (C, TT, N) := Option.some.inj (h1.symm.trans hc.1)
  subst hr
  obtain ⟨hS, hfc, kC, hkC, hkind⟩ := hK.1 ci _ hc.1
  obtain ⟨cf, kf, fi, f, hi, hsl⟩ := hS k hk
  have hlay := hts _ (hc.2.2.1 _ (u_in_lay hk))
  unfold u_lay at hlay
  have hst := (u_facts hfc hkC (u_lays hts hc.2.2.1 hk) hi).1
  have fin : ∀ (H' : Heap), H'[a]? = some (cell.setSlot f.slot v) → H'.size = H.size → (∀ q, q ≠ a → H'[q]? = H[q]?) → W p l e R s m args below meth c H' (locs ++ [⟨a, f.slot⟩]) cells slots Q (F0 m (pc + 3) ls rest) := by
    intro H' e1 e2 e3
    rw [hsl] at e1 ⊢
    refine kk H' _ (mR_upd hR (by omega) (by have := hc.2.1; omega) hK' hnx e2 e3 hI hJ hP (fun q => by have := hc.2.1; omega) ?_) (hS0.put e2 e3 hB)
    unfold mAt
    rw [hK', if_pos (by have := hc.2.1; omega), ha]
    refine ⟨_, hc.1, t_OB.to (V := updV (mF T a ci) k v) ⟨_, e1, q2, q3, t_set q4 hap hk v⟩ (fun j hj => ?_)⟩
    unfold updV
    by_cases hjk : j = k
    · subst hjk; rw [if_pos rfl]; exact hv.symm
    · rw [if_neg hjk]; exact (ho j hj hjk).symm
  rcases hfin with hfin | ⟨hfin, hyn, hyc⟩
  · rw [if_neg (by rw [hfin]; decide)] at hlay
    have h6 := u_store hfc hkC hkind hlay hi (hc.2.2.2.1 k hk) hn hfit
    exact W.putK hx hb (f := f) ⟨hown, hts _ hl, ⟨_, _, _, (by rw [← hs]; exact hi)⟩, hst⟩ (by rw [q2]; exact h6) q1 q3 (by rw [hsl]; exact k2_hasslot (q4 k hk)) rfl rfl hd fin
  · rw [if_pos hfin] at hlay
    have hcf : m.cls = cf := by
      obtain ⟨_, _, c', _, _, _, -, -, hf', -, -, -, hown2, -⟩ := Cond.laysFinal_spec hlay
      have e1 : c' = cf := by have := hi.symm.trans hf'; simp at this; exact this.1.symm
      rw [hs, ← hyc] at hown2
      rw [← e1]; exact Option.some.inj (hown.symm.trans hown2)
    have h6 := u_fits hfc hkC hkind (Or.inr hlay) hi (hc.2.2.2.1 k hk) hn hfit
    exact W.putFinK hx hb hown (hts _ hl) (by rw [← hs]; exact hi) hst hcf (hnm.trans hyn) (by rw [q2]; exact h6) q1 q3 (by rw [hsl]; exact k2_hasslot (q4 k hk)) rfl rfl hd fin
end HP
/-- reading a field: an int, a long, a reference -/
def o_gI (ci k : Nat) : mOp := fun pc lv st T => match st with
  | .ref a :: r => if (T.1 a).1 = ci + 1 then some (pc + 3, lv, .int (T.2.1 a k) :: r, T) else none
  | _ => none
def o_gJ (ci k : Nat) : mOp := fun pc lv st T => match st with
  | .ref a :: r => if (T.1 a).1 = ci + 1 then some (pc + 3, lv, .long (T.2.2.1 a k) :: r, T) else none
  | _ => none
def o_gP (ci k : Nat) : mOp := fun pc lv st T => match st with
  | .ref a :: r => if (T.1 a).1 = ci + 1 then some (pc + 3, lv, va_rf (T.2.2.2.1 a k) :: r, T) else none
  | _ => none
/-- a field's word: class ci, its field k, at the entry idx of class own -/
def mFd (own : String) (idx ci k : Nat) : Prop := ∃ (C : String) (TT : u_T) (N : Nat) (ty : Nat → FieldType), mCl ci C TT N ty ∧ k < N ∧ Jvm.Cond.fieldLink own idx C (TT k).2.1 (TT k).2.2.1 ∈ mWs ∧ (TT k).1 = C
/-- a field that a method may write -/
def mFw (y : MethodName) (idx ci k : Nat) : Prop := ∃ (C : String) (TT : u_T) (N : Nat) (ty : Nat → FieldType), mCl ci C TT N ty ∧ k < N ∧ Jvm.Cond.fieldLink y.cls idx C (TT k).2.1 (TT k).2.2.1 ∈ mWs ∧ (TT k).1 = C ∧ ((TT k).2.2.2 = false ∨ ((TT k).2.2.2 = true ∧ y.name = "<init>" ∧ y.cls = C))
section HO
variable {y : MethodName} {cc : ByteArray} {ml : Nat} {rt : Option FieldType} {pc ci k idx : Nat}
theorem ok_gI (hd : decode cc pc = .ok (.getfield idx, 3)) (hF : mFd y.cls idx ci k) (ht : mFT ci k = 0 ∨ mFT ci k = 3) : mOk y cc ml rt pc (o_gI ci k) := by
  intro p l e R s m args below meth c D cA B0 n0 u0 Q hC lv st T pc' lv' st' T' hf hn hu
  obtain ⟨C, TT, N, ty, hc, hk, hl, hs⟩ := hF
  unfold o_gI at hf
  split at hf
  · split at hf
    · rename_i ha
      cases hf
      exact ⟨Nat.le_refl _, Nat.le_refl _, fun _ _ kk H locs ls hR hS hL => mget hC hc hk hl hs hd hR ha (by rcases ht with ht | ht <;> simp [mF, mVal, ht]) (kk H locs ls hR hS hL)⟩
    · cases hf
  · cases hf
theorem ok_gJ (hd : decode cc pc = .ok (.getfield idx, 3)) (hF : mFd y.cls idx ci k) (ht : mFT ci k = 1) : mOk y cc ml rt pc (o_gJ ci k) := by
  intro p l e R s m args below meth c D cA B0 n0 u0 Q hC lv st T pc' lv' st' T' hf hn hu
  obtain ⟨C, TT, N, ty, hc, hk, hl, hs⟩ := hF
  unfold o_gJ at hf
  split at hf
  · split at hf
    · rename_i ha
      cases hf
      exact ⟨Nat.le_refl _, Nat.le_refl _, fun _ _ kk H locs ls hR hS hL => mget hC hc hk hl hs hd hR ha (by simp [mF, mVal, ht]) (kk H locs ls hR hS hL)⟩
    · cases hf
  · cases hf
theorem ok_gP (hd : decode cc pc = .ok (.getfield idx, 3)) (hF : mFd y.cls idx ci k) (ht : mFT ci k = 2) : mOk y cc ml rt pc (o_gP ci k) := by
  intro p l e R s m args below meth c D cA B0 n0 u0 Q hC lv st T pc' lv' st' T' hf hn hu
  obtain ⟨C, TT, N, ty, hc, hk, hl, hs⟩ := hF
  unfold o_gP at hf
  split at hf
  · split at hf
    · rename_i ha
      cases hf
      exact ⟨Nat.le_refl _, Nat.le_refl _, fun _ _ kk H locs ls hR hS hL => mget hC hc hk hl hs hd hR ha (by simp [mF, mVal, ht]) (kk H locs ls hR hS hL)⟩
    · cases hf
  · cases hf
end HO
/-- writing a field -/
def mSI (T : mT) (a k : Nat) (x : Int32) : mT := (T.1, mU T.2.1 a k x, T.2.2.1, T.2.2.2.1, T.2.2.2.2.1, T.2.2.2.2.2)
def mSJ (T : mT) (a k : Nat) (x : Int64) : mT := (T.1, T.2.1, mU T.2.2.1 a k x, T.2.2.2.1, T.2.2.2.2.1, T.2.2.2.2.2)
def mSP (T : mT) (a k : Nat) (x : Option Nat) : mT := (T.1, T.2.1, T.2.2.1, mU T.2.2.2.1 a k x, T.2.2.2.2.1, T.2.2.2.2.2)
def o_pI (ci k : Nat) : mOp := fun pc lv st T => match st with
  | .int x :: .ref a :: r => if (T.1 a).1 = ci + 1 then some (pc + 3, lv, r, mSI T a k x) else none
  | _ => none
def o_pZ (ci k : Nat) : mOp := fun pc lv st T => match st with
  | .int x :: .ref a :: r => if (T.1 a).1 = ci + 1 ∧ (x = 0 ∨ x = 1) then some (pc + 3, lv, r, mSI T a k x) else none
  | _ => none
def o_pJ (ci k : Nat) : mOp := fun pc lv st T => match st with
  | .long x :: .ref a :: r => if (T.1 a).1 = ci + 1 then some (pc + 3, lv, r, mSJ T a k x) else none
  | _ => none
def o_pP (ci k : Nat) : mOp := fun pc lv st T => match st with
  | .ref x :: .ref a :: r => if (T.1 a).1 = ci + 1 then some (pc + 3, lv, r, mSP T a k (some x)) else none
  | _ => none
theorem mU_b {α : Type} (f : Nat → Nat → α) {a k b : Nat} (v : α) (h : b ≠ a) : mU f a k v b = f b := by
  funext j
  exact mU_n f v (fun q => h q.1)
theorem mTy_0 {ty : FieldType} (h : mTy 0 ty = true) : ty = .int := by
  cases ty <;> first | rfl | (simp [mTy] at h)
theorem mTy_1 {ty : FieldType} (h : mTy 1 ty = true) : ty = .long := by
  cases ty <;> first | rfl | (simp [mTy] at h)
theorem mTy_3 {ty : FieldType} (h : mTy 3 ty = true) : ty = .boolean := by
  cases ty <;> first | rfl | (simp [mTy] at h)
theorem mTy_2 {ty : FieldType} (h : mTy 2 ty = true) (x : Nat) : narrow ty (.ref x) = .ref x ∧ fits ty (.ref x) = true := by
  cases ty <;> first | exact ⟨rfl, rfl⟩ | (simp [mTy] at h)
section HW
variable {y : MethodName} {cc : ByteArray} {ml : Nat} {rt : Option FieldType} {pc ci k idx : Nat}
theorem ok_pI (hd : decode cc pc = .ok (.putfield idx, 3)) (hF : mFw y idx ci k) (ht : mFT ci k = 0) : mOk y cc ml rt pc (o_pI ci k) := by
  intro p l e R s m args below meth c D cA B0 n0 u0 Q hC lv st T pc' lv' st' T' hf hn hu
  obtain ⟨C, TT, N, ty, hc, hk, hl, hs, hfin⟩ := hF
  have hty : ty k = .int := mTy_0 (by rw [← ht]; exact hc.2.2.2.2.2 k hk)
  unfold o_pI at hf
  split at hf
  · rename_i x a r
    split at hf
    · rename_i ha
      cases hf
      refine ⟨Nat.le_refl _, Nat.le_refl _, fun _ _ kk H locs ls hR hS hL => ?_⟩
      refine mput hC hc hk hl hs hfin hd hR hS ha (T' := mSI T a k x) (by rw [hty]; rfl) (by rw [hty]; rfl) rfl rfl (fun b hb => mU_b _ _ hb) (fun _ _ => rfl) (fun _ _ => rfl) ?_ ?_ (fun H1 locs1 hR1 hS1 => kk H1 locs1 ls hR1 hS1 hL)
      · simp [mF, mVal, ht, mSI, mU]
      · intro j _ hj
        simp [mF, mVal, mSI, mU, hj]
    · cases hf
  · cases hf
theorem ok_pZ (hd : decode cc pc = .ok (.putfield idx, 3)) (hF : mFw y idx ci k) (ht : mFT ci k = 3) : mOk y cc ml rt pc (o_pZ ci k) := by
  intro p l e R s m args below meth c D cA B0 n0 u0 Q hC lv st T pc' lv' st' T' hf hn hu
  obtain ⟨C, TT, N, ty, hc, hk, hl, hs, hfin⟩ := hF
  have hty : ty k = .boolean := mTy_3 (by rw [← ht]; exact hc.2.2.2.2.2 k hk)
  unfold o_pZ at hf
  split at hf
  · rename_i x a r
    split at hf
    · rename_i ha
      cases hf
      refine ⟨Nat.le_refl _, Nat.le_refl _, fun _ _ kk H locs ls hR hS hL => ?_⟩
      refine mput hC hc hk hl hs hfin hd hR hS ha.1 (T' := mSI T a k x) (by rw [hty]; rcases ha.2 with q | q <;> subst q <;> rfl) (by rw [hty]; rcases ha.2 with q | q <;> subst q <;> rfl) rfl rfl (fun b hb => mU_b _ _ hb) (fun _ _ => rfl) (fun _ _ => rfl) ?_ ?_ (fun H1 locs1 hR1 hS1 => kk H1 locs1 ls hR1 hS1 hL)
      · simp [mF, mVal, ht, mSI, mU]
      · intro j _ hj
        simp [mF, mVal, mSI, mU, hj]
    · cases hf
  · cases hf
theorem ok_pJ (hd : decode cc pc = .ok (.putfield idx, 3)) (hF : mFw y idx ci k) (ht : mFT ci k = 1) : mOk y cc ml rt pc (o_pJ ci k) := by
  intro p l e R s m args below meth c D cA B0 n0 u0 Q hC lv st T pc' lv' st' T' hf hn hu
  obtain ⟨C, TT, N, ty, hc, hk, hl, hs, hfin⟩ := hF
  have hty : ty k = .long := mTy_1 (by rw [← ht]; exact hc.2.2.2.2.2 k hk)
  unfold o_pJ at hf
  split at hf
  · rename_i x a r
    split at hf
    · rename_i ha
      cases hf
      refine ⟨Nat.le_refl _, Nat.le_refl _, fun _ _ kk H locs ls hR hS hL => ?_⟩
      refine mput hC hc hk hl hs hfin hd hR hS ha (T' := mSJ T a k x) (by rw [hty]; rfl) (by rw [hty]; rfl) rfl rfl (fun _ _ => rfl) (fun b hb => mU_b _ _ hb) (fun _ _ => rfl) ?_ ?_ (fun H1 locs1 hR1 hS1 => kk H1 locs1 ls hR1 hS1 hL)
      · simp [mF, mVal, ht, mSJ, mU]
      · intro j _ hj
        simp [mF, mVal, mSJ, mU, hj]
    · cases hf
  · cases hf
theorem ok_pP (hd : decode cc pc = .ok (.putfield idx, 3)) (hF : mFw y idx ci k) (ht : mFT ci k = 2) : mOk y cc ml rt pc (o_pP ci k) := by
  intro p l e R s m args below meth c D cA B0 n0 u0 Q hC lv st T pc' lv' st' T' hf hn hu
  obtain ⟨C, TT, N, ty, hc, hk, hl, hs, hfin⟩ := hF
  have hty : mTy 2 (ty k) = true := by rw [← ht]; exact hc.2.2.2.2.2 k hk
  unfold o_pP at hf
  split at hf
  · rename_i x a r
    split at hf
    · rename_i ha
      cases hf
      refine ⟨Nat.le_refl _, Nat.le_refl _, fun _ _ kk H locs ls hR hS hL => ?_⟩
      refine mput hC hc hk hl hs hfin hd hR hS ha (T' := mSP T a k (some x)) (mTy_2 hty x).1 (mTy_2 hty x).2 rfl rfl (fun _ _ => rfl) (fun _ _ => rfl) (fun b hb => mU_b _ _ hb) ?_ ?_ (fun H1 locs1 hR1 hS1 => kk H1 locs1 ls hR1 hS1 hL)
      · simp [mF, mVal, ht, mSP, mU, va_rf]
      · intro j _ hj
        simp [mF, mVal, mSP, mU, hj]
    · cases hf
  · cases hf
end HW
