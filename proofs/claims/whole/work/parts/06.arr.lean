/-! arrays -/
/-- an index is within -/
def mInB (i : Int32) (n : Nat) : Bool := !decide (i < 0) && decide (i.toNatClampNeg < n)
theorem mInB_t {i : Int32} {n : Nat} : mInB i n = true ↔ ¬ i < 0 ∧ i.toNatClampNeg < n := by simp [mInB]
theorem mInB_vp {i : Int32} {n : Nat} (h : mInB i n = true) : ¬ (i < 0 ∨ n ≤ i.toNatClampNeg) := fun q => q.elim (mInB_t.mp h).1 (fun z => by have := (mInB_t.mp h).2; omega)
theorem mInB_nI {j n : Nat} (h : j < n) (hn : n < 2 ^ 31) : mInB (nI j) n = true := mInB_t.mpr ⟨nI_pos (by omega), by rw [nI_clamp (by omega)]; exact h⟩
/-- reading: an int (of an array of ints), a byte or boolean, a long, a reference; the script -/
def o_iald : mOp := fun pc lv st T => match st with
  | .int i :: .ref a :: r => if (T.1 a).1 = 21 ∧ mInB i (T.1 a).2 = true then some (pc + 1, lv, .int (T.2.1 a i.toNatClampNeg) :: r, T) else none
  | _ => none
def o_bald : mOp := fun pc lv st T => match st with
  | .int i :: .ref a :: r => if ((T.1 a).1 = 20 ∨ (T.1 a).1 = 23) ∧ mInB i (T.1 a).2 = true then some (pc + 1, lv, .int (T.2.1 a i.toNatClampNeg) :: r, T) else none
  | _ => none
def o_lald : mOp := fun pc lv st T => match st with
  | .int i :: .ref a :: r => if (T.1 a).1 = 22 ∧ mInB i (T.1 a).2 = true then some (pc + 1, lv, .long (T.2.2.1 a i.toNatClampNeg) :: r, T) else none
  | _ => none
def o_aald : mOp := fun pc lv st T => match st with
  | .int i :: .ref a :: r => if ((T.1 a).1 = 24 ∨ (T.1 a).1 = 25 ∨ (T.1 a).1 = 26) ∧ mInB i (T.1 a).2 = true then some (pc + 1, lv, va_rf (T.2.2.2.1 a i.toNatClampNeg) :: r, T) else none
  | _ => none
def o_sld : mOp := fun pc lv st T => match st with
  | .int i :: .ref a :: r => if (T.1 a).1 = 30 ∧ mInB i (T.1 a).2 = true then some (pc + 1, lv, .int (T.2.1 a i.toNatClampNeg) :: r, T) else none
  | _ => none
def o_alen : mOp := fun pc lv st T => match st with
  | .ref a :: r => if 20 ≤ (T.1 a).1 ∧ (T.1 a).1 < 27 then some (pc + 1, lv, .int (nI (T.1 a).2) :: r, T) else none
  | _ => none
def o_slen : mOp := fun pc lv st T => match st with
  | .ref a :: r => if (T.1 a).1 = 30 then some (pc + 1, lv, .int (nI (T.1 a).2) :: r, T) else none
  | _ => none
/-- writing -/
def o_iast : mOp := fun pc lv st T => match st with
  | .int x :: .int i :: .ref a :: r => if (T.1 a).1 = 21 ∧ mInB i (T.1 a).2 = true then some (pc + 1, lv, r, mSI T a i.toNatClampNeg x) else none
  | _ => none
def o_bast : mOp := fun pc lv st T => match st with
  | .int x :: .int i :: .ref a :: r => if (T.1 a).1 = 20 ∧ mInB i (T.1 a).2 = true then some (pc + 1, lv, r, mSI T a i.toNatClampNeg x.toInt8.toInt32) else if (T.1 a).1 = 23 ∧ mInB i (T.1 a).2 = true ∧ (x = 0 ∨ x = 1) then some (pc + 1, lv, r, mSI T a i.toNatClampNeg x) else none
  | _ => none
def o_last : mOp := fun pc lv st T => match st with
  | .long x :: .int i :: .ref a :: r => if (T.1 a).1 = 22 ∧ mInB i (T.1 a).2 = true then some (pc + 1, lv, r, mSJ T a i.toNatClampNeg x) else none
  | _ => none
/-- the kind of what an array of objects holds -/
def mCo (k : Nat) : Nat := if k = 24 then 2 else if k = 25 then 3 else 7
def o_aast : mOp := fun pc lv st T => match st with
  | .ref x :: .int i :: .ref a :: r => if ((T.1 a).1 = 24 ∨ (T.1 a).1 = 25 ∨ (T.1 a).1 = 26) ∧ (T.1 x).1 = mCo (T.1 a).1 ∧ mInB i (T.1 a).2 = true then some (pc + 1, lv, r, mSP T a i.toNatClampNeg (some x)) else none
  | _ => none
section AR
variable {y : MethodName} {cc : ByteArray} {ml : Nat} {rt : Option FieldType} {pc : Nat}
theorem mK_pair {T : mT} {a k : Nat} (h : (T.1 a).1 = k) : T.1 a = (k, (T.1 a).2) := by rw [← h]
theorem mIsz {cA : ClassId} {n : Nat} {f : Nat → Value} {i : Int32} (h : mInB i n = true) : ¬ (i < 0 ∨ (arrV cA n f).slots.size ≤ i.toNatClampNeg) := by rw [arrV_size]; exact mInB_vp h
theorem ok_iald (hd : decode cc pc = .ok (.iaload, 1)) : mOk y cc ml rt pc o_iald := by
  intro p l e R s m args below meth c D cA B0 n0 u0 Q hC lv st T pc' lv' st' T' hf hn hu
  unfold o_iald at hf
  split at hf
  · rename_i i a r
    split at hf
    · rename_i ha
      cases hf
      refine ⟨Nat.le_refl _, Nat.le_refl _, fun _ _ kk H locs ls hR hS hL => ?_⟩
      obtain ⟨hx, hb, -, hown, hts, hK, -⟩ := hC
      exact W.iald hx hb (mR_arr (t := 1) hR (mK_pair ha.1) (by decide)) ((hK.2 1 _ rfl).1 _ _) (fun q => by cases q) (mIsz ha.2) (by rw [arrV_read _ _ (mInB_t.mp ha.2).2]; rfl) rfl rfl hd (kk H locs ls hR hS hL)
    · cases hf
  · cases hf
theorem ok_bald (hd : decode cc pc = .ok (.baload, 1)) : mOk y cc ml rt pc o_bald := by
  intro p l e R s m args below meth c D cA B0 n0 u0 Q hC lv st T pc' lv' st' T' hf hn hu
  unfold o_bald at hf
  split at hf
  · rename_i i a r
    split at hf
    · rename_i ha
      cases hf
      refine ⟨Nat.le_refl _, Nat.le_refl _, fun _ _ kk H locs ls hR hS hL => ?_⟩
      obtain ⟨hx, hb, -, hown, hts, hK, -⟩ := hC
      rcases ha.1 with h1 | h1
      · exact W.bald hx hb (mR_arr (t := 0) hR (mK_pair h1) (by decide)) ((hK.2 0 _ rfl).1 _ _) (fun q => by cases q) (mIsz ha.2) (by rw [arrV_read _ _ (mInB_t.mp ha.2).2]; rfl) rfl rfl hd (kk H locs ls hR hS hL)
      · exact W.zald hx hb (mR_arr (t := 3) hR (mK_pair h1) (by decide)) ((hK.2 3 _ rfl).1 _ _) (fun q => by cases q) (mIsz ha.2) (by rw [arrV_read _ _ (mInB_t.mp ha.2).2]; rfl) rfl rfl hd (kk H locs ls hR hS hL)
    · cases hf
  · cases hf
theorem ok_lald (hd : decode cc pc = .ok (.laload, 1)) : mOk y cc ml rt pc o_lald := by
  intro p l e R s m args below meth c D cA B0 n0 u0 Q hC lv st T pc' lv' st' T' hf hn hu
  unfold o_lald at hf
  split at hf
  · rename_i i a r
    split at hf
    · rename_i ha
      cases hf
      refine ⟨Nat.le_refl _, Nat.le_refl _, fun _ _ kk H locs ls hR hS hL => ?_⟩
      obtain ⟨hx, hb, -, hown, hts, hK, -⟩ := hC
      exact W.lald hx hb (mR_arr (t := 2) hR (mK_pair ha.1) (by decide)) ((hK.2 2 _ rfl).1 _ _) (fun q => by cases q) (mIsz ha.2) (by rw [arrV_read _ _ (mInB_t.mp ha.2).2]; rfl) rfl rfl hd (kk H locs ls hR hS hL)
    · cases hf
  · cases hf
theorem ok_aald (hd : decode cc pc = .ok (.aaload, 1)) : mOk y cc ml rt pc o_aald := by
  intro p l e R s m args below meth c D cA B0 n0 u0 Q hC lv st T pc' lv' st' T' hf hn hu
  unfold o_aald at hf
  split at hf
  · rename_i i a r
    split at hf
    · rename_i ha
      cases hf
      refine ⟨Nat.le_refl _, Nat.le_refl _, fun _ _ kk H locs ls hR hS hL => ?_⟩
      obtain ⟨hx, hb, -, hown, hts, hK, -⟩ := hC
      rcases ha.1 with h1 | h1 | h1
      · exact W.aald (ty := .object "AtlasDesk$Edition") hx hb (mR_arr (t := 4) hR (mK_pair h1) (by decide)) ((hK.2 4 _ rfl).1 _ _) rfl (fun q => by cases q) (mIsz ha.2) (by rw [arrV_read _ _ (mInB_t.mp ha.2).2]; rfl) rfl rfl hd (kk H locs ls hR hS hL)
      · exact W.aald (ty := .object "AtlasDesk$Feature") hx hb (mR_arr (t := 5) hR (mK_pair h1) (by decide)) ((hK.2 5 _ rfl).1 _ _) rfl (fun q => by cases q) (mIsz ha.2) (by rw [arrV_read _ _ (mInB_t.mp ha.2).2]; rfl) rfl rfl hd (kk H locs ls hR hS hL)
      · exact W.aald (ty := .object "AtlasDesk$Path") hx hb (mR_arr (t := 6) hR (mK_pair h1) (by decide)) ((hK.2 6 _ rfl).1 _ _) rfl (fun q => by cases q) (mIsz ha.2) (by rw [arrV_read _ _ (mInB_t.mp ha.2).2]; rfl) rfl rfl hd (kk H locs ls hR hS hL)
    · cases hf
  · cases hf
theorem ok_sld (hd : decode cc pc = .ok (.iaload, 1)) : mOk y cc ml rt pc o_sld := by
  intro p l e R s m args below meth c D cA B0 n0 u0 Q hC lv st T pc' lv' st' T' hf hn hu
  unfold o_sld at hf
  split at hf
  · rename_i i a r
    split at hf
    · rename_i ha
      cases hf
      refine ⟨Nat.le_refl _, Nat.le_refl _, fun _ _ kk H locs ls hR hS hL => ?_⟩
      obtain ⟨hx, hb, -, hown, hts, hK, -⟩ := hC
      obtain ⟨-, scr, h1, h2, h3, h4, h5⟩ := hR.2.2.2.1 a ha.1
      exact W.iald (v := .int (T.2.1 a i.toNatClampNeg)) hx hb h1 h2 h3 (by rw [h4]; exact mInB_vp ha.2) (h5 _ (mInB_t.mp ha.2).2) rfl rfl hd (kk H locs ls hR hS hL)
    · cases hf
  · cases hf
theorem ok_slen (hd : decode cc pc = .ok (.arraylength, 1)) : mOk y cc ml rt pc o_slen := by
  intro p l e R s m args below meth c D cA B0 n0 u0 Q hC lv st T pc' lv' st' T' hf hn hu
  unfold o_slen at hf
  split at hf
  · rename_i a r
    split at hf
    · rename_i ha
      cases hf
      refine ⟨Nat.le_refl _, Nat.le_refl _, fun _ _ kk H locs ls hR hS hL => ?_⟩
      obtain ⟨hx, hb, -, hown, hts, hK, -⟩ := hC
      obtain ⟨-, scr, h1, h2, h3, h4, h5⟩ := hR.2.2.2.1 a ha
      exact W.alen (n := nI (T.1 a).2) hx hb h1 h2 (by rw [h4]; rfl) rfl rfl hd (kk H locs ls hR hS hL)
    · cases hf
  · cases hf
theorem mTys_at (cA : Nat → ClassId) {t : Nat} (ht : t < 7) : ∃ ty, (mTys cA)[t]? = some (cA t, ty) := by
  match t, ht with
  | 0, _ => exact ⟨_, rfl⟩
  | 1, _ => exact ⟨_, rfl⟩
  | 2, _ => exact ⟨_, rfl⟩
  | 3, _ => exact ⟨_, rfl⟩
  | 4, _ => exact ⟨_, rfl⟩
  | 5, _ => exact ⟨_, rfl⟩
  | 6, _ => exact ⟨_, rfl⟩
  | t + 7, h => exact absurd h (by omega)
theorem ok_alen (hd : decode cc pc = .ok (.arraylength, 1)) : mOk y cc ml rt pc o_alen := by
  intro p l e R s m args below meth c D cA B0 n0 u0 Q hC lv st T pc' lv' st' T' hf hn hu
  unfold o_alen at hf
  split at hf
  · rename_i a r
    split at hf
    · rename_i ha
      cases hf
      refine ⟨Nat.le_refl _, Nat.le_refl _, fun _ _ kk H locs ls hR hS hL => ?_⟩
      obtain ⟨hx, hb, -, hown, hts, hK, -⟩ := hC
      obtain ⟨t, ht⟩ : ∃ t, (T.1 a).1 = 20 + t := ⟨(T.1 a).1 - 20, by omega⟩
      obtain ⟨ty, hty⟩ := mTys_at cA (show t < 7 by omega)
      exact W.alen (n := nI (T.1 a).2) hx hb (mR_arr hR (mK_pair ht) (by omega)) ((hK.2 t _ hty).1 _ _) (by rw [arrV_size]; rfl) rfl rfl hd (kk H locs ls hR hS hL)
    · cases hf
  · cases hf
/-- what a write into an array leaves -/
theorem mR_ast {D : va_G} {cA : Nat → ClassId} {B0 a t j : Nat} {U : State} {T T' : mT} {H H1 : Heap} {v : Value} (hR : mR D cA B0 U T H) (hk : (T.1 a).1 = 20 + t) (ht : t < 7) (hK : T'.1 = T.1) (hn : T'.2.2.2.2.1 = T.2.2.2.2.1) (hI : ∀ b, b ≠ a → T'.2.1 b = T.2.1 b) (hJ : ∀ b, b ≠ a → T'.2.2.1 b = T.2.2.1 b) (hP : ∀ b, b ≠ a → T'.2.2.2.1 b = T.2.2.2.1 b)
    (h8 : t = 0 → ∀ i, fits .byte (.int (T'.2.1 a i)) = true) (hv : mVal (mEt t) T' a j = v) (ho : ∀ i, i ≠ j → mVal (mEt t) T' a i = mVal (mEt t) T a i) (e1 : H1[a]? = some ((arrV (cA t) (T.1 a).2 (mVal (mEt t) T a)).setSlot j v)) (z : H1.size = H.size) (oq : ∀ q : Nat, q ≠ a → H1[q]? = H[q]?) : mR D cA B0 U T' H1 := by
  refine mR_upd hR (by omega) (by omega) hK hn z oq hI hJ hP (fun q => h8 (by omega)) ?_
  unfold mAt
  rw [hK, if_neg (by omega), hk, Nat.add_sub_cancel_left, e1, arrV_store]
  congr 2
  funext i
  unfold updV
  by_cases hij : i = j
  · subst hij; rw [if_pos rfl]; exact hv.symm
  · rw [if_neg hij]; exact (ho i hij).symm
theorem mB0 {D : va_G} {cA : Nat → ClassId} {B0 a k : Nat} {U : State} {T : mT} {H : Heap} (hR : mR D cA B0 U T H) (hk : (T.1 a).1 = k) (h0 : k ≠ 0) (h3 : k < 30) : B0 ≤ a := (hR.2.2.1 a (by omega) (by omega)).1
theorem fit_b (x : Int32) : fits .byte (.int x.toInt8.toInt32) = true := pk_fb x
theorem ok_iast (hd : decode cc pc = .ok (.iastore, 1)) : mOk y cc ml rt pc o_iast := by
  intro p l e R s m args below meth c D cA B0 n0 u0 Q hC lv st T pc' lv' st' T' hf hn hu
  unfold o_iast at hf
  split at hf
  · rename_i x i a r
    split at hf
    · rename_i ha
      cases hf
      refine ⟨Nat.le_refl _, Nat.le_refl _, fun _ _ kk H locs ls hR hS hL => ?_⟩
      obtain ⟨hx, hb, -, hown, hts, hK, -⟩ := hC
      refine W.iast hx hb (mR_arr (t := 1) hR (mK_pair ha.1) (by decide)) ((hK.2 1 _ rfl).1 _ _) (fun q => by cases q) (mIsz ha.2) rfl rfl hd fun H1 e z oq => ?_
      exact kk H1 _ ls (mR_ast (t := 1) hR ha.1 (by decide) rfl rfl (fun b hb => mU_b _ _ hb) (fun _ _ => rfl) (fun _ _ => rfl) (fun q => by cases q) (by simp [mVal, mEt, mSI, mU]) (fun q hq => by simp [mVal, mEt, mSI, mU, hq]) e z oq) (hS.put z oq (mB0 hR ha.1 (by decide) (by decide))) hL
    · cases hf
  · cases hf
theorem ok_last (hd : decode cc pc = .ok (.lastore, 1)) : mOk y cc ml rt pc o_last := by
  intro p l e R s m args below meth c D cA B0 n0 u0 Q hC lv st T pc' lv' st' T' hf hn hu
  unfold o_last at hf
  split at hf
  · rename_i x i a r
    split at hf
    · rename_i ha
      cases hf
      refine ⟨Nat.le_refl _, Nat.le_refl _, fun _ _ kk H locs ls hR hS hL => ?_⟩
      obtain ⟨hx, hb, -, hown, hts, hK, -⟩ := hC
      refine W.last hx hb (mR_arr (t := 2) hR (mK_pair ha.1) (by decide)) ((hK.2 2 _ rfl).1 _ _) (fun q => by cases q) (mIsz ha.2) rfl rfl hd fun H1 e z oq => ?_
      exact kk H1 _ ls (mR_ast (t := 2) hR ha.1 (by decide) rfl rfl (fun _ _ => rfl) (fun b hb => mU_b _ _ hb) (fun _ _ => rfl) (fun q => by cases q) (by simp [mVal, mEt, mSJ, mU]) (fun q hq => by simp [mVal, mEt, mSJ, mU, hq]) e z oq) (hS.put z oq (mB0 hR ha.1 (by decide) (by decide))) hL
    · cases hf
  · cases hf
theorem ok_bast (hd : decode cc pc = .ok (.bastore, 1)) : mOk y cc ml rt pc o_bast := by
  intro p l e R s m args below meth c D cA B0 n0 u0 Q hC lv st T pc' lv' st' T' hf hn hu
  unfold o_bast at hf
  split at hf
  · rename_i x i a r
    split at hf
    · rename_i ha
      cases hf
      refine ⟨Nat.le_refl _, Nat.le_refl _, fun _ _ kk H locs ls hR hS hL => ?_⟩
      obtain ⟨hx, hb, -, hown, hts, hK, -⟩ := hC
      refine W.bast hx hb (mR_arr (t := 0) hR (mK_pair ha.1) (by decide)) ((hK.2 0 _ rfl).1 _ _) (fun q => by cases q) (mIsz ha.2) rfl rfl hd fun H1 e z oq => ?_
      refine kk H1 _ ls (mR_ast (t := 0) hR ha.1 (by decide) rfl rfl (fun b hb => mU_b _ _ hb) (fun _ _ => rfl) (fun _ _ => rfl) (fun _ j => ?_) (by simp [mVal, mEt, mSI, mU, narrow_byte]) (fun q hq => by simp [mVal, mEt, mSI, mU, hq]) e z oq) (hS.put z oq (mB0 hR ha.1 (by decide) (by decide))) hL
      by_cases hj : j = i.toNatClampNeg
      · simp only [mSI, mU, hj, and_self, if_true]
        exact fit_b x
      · simp only [mSI, mU, hj, and_false, if_false]
        exact hR.2.2.2.2 a ha.1 j
    · split at hf
      · rename_i ha
        cases hf
        refine ⟨Nat.le_refl _, Nat.le_refl _, fun _ _ kk H locs ls hR hS hL => ?_⟩
        obtain ⟨hx, hb, -, hown, hts, hK, -⟩ := hC
        have hnar : narrow .boolean (.int x) = .int x := by rcases ha.2.2 with q | q <;> subst q <;> rfl
        refine W.zast hx hb (mR_arr (t := 3) hR (mK_pair ha.1) (by decide)) ((hK.2 3 _ rfl).1 _ _) (fun q => by cases q) (mIsz ha.2.1) rfl rfl hd fun H1 e z oq => ?_
        rw [hnar] at e
        exact kk H1 _ ls (mR_ast (t := 3) hR ha.1 (by decide) rfl rfl (fun b hb => mU_b _ _ hb) (fun _ _ => rfl) (fun _ _ => rfl) (fun q => by cases q) (by simp [mVal, mEt, mSI, mU]) (fun q hq => by simp [mVal, mEt, mSI, mU, hq]) e z oq) (hS.put z oq (mB0 hR ha.1 (by decide) (by decide))) hL
      · cases hf
  · cases hf
end AR
