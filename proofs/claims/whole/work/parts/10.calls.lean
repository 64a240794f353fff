/-! calls -/
/-- what is known of a call: 2 static, 6 static of a nest mate, 3 of an object of class x, 4 a constructor, 7 a nest mate's constructor -/
def mCaOk (mth : Nat → mM) (rF rL : Nat → Nat) (k pc md k' na x : Nat) : Prop :=
  Jvm.Cond.code (mth k').1 (mth k').2.1 (mth k').2.2.1 (mth k').2.2.2 ∈ mWs ∧ Jvm.Cond.initialized (mth k').1.cls ∈ mWs ∧ ((mth k').1.cls ≠ "java/lang/invoke/MethodHandle" ∧ (mth k').1.cls ≠ "java/lang/invoke/VarHandle") ∧ plainFor (mth k').1 = true ∧ (rF k' + 1 ≤ rF k ∧ 8 + ((mth k').2.2.1 + 11) + rL k' ≤ rL k) ∧
  ∃ idx n : Nat, (parseMethodDescriptor (mth k').1.desc).map (fun d => d.parameters.length) = some n ∧
    ((md = 2 ∧ na = n ∧ decode (mth k).2.1 pc = .ok (.invokestatic idx, 3) ∧ Jvm.Cond.methodLink (mth k).1.cls idx (mth k').1 ∈ mWs ∧ Jvm.Cond.static (mth k').1 ∈ mWs) ∨
     (md = 6 ∧ na = n ∧ decode (mth k).2.1 pc = .ok (.invokestatic idx, 3) ∧ (∃ host, Jvm.Cond.methodLinkNest (mth k).1.cls idx (mth k').1 host ∈ lw_tbl) ∧ Jvm.Cond.static (mth k').1 ∈ mWs) ∨
     (md = 3 ∧ na = n + 1 ∧ decode (mth k).2.1 pc = .ok (.invokevirtual idx, 3) ∧ Jvm.Cond.methodLink (mth k).1.cls idx (mth k').1 ∈ mWs ∧ Jvm.Cond.instanceMethod (mth k').1 ∈ mWs ∧ ∃ q : vw_C, vwCl[x]? = some q ∧ x + 1 < 20 ∧ Jvm.Cond.selects q.1 (mth k').1 (mth k').1 ∈ mWs) ∨
     (md = 4 ∧ na = n + 1 ∧ decode (mth k).2.1 pc = .ok (.invokespecial idx, 3) ∧ Jvm.Cond.methodLink (mth k).1.cls idx (mth k').1 ∈ mWs ∧ Jvm.Cond.instanceMethod (mth k').1 ∈ mWs ∧ (mth k').1.name = "<init>" ∧ (mth k').2.2.2 = none) ∨
     (md = 7 ∧ na = n + 1 ∧ decode (mth k).2.1 pc = .ok (.invokespecial idx, 3) ∧ (∃ host, Jvm.Cond.methodLinkNest (mth k).1.cls idx (mth k').1 host ∈ lw_tbl) ∧ Jvm.Cond.instanceMethod (mth k').1 ∈ mWs ∧ (mth k').1.name = "<init>" ∧ (mth k').2.2.2 = none))
theorem mRcv_ref {md x : Nat} {as : List Value} {T : mT} (h : mRcv md x as T = true) (hm : md = 3 ∨ md = 4 ∨ md = 7 ∨ md = 10) : ∃ b As, as = .ref b :: As ∧ ((md = 3 ∨ md = 10) → (T.1 b).1 = x + 1) := by
  unfold mRcv at h
  split at h
  · rename_i b As
    refine ⟨b, As, rfl, fun q => ?_⟩
    rw [if_pos q] at h
    simpa using h
  · exfalso
    simp only [Bool.or_eq_true, beq_iff_eq] at h
    omega
theorem mCall_sd {l : Launch} {mth : Nat → mM} {rF rL : Nat → Nat} {k pc md k' na x : Nat} (hk : mCaOk mth rF rL k pc md k' na x) {lv : mLv} {as r : List Value} {T T1 : mT} {v : Option Value} {o : mOut} {T' : mT} (hle : (mFlat as).length ≤ (mth k').2.2.1) (hcat : mCat r ≤ 8) (hrc : mRcv md x as T = true) (hlen : as.length = na)
    (h1 : T.2.2.2.2.1 ≤ T1.2.2.2.2.1) (h2 : T.2.2.2.2.2 ≤ T1.2.2.2.2.2) (h3 : T1.2.2.2.2.1 ≤ T'.2.2.2.2.1) (h4 : T1.2.2.2.2.2 ≤ T'.2.2.2.2.2) (hs : mSd l mth rF rL k' 0 (mEntry (mth k').2.2.1 as) [] T (.inl v) T1) (hg : mSd l mth rF rL k (pc + 3) lv (v.toList ++ r) T1 o T') : mSd l mth rF rL k pc lv (as.reverse ++ r) T o T' := by
  intro p e R s m args below meth c D cA B0 n0 u0 hC hF hL hn hu hc1 hc2 H locs ls hR hS hl
  obtain ⟨hcode, hini, hy, hpn, ⟨hr1, hr2⟩, idx, n, hpar, hcs⟩ := hk
  have hgo := hg p e R s m args below meth c D cA B0 n0 u0 hC hF hL (by omega) (by omega) hc1 hc2
  obtain ⟨hx, hb, hml, hown, hts, hK, hrt, hlk, hnm, hB, hX⟩ := hC
  have hM := mMet hs h1 h2 hle hpn D cA B0
  have hcells : T.2.2.2.2.1 - n0 + (T1.2.2.2.2.1 - T.2.2.2.2.1) = T1.2.2.2.2.1 - n0 := by omega
  have hslots : T.2.2.2.2.2 - u0 + (T1.2.2.2.2.2 - T.2.2.2.2.2) = T1.2.2.2.2.2 - u0 := by omega
  have hf : T.2.2.2.2.1 - n0 + (T1.2.2.2.2.1 - T.2.2.2.2.1) ≤ R.cells ∧ T.2.2.2.2.2 - u0 + (T1.2.2.2.2.2 - T.2.2.2.2.2) ≤ R.slots := by omega
  have hW : ∀ st : List Value, 2 * (F0 m pc ls st).monitorRoom + (r.map fun v => v.category).sum ≤ 8 := fun st => by
    have : (F0 m pc ls st).monitorRoom = 0 := rfl
    rw [this]
    unfold mCat at hcat
    omega
  have hroom : (rF k' + 1 ≤ R.frames) ∧ 8 + ((mth k').2.2.1 + 11) + rL k' ≤ R.locals := ⟨by omega, by omega⟩
  have hd3 : (mth k').1.cls ≠ "java/lang/invoke/MethodHandle" ∧ (mth k').1.cls ≠ "java/lang/invoke/VarHandle" ∧ (parseMethodDescriptor (mth k').1.desc).map (fun d => d.parameters.length) = some n := ⟨hy.1, hy.2, hpar⟩
  have fin : ∀ (a : Array Value) (st0 : List Value), va_Run p l e R s m args below meth c H locs (T.2.2.2.2.1 - n0) (T.2.2.2.2.2 - u0) (T1.2.2.2.2.1 - T.2.2.2.2.1) (T1.2.2.2.2.2 - T.2.2.2.2.2) (F0 m pc ls st0) r (mQc D cA B0 v T1 a) (fun q => B0 ≤ q) → W p l e R s m args below meth c H locs (T.2.2.2.2.1 - n0) (T.2.2.2.2.2 - u0) (mEnd D cA B0 below args s o T' (T'.2.2.2.2.1 - n0) (T'.2.2.2.2.2 - u0)) (F0 m pc ls st0) := fun a st0 hr => mAfter hr hS (fun H1 locs1 hR1 hS1 => by
    rw [hcells, hslots]
    exact hgo H1 locs1 ls hR1 hS1 hl)
  rcases hcs with ⟨hmd, hna, hd, hlink, hst⟩ | ⟨hmd, hna, hd, ⟨host, hlink⟩, hst⟩ | ⟨hmd, hna, hd, hlink, hin, q, hq, hx20, hsel⟩ | ⟨hmd, hna, hd, hlink, hin, hini2, hnone⟩ | ⟨hmd, hna, hd, ⟨host, hlink⟩, hin, hini2, hnone⟩
  · exact fin _ _ (va_runS (As := as) (rest := r) ⟨hx, hb, hml, hown, hts⟩ hM ⟨callB_of n hts (mWm_good hcode) rfl rfl rfl (hts _ hini) (hts _ hlink) hd3 hroom, hts _ hst⟩ ⟨mPc_blind, mPc_of hR hK hX hS⟩ rfl (hlen.trans hna) hl.2.1 rfl (hW _) hd hf)
  · exact fin _ _ (va_runSN (host := host) (As := as) (rest := r) ⟨hx, hb, hml, hown, hts⟩ hM ⟨va_cnB n hts (mWm_good hcode) rfl rfl rfl (hX.1.1 _ hlink rfl) (hts _ hini) hd3 hroom, hts _ hst, trivial⟩ ⟨mPc_blind, mPc_of hR hK hX hS⟩ rfl (hlen.trans hna) hl.2.1 rfl (hW _) hd hf)
  · obtain ⟨b, As, has, hb3⟩ := mRcv_ref hrc (Or.inl hmd)
    subst has
    obtain ⟨r', hr', cell, q1, q2, q3, -⟩ := mR_obj hR (hb3 (Or.inl hmd)) hx20
    have hst : (Value.ref b :: As).reverse ++ r = As.reverse ++ .ref b :: r := by simp
    rw [hst]
    exact fin _ _ (va_runV (C := q.1) (b := b) (As := As) (rest := r) ⟨hx, hb, hml, hown, hts⟩ hM ⟨callB_of n hts (mWm_good hcode) rfl rfl rfl (hts _ hini) (hts _ hlink) hd3 hroom, hts _ hin, hts _ hsel⟩ ⟨mPc_blind, ⟨cell, q1, by rw [q3]; rfl, by rw [q2]; exact (hK.1 x q hq).2.1⟩, mPc_of hR hK hX hS⟩ rfl (by rw [List.length_cons] at hlen; omega) hl.2.1 rfl (hW _) hd hf)
  · obtain ⟨b, As, has, -⟩ := mRcv_ref hrc (Or.inr (Or.inl hmd))
    subst has
    have hst : (Value.ref b :: As).reverse ++ r = As.reverse ++ .ref b :: r := by simp
    rw [hst]
    rw [hnone] at hcode
    exact fin _ _ (va_runI (bytes := (mth k').2.1) (maxL := (mth k').2.2.1) (b := b) (As := As) (rest := r) ⟨hx, hb, hml, hown, hts⟩ hM ⟨callB_of n hts (mWm_good (by rw [hnone]; exact hcode)) (by unfold mWm; rw [hnone]) rfl rfl (hts _ hini) (hts _ hlink) hd3 hroom, hini2, hts _ hin⟩ ⟨mPc_blind, mPc_of hR hK hX hS⟩ rfl (by rw [List.length_cons] at hlen; omega) hl.2.1 rfl (hW _) hd hf)
  · obtain ⟨b, As, has, -⟩ := mRcv_ref hrc (Or.inr (Or.inr (Or.inl hmd)))
    subst has
    have hst : (Value.ref b :: As).reverse ++ r = As.reverse ++ .ref b :: r := by simp
    rw [hst]
    rw [hnone] at hcode
    exact fin _ _ (va_runIN (host := host) (bytes := (mth k').2.1) (maxL := (mth k').2.2.1) (b := b) (As := As) (rest := r) ⟨hx, hb, hml, hown, hts⟩ hM ⟨va_cnB n hts (mWm_good (by rw [hnone]; exact hcode)) (by unfold mWm; rw [hnone]) rfl rfl (hX.1.1 _ hlink rfl) (hts _ hini) hd3 hroom, hini2, hts _ hin⟩ ⟨mPc_blind, mPc_of hR hK hX hS⟩ rfl (by rw [List.length_cons] at hlen; omega) hl.2.1 rfl (hW _) hd hf)
/-- Object's own constructor -/
def mObOk (mth : Nat → mM) (rF rL : Nat → Nat) (k pc : Nat) : Prop := ∃ idx : Nat, decode (mth k).2.1 pc = .ok (.invokespecial idx, 3) ∧ Jvm.Cond.methodLink (mth k).1.cls idx objectInit ∈ mWs ∧ Jvm.Cond.instanceMethod objectInit ∈ mWs ∧ Jvm.Cond.code objectInit ⟨#[0xb1]⟩ 1 none ∈ mWs ∧ 1 ≤ rF k ∧ 20 ≤ rL k
theorem mOb_sd {l : Launch} {mth : Nat → mM} {rF rL : Nat → Nat} {k pc : Nat} (hk : mObOk mth rF rL k pc) {lv : mLv} {st r : List Value} {T : mT} {o : mOut} {T' : mT} (ho : mObj st = some r) (hg : mSd l mth rF rL k (pc + 3) lv r T o T') : mSd l mth rF rL k pc lv st T o T' := by
  intro p e R s m args below meth c D cA B0 n0 u0 hC hF hL hn hu hc1 hc2 H locs ls hR hS hl
  obtain ⟨idx, hd, hlink, hin, hcode, hr1, hr2⟩ := hk
  have hgo := hg p e R s m args below meth c D cA B0 n0 u0 hC hF hL hn hu hc1 hc2 H locs ls hR hS hl
  obtain ⟨hx, hb, hml, hown, hts, -⟩ := hC
  unfold mObj at ho
  split at ho
  · rename_i a r'
    split at ho
    · rename_i hz
      cases ho
      refine W.objInit (a := a) (rest := r) hx hb hown (hts _ hlink) (hts _ hin) (hts _ hcode) rfl (by rw [hml]; exact hl.2.1) rfl hd (by omega) ?_ hgo
      have h0 : (F0 m pc ls (.ref a :: r)).monitorRoom = 0 := rfl
      rw [h0]
      unfold mCat at hz
      omega
    · cases ho
  · cases ho
/-- arraycopy -/
def mCpOk (mth : Nat → mM) (rF rL : Nat → Nat) (k pc : Nat) : Prop := ∃ idx : Nat, decode (mth k).2.1 pc = .ok (.invokestatic idx, 3) ∧ Jvm.Cond.methodLink (mth k).1.cls idx arraycopyName ∈ mWs ∧ Jvm.Cond.native arraycopyName ∈ mWs ∧ Jvm.Cond.static arraycopyName ∈ mWs ∧ Jvm.Cond.initialized "java/lang/System" ∈ mWs ∧ 1 ≤ rF k ∧ 8 + (nativeFrameWords "java/lang/System" "arraycopy" 5 + 11) ≤ rL k
theorem mCp_sd {l : Launch} {mth : Nat → mM} {rF rL : Nat → Nat} {k pc : Nat} (hk : mCpOk mth rF rL k pc) {lv : mLv} {st r : List Value} {T T1 : mT} {o : mOut} {T' : mT} (ho : mCopy st T = some (r, T1)) (hg : mSd l mth rF rL k (pc + 3) lv r T1 o T') : (T1.2.2.2.2.1 = T.2.2.2.2.1 ∧ T1.2.2.2.2.2 = T.2.2.2.2.2) ∧ mSd l mth rF rL k pc lv st T o T' := by
  obtain ⟨idx, hd, hlink, hnat, hstt, hini, hr1, hr2⟩ := hk
  unfold mCopy at ho
  split at ho
  · rename_i n dp a sp b r'
    split at ho
    · rename_i hz
      cases ho
      refine ⟨⟨rfl, rfl⟩, ?_⟩
      intro p e R s m args below meth c D cA B0 n0 u0 hC hF hL hn hu hc1 hc2 H locs ls hR hS hl
      obtain ⟨hab, hka, hkb, ⟨g1, g2, g3⟩, g4, g5, hcat⟩ := hz
      have hgo := hg p e R s m args below meth c D cA B0 n0 u0 hC hF hL hn hu hc1 hc2
      obtain ⟨hx, hb, hml, hown, hts, hK, -⟩ := hC
      have nn : ∀ z : Int32, ¬ z < 0 → z.toInt = (z.toNatClampNeg : Int) := by
        intro z hz
        have hz0 : (0 : Int) ≤ z.toInt := by
          have := Int32.not_lt.mp hz
          simpa using Int32.le_iff_toInt_le.mp this
        show z.toInt = ((z.toInt.toNat : Nat) : Int)
        omega
      obtain ⟨t, ht, hta, ty, hty, hprim, hfit, het⟩ : ∃ t, t < 2 ∧ (T.1 a).1 = 20 + t ∧ ∃ ty, (mTys cA)[t]? = some (cA t, ty) ∧ refKind ty = false ∧ (∀ j, fits ty (.int (T.2.1 b j)) = true) ∧ mEt t = 0 := by
        rcases hka with h | h
        · exact ⟨0, by omega, h, .byte, rfl, rfl, fun j => hR.2.2.2.2 b (by rw [hkb, h]) j, rfl⟩
        · exact ⟨1, by omega, h, .int, rfl, rfl, fun j => rfl, rfl⟩
      have hca : H[a]? = some (arrV (cA t) (T.1 a).2 (fun j => .int (T.2.1 a j))) := by
        have := mR_arr (t := t) hR (mK_pair hta) (by omega)
        rw [het] at this
        exact this
      have hcb : H[b]? = some (arrV (cA t) (T.1 b).2 (fun j => .int (T.2.1 b j))) := by
        have := mR_arr (t := t) hR (mK_pair (hkb.trans hta)) (by omega)
        rw [het] at this
        exact this
      intro S hT X
      obtain ⟨-, k0, hk0, cm0, hkk0⟩ := (hK.2 t _ hty).1 (T.1 b).2 (fun j => .int (T.2.1 b j))
      obtain ⟨-, k1, hk1, cm1, hkk1⟩ := (hK.2 t _ hty).1 (T.1 a).2 (fun j => .int (T.2.1 a j))
      obtain ⟨vm', X', step⟩ := X.arraycopy hx hown (hts _ hlink) (hts _ hnat) (hts _ hstt) (hts _ hini) (src := b) (dst := a) (cs := arrV (cA t) (T.1 b).2 (fun j => .int (T.2.1 b j))) (cd := arrV (cA t) (T.1 a).2 (fun j => .int (T.2.1 a j))) (srcPos := sp) (destPos := dp) (n := n) (by rw [hT]; exact hcb) (by rw [hT]; exact hca)
        (fun _ h => by cases h) (fun _ h => by cases h) (fun h => by cases h) (fun h => by cases h) hk0 hk1 hkk0 hkk1 (by simp [hprim]) g1 g2 g3
        (by rw [nn sp g1, nn n g3]; rw [arrV_size]; omega)
        (by rw [nn dp g2, nn n g3]; rw [arrV_size]; omega)
        (fun vm₁ _ i hi => by
          have e0 : (arrV (cA t) (T.1 b).2 (fun j => .int (T.2.1 b j))).slots.getD (sp.toNatClampNeg + i) .null = .int (T.2.1 b (sp.toNatClampNeg + i)) := by
            rw [Array.getD_eq_getD_getElem?, arrV_read _ _ (by omega)]
            rfl
          refine ⟨?_, ?_⟩
          · rw [e0]
            exact hfit _
          · rw [e0]
            exact trivial)
        (g := F0 m pc ls (.int n :: .int dp :: .ref a :: .int sp :: .ref b :: r)) rfl (by rw [hml]; exact hl.2.1) (rest := r) rfl (by rw [hb]; exact hd) (by omega) (by show 2 * 0 + _ + _ ≤ _; unfold mCat at hcat; omega)
      have e1 : copied (arrV (cA t) (T.1 b).2 (fun j => .int (T.2.1 b j))) (arrV (cA t) (T.1 a).2 (fun j => .int (T.2.1 a j))) sp dp n = arrV (cA t) (T.1 a).2 (fun j => .int (va_cpy (T.2.1 b) (T.2.1 a) sp.toNatClampNeg dp.toNatClampNeg n.toNatClampNeg j)) := va_copied (fun z => .int z) (cA t) (cA t) (T.2.1 b) (T.2.1 a) g4
      rw [e1] at X' step
      have hla : a < H.size := (Array.getElem?_eq_some_iff.mp hca).1
      generalize hcell : arrV (cA t) (T.1 a).2 (fun j => .int (va_cpy (T.2.1 b) (T.2.1 a) sp.toNatClampNeg dp.toNatClampNeg n.toNatClampNeg j)) = cell at X' step
      have hheap : ((S.setVm vm').setCell a cell).heap = H.setIfInBounds a cell := by rw [← hT]; rfl
      have oq : ∀ q : Nat, q ≠ a → (H.setIfInBounds a cell)[q]? = H[q]? := fun q hq => by simp [Array.getElem?_setIfInBounds, Ne.symm hq]
      have z1 : (H.setIfInBounds a cell).size = H.size := by simp
      have hRn : mR D cA B0 s (T.1, va_up T.2.1 a (va_cpy (T.2.1 b) (T.2.1 a) sp.toNatClampNeg dp.toNatClampNeg n.toNatClampNeg), T.2.2.1, T.2.2.2.1, T.2.2.2.2.1, T.2.2.2.2.2) (H.setIfInBounds a cell) := by
        refine mR_upd hR (by omega) (by omega) rfl rfl z1 oq (fun b hb => va_up_n _ _ hb) (fun _ _ => rfl) (fun _ _ => rfl) (fun h20 j => ?_) ?_
        · show fits .byte (.int (va_up T.2.1 a _ a j)) = true
          rw [va_up_s]
          unfold va_cpy
          split
          · exact hR.2.2.2.2 b (by rw [hkb]; exact h20) _
          · exact hR.2.2.2.2 a h20 _
        · unfold mAt
          show if (T.1 a).1 < 20 then _ else _
          rw [if_neg (by omega), hta, Nat.add_sub_cancel_left, het]
          have h9 : (H.setIfInBounds a cell)[a]? = some cell := by simp [Array.getElem?_setIfInBounds, hla]
          rw [h9, ← hcell]
          congr 2
          funext j
          show _ = Value.int (va_up T.2.1 a _ a j)
          rw [va_up_s]
      have hSn : ∀ L : List Loc, (∀ q ∈ L, q.base = a) → va_S (fun q => B0 ≤ q) s.heap (H.setIfInBounds a cell) (locs ++ L) := by
        intro L hLa
        refine ⟨by rw [z1]; exact hS.1, fun q h1 h2 => ?_, fun q hq => ?_⟩
        · rw [oq q (fun e => h2 (by rw [e]; exact mB0 hR hta (by omega) (by omega)))]
          exact hS.2.1 q h1 h2
        · rcases List.mem_append.mp hq with h | h
          · exact hS.2.2 q h
          · rw [hLa q h]
            exact mB0 hR hta (by omega) (by omega)
      obtain ⟨t2, a1, b1⟩ := hgo _ _ ls hRn (hSn _ (fun q hq => by obtain ⟨z, -, hz⟩ := List.mem_map.mp hq; rw [← hz])) hl _ hheap X'
      exact ⟨t2, step t2 a1, b1⟩
    · cases ho
  · cases ho
