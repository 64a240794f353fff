/-! the run of my machine is the JVM's -/
def mExn (z : Nat) : String := match z with
  | 0 => "java/lang/IllegalArgumentException"
  | 1 => "java/lang/IllegalStateException"
  | 2 => "java/lang/IndexOutOfBoundsException"
  | _ => "java/util/NoSuchElementException"
def mQc (D : va_G) (cA : Nat → ClassId) (B0 : Nat) (v : Option Value) (T' : mT) : Array Value → State → Outcome → State → Prop := fun _ st oc t => oc = .returned v ∧ mR D cA B0 t T' t.heap ∧ va_F (fun q => B0 ≤ q) st t
def mXQ (D : va_G) (cA : Nat → ClassId) (B0 : Nat) (below : List Frame) (s : State) (z : Nat) (T' : mT) (mc ms : Nat) : State → Prop := fun t =>
  ∃ (q : Addr) (ce : Cell) (L : List Loc), t.status = .running ∧ Ended t below (.threw q) ∧ q + 1 = T'.2.2.2.2.1 ∧ t.heap[q]? = some ce ∧ ce.vm = .none ∧ s.vm.findClass (mExn z) = some ce.cls ∧ s.WarmedH t.vm ∧ s.sameButNew ({ t with vm := s.vm } : State) L mc ms ∧ (∀ y ∈ L, B0 ≤ y.base) ∧ mR D cA B0 t T' t.heap ∧ va_F (fun q => B0 ≤ q) s t
def mEnd (D : va_G) (cA : Nat → ClassId) (B0 : Nat) (below : List Frame) (args : Array Value) (s : State) (o : mOut) (T' : mT) (mc ms : Nat) : State → Prop := match o with
  | .inl v => MQ below (mQc D cA B0 v T') args s mc ms (fun q => B0 ≤ q)
  | .inr z => mXQ D cA B0 below s z T' mc ms
/-- from here method k comes to its end o with the heap T' -/
def mSd (l : Launch) (mth : Nat → mM) (rF rL : Nat → Nat) (k pc : Nat) (lv : mLv) (st : List Value) (T : mT) (o : mOut) (T' : mT) : Prop :=
  ∀ (p : Program) (e : Env) (R : Room) (s : State) (m : MethodId) (args : Array Value) (below : List Frame) (meth : Method) (c : Code) (D : va_G) (cA : Nat → ClassId) (B0 n0 u0 : Nat), mC p s m args meth c D cA B0 (mth k).1 (mth k).2.1 (mth k).2.2.1 (mth k).2.2.2 → rF k ≤ R.frames → rL k ≤ R.locals → n0 ≤ T.2.2.2.2.1 → u0 ≤ T.2.2.2.2.2 → T'.2.2.2.2.1 ≤ n0 + R.cells → T'.2.2.2.2.2 ≤ u0 + R.slots →
    mW p l e R s m args below meth c D cA B0 (mth k).2.2.1 n0 u0 (mEnd D cA B0 below args s o T' (T'.2.2.2.2.1 - n0) (T'.2.2.2.2.2 - u0)) pc lv st T
theorem mR.moved {D : va_G} {cA : Nat → ClassId} {B0 : Nat} {u U : State} {T : mT} {H : Heap} (hvm : u.vm.Alike U.vm) (h : mR D cA B0 u T H) : mR D cA B0 U T H := ⟨h.1, h.2.1, h.2.2.1, fun a ha => ⟨(h.2.2.2.1 a ha).1, (h.2.2.2.1 a ha).2.moved hvm⟩, h.2.2.2.2⟩
/-- a method's words -/
def mWm (M : mM) : List Cond := Jvm.Cond.code M.1 M.2.1 M.2.2.1 M.2.2.2 :: mWs
theorem mWm_good {M : mM} (h : Jvm.Cond.code M.1 M.2.1 M.2.2.1 M.2.2.2 ∈ mWs) : GoodIn mWs (mWm M) := by
  intro w hw
  have hm : w ∈ mWs := by
    rcases List.mem_cons.mp hw with e | e
    · rw [e]; exact h
    · exact e
  exact ⟨hm, good_of_word (List.mem_filter.mp hm).2⟩
def mPc (D : va_G) (cA : Nat → ClassId) (B0 : Nat) (as : List Value) (T : mT) : Array Value → State → Prop := fun a U => a = as.toArray ∧ mR D cA B0 U T U.heap ∧ va_K D vwCl (mTys cA) U ∧ mX U ∧ mY B0 U
theorem mPc_blind {D : va_G} {cA : Nat → ClassId} {B0 : Nat} {as : List Value} {T : mT} : FrameBlind (mPc D cA B0 as T) := by
  intro a U g mk ⟨h1, h2, h3, h4, h5⟩
  exact ⟨h1, h2.moved (U := U.calling g mk a) (Vm.Alike.refl U.vm), va_K.moved (u := U) (U := U.calling g mk a) (Vm.Alike.refl U.vm) h3, ⟨fun w hw hn => va_Nw.same (by cases w <;> first | rfl | (simp [mNest] at hn)) (rfl : U.vm = (U.calling g mk a).vm) (h4.1 w hw hn), h4.2.1.moved (U := U.calling g mk a) (Vm.Alike.refl U.vm), h4.2.2.1.moved (U := U.calling g mk a) (Vm.Alike.refl U.vm), h4.2.2.2.moved (U := U.calling g mk a) (Vm.Alike.refl U.vm)⟩,
    fun own k tx hw => by obtain ⟨z, hz⟩ := h5.1 own k tx hw; exact ⟨z, vk_R.same (u := U) (U := U.calling g mk a) rfl hz⟩, ⟨va_Nc.moved (u := U) (U := U.calling g mk a) (Vm.Alike.refl U.vm) h5.2.1.1, va_Nc.moved (u := U) (U := U.calling g mk a) (Vm.Alike.refl U.vm) h5.2.1.2⟩, vx_Zq.moved (u := U) (U := U.calling g mk a) (Vm.Alike.refl U.vm) h5.2.2.1, vx_Zq.moved (u := U) (U := U.calling g mk a) (Vm.Alike.refl U.vm) h5.2.2.2⟩
theorem mPc_of {D : va_G} {cA : Nat → ClassId} {B0 : Nat} {as : List Value} {T : mT} {s : State} {H : Heap} {locs : List Loc} {P : Prop} (hR : mR D cA B0 s T H) (hK : va_K D vwCl (mTys cA) s) (hX : mX s ∧ mY B0 s ∧ P) (hS : va_S (fun q => B0 ≤ q) s.heap H locs) : ∀ U : State, U.heap = H → s.WarmedH U.vm → mPc D cA B0 as T as.toArray U := fun U hU hW => ⟨rfl, by rw [hU]; exact hR.moved hW.alike, va_K.moved hW.alike hK, hX.1.warm hW, hX.2.1.warm (locs := locs) hW (by rw [hU]; exact hS)⟩
/-- the table of a body -/
theorem mTb_of {p : Program} {l : Launch} {y : MethodName} {S : Spec} {cc : ByteArray} {maxL : Nat} {ret : Option FieldType} {e : Env} {s s₁ : State} {m : MethodId} {args : Array Value} {below : List Frame} {meth : Method} {c : Code} (B : BodyLoose p l y S cc maxL ret e s m args below meth c s₁) (hts : ∀ w ∈ mWs, w.before args s = true) : mTb y c := by
  refine ⟨fun bytes n r hh hw => ?_, fun bytes n r hw x hx => ?_⟩
  · obtain ⟨m9, meth9, c9, hn9, h1, h2, -, -, h6, -⟩ := Cond.codeWith_spec (hts _ hw)
    cases Option.some.inj (hn9.symm.trans B.named)
    cases Option.some.inj (h1.symm.trans B.method)
    cases Option.some.inj (h2.symm.trans (Stand.of_body B).code)
    rw [← h6, table_eq]
  · obtain ⟨meth9, c9, h1, h2, -, -, -, -, h7, -⟩ := Cond.code_spec B.named (hts _ hw)
    cases Option.some.inj (h1.symm.trans B.method)
    cases Option.some.inj (h2.symm.trans (Stand.of_body B).code)
    rw [Array.isEmpty_iff.mp h7] at hx
    cases hx
theorem metW {l : Launch} {y : MethodName} {ws ws' : List Cond} {rm : Room} {Pc : Array Value → State → Prop} {Qc : Array Value → State → Outcome → State → Prop} {mc ms : Nat} {free : Addr → Prop} {cc : ByteArray} {maxL : Nat} {ret : Option FieldType}
    (hy : plainFor y = true) (hw : ws = Jvm.Cond.code y cc maxL ret :: ws')
    (body : ∀ p e s m args below meth c s₁, BodyLoose p l y (headSpec ws rm) cc maxL ret e s m args below meth c s₁ → c.maxLocals = maxL → Pc args s →
      W p l e (headSpec ws rm).room s m args below meth c s.heap [] 0 0 (MQ below Qc args s mc ms free) (entryFrame m args maxL)) : Met l y ws rm Pc Qc mc ms free := by
  refine MetFree.of_bodySF (code := cc) (maxLocals := maxL) (ret := ret) hy ?_ ?_
  · intro args s m h hn
    obtain ⟨meth, c, h1, h2, h3, h4, h5, h6, -, -⟩ := Cond.code_spec hn (atoms_spec (ws := ws) h _ (by rw [hw]; exact List.mem_cons_self))
    exact ⟨meth, c, h1, h2, h3, h4, h5, h6⟩
  · intro p e s m args below meth c s₁ B hml hP _
    have hh0 : s₁.heap = s.heap := by rw [B.state]; rfl
    obtain ⟨t, a1, o, b1, b2, b3⟩ := body p e s m args below meth c s₁ B hml hP s₁ hh0 (Stand.of_body B)
    exact ⟨t, o, a1, b1, b2, ⟨b3.1, b3.2⟩⟩
theorem mMet {l : Launch} {mth : Nat → mM} {rF rL : Nat → Nat} {k : Nat} {as : List Value} {T T' : mT} {v : Option Value} (hs : mSd l mth rF rL k 0 (mEntry (mth k).2.2.1 as) [] T (.inl v) T') (h1 : T.2.2.2.2.1 ≤ T'.2.2.2.2.1) (h2 : T.2.2.2.2.2 ≤ T'.2.2.2.2.2) (hle : (mFlat as).length ≤ (mth k).2.2.1) (hpn : plainFor (mth k).1 = true) (D : va_G) (cA : Nat → ClassId) (B0 : Nat) :
    Met l (mth k).1 (mWm (mth k)) { frames := rF k, cells := T'.2.2.2.2.1 - T.2.2.2.2.1, slots := T'.2.2.2.2.2 - T.2.2.2.2.2, locals := rL k } (mPc D cA B0 as T) (mQc D cA B0 v T') (T'.2.2.2.2.1 - T.2.2.2.2.1) (T'.2.2.2.2.2 - T.2.2.2.2.2) (fun q => B0 ≤ q) := by
  refine metW (cc := (mth k).2.1) (maxL := (mth k).2.2.1) (ret := (mth k).2.2.2) hpn rfl ?_
  intro p e s m args below meth c s₁ B hml hv
  obtain ⟨rfl, hR, hK, hX, hY⟩ := hv
  have hts := atoms_spec (ws := mWm (mth k)) B.pre
  have hC : mC p s m as.toArray meth c D cA B0 (mth k).1 (mth k).2.1 (mth k).2.2.1 (mth k).2.2.2 := ⟨B.exec, B.bytes, hml, findClass_of_methodNamed B.named, fun w hw => hts w (List.mem_cons_of_mem _ hw), hK, B.returns, B.notSynchronized, (name_of_methodNamed B.named B.method).1, hR.2.1, hX, hY, mTb_of B (fun w hw => hts w (List.mem_cons_of_mem _ hw))⟩
  have h := hs p e (headSpec (mWm (mth k)) { frames := rF k, cells := T'.2.2.2.2.1 - T.2.2.2.2.1, slots := T'.2.2.2.2.2 - T.2.2.2.2.2, locals := rL k }).room s m as.toArray below meth c D cA B0 T.2.2.2.2.1 T.2.2.2.2.2 hC (Nat.le_refl _) (Nat.le_refl _) (Nat.le_refl _) (Nat.le_refl _) (by show _ ≤ _ + (_ - _); omega) (by show _ ≤ _ + (_ - _); omega) s.heap [] _ hR va_S.rf (mEntry_ok hle)
  rw [Nat.sub_self, Nat.sub_self] at h
  rw [lg_entry_eq]
  exact h
theorem mAfter {p : Program} {l : Launch} {e : Env} {R : Room} {s : State} {m : MethodId} {args : Array Value} {below : List Frame} {meth : Method} {c : Code} {H : Heap} {locs : List Loc} {cells slots mc ms : Nat} {Q : State → Prop} {pc : Nat} {ls : Array Slot} {rest st0 : List Value} {a : Array Value} {D : va_G} {cA : Nat → ClassId} {B0 : Nat} {v : Option Value} {T1 : mT}
    (hr : va_Run p l e R s m args below meth c H locs cells slots mc ms (F0 m pc ls st0) rest (mQc D cA B0 v T1 a) (fun q => B0 ≤ q)) (hS : va_S (fun q => B0 ≤ q) s.heap H locs)
    (kk : ∀ (H1 : Heap) (locs1 : List Loc), mR D cA B0 s T1 H1 → va_S (fun q => B0 ≤ q) s.heap H1 locs1 → W p l e R s m args below meth c H1 locs1 (cells + mc) (slots + ms) Q (F0 m (pc + 3) ls (v.toList ++ rest))) : W p l e R s m args below meth c H locs cells slots Q (F0 m pc ls st0) := by
  intro T hT X
  obtain ⟨v', st₀, t, T', L, h0, X', hL, e1, e2, ⟨hv, hR1, hz, hk⟩, st⟩ := hr T hT X
  cases hv
  rw [h0] at hz hk
  have hal : t.vm.Alike s.vm := by rw [← e2]; exact X'.warmed.alike.symm
  obtain ⟨t2, a1, b1⟩ := kk T'.heap (locs ++ L) (by rw [e1]; exact hR1.moved hal)
    ⟨Nat.le_trans hS.1 (by rw [e1]; exact hz), fun q h1 h2 => by rw [e1, hk q (Nat.lt_of_lt_of_le h1 hS.1) h2]; exact hS.2.1 q h1 h2, fun q hq => by
      rcases List.mem_append.mp hq with h | h
      · exact hS.2.2 q h
      · exact hL q h⟩ T' rfl X'
  exact ⟨t2, st t2 a1, b1⟩
/-- what is known of a return -/
def mReOk (M : mM) (pc x : Nat) : Prop := (x = 0 ∧ decode M.2.1 pc = .ok (.ireturn, 1) ∧ M.2.2.2 = some .int) ∨ (x = 4 ∧ decode M.2.1 pc = .ok (.ireturn, 1) ∧ M.2.2.2 = some .boolean) ∨ (x = 1 ∧ decode M.2.1 pc = .ok (.lreturn, 1) ∧ M.2.2.2 = some .long) ∨ (x = 2 ∧ decode M.2.1 pc = .ok (.areturn, 1) ∧ ∃ C, M.2.2.2 = some (.object C)) ∨ (x = 3 ∧ decode M.2.1 pc = .ok (.return_, 1) ∧ M.2.2.2 = none)
theorem mRet_sd {l : Launch} {mth : Nat → mM} {rF rL : Nat → Nat} {k pc x : Nat} {lv : mLv} {st : List Value} {T : mT} {o : mOut} {T' : mT} (hk : mReOk (mth k) pc x) (h : mRet x st T = some (o, T')) : T' = T ∧ mSd l mth rF rL k pc lv st T o T' := by
  have done : ∀ (v : Option Value), o = .inl v → T' = T → (∀ (p : Program) (e : Env) (R : Room) (s : State) (m : MethodId) (args : Array Value) (below : List Frame) (meth : Method) (c : Code) (H : Heap) (locs : List Loc) (cells slots : Nat) (ls : Array Slot) (Qc : Array Value → State → Outcome → State → Prop) (free : Addr → Prop), p.tables.exec = Jvm.exec → c.code = (mth k).2.1 → meth.sig.returnType = (mth k).2.2.2 → meth.locks = false → (∀ t : State, t.heap = H → s.WarmedH t.vm → Qc args s (.returned v) t) → (∀ q ∈ locs, free q.base) → W p l e R s m args below meth c H locs cells slots (MQ below Qc args s cells slots free) (F0 m pc ls st)) → T' = T ∧ mSd l mth rF rL k pc lv st T o T' := by
    intro v ho hT hw
    subst ho
    subst hT
    refine ⟨rfl, ?_⟩
    intro p e R s m args below meth c D cA B0 n0 u0 hC hF hL hn hu hc1 hc2 H locs ls hR hS hl
    refine hw p e R s m args below meth c H locs _ _ ls _ _ hC.1 hC.2.1 hC.2.2.2.2.2.2.1 hC.2.2.2.2.2.2.2.1 (fun t ht hW => ⟨rfl, by rw [ht]; exact hR.moved hW.alike, ?_⟩) hS.2.2
    exact hS.F ht
  unfold mRet at h
  split at h
  · split at h
    · rename_i v hx
      cases h
      refine done _ rfl rfl ?_
      intro p e R s m args below meth c H locs cells slots ls Qc free hx1 hb hr hlocks hq hf
      rcases hx with hx | ⟨hx, hv⟩
      · subst hx
        rcases hk with ⟨-, hd, hrt⟩ | ⟨h0, -⟩ | ⟨h0, -⟩ | ⟨h0, -⟩ | ⟨h0, -⟩
        · exact W.iret hx1 hb (hr.trans hrt) hq hf hd
        all_goals cases h0
      · subst hx
        rcases hk with ⟨h0, -⟩ | ⟨-, hd, hrt⟩ | ⟨h0, -⟩ | ⟨h0, -⟩ | ⟨h0, -⟩
        · cases h0
        · exact W.zret hx1 hb (hr.trans hrt) (by rcases hv with q | q <;> subst q <;> rfl) hq hf hd
        all_goals cases h0
    · cases h
  · split at h
    · rename_i v hx
      cases h
      subst hx
      refine done _ rfl rfl ?_
      intro p e R s m args below meth c H locs cells slots ls Qc free hx1 hb hr hlocks hq hf
      rcases hk with ⟨h0, -⟩ | ⟨h0, -⟩ | ⟨-, hd, hrt⟩ | ⟨h0, -⟩ | ⟨h0, -⟩
      · cases h0
      · cases h0
      · exact W.lret hx1 hb (hr.trans hrt) hq hf hd
      all_goals cases h0
    · cases h
  · split at h
    · rename_i v hx
      cases h
      subst hx
      refine done _ rfl rfl ?_
      intro p e R s m args below meth c H locs cells slots ls Qc free hx1 hb hr hlocks hq hf
      rcases hk with ⟨h0, -⟩ | ⟨h0, -⟩ | ⟨h0, -⟩ | ⟨-, hd, C, hrt⟩ | ⟨h0, -⟩
      · cases h0
      · cases h0
      · cases h0
      · exact W.aret hx1 hb (hr.trans hrt) (Or.inl ⟨_, rfl⟩) (Or.inr ⟨_, rfl⟩) hq hf hd
      · cases h0
    · cases h
  · split at h
    · rename_i hx
      cases h
      subst hx
      refine done _ rfl rfl ?_
      intro p e R s m args below meth c H locs cells slots ls Qc free hx1 hb hr hlocks hq hf
      rcases hk with ⟨h0, -⟩ | ⟨h0, -⟩ | ⟨h0, -⟩ | ⟨-, hd, C, hrt⟩ | ⟨h0, -⟩
      · cases h0
      · cases h0
      · cases h0
      · exact W.aret hx1 hb (hr.trans hrt) (Or.inl ⟨_, rfl⟩) (Or.inl rfl) hq hf hd
      · cases h0
    · cases h
  · split at h
    · rename_i hx
      cases h
      subst hx
      refine done _ rfl rfl ?_
      intro p e R s m args below meth c H locs cells slots ls Qc free hx1 hb hr hlocks hq hf
      rcases hk with ⟨h0, -⟩ | ⟨h0, -⟩ | ⟨h0, -⟩ | ⟨h0, -⟩ | ⟨-, hd, hrt⟩
      · cases h0
      · cases h0
      · cases h0
      · cases h0
      · exact W.vret hx1 hb (hr.trans hrt) hq hf hd
    · cases h
  · cases h
