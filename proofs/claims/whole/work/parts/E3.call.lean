/-! calls that throw: the laws of the claim's own names, with the thrown object named -/
/-- where a method has thrown q: the class by its name, the cell, what was written, the world -/
def vq_T (XC : String → Addr → State → State → Prop) (st : State) (q : Addr) (t : State) (mc ms : Nat) (free : Addr → Prop) : Prop :=
  ∃ (E : String) (ce : Cell) (L : List Loc), XC E q st t ∧ t.heap[q]? = some ce ∧ ce.vm = .none ∧ st.vm.findClass E = some ce.cls ∧ st.WarmedH t.vm ∧ st.sameButNew ({ t with vm := st.vm } : State) L mc ms ∧ ∀ z ∈ L, free z.base
def vq_Q (Qc : Array Value → State → Outcome → State → Prop) (XC : String → Addr → State → State → Prop) (mc ms : Nat) (free : Addr → Prop) : Array Value → State → Outcome → State → Prop := fun a st o t =>
  (Qc a st o t ∧ ∃ L, FrameEnd st o t L mc ms ∧ ∀ q ∈ L, free q.base) ∨ ∃ q, o = .threw q ∧ vq_T XC st q t mc ms free
/-- a callee that returns or throws -/
def vq_Met (l : Launch) (y : MethodName) (ws : List Cond) (rm : Room) (Pc : Array Value → State → Prop) (Qc : Array Value → State → Outcome → State → Prop) (XC : String → Addr → State → State → Prop) (mc ms : Nat) (free : Addr → Prop) : Prop :=
  MetFree l y (headSpec ws rm) Pc (fun _ _ _ _ _ => True) (vq_Q Qc XC mc ms free)
def vq_Post (XC : String → Addr → State → State → Prop) (mc ms : Nat) (free : Addr → Prop) : _root_.Jvm.Free.Pt → Array Value → Addr → _root_.Jvm.Free.Pt → Prop := fun A a q B =>
  ∃ (g : JFrame) (mk : MethodId) (t : State) (L : List Loc) (E : String) (ce : Cell), B.U.heap = t.heap ∧ B.U.vm = t.vm ∧ XC E q (A.U.calling g mk a) t ∧ t.heap[q]? = some ce ∧ ce.vm = .none ∧ A.U.vm.findClass E = some ce.cls ∧ B.locs = A.locs ++ L ∧ (∀ z ∈ L, free z.base) ∧ B.cells = A.cells + mc ∧ B.slots = A.slots + ms
def vq_Back (l : Launch) (R : Room) (p : Program) (e : Env) (below : List Frame) (s : State) (sargs : Array Value) (y : MethodName) (len W9 : Nat)
    (Pre : _root_.Jvm.Free.Pt → Array Value → Prop) (Post : _root_.Jvm.Free.Pt → Array Value → Option Value → _root_.Jvm.Free.Pt → Prop) (PostX : _root_.Jvm.Free.Pt → Array Value → Addr → _root_.Jvm.Free.Pt → Prop) : Prop :=
  ∀ (m : MethodId) (meth : Method) (c : Code) (A : _root_.Jvm.Free.Pt) (g : JFrame) (ig : Instr) (mk : MethodId) (a : Array Value),
    Stand p l e R s m sargs below meth c A.U A.locs A.cells A.slots → g.method = m → g.locals.size = c.maxLocals → decode c.code g.pc = .ok (ig, len) →
    2 * g.monitorRoom + (g.stack.map fun v => v.category).sum ≤ W9 → A.U.methodNamed? y = some mk → Pre A a →
    (∃ (v : Option Value) (B : _root_.Jvm.Free.Pt), Stand p l e R s m sargs below meth c B.U B.locs B.cells B.slots ∧ Post A a v B ∧
      Steps p.tables e below (doInvoke e (A.U.setTop g) [] mk a).1 (B.U.setTop { g with pc := g.pc + len, stack := v.toList ++ g.stack })) ∨
    (∃ (q : Addr) (B : _root_.Jvm.Free.Pt), Stand p l e R s m sargs below meth c B.U B.locs B.cells B.slots ∧ PostX A a q B ∧
      Steps p.tables e below (doInvoke e (A.U.setTop g) [] mk a).1 ((B.U.setTop g).pushFrame (.throwing q)))
section Payer
variable {l : Launch} {R : Room} {p : Program} {e : Env} {below : List Frame} {s : State} {sargs : Array Value} {y : MethodName} {len W9 : Nat}
theorem vq_back {ws : List Cond} {rm : Room} {Pc : Array Value → State → Prop} {Qc : Array Value → State → Outcome → State → Prop} {XC : String → Addr → State → State → Prop} {mc ms : Nat} {free : Addr → Prop} {bytes : ByteArray} {maxL : Nat} {ret : Option FieldType}
    (hM : vq_Met l y ws rm Pc Qc XC mc ms free) (hblind : FrameBlind Pc) (hrc : rm.cells = mc) (hrs : rm.slots = ms)
    (hframes : rm.frames + 1 ≤ R.frames) (hlocals : W9 + (maxL + 11) + rm.locals ≤ R.locals)
    (hws : ∀ w ∈ ws, ∀ a' U, s.WarmedH U.vm → w.before a' U = true) (hcode : Cond.code y bytes maxL ret ∈ ws) (hinit : ∀ a' U, s.WarmedH U.vm → (Cond.initialized y.cls).before a' U = true) :
    vq_Back l R p e below s sargs y len W9 (PreOf R mc ms Pc) (PostOf Qc mc ms free) (vq_Post XC mc ms free) := by
  intro m meth c A g ig mk a X hg hsize hdg hW hn hp
  have h1 : (headSpec ws rm).pre.before a A.U = true := atoms_intro fun w hw => hws w hw _ _ X.warmed
  have h2 : (Cond.code y bytes maxL ret).before a A.U = true := hws _ hcode _ _ X.warmed
  have h3 : (Cond.initialized y.cls).before a A.U = true := hinit _ _ X.warmed
  have h4 : A.cells + (headSpec ws rm).room.cells ≤ R.cells := by rw [show (headSpec ws rm).room.cells = mc from hrc]; exact hp.1
  have h5 : A.slots + (headSpec ws rm).room.slots ≤ R.slots := by rw [show (headSpec ws rm).room.slots = ms from hrs]; exact hp.2.1
  have hPc : Pc a (A.U.calling g mk a) := hblind _ _ _ _ hp.2.2
  obtain ⟨U, Ls, c0, s0⟩ := A
  dsimp only [_root_.Jvm.Free.Pt.U, _root_.Jvm.Free.Pt.locs, _root_.Jvm.Free.Pt.cells, _root_.Jvm.Free.Pt.slots] at h1 h2 h3 h4 h5 X hn hPc ⊢
  obtain ⟨methY, cY, hmY, hcY, -, hlY, -, -, -, -⟩ := Cond.code_spec hn h2
  obtain ⟨kY, hkY, -⟩ := className_of_methodNamed hn
  have hinitY : kY.init = .initialized := Cond.initialized_spec (findClass_of_methodNamed hn) hkY h3
  have h : At U g.method c below := by rw [hg]; exact X.here
  have hlocals9 : W9 + (maxL + 11) + (headSpec ws rm).room.locals ≤ R.locals := hlocals
  have happ : (headSpec ws rm).appliesLoose y e.platform (U.calling g mk a) = true :=
    Spec.appliesLoose_calling (g := g) h hdg hn hkY hinitY
      (X.room_calling (g := g) (R' := (headSpec ws rm).room) hsize hmY hcY hframes (by rw [hlY]; omega) h4 h5) h1
  obtain ⟨mid, hmid⟩ := h.above
  have hfr : (U.setTop g).frames = (.java g :: mid) ++ below := by rw [State.frames_setTop' g h.top, hmid]; rfl
  obtain ⟨o, s₂, hsteps, -, hend, hq⟩ := Steps.callFree hM p X.admits X.cas X.clock (acts := []) hfr happ hPc trivial
  have hq' : vq_Q Qc XC mc ms free a (U.calling g mk a) o s₂ := hq
  rw [State.frames_setTop' g h.top] at hend
  obtain ⟨g₀, hg0⟩ := Option.isSome_iff_exists.mp h.top
  obtain ⟨r, hr⟩ := State.topJava?_eq_some.mp hg0
  have hr' : (({ U with heap := s₂.heap, slotsUsed := s₂.slotsUsed } : State).setVm s₂.vm).frames = .java g₀ :: r := hr
  rcases hq' with ⟨hqc, L, hfe, hL⟩ | ⟨q, rfl, E, ce, L, hx, hce, hcv, hcl, hW₂, hsm, hL⟩
  · obtain ⟨⟨v, rfl⟩, hW₂, e2, q2, q3, q4, q5, q6⟩ := id hfe
    have e3 : s₂ = ({ (U.calling g mk a).setFrames s₂.frames with heap := s₂.heap, slotsUsed := s₂.slotsUsed } : State).setVm s₂.vm := by
      have : s₂ = ({ s₂ with vm := (U.calling g mk a).vm } : State).setVm s₂.vm := rfl
      rw [e2] at this
      exact this
    obtain ⟨c₂, i₂, len₂, hc₂, hd₂, hf₂⟩ := hend
    have hW' : U.WarmedH s₂.vm := hW₂
    have hcc : c₂ = c := by
      have h1 : s₂.code? g.method = U.code? g.method := by
        rw [State.code?_eq, State.code?_eq, hW'.alike.method?]
      exact Option.some.inj (hc₂.symm.trans (h1.trans h.code))
    subst hcc
    have hlen : len₂ = len := by rw [hdg] at hd₂; cases hd₂; rfl
    subst hlen
    have hs₂ : s₂ = (({ U with heap := s₂.heap, slotsUsed := s₂.slotsUsed } : State).setVm s₂.vm).setTop { g with pc := g.pc + len₂, stack := v.toList ++ g.stack } := by
      refine e3.trans ?_
      rw [hf₂, State.calling_eq h.top, State.setFrames_setFrames, State.setTop_of_frames _ hr', hr]
      rfl
    have hsame : U.sameButNew ({ U with heap := s₂.heap, slotsUsed := s₂.slotsUsed } : State) L mc ms := by
      refine ⟨?_, q2, q3, q4, q5, q6⟩
      obtain ⟨t, ht, -⟩ := State.frames_cons hr
      show ({ U with heap := s₂.heap, slotsUsed := s₂.slotsUsed } : State) = { U.setFrames U.frames with heap := s₂.heap, slotsUsed := s₂.slotsUsed }
      rw [State.setFrames_self ht]
    subst hg
    refine Or.inl ⟨v, ⟨(({ U with heap := s₂.heap, slotsUsed := s₂.slotsUsed } : State).setVm s₂.vm), Ls ++ L, c0 + mc, s0 + ms⟩,
      ⟨X.admits, X.cas, X.clock, X.frames, X.room, X.hears, X.method, X.code, (X.here.setHeapUsed s₂.heap s₂.slotsUsed).setVm hW'.alike, X.tail, State.WarmedH.trans X.warmed hW', X.limits, X.bytes, X.same.trans (hsame.setVm s.vm)⟩,
      ⟨g, mk, s₂, L, rfl, rfl, hqc, rfl, hL, rfl, rfl⟩, ?_⟩
    show Steps p.tables e below _ ((({ U with heap := s₂.heap, slotsUsed := s₂.slotsUsed } : State).setVm s₂.vm).setTop { g with pc := g.pc + len₂, stack := v.toList ++ g.stack })
    rw [← hs₂]
    exact hsteps
  · obtain ⟨e2, q2, q3, q4, q5, q6⟩ := id hsm
    have e3 : s₂ = ({ (U.calling g mk a).setFrames s₂.frames with heap := s₂.heap, slotsUsed := s₂.slotsUsed } : State).setVm s₂.vm := by
      have : s₂ = ({ s₂ with vm := (U.calling g mk a).vm } : State).setVm s₂.vm := rfl
      rw [e2] at this
      exact this
    have hf₂ : s₂.frames = .throwing q :: .java g :: U.frames.tail := hend
    have hW' : U.WarmedH s₂.vm := hW₂
    have hs₂ : s₂ = ((({ U with heap := s₂.heap, slotsUsed := s₂.slotsUsed } : State).setVm s₂.vm).setTop g).pushFrame (.throwing q) := by
      refine e3.trans ?_
      rw [hf₂, State.calling_eq h.top, State.setFrames_setFrames, State.pushFrame, State.frames_setTop _ hr', State.setTop_of_frames _ hr', State.setFrames_setFrames, hr]
      rfl
    have hsame : U.sameButNew ({ U with heap := s₂.heap, slotsUsed := s₂.slotsUsed } : State) L mc ms := by
      refine ⟨?_, q2, q3, q4, q5, q6⟩
      obtain ⟨t, ht, -⟩ := State.frames_cons hr
      show ({ U with heap := s₂.heap, slotsUsed := s₂.slotsUsed } : State) = { U.setFrames U.frames with heap := s₂.heap, slotsUsed := s₂.slotsUsed }
      rw [State.setFrames_self ht]
    subst hg
    refine Or.inr ⟨q, ⟨(({ U with heap := s₂.heap, slotsUsed := s₂.slotsUsed } : State).setVm s₂.vm), Ls ++ L, c0 + mc, s0 + ms⟩,
      ⟨X.admits, X.cas, X.clock, X.frames, X.room, X.hears, X.method, X.code, (X.here.setHeapUsed s₂.heap s₂.slotsUsed).setVm hW'.alike, X.tail, State.WarmedH.trans X.warmed hW', X.limits, X.bytes, X.same.trans (hsame.setVm s.vm)⟩,
      ⟨g, mk, s₂, L, E, ce, rfl, rfl, hx, hce, hcv, hcl, rfl, hL, rfl, rfl⟩, ?_⟩
    show Steps p.tables e below _ (((({ U with heap := s₂.heap, slotsUsed := s₂.slotsUsed } : State).setVm s₂.vm).setTop g).pushFrame (.throwing q))
    rw [← hs₂]
    exact hsteps
end Payer
theorem vq_cls {s : State} {T : State} {vm₁ : Vm} {E : String} {k : ClassId} (hW : s.WarmedH vm₁) (h : (T.setVm vm₁).vm.findClass E = some k) : s.vm.findClass E = some k := by
  have h1 : vm₁.findClass E = some k := h
  rw [hW.alike.findClass] at h1
  exact h1
section Calls
variable {p : Program} {l : Launch} {e : Env} {R : Room} {s : State} {m : MethodId} {args : Array Value} {below : List Frame} {meth : Method} {c : Code} {T : State} {locs : List Loc} {cells slots : Nat}
theorem vq_callV (X : Stand p l e R s m args below meth c T locs cells slots) (hexec : p.tables.exec = Jvm.exec) {own C : String} {index : Nat} {y : MethodName} {bytes : ByteArray} {maxL : Nat} {ret : Option FieldType}
    (hown : s.vm.findClass own = some m.cls) (hlink : (Cond.methodLink own index y).before args s = true) (hinst : (Cond.instanceMethod y).before args s = true) (hsel : (Cond.selects C y y).before args s = true)
    (hcode : (Cond.code y bytes maxL ret).before args s = true) (hy : y.cls ≠ "java/lang/invoke/MethodHandle" ∧ y.cls ≠ "java/lang/invoke/VarHandle")
    {W9 : Nat} {Pre : _root_.Jvm.Free.Pt → Array Value → Prop} {Post : _root_.Jvm.Free.Pt → Array Value → Option Value → _root_.Jvm.Free.Pt → Prop} {PostX : _root_.Jvm.Free.Pt → Array Value → Addr → _root_.Jvm.Free.Pt → Prop} (hK : vq_Back l R p e below s args y 3 W9 Pre Post PostX)
    {b : Addr} {cellB : Cell} (hcell : T.heap[b]? = some cellB) (hobj : cellB.vm.isStatics = false) (hcls : s.vm.findClass C = some cellB.cls)
    {g : JFrame} (hg : g.method = m) (hsize : g.locals.size = c.maxLocals) {argsL rest : List Value} (hlen : ∀ sig, parseMethodDescriptor y.desc = some sig → argsL.length = sig.parameters.length)
    (hstack : g.stack = argsL.reverse ++ .ref b :: rest) (hW : 2 * g.monitorRoom + (rest.map fun v => v.category).sum ≤ W9) (hdg : decode c.code g.pc = .ok (.invokevirtual index, 3))
    (hpre : ∀ vm₁, s.WarmedH vm₁ → Pre ⟨T.setVm vm₁, locs, cells, slots⟩ (Value.ref b :: argsL).toArray) :
    (∃ (v : Option Value) (vm₁ : Vm) (B : _root_.Jvm.Free.Pt), s.WarmedH vm₁ ∧ Stand p l e R s m args below meth c B.U B.locs B.cells B.slots ∧ Post ⟨T.setVm vm₁, locs, cells, slots⟩ (Value.ref b :: argsL).toArray v B ∧
      ∀ target, Steps p.tables e below (B.U.setTop { g with pc := g.pc + 3, stack := v.toList ++ rest }) target → Steps p.tables e below (T.setTop g) target) ∨
    (∃ (q : Addr) (vm₁ : Vm) (B : _root_.Jvm.Free.Pt), s.WarmedH vm₁ ∧ Stand p l e R s m args below meth c B.U B.locs B.cells B.slots ∧ PostX ⟨T.setVm vm₁, locs, cells, slots⟩ (Value.ref b :: argsL).toArray q B ∧
      Steps p.tables e below (T.setTop g) ((B.U.setTop { g with stack := rest }).pushFrame (.throwing q))) := by
  obtain ⟨mk, methM, hnamed, hmethM, hstM, habM⟩ := Cond.instanceMethod_spec hinst
  obtain ⟨methM', cM, hmethM', -, -, -, -, -, -, hsigM⟩ := Cond.code_spec hnamed hcode
  cases hmethM.symm.trans hmethM'
  obtain ⟨c2, r2, m2, q1, q2, q3, q4, kP, hkP, hkPi⟩ := Cond.selects_spec hsel
  cases hcls.symm.trans q1
  cases (State.methodFound?_of_named hnamed hy).symm.trans q2
  cases hnamed.symm.trans q3
  have hselP : selectMethod e.platform s.vm cellB.cls mk = .method mk := by rw [Launch.admits_selectMethod X.admits]; exact q4
  obtain ⟨vm₁, X₁, hstep₁⟩ := X.invokevirtual hexec hown hlink hnamed hmethM hstM hkP hkPi hy (a := b) (cell := cellB) hcell
    (fun z h => by rw [h] at hobj; cases hobj) hselP hmethM habM hkP hkPi (g := g) hg (argsL := argsL) (rest := rest) (hlen _ hsigM) hstack hdg
  rcases hK m meth c ⟨T.setVm vm₁, locs, cells, slots⟩ { g with stack := rest } (.invokevirtual index) mk (Value.ref b :: argsL).toArray X₁ hg hsize hdg hW (X₁.named hnamed) (hpre vm₁ X₁.warmed) with ⟨v, B, X', hpost, hsteps⟩ | ⟨q, B, X', hpost, hsteps⟩
  · exact Or.inl ⟨v, vm₁, B, X₁.warmed, X', hpost, fun target h => hstep₁ _ fun acts => by rw [doInvoke_state]; exact hsteps.trans h⟩
  · exact Or.inr ⟨q, vm₁, B, X₁.warmed, X', hpost, hstep₁ _ fun acts => by rw [doInvoke_state]; exact hsteps⟩
end Calls
/-- the method's frame g, with q thrown over it -/
def vq_W (p : Program) (l : Launch) (e : Env) (R : Room) (s : State) (m : MethodId) (args : Array Value) (below : List Frame) (meth : Method) (c : Code) (H : Heap) (locs : List Loc) (cells slots : Nat) (Q : State → Prop) (g : JFrame) (q : Addr) : Prop :=
  ∀ T : State, T.heap = H → Stand p l e R s m args below meth c T locs cells slots → ∃ t, Steps p.tables e below ((T.setTop g).pushFrame (.throwing q)) t ∧ Q t
def vq_Run (p : Program) (l : Launch) (e : Env) (R : Room) (s : State) (m : MethodId) (args : Array Value) (below : List Frame) (meth : Method) (c : Code) (H : Heap) (locs : List Loc) (cells slots mc ms : Nat) (g : JFrame) (rest : List Value) (Qa : State → Outcome → State → Prop) (XC : String → Addr → State → State → Prop) (free : Addr → Prop) : Prop :=
  ∀ T : State, T.heap = H → Stand p l e R s m args below meth c T locs cells slots →
    (∃ (v : Option Value) (st₀ t T' : State) (L : List Loc), st₀.heap = H ∧ Stand p l e R s m args below meth c T' (locs ++ L) (cells + mc) (slots + ms) ∧ (∀ q ∈ L, free q.base) ∧ T'.heap = t.heap ∧ T'.vm = t.vm ∧ Qa st₀ (.returned v) t ∧
      Goes p e below T g T' { g with pc := g.pc + 3, stack := v.toList ++ rest }) ∨
    (∃ (q : Addr) (st₀ t T' : State) (L : List Loc) (E : String) (ce : Cell), st₀.heap = H ∧ Stand p l e R s m args below meth c T' (locs ++ L) (cells + mc) (slots + ms) ∧ (∀ z ∈ L, free z.base) ∧ T'.heap = t.heap ∧ T'.vm = t.vm ∧ XC E q st₀ t ∧ t.heap[q]? = some ce ∧ ce.vm = .none ∧ s.vm.findClass E = some ce.cls ∧
      Steps p.tables e below (T.setTop g) ((T'.setTop { g with stack := rest }).pushFrame (.throwing q)))
section Runs
variable {p : Program} {l : Launch} {e : Env} {R : Room} {s : State} {m : MethodId} {args : Array Value} {below : List Frame} {meth : Method} {c : Code} {H : Heap} {locs : List Loc} {cells slots : Nat}
variable {y : MethodName} {bytes cc : ByteArray} {maxL nL mc ms n index : Nat} {ret : Option FieldType} {ws : List Cond} {rm : Room} {Pc : Array Value → State → Prop} {Qc : Array Value → State → Outcome → State → Prop} {XC : String → Addr → State → State → Prop} {free : Addr → Prop} {Ts : List Cond} {own C : String} {b : Addr} {As rest : List Value} {g : JFrame}
theorem vq_callBack (cb : CallB R s args own index y bytes maxL ret ws rm mc ms n) (hM : vq_Met l y ws rm Pc Qc XC mc ms free) (hbl : FrameBlind Pc) : vq_Back l R p e below s args y 3 8 (PreOf R mc ms Pc) (PostOf Qc mc ms free) (vq_Post XC mc ms free) := by
  obtain ⟨hrc, hrs, hfr, hlo, hws, hcw, -, hini, -⟩ := cb
  exact vq_back (bytes := bytes) (maxL := maxL) (ret := ret) hM hbl hrc hrs hfr hlo hws hcw (fun a' U hW => word_at hW (Or.inl (by first | rfl | simp [Cond.onTables, Cond.keeps, Cond.steady])) hini)
theorem vq_runV (S : CallFix p m c cc nL s args Ts own) (hM : vq_Met l y ws rm Pc Qc XC mc ms free) (cw : CallW R s args own C index y bytes maxL ret ws rm mc ms n) (hp : PreV s H C b Pc As)
    (hg : g.method = m) (hn : As.length = n) (hsize : g.locals.size = nL) (hstack : g.stack = As.reverse ++ .ref b :: rest) (hW : 2 * g.monitorRoom + (rest.map fun v => v.category).sum ≤ 8) (hdg : decode cc g.pc = .ok (.invokevirtual index, 3)) (hf : cells + mc ≤ R.cells ∧ slots + ms ≤ R.slots) :
    vq_Run p l e R s m args below meth c H locs cells slots mc ms g rest (Qc (Value.ref b :: As).toArray) XC free := by
  have hK : vq_Back l R p e below s args y 3 8 (PreOf R mc ms Pc) (PostOf Qc mc ms free) (vq_Post XC mc ms free) := vq_callBack cw.1 hM hp.1
  obtain ⟨⟨-, -, -, -, -, -, hcode, -, hy, hlen, hl⟩, hin, hse⟩ := cw
  obtain ⟨hx, hb, hml, ho, -⟩ := S
  obtain ⟨-, ⟨cellB, hcB, hoB, hclB⟩, hPc⟩ := hp
  intro T hT X
  rcases vq_callV X hx (C := C) (bytes := bytes) (maxL := maxL) (ret := ret) ho hl hin hse hcode hy hK (by rw [hT]; exact hcB) hoB hclB hg (hsize.trans hml.symm) (argsL := As) (rest := rest) (fun sig h => hn.trans (hlen sig h)) hstack hW (by rw [hb]; exact hdg)
    (fun vm₁ hW₁ => ⟨hf.1, hf.2, hPc (T.setVm vm₁) hT hW₁⟩) with ⟨v, vm₁, ⟨U', l2, c2, s2⟩, hW₁, X', ⟨g', mk, t, L, e1, e2, hq, h1, hL, h2, h3⟩, st⟩ | ⟨q, vm₁, ⟨U', l2, c2, s2⟩, hW₁, X', ⟨g', mk, t, L, E, ce, e1, e2, hq, hce, hcv, hcl, h1, hL, h2, h3⟩, st⟩
  · dsimp only [_root_.Jvm.Free.Pt.U, _root_.Jvm.Free.Pt.locs, _root_.Jvm.Free.Pt.cells, _root_.Jvm.Free.Pt.slots] at X' e1 e2 h1 h2 h3 st
    subst h1; subst h2; subst h3
    exact Or.inl ⟨v, (T.setVm vm₁).calling g' mk (Value.ref b :: As).toArray, t, U', L, hT, X', hL, e1, e2, hq, st⟩
  · dsimp only [_root_.Jvm.Free.Pt.U, _root_.Jvm.Free.Pt.locs, _root_.Jvm.Free.Pt.cells, _root_.Jvm.Free.Pt.slots] at X' e1 e2 h1 h2 h3 st hcl
    subst h1; subst h2; subst h3
    exact Or.inr ⟨q, (T.setVm vm₁).calling g' mk (Value.ref b :: As).toArray, t, U', L, E, ce, hT, X', hL, e1, e2, hq, hce, hcv, vq_cls hW₁ hcl, st⟩
end Runs
section Rows
variable {p : Program} {l : Launch} {e : Env} {R : Room} {s : State} {m : MethodId} {args : Array Value} {below : List Frame} {meth : Method} {c : Code} {H : Heap} {locs : List Loc} {cells slots : Nat} {Q : State → Prop}
variable {mc ms : Nat} {free : Addr → Prop} {A0 A1 : Nat → Prop} {H0 : Heap} {a : Array Value} {pc : Nat} {ls : Array Slot} {st0 rest : List Value}
/-- caught by the row x of this method's table; the rows ahead don't take it -/
theorem vq_catch {own name : String} {E : String} {ce : Cell} {q : Addr} (hown : s.vm.findClass own = some m.cls) (pre : List ExceptionTableEntry) (x : ExceptionTableEntry) (suf : List ExceptionTableEntry) (hsplit : c.exceptionTable.toList = pre ++ x :: suf)
    (hpass : ∀ z ∈ pre, covers z pc = true ∧ z.catchType ≠ 0 ∧ ∃ nm : String, (Cond.classLink own z.catchType nm).before args s = true ∧ va_Nc E nm s) (hx : covers x pc = true) (h0 : x.catchType ≠ 0)
    (hlink : (Cond.classLink own x.catchType name).before args s = true) (hcast : (Cond.castable E name).before args s = true) (hcell : H[q]? = some ce) (hv : ce.vm = .none) (hcl : s.vm.findClass E = some ce.cls)
    (kk : W p l e R s m args below meth c H locs cells slots Q (F0 m x.handlerPc ls [.ref q])) : vq_W p l e R s m args below meth c H locs cells slots Q (F0 m pc ls rest) q := by
  intro T hT X
  have hpl : e.platform.magicAccessors = ({} : Platform).magicAccessors := by rw [X.admits.platform]
  obtain ⟨c3, c4, hc3, hc4, hasg⟩ := Cond.castable_spec hcast
  cases Option.some.inj (hc3.symm.trans hcl)
  obtain ⟨c5, hc5, hcl5⟩ := Cond.classLink_spec hown hlink e.platform hpl
  cases Option.some.inj (hc4.symm.trans hc5)
  obtain ⟨vm', X', st⟩ := hnd_caught X q (g := F0 m pc ls rest) rfl (by rw [hT]; exact hcell) (by rw [hv]; exact fun k h => by cases h) (by obtain ⟨k9, h9, -⟩ := Vm.findClass_spec hcl; exact ⟨k9, h9⟩) pre x suf hsplit
    (fun z hz => by
      obtain ⟨hz1, hz0, nm, hl1, hn1⟩ := hpass z hz
      obtain ⟨c6, hc6, hcl6⟩ := Cond.classLink_spec hown hl1 e.platform hpl
      obtain ⟨a8, b8, h1, h2, h3⟩ := hn1
      cases Option.some.inj (h1.symm.trans hcl)
      cases Option.some.inj (h2.symm.trans hc6)
      exact ⟨hz1, hz0, _, hcl6, h3⟩) ⟨hx, h0, c4, hcl5, hasg⟩
  obtain ⟨t, a1, b1⟩ := kk (T.setVm vm') hT X'
  exact ⟨t, st t a1, b1⟩
end Rows
def vq_MQ (below : List Frame) (Qc : Array Value → State → Outcome → State → Prop) (XC : String → Addr → State → State → Prop) (a : Array Value) (s : State) (mc ms : Nat) (free : Addr → Prop) : State → Prop := fun t =>
  ∃ o, t.status = .running ∧ Ended t below o ∧ vq_Q Qc XC mc ms free a s o t
section VXS
variable {p : Program} {l : Launch} {e : Env} {R : Room} {s : State} {m : MethodId} {args : Array Value} {below : List Frame} {meth : Method} {c : Code} {T : State} {H : Heap} {locs : List Loc} {cells slots : Nat}
abbrev vx_CSW (R : Room) (s : State) (args : Array Value) (own : String) (index : Nat) (y : MethodName) (bytes : ByteArray) (maxL : Nat) (ret : Option FieldType) (hh : List (Nat × Nat × Nat × Nat)) (ws : List Cond) (rm : Room) (mc ms n : Nat) : Prop :=
  (rm.cells = mc ∧ rm.slots = ms ∧ rm.frames + 1 ≤ R.frames ∧ 8 + (maxL + 11) + rm.locals ≤ R.locals ∧ (∀ w ∈ ws, ∀ (a' : Array Value) (U : State), s.WarmedH U.vm → w.before a' U = true) ∧ Cond.codeWith y bytes maxL ret hh ∈ ws) ∧
  (Cond.codeWith y bytes maxL ret hh).before args s = true ∧ (Cond.initialized y.cls).before args s = true ∧ (y.cls ≠ "java/lang/invoke/MethodHandle" ∧ y.cls ≠ "java/lang/invoke/VarHandle") ∧
  (∀ sig, parseMethodDescriptor y.desc = some sig → n = sig.parameters.length) ∧ (Cond.methodLink own index y).before args s = true ∧ (Cond.static y).before args s = true
theorem vx_cwSW {own : String} {index maxL mc ms : Nat} {y : MethodName} {bytes : ByteArray} {ret : Option FieldType} {hh : List (Nat × Nat × Nat × Nat)} {Ts ws ws' : List Cond} {rm : Room} (n : Nat) (ht : ∀ w ∈ Ts, w.before args s = true) (hT : GoodIn Ts (va_wsS own index y ws)) (hw : ws = Cond.codeWith y bytes maxL ret hh :: ws') (hrc : rm.cells = mc) (hrs : rm.slots = ms)
    (hd : y.cls ≠ "java/lang/invoke/MethodHandle" ∧ y.cls ≠ "java/lang/invoke/VarHandle" ∧ (parseMethodDescriptor y.desc).map (fun d => d.parameters.length) = some n) (hR : rm.frames + 1 ≤ R.frames ∧ 8 + (maxL + 11) + rm.locals ≤ R.locals) :
    vx_CSW R s args own index y bytes maxL ret hh ws rm mc ms n := by
  have ok : ∀ w ∈ va_wsS own index y ws, w.before args s = true := fun w h => ht w (hT w h).1
  have hG : GoodIn Ts ws := fun w h => hT w (by unfold va_wsS; exact List.mem_append_right _ h)
  have hc : Cond.codeWith y bytes maxL ret hh ∈ ws := by rw [hw]; exact List.mem_cons_self
  refine ⟨⟨hrc, hrs, hR.1, hR.2, pay_in ht hG, hc⟩, ht _ (hG _ hc).1, ok _ (by simp [va_wsS]), ⟨hd.1, hd.2.1⟩, fun sig h => ?_, ok _ (by simp [va_wsS]), ok _ (by simp [va_wsS])⟩
  have h2 := hd.2.2
  rw [h] at h2
  exact (Option.some.inj h2).symm
theorem vx_callSW (X : Stand p l e R s m args below meth c T locs cells slots) (hexec : p.tables.exec = Jvm.exec) {own : String} {index : Nat} {y : MethodName} {bytes : ByteArray} {maxL : Nat} {ret : Option FieldType} {hh : List (Nat × Nat × Nat × Nat)}
    (hown : s.vm.findClass own = some m.cls) (hlink : (Cond.methodLink own index y).before args s = true) (hstat : (Cond.static y).before args s = true) (hinit : (Cond.initialized y.cls).before args s = true)
    (hcode : (Cond.codeWith y bytes maxL ret hh).before args s = true) (hy : y.cls ≠ "java/lang/invoke/MethodHandle" ∧ y.cls ≠ "java/lang/invoke/VarHandle")
    {W9 : Nat} {Pre : _root_.Jvm.Free.Pt → Array Value → Prop} {Post : _root_.Jvm.Free.Pt → Array Value → Option Value → _root_.Jvm.Free.Pt → Prop} (hK : Back l R p e below s args y 3 W9 Pre Post)
    {g : JFrame} (hg : g.method = m) (hsize : g.locals.size = c.maxLocals) {argsL rest : List Value} (hlen : ∀ sig, parseMethodDescriptor y.desc = some sig → argsL.length = sig.parameters.length)
    (hstack : g.stack = argsL.reverse ++ rest) (hW : 2 * g.monitorRoom + (rest.map fun v => v.category).sum ≤ W9) (hdg : decode c.code g.pc = .ok (.invokestatic index, 3))
    (hpre : ∀ vm₁, s.WarmedH vm₁ → Pre ⟨T.setVm vm₁, locs, cells, slots⟩ argsL.toArray) :
    ∃ (v : Option Value) (vm₁ : Vm) (B : _root_.Jvm.Free.Pt), s.WarmedH vm₁ ∧ Stand p l e R s m args below meth c B.U B.locs B.cells B.slots ∧ Post ⟨T.setVm vm₁, locs, cells, slots⟩ argsL.toArray v B ∧
      ∀ target, Steps p.tables e below (B.U.setTop { g with pc := g.pc + 3, stack := v.toList ++ rest }) target → Steps p.tables e below (T.setTop g) target := by
  obtain ⟨mk, methM, cM, hnamed, hmethM, -, -, -, -, -, -, hsigM⟩ := Cond.codeWith_spec hcode
  have hstatic : methM.isStatic = true := Cond.static_spec hnamed hmethM hstat
  obtain ⟨kP, hkP, -⟩ := className_of_methodNamed hnamed
  have hinitP : kP.init = .initialized := Cond.initialized_spec (findClass_of_methodNamed hnamed) hkP hinit
  obtain ⟨vm₁, X₁, hstep₁⟩ := X.invokestatic hexec hown hlink hnamed hmethM hstatic hkP hinitP hy (g := g) hg (argsL := argsL) (rest := rest) (hlen _ hsigM) hstack hdg
  obtain ⟨v, B, X', hpost, hsteps⟩ := hK m meth c ⟨T.setVm vm₁, locs, cells, slots⟩ { g with stack := rest } (.invokestatic index) mk argsL.toArray X₁ hg hsize hdg hW (X₁.named hnamed) (hpre vm₁ X₁.warmed)
  exact ⟨v, vm₁, B, X₁.warmed, X', hpost, fun target h => hstep₁ _ fun acts => by rw [doInvoke_state]; exact hsteps.trans h⟩
theorem vx_runSW {y : MethodName} {bytes cc : ByteArray} {maxL nL mc ms n index : Nat} {ret : Option FieldType} {hh : List (Nat × Nat × Nat × Nat)} {ws : List Cond} {rm : Room} {Pc : Array Value → State → Prop} {Qc : Array Value → State → Outcome → State → Prop} {free : Addr → Prop} {Ts : List Cond} {own : String} {As rest : List Value} {g : JFrame}
    (S : CallFix p m c cc nL s args Ts own) (hM : Met l y ws rm Pc Qc mc ms free) (cw : vx_CSW R s args own index y bytes maxL ret hh ws rm mc ms n) (hp : PreS s H Pc As)
    (hg : g.method = m) (hn : As.length = n) (hsize : g.locals.size = nL) (hstack : g.stack = As.reverse ++ rest) (hW : 2 * g.monitorRoom + (rest.map fun v => v.category).sum ≤ 8) (hdg : decode cc g.pc = .ok (.invokestatic index, 3)) (hf : cells + mc ≤ R.cells ∧ slots + ms ≤ R.slots) :
    va_Run p l e R s m args below meth c H locs cells slots mc ms g rest (Qc As.toArray) (free) := by
  obtain ⟨⟨hrc, hrs, hfr, hlo, hws, hcw⟩, hcode, hini, hy, hlen, hl, hstt⟩ := cw
  have hK : Back l R p e below s args y 3 8 (PreOf R mc ms Pc) (PostOf Qc mc ms free) := va_backW (hh := hh) (bytes := bytes) (maxL := maxL) (ret := ret) hM hp.1 hrc hrs hfr hlo hws hcw (fun a' U hW => word_at hW (Or.inl (by first | rfl | simp [Cond.onTables, Cond.keeps, Cond.steady])) hini)
  obtain ⟨hx, hb, hml, ho, -⟩ := S
  intro T hT X
  obtain ⟨v, vm₁, ⟨U', l2, c2, s2⟩, hW₁, X', ⟨g', mk, t, L, e1, e2, hq, h1, hL, h2, h3⟩, st⟩ := vx_callSW X hx (hh := hh) (bytes := bytes) (maxL := maxL) (ret := ret) ho hl hstt hini hcode hy hK hg (hsize.trans hml.symm) (argsL := As) (rest := rest) (fun sig h => hn.trans (hlen sig h)) hstack hW (by rw [hb]; exact hdg)
    (fun vm₁ hW₁ => ⟨hf.1, hf.2, hp.2 (T.setVm vm₁) hT hW₁⟩)
  dsimp only [_root_.Jvm.Free.Pt.U, _root_.Jvm.Free.Pt.locs, _root_.Jvm.Free.Pt.cells, _root_.Jvm.Free.Pt.slots] at X' e1 e2 h1 h2 h3 st
  subst h1; subst h2; subst h3
  exact ⟨v, (T.setVm vm₁).calling g' mk As.toArray, t, U', L, hT, X', hL, e1, e2, hq, st⟩
end VXS
/-! my machine's calls of methods that throw -/
def mXC (D : va_G) (cA : Nat → ClassId) (B0 z : Nat) (T1 : mT) : String → Addr → State → State → Prop := fun E q st t => E = mExn z ∧ q + 1 = T1.2.2.2.2.1 ∧ mR D cA B0 t T1 t.heap ∧ va_F (fun q => B0 ≤ q) st t
theorem mMetX {l : Launch} {mth : Nat → mM} {rF rL : Nat → Nat} {k : Nat} {as : List Value} {T T' : mT} {z : Nat} (hs : mSd l mth rF rL k 0 (mEntry (mth k).2.2.1 as) [] T (.inr z) T') (h1 : T.2.2.2.2.1 ≤ T'.2.2.2.2.1) (h2 : T.2.2.2.2.2 ≤ T'.2.2.2.2.2) (hle : (mFlat as).length ≤ (mth k).2.2.1) (hpn : plainFor (mth k).1 = true) (D : va_G) (cA : Nat → ClassId) (B0 : Nat) :
    vq_Met l (mth k).1 (mWm (mth k)) { frames := rF k, cells := T'.2.2.2.2.1 - T.2.2.2.2.1, slots := T'.2.2.2.2.2 - T.2.2.2.2.2, locals := rL k } (mPc D cA B0 as T) (fun _ _ _ _ => False) (mXC D cA B0 z T') (T'.2.2.2.2.1 - T.2.2.2.2.1) (T'.2.2.2.2.2 - T.2.2.2.2.2) (fun q => B0 ≤ q) := by
  refine MetFree.of_bodySF (code := (mth k).2.1) (maxLocals := (mth k).2.2.1) (ret := (mth k).2.2.2) hpn ?_ ?_
  · intro args s m h hn
    obtain ⟨meth, c, h1, h2, h3, h4, h5, h6, -, -⟩ := Cond.code_spec hn (atoms_spec (ws := mWm (mth k)) h _ List.mem_cons_self)
    exact ⟨meth, c, h1, h2, h3, h4, h5, h6⟩
  · intro p e s m args below meth c s₁ B hml hP _
    have hh0 : s₁.heap = s.heap := by rw [B.state]; rfl
    obtain ⟨rfl, hR, hK, hX, hY⟩ := hP
    have hts := atoms_spec (ws := mWm (mth k)) B.pre
    have hC : mC p s m as.toArray meth c D cA B0 (mth k).1 (mth k).2.1 (mth k).2.2.1 (mth k).2.2.2 := ⟨B.exec, B.bytes, hml, findClass_of_methodNamed B.named, fun w hw => hts w (List.mem_cons_of_mem _ hw), hK, B.returns, B.notSynchronized, (name_of_methodNamed B.named B.method).1, hR.2.1, hX, hY, mTb_of B (fun w hw => hts w (List.mem_cons_of_mem _ hw))⟩
    have h := hs p e (headSpec (mWm (mth k)) { frames := rF k, cells := T'.2.2.2.2.1 - T.2.2.2.2.1, slots := T'.2.2.2.2.2 - T.2.2.2.2.2, locals := rL k }).room s m as.toArray below meth c D cA B0 T.2.2.2.2.1 T.2.2.2.2.2 hC (Nat.le_refl _) (Nat.le_refl _) (Nat.le_refl _) (Nat.le_refl _) (by show _ ≤ _ + (_ - _); omega) (by show _ ≤ _ + (_ - _); omega) s.heap [] _ hR va_S.rf (mEntry_ok hle)
    rw [Nat.sub_self, Nat.sub_self, ← lg_entry_eq] at h
    obtain ⟨t, a1, q, ce, Lq, b1, b2, b3, b4, b5, b6, b7, b8, b9, b10, b11⟩ := h s₁ hh0 (Stand.of_body B)
    exact ⟨t, .threw q, a1, b1, b2, Or.inr ⟨q, rfl, mExn z, ce, Lq, ⟨rfl, b3, b10, b11⟩, b4, b5, b6, b7, b8, b9⟩⟩
theorem mRcv_3 {x : Nat} {as : List Value} {T : mT} (h : mRcv 10 x as T = true) : mRcv 3 x as T = true := by
  unfold mRcv at h ⊢
  split at h
  · rename_i b As
    simpa using h
  · simp at h
/-- what is known of a caller's table: exception z is taken at h -/
def mHd (own : String) (hh : List (Nat × Nat × Nat × Nat)) (pc z h : Nat) : Prop := ∃ (pre : List ExceptionTableEntry) (x : ExceptionTableEntry) (suf : List ExceptionTableEntry), tableOf hh = pre ++ x :: suf ∧ x.handlerPc = h ∧ covers x pc = true ∧ x.catchType ≠ 0 ∧ Jvm.Cond.classLink own x.catchType (mExn z) ∈ mWs ∧ Jvm.Cond.castable (mExn z) (mExn z) ∈ lw_tbl ∧ ∀ y ∈ pre, covers y pc = true ∧ y.catchType ≠ 0 ∧ mExn z = "java/lang/IllegalStateException" ∧ (Jvm.Cond.classLink own y.catchType "java/lang/IllegalArgumentException" ∈ mWs ∨ Jvm.Cond.classLink own y.catchType "java/lang/IndexOutOfBoundsException" ∈ mWs)
theorem m_sp10 {l : Launch} {mth : Nat → mM} {rF rL : Nat → Nat} {hdl : Nat → Nat → Nat → Option Nat} {k pc k' na x : Nat} (hk : mCaOk mth rF rL k pc 3 k' na x) {cc : ByteArray} {nn : Nat} {rr : Option FieldType} {hh : List (Nat × Nat × Nat × Nat)} (hcw : Jvm.Cond.codeWith (mth k).1 cc nn rr hh ∈ mWs) (hd : ∀ z h, hdl k pc z = some h → mHd (mth k).1.cls hh pc z h) : mSpOk l mth rF rL hdl k pc 10 k' na x := by
  intro lv as r T T1 w o T' hle hcat hrc hlen h1 h2 h3 h4 hs hg hx
  cases w with
  | inl v => exact mCall_sd hk hle hcat (mRcv_3 hrc) hlen h1 h2 h3 h4 hs (hg v rfl)
  | inr z =>
    obtain ⟨h, hz, hgo⟩ := hx z rfl
    obtain ⟨pre, row, suf, hsplit, hpcH, hcov, hct, hlink, hcast, hpass⟩ := hd z h hz
    intro p e R s m args below meth c D cA B0 n0 u0 hC hF hL hn hu hc1 hc2 H locs ls hR hS hl
    have hgo := hgo p e R s m args below meth c D cA B0 n0 u0 hC hF hL (by omega) (by omega) hc1 hc2
    obtain ⟨hcode, hini, hy, hpn, ⟨hr1, hr2⟩, idx, n, hpar, hcs⟩ := hk
    obtain ⟨hx, hb, hml, hown, hts, hK, hrt, hlk, hnm, hB, hX⟩ := hC
    have hM := mMetX hs h1 h2 hle hpn D cA B0
    have hcells : T.2.2.2.2.1 - n0 + (T1.2.2.2.2.1 - T.2.2.2.2.1) = T1.2.2.2.2.1 - n0 := by omega
    have hslots : T.2.2.2.2.2 - u0 + (T1.2.2.2.2.2 - T.2.2.2.2.2) = T1.2.2.2.2.2 - u0 := by omega
    have hf : T.2.2.2.2.1 - n0 + (T1.2.2.2.2.1 - T.2.2.2.2.1) ≤ R.cells ∧ T.2.2.2.2.2 - u0 + (T1.2.2.2.2.2 - T.2.2.2.2.2) ≤ R.slots := by omega
    have hW : ∀ st : List Value, 2 * (F0 m pc ls st).monitorRoom + (r.map fun v => v.category).sum ≤ 8 := fun st => by
      have : (F0 m pc ls st).monitorRoom = 0 := rfl
      rw [this]
      unfold mCat at hcat
      omega
    have hroom : (rF k' + 1 ≤ R.frames) ∧ 8 + ((mth k').2.2.1 + 11) + rL k' ≤ R.locals := ⟨by omega, by omega⟩
    have hd3 : (mth k').1.cls ≠ "java/lang/invoke/MethodHandle" ∧ (mth k').1.cls ≠ "java/lang/invoke/VarHandle" ∧ (parseMethodDescriptor (mth k').1.desc).map (fun d => d.parameters.length) = some n := ⟨hy.1, hy.2, hpar⟩
    obtain ⟨b, As, has, hb3⟩ := mRcv_ref hrc (Or.inr (Or.inr (Or.inr rfl)))
    subst has
    rcases hcs with ⟨hmd, -⟩ | ⟨hmd, -⟩ | ⟨-, hna, hdec, hlink2, hin, q, hq, hx20, hsel⟩ | ⟨hmd, -⟩ | ⟨hmd, -⟩
    · cases hmd
    · cases hmd
    · obtain ⟨r', hr', cell, q1, q2, q3, -⟩ := mR_obj hR (hb3 (Or.inr rfl)) hx20
      have hst : (Value.ref b :: As).reverse ++ r = As.reverse ++ .ref b :: r := by simp
      rw [hst]
      have hrun := vq_runV (C := q.1) (b := b) (As := As) (rest := r) (below := below) (meth := meth) (locs := locs) (e := e) (g := F0 m pc ls (As.reverse ++ .ref b :: r)) ⟨hx, hb, hml, hown, hts⟩ hM ⟨callB_of n hts (mWm_good hcode) rfl rfl rfl (hts _ hini) (hts _ hlink2) hd3 hroom, hts _ hin, hts _ hsel⟩ ⟨mPc_blind, ⟨cell, q1, by rw [q3]; rfl, by rw [q2]; exact (hK.1 x q hq).2.1⟩, mPc_of hR hK hX hS⟩ rfl (by rw [List.length_cons] at hlen; omega) hl.2.1 rfl (hW _) hdec hf
      intro S hT X
      rcases hrun S hT X with ⟨v', st₀, t, T9, L9, -, -, -, -, -, hno, -⟩ | ⟨q9, st₀, t, T9, L9, E, ce, e0, X9, hL9, e1, e2, ⟨rfl, hq9, hR9, hF9⟩, hce, hcv, hcl, hst9⟩
      · exact hno.elim
      · have hal : t.vm.Alike s.vm := by rw [← e2]; exact X9.warmed.alike.symm
        obtain ⟨hz9, hk9⟩ := hF9
        rw [e0] at hz9 hk9
        have hR1 : mR D cA B0 s T1 T9.heap := by rw [e1]; exact hR9.moved hal
        have hS1 : va_S (fun q => B0 ≤ q) s.heap T9.heap (locs ++ L9) := ⟨Nat.le_trans hS.1 (by rw [e1]; exact hz9), fun q h1 h2 => by rw [e1, hk9 q (Nat.lt_of_lt_of_le h1 hS.1) h2]; exact hS.2.1 q h1 h2, fun q hq => by
          rcases List.mem_append.mp hq with h | h
          · exact hS.2.2 q h
          · exact hL9 q h⟩
        have kk := hgo T9.heap (locs ++ L9) ls hR1 hS1 hl
        rw [← hcells, ← hslots, show T1.2.2.2.2.1 - 1 = q9 from Nat.sub_eq_of_eq_add hq9.symm, ← hpcH] at kk
        have hct2 : c.exceptionTable.toList = pre ++ row :: suf := by rw [hX.2.2.1 _ _ _ _ hcw, hsplit]
        have hcatch := vq_catch (rest := r) (own := (mth k).1.cls) (name := mExn z) (E := mExn z) (ce := ce) (q := q9) (pc := pc) hown pre row suf hct2 (fun y hy => (by
            obtain ⟨y0, y1, y2, y3⟩ := hpass y hy
            refine ⟨y0, y1, ?_⟩
            rw [y2]
            rcases y3 with y3 | y3
            · exact ⟨_, hts _ y3, hX.2.1.2.1.1⟩
            · exact ⟨_, hts _ y3, hX.2.1.2.1.2⟩)) hcov hct (hts _ hlink) (va_Nw.use rfl (hX.1.1 _ hcast rfl)) (by rw [e1]; exact hce) hcv hcl kk
        obtain ⟨t2, a1, b1⟩ := hcatch T9 rfl X9
        exact ⟨t2, hst9.trans a1, b1⟩
    · cases hmd
    · cases hmd
/-! my machine's calls of methods with a table of their own -/
def mWmH (M : mM) (hh : List (Nat × Nat × Nat × Nat)) : List Cond := Jvm.Cond.codeWith M.1 M.2.1 M.2.2.1 M.2.2.2 hh :: mWs
theorem mMetH {l : Launch} {mth : Nat → mM} {rF rL : Nat → Nat} {k : Nat} {hh : List (Nat × Nat × Nat × Nat)} {as : List Value} {T T' : mT} {v : Option Value} (hs : mSd l mth rF rL k 0 (mEntry (mth k).2.2.1 as) [] T (.inl v) T') (h1 : T.2.2.2.2.1 ≤ T'.2.2.2.2.1) (h2 : T.2.2.2.2.2 ≤ T'.2.2.2.2.2) (hle : (mFlat as).length ≤ (mth k).2.2.1) (hpn : plainFor (mth k).1 = true) (D : va_G) (cA : Nat → ClassId) (B0 : Nat) :
    Met l (mth k).1 (mWmH (mth k) hh) { frames := rF k, cells := T'.2.2.2.2.1 - T.2.2.2.2.1, slots := T'.2.2.2.2.2 - T.2.2.2.2.2, locals := rL k } (mPc D cA B0 as T) (mQc D cA B0 v T') (T'.2.2.2.2.1 - T.2.2.2.2.1) (T'.2.2.2.2.2 - T.2.2.2.2.2) (fun q => B0 ≤ q) := by
  refine MetFree.of_bodySF (code := (mth k).2.1) (maxLocals := (mth k).2.2.1) (ret := (mth k).2.2.2) hpn ?_ ?_
  · intro args s m h hn
    obtain ⟨m9, meth, c, hn9, h1, h2, h3, h4, -, h5, h6, -⟩ := Cond.codeWith_spec (atoms_spec (ws := mWmH (mth k) hh) h _ List.mem_cons_self)
    cases hn.symm.trans hn9
    exact ⟨meth, c, h1, h2, h3, h4, h5, h6⟩
  · intro p e s m args below meth c s₁ B hml hP _
    have hh0 : s₁.heap = s.heap := by rw [B.state]; rfl
    obtain ⟨rfl, hR, hK, hX, hY⟩ := hP
    have hts := atoms_spec (ws := mWmH (mth k) hh) B.pre
    have hC : mC p s m as.toArray meth c D cA B0 (mth k).1 (mth k).2.1 (mth k).2.2.1 (mth k).2.2.2 := ⟨B.exec, B.bytes, hml, findClass_of_methodNamed B.named, fun w hw => hts w (List.mem_cons_of_mem _ hw), hK, B.returns, B.notSynchronized, (name_of_methodNamed B.named B.method).1, hR.2.1, hX, hY, mTb_of B (fun w hw => hts w (List.mem_cons_of_mem _ hw))⟩
    have h := hs p e (headSpec (mWmH (mth k) hh) { frames := rF k, cells := T'.2.2.2.2.1 - T.2.2.2.2.1, slots := T'.2.2.2.2.2 - T.2.2.2.2.2, locals := rL k }).room s m as.toArray below meth c D cA B0 T.2.2.2.2.1 T.2.2.2.2.2 hC (Nat.le_refl _) (Nat.le_refl _) (Nat.le_refl _) (Nat.le_refl _) (by show _ ≤ _ + (_ - _); omega) (by show _ ≤ _ + (_ - _); omega) s.heap [] _ hR va_S.rf (mEntry_ok hle)
    rw [Nat.sub_self, Nat.sub_self, ← lg_entry_eq] at h
    obtain ⟨t, a1, o, b1, b2, b3⟩ := h s₁ hh0 (Stand.of_body B)
    exact ⟨t, o, a1, b1, b2, ⟨b3.1, b3.2⟩⟩
def mStOk (mth : Nat → mM) (rF rL : Nat → Nat) (k pc k' na : Nat) (hh : List (Nat × Nat × Nat × Nat)) : Prop := (Jvm.Cond.codeWith (mth k').1 (mth k').2.1 (mth k').2.2.1 (mth k').2.2.2 hh ∈ mWs ∧ Jvm.Cond.initialized (mth k').1.cls ∈ mWs ∧ Jvm.Cond.static (mth k').1 ∈ mWs) ∧ ((mth k').1.cls ≠ "java/lang/invoke/MethodHandle" ∧ (mth k').1.cls ≠ "java/lang/invoke/VarHandle") ∧ plainFor (mth k').1 = true ∧ (rF k' + 1 ≤ rF k ∧ 8 + ((mth k').2.2.1 + 11) + rL k' ≤ rL k) ∧ ∃ idx : Nat, (parseMethodDescriptor (mth k').1.desc).map (fun d => d.parameters.length) = some na ∧ decode (mth k).2.1 pc = .ok (.invokestatic idx, 3) ∧ Jvm.Cond.methodLink (mth k).1.cls idx (mth k').1 ∈ mWs
theorem m_sp11 {l : Launch} {mth : Nat → mM} {rF rL : Nat → Nat} {hdl : Nat → Nat → Nat → Option Nat} {k pc k' na x : Nat} {hh : List (Nat × Nat × Nat × Nat)} (hk : mStOk mth rF rL k pc k' na hh) (hno : ∀ z, hdl k pc z = none) : mSpOk l mth rF rL hdl k pc 11 k' na x := by
  intro lv as r T T1 w o T' hle hcat hrc hlen h1 h2 h3 h4 hs hg hx
  cases w with
  | inr z =>
    obtain ⟨h, hz, -⟩ := hx z rfl
    rw [hno z] at hz
    cases hz
  | inl v =>
    have hg := hg v rfl
    intro p e R s m args below meth c D cA B0 n0 u0 hC hF hL hn hu hc1 hc2 H locs ls hR hS hl
    have hgo := hg p e R s m args below meth c D cA B0 n0 u0 hC hF hL (by omega) (by omega) hc1 hc2
    obtain ⟨⟨hcode, hini, hst⟩, hy, hpn, ⟨hr1, hr2⟩, idx, hpar, hd, hlink⟩ := hk
    obtain ⟨hx, hb, hml, hown, hts, hK, hrt, hlk, hnm, hB, hX⟩ := hC
    have hM := mMetH (hh := hh) hs h1 h2 hle hpn D cA B0
    have hcells : T.2.2.2.2.1 - n0 + (T1.2.2.2.2.1 - T.2.2.2.2.1) = T1.2.2.2.2.1 - n0 := by omega
    have hslots : T.2.2.2.2.2 - u0 + (T1.2.2.2.2.2 - T.2.2.2.2.2) = T1.2.2.2.2.2 - u0 := by omega
    have hf : T.2.2.2.2.1 - n0 + (T1.2.2.2.2.1 - T.2.2.2.2.1) ≤ R.cells ∧ T.2.2.2.2.2 - u0 + (T1.2.2.2.2.2 - T.2.2.2.2.2) ≤ R.slots := by omega
    have hW : ∀ st : List Value, 2 * (F0 m pc ls st).monitorRoom + (r.map fun v => v.category).sum ≤ 8 := fun st => by
      have : (F0 m pc ls st).monitorRoom = 0 := rfl
      rw [this]
      unfold mCat at hcat
      omega
    have hroom : (rF k' + 1 ≤ R.frames) ∧ 8 + ((mth k').2.2.1 + 11) + rL k' ≤ R.locals := ⟨by omega, by omega⟩
    have hGd : GoodIn mWs (va_wsS (mth k).1.cls idx (mth k').1 (mWmH (mth k') hh)) := by
      intro w hw
      have hm : w ∈ mWs := by
        unfold va_wsS mWmH at hw
        simp only [List.mem_append, List.mem_cons, List.not_mem_nil, or_false] at hw
        rcases hw with (rfl | rfl | rfl) | rfl | hw
        · exact hlink
        · exact hst
        · exact hini
        · exact hcode
        · exact hw
      exact ⟨hm, good_of_word (List.mem_filter.mp hm).2⟩
    refine mAfter (a := as.toArray) (v := v) (T1 := T1) (st0 := as.reverse ++ r) (rest := r) (vx_runSW (hh := hh) (As := as) (rest := r) (Ts := mWs) (own := (mth k).1.cls) (index := idx) (bytes := (mth k').2.1) (maxL := (mth k').2.2.1) (ret := (mth k').2.2.2) (n := na) ⟨hx, hb, hml, hown, hts⟩ hM (vx_cwSW na hts hGd rfl rfl rfl ⟨hy.1, hy.2, hpar⟩ hroom) ⟨mPc_blind, mPc_of hR hK hX hS⟩ rfl hlen hl.2.1 rfl (hW _) hd hf) hS (fun H1 locs1 hR1 hS1 => ?_)
    rw [hcells, hslots]
    exact hgo H1 locs1 ls hR1 hS1 hl
