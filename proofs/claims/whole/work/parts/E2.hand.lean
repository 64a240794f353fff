/-! a handler of the method's own, found through rows that pass the thrown object on -/
section HND
variable {e : Env} {s0 : State} {f : JFrame} {a : Addr} {cell : Cell}
/-- a row that covers this place and names a class: one that takes the object (v), or doesn't -/
def mRow (e : Env) (s0 : State) (f : JFrame) (cell : Cell) (v : Bool) (y : ExceptionTableEntry) : Prop := covers y f.pc = true ∧ y.catchType ≠ 0 ∧ ∃ c : ClassId, s0.vm.ClassLinks e.platform f.method.cls y.catchType c ∧ s0.vm.assignable cell.cls c = v
theorem hnd_row {S : State} {y : ExceptionTableEntry} {t : List ExceptionTableEntry} {v : Bool} (hy : mRow e s0 f cell v y) (hW : s0.WarmedH S.vm) (hcell : S.heap[a]? = some cell) (hobj : ∀ k, cell.vm ≠ .statics k) (hk : ∃ k, s0.vm.classes[cell.cls]? = some k) :
    ∃ vm', s0.WarmedH vm' ∧ ∀ (Q : Handler → Pre) (E : CtlPost) (d : Bool) (acts : List Action), wp (findHandler.go f a (y :: t)) Q E e d acts S ↔ (if v = true then Q (.found y.handlerPc) d acts (S.setVm vm') else wp (findHandler.go f a t) Q E e d acts (S.setVm vm')) := by
  obtain ⟨hc, h0, c, hl, hv⟩ := hy
  obtain ⟨dk, _, _, kt, hd, _, _, _, _, hkt, _, hopen⟩ := hl.here
  refine ⟨S.vm.noted f.method.cls y.catchType (.cls c), hW.noted hd hopen (State.rightAt_cls hl), fun Q E d acts => ?_⟩
  obtain ⟨ha, ht⟩ := (resolveClass_links e.toSetting (hW.classLinks hl)).op (op := VmOp.resolveClass f.method.cls y.catchType) rfl
  have hal : s0.vm.Alike (S.vm.noted f.method.cls y.catchType (.cls c)) := hW.alike.trans ((Vm.Alike.refl S.vm).noted _ _ _)
  obtain ⟨k0, hk0⟩ := hk
  obtain ⟨k1, hk1, -⟩ := hal.2.2 _ _ hk0
  obtain ⟨k2, hk2, -⟩ := hal.2.2 _ _ hkt
  have hv2 : (S.vm.noted f.method.cls y.catchType (.cls c)).assignable cell.cls c = v := by rw [hal.assignable]; exact hv
  simp only [covers] at hc
  cases v <;> simp [findHandler.go, hc, h0, ha, ht, hcell, hobj, hk1, hk2, hv2, VmOp.dirties, VmOp.acts]
theorem hnd_find (hobj : ∀ k, cell.vm ≠ .statics k) (hk : ∃ k, s0.vm.classes[cell.cls]? = some k) {x : ExceptionTableEntry} {suf : List ExceptionTableEntry} (hx : mRow e s0 f cell true x) :
    ∀ (pre : List ExceptionTableEntry) (S : State), s0.WarmedH S.vm → S.heap[a]? = some cell → (∀ y ∈ pre, mRow e s0 f cell false y) →
      ∃ vm', s0.WarmedH vm' ∧ ∀ (Q : Handler → Pre) (E : CtlPost) (d : Bool) (acts : List Action), wp (findHandler.go f a (pre ++ x :: suf)) Q E e d acts S ↔ Q (.found x.handlerPc) d acts (S.setVm vm') := by
  intro pre
  induction pre with
  | nil =>
    intro S hW hcell _
    obtain ⟨vm', hW', hq⟩ := hnd_row (a := a) (t := suf) hx hW hcell hobj hk
    exact ⟨vm', hW', fun Q E d acts => (hq Q E d acts).trans (by rw [if_pos rfl])⟩
  | cons y ys ih =>
    intro S hW hcell hp
    obtain ⟨vm1, hW1, q1⟩ := hnd_row (a := a) (t := ys ++ x :: suf) (hp y List.mem_cons_self) hW hcell hobj hk
    obtain ⟨vm', hW', q2⟩ := ih (S.setVm vm1) hW1 hcell (fun z hz => hp z (List.mem_cons_of_mem _ hz))
    exact ⟨vm', hW', fun Q E d acts => (q1 Q E d acts).trans ((by rw [if_neg (by decide)] : _ ↔ _).trans (q2 Q E d acts))⟩
end HND
section HNC
variable {p : Program} {l : Launch} {e : Env} {R : Room} {s : State} {m : MethodId} {args : Array Value} {below : List Frame} {meth : Method} {c : Code} {T : State} {locs : List Loc} {cells slots : Nat}
theorem hnd_caught (X : Stand p l e R s m args below meth c T locs cells slots) (a : Addr) {g : JFrame} (hg : g.method = m) {cell : Cell} (hcell : T.heap[a]? = some cell) (hobj : ∀ k, cell.vm ≠ .statics k) (hk : ∃ k, s.vm.classes[cell.cls]? = some k)
    (pre : List ExceptionTableEntry) (x : ExceptionTableEntry) (suf : List ExceptionTableEntry) (hsplit : c.exceptionTable.toList = pre ++ x :: suf) (hp : ∀ y ∈ pre, mRow e s g cell false y) (hx : mRow e s g cell true x) :
    ∃ vm', Stand p l e R s m args below meth c (T.setVm vm') locs cells slots ∧ ∀ target, Steps p.tables e below ((T.setVm vm').setTop { g with pc := x.handlerPc, stack := [.ref a] }) target → Steps p.tables e below ((T.setTop g).pushFrame (.throwing a)) target := by
  subst hg
  obtain ⟨vm', hW', hq⟩ := hnd_find (a := a) (suf := suf) hobj hk hx pre ((T.setTop g).pushFrame (.throwing a)) X.warmed hcell hp
  refine ⟨vm', X.noted hW', fun target hrest => ?_⟩
  have hfind : ∀ (Q : Handler → Pre) (E : CtlPost) (d : Bool) (acts : List Action), wp (findHandler g a) Q E e d acts ((T.setTop g).pushFrame (.throwing a)) ↔ Q (.found x.handlerPc) d acts (((T.setTop g).pushFrame (.throwing a)).setVm vm') := by
    intro Q E d acts
    have hm : ((T.setTop g).pushFrame (.throwing a)).vm.method? g.method = some meth := X.method'
    rw [_root_.Jvm.W.findHandler_eq hm X.code, hsplit]
    exact hq Q E d acts
  have hstep : ∀ r : List Frame, (stepThrowing e ((T.setTop g).pushFrame (.throwing a)) a (.java g :: r)).Is ((((T.setTop g).pushFrame (.throwing a)).setVm vm').setFrames (.java { g with pc := x.handlerPc, stack := [.ref a] } :: r)) [] := by
    intro r
    simp only [stepThrowing, searchFrame, vmDo]
    generalize hr : Sem.go _ e false [] ((T.setTop g).pushFrame (.throwing a)) = res
    obtain ⟨as, rfl, ha⟩ := Sem.eq_ok_of hr (a := Handler.found x.handlerPc) (s' := ((T.setTop g).pushFrame (.throwing a)).setVm vm') (acts' := []) (by simp [hfind _ _ _ _])
    exact ⟨rfl, ha⟩
  obtain ⟨hgo, hw⟩ := X.here.throwing a
  refine Steps.head hgo hw ?_
  rw [stepThread_throwing (frames_entered X.here.top _), (hstep _).1]
  obtain ⟨g₀, hg0⟩ := Option.isSome_iff_exists.mp X.here.top
  obtain ⟨r, hr⟩ := State.topJava?_eq_some.mp hg0
  have hr' : (T.setVm vm').frames = .java g₀ :: r := hr
  have hsw : ∀ (u : State) (F G : List Frame), ((u.setFrames F).setVm vm').setFrames G = (u.setVm vm').setFrames G := fun u F G => by
    have h1 : (u.setFrames F).setVm vm' = (u.setVm vm').setFrames F := rfl
    rw [h1, State.setFrames_setFrames]
  rw [State.setTop_of_frames _ hr'] at hrest
  rw [hr, List.tail_cons, State.pushFrame, hsw, State.setTop_of_frames _ hr, hsw]
  exact hrest
end HNC
