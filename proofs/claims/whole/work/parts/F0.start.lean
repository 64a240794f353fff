/-! the start: what the tables and the given say of it -/
theorem st_cls {s : State} {args : Array Value} (hts : ∀ w ∈ lw_tbl, w.before args s = true) : ∀ c : Nat, ∃ z : ClassId × (Nat → Nat), ∀ q : vw_C, vwCl[c]? = some q → u_Kn s q.1 q.2.1 q.2.2 z.1 z.2 := by
  have hm : ∀ w ∈ mWs, w.before args s = true := fun w hw => hts w (List.mem_filter.mp hw).1
  have one : ∀ {C : String} {T : u_T} {n ci : Nat} {ty : Nat → FieldType} (hc : mCl ci C T n ty) (hi : Jvm.Cond.instantiable C n ∈ lw_tbl), ∃ z : ClassId × (Nat → Nat), ∀ q, vwCl[ci]? = some q → u_Kn s q.1 q.2.1 q.2.2 z.1 z.2 := by
    intro C T n ci ty hc hi
    obtain ⟨cC, iS, h⟩ := u_known (C := C) (T := T) (N := n) (n := n) hm hc.2.2.1 (hts _ hi)
    refine ⟨(cC, iS), fun q hq => ?_⟩
    have e := Option.some.inj (hc.1.symm.trans hq)
    subst e
    exact h
  intro c
  match c with
  | 0 => exact one cl_0 (List.mem_of_getElem? (i := 378) (by decide +kernel))
  | 1 => exact one cl_1 (List.mem_of_getElem? (i := 147) (by decide +kernel))
  | 2 => exact one cl_2 (List.mem_of_getElem? (i := 100) (by decide +kernel))
  | 3 => exact one cl_3 (List.mem_of_getElem? (i := 256) (by decide +kernel))
  | 4 => exact one cl_4 (List.mem_of_getElem? (i := 310) (by decide +kernel))
  | 5 => exact one cl_5 (List.mem_of_getElem? (i := 167) (by decide +kernel))
  | 6 => exact one cl_6 (List.mem_of_getElem? (i := 180) (by decide +kernel))
  | 7 => exact one cl_7 (List.mem_of_getElem? (i := 286) (by decide +kernel))
  | 8 => exact one cl_8 (List.mem_of_getElem? (i := 216) (by decide +kernel))
  | 9 => exact one cl_9 (List.mem_of_getElem? (i := 173) (by decide +kernel))
  | 10 => exact one cl_10 (List.mem_of_getElem? (i := 92) (by decide +kernel))
  | 11 => exact one cl_11 (List.mem_of_getElem? (i := 1049) (by decide +kernel))
  | c + 12 => exact ⟨(0, fun _ => 0), fun q hq => by cases hq⟩
theorem st_prim {s : State} {args : Array Value} {ty : FieldType} (h : (Jvm.Cond.arrayClass ty).before args s = true) : ∃ cA, ArrOfT s cA ty ∧ s.vm.findClass ("[" ++ ty.toString) = some cA := by
  obtain ⟨c, k, comp, h1, h2, h3⟩ := Cond.arrayClass_spec h
  exact ⟨c, fun n z => ⟨fun k h => (by cases h), k, h2, comp, h3⟩, h1⟩
theorem st_over {s : State} {args : Array Value} {C : String} (h : (Jvm.Cond.arrayOver (.object C)).before args s = true) : ∃ cA, ArrOfT s cA (.object C) ∧ va_RA s cA (.object C) := by
  obtain ⟨comp, c, k, h1, h2, h3, h4, h5⟩ := Cond.arrayOver_spec h
  exact ⟨c, fun n z => ⟨fun k h => (by cases h), k, h3, comp, h4⟩, k, comp, h3, h4, h1, h5⟩
theorem st_K {s : State} {args : Array Value} (hts : ∀ w ∈ lw_tbl, w.before args s = true) : ∃ (D : va_G) (cA : Nat → ClassId), va_K D vwCl (mTys cA) s := by
  obtain ⟨D, hD⟩ := Classical.axiomOfChoice (st_cls hts)
  obtain ⟨c0, a0, b0⟩ := st_prim (ty := .byte) (hts _ (List.mem_of_getElem? (i := 274) (by decide +kernel)))
  obtain ⟨c1, a1, b1⟩ := st_prim (ty := .int) (hts _ (List.mem_of_getElem? (i := 145) (by decide +kernel)))
  obtain ⟨c2, a2, b2⟩ := st_prim (ty := .long) (hts _ (List.mem_of_getElem? (i := 1208) (by decide +kernel)))
  obtain ⟨c3, a3, b3⟩ := st_prim (ty := .boolean) (hts _ (List.mem_of_getElem? (i := 214) (by decide +kernel)))
  obtain ⟨c4, a4, b4⟩ := st_over (C := "AtlasDesk$Edition") (hts _ (List.mem_of_getElem? (i := 165) (by decide +kernel)))
  obtain ⟨c5, a5, b5⟩ := st_over (C := "AtlasDesk$Feature") (hts _ (List.mem_of_getElem? (i := 153) (by decide +kernel)))
  obtain ⟨c6, a6, b6⟩ := st_over (C := "AtlasDesk$Path") (hts _ (List.mem_of_getElem? (i := 179) (by decide +kernel)))
  refine ⟨(fun c => (D c).1, fun c => (D c).2), fun t => match t with | 0 => c0 | 1 => c1 | 2 => c2 | 3 => c3 | 4 => c4 | 5 => c5 | _ => c6, fun c q hq => hD c q hq, fun k q hk => ?_⟩
  match k, hk with
  | 0, hk => cases hk; exact ⟨a0, b0⟩
  | 1, hk => cases hk; exact ⟨a1, b1⟩
  | 2, hk => cases hk; exact ⟨a2, b2⟩
  | 3, hk => cases hk; exact ⟨a3, b3⟩
  | 4, hk => cases hk; exact ⟨a4, b4⟩
  | 5, hk => cases hk; exact ⟨a5, b5⟩
  | 6, hk => cases hk; exact ⟨a6, b6⟩
  | k + 7, hk => cases hk
theorem st_X {s : State} {args : Array Value} (hts : ∀ w ∈ lw_tbl, w.before args s = true) : mX s :=
  ⟨fun w hw hn => va_Nw.of (by cases w <;> first | rfl | (simp [mNest] at hn)) (hts w hw), va_AO.of (hts _ (List.mem_of_getElem? (i := 165) (by decide +kernel))), va_AO.of (hts _ (List.mem_of_getElem? (i := 153) (by decide +kernel))), va_AO.of (hts _ (List.mem_of_getElem? (i := 179) (by decide +kernel)))⟩
theorem st_Y {s : State} {args : Array Value} (hts : ∀ w ∈ lw_tbl, w.before args s = true) (hg : (Jvm.Cond.and given_1 narrow_1).before args s = true) : mY s.heap.size s := by
  have hf := flat_of_before _ hg
  refine ⟨fun own k tx hw => ?_, ⟨va_Nc.of (hf _ (List.mem_of_getElem? (i := 18) (by decide +kernel))), va_Nc.of (hf _ (List.mem_of_getElem? (i := 49) (by decide +kernel)))⟩, vx_Zqof (hts _ (List.mem_of_getElem? (i := 635) (by decide +kernel))) (hts _ (List.mem_of_getElem? (i := 84) (by decide +kernel))) (hf _ (List.mem_of_getElem? (i := 4) (by decide +kernel))) (fun a ha hb => by omega), vx_Zqof (hts _ (List.mem_of_getElem? (i := 637) (by decide +kernel))) (hts _ (List.mem_of_getElem? (i := 84) (by decide +kernel))) (hf _ (List.mem_of_getElem? (i := 5) (by decide +kernel))) (fun a ha hb => by omega)⟩
  have h1 := hts _ hw
  obtain ⟨cur, hcur⟩ : ∃ cur, s.vm.findClass own = some cur := by
    have h2 := h1
    simp only [Cond.before, Cond.holds, Cond.value] at h2
    cases hc : s.vm.findClass own with
    | none => simp [hc] at h2
    | some cur => exact ⟨cur, rfl⟩
  obtain ⟨k1, cf, i, a, -, -, -, -, -, he⟩ := Cond.stringRef_spec hcur h1
  exact ⟨a, vk_R.of h1 he⟩
