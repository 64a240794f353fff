/-! how many pieces and corners a cut shape has -/
def nbg : List Cn → Nat
  | [] => 0
  | c :: r => (if c.2.2 then 0 else 1) + nbg r
theorem pn_len : ∀ l : List Cn, pcs l + nbg l = l.length
  | [] => rfl
  | c :: r => by unfold pcs nbg; have := pn_len r; simp only [List.length_cons]; split <;> omega
theorem pcs_app : ∀ a b : List Cn, pcs (a ++ b) = pcs a + pcs b
  | [], b => by simp [pcs]
  | c :: r, b => by show (if c.2.2 then 1 else 0) + pcs (r ++ b) = (if c.2.2 then 1 else 0) + pcs r + pcs b; rw [pcs_app r b]; omega
theorem nbg_app : ∀ a b : List Cn, nbg (a ++ b) = nbg a + nbg b
  | [], b => by simp [nbg]
  | c :: r, b => by show (if c.2.2 then 0 else 1) + nbg (r ++ b) = (if c.2.2 then 0 else 1) + nbg r + nbg b; rw [nbg_app r b]; omega
theorem pcs_1 (c : Cn) : pcs [c] = if c.2.2 then 1 else 0 := by simp [pcs]
theorem nbg_1 (c : Cn) : nbg [c] = if c.2.2 then 0 else 1 := by simp [nbg]
theorem sub_pcs {a b : List Cn} (h : a.Sublist b) : pcs a ≤ pcs b := by
  induction h with
  | slnil => exact Nat.le_refl _
  | @cons l1 l2 c _ ih => show pcs l1 ≤ (if c.2.2 then 1 else 0) + pcs l2; omega
  | @cons_cons l1 l2 c _ ih => show (if c.2.2 then 1 else 0) + pcs l1 ≤ (if c.2.2 then 1 else 0) + pcs l2; omega
theorem sub_nbg {a b : List Cn} (h : a.Sublist b) : nbg a ≤ nbg b := by
  induction h with
  | slnil => exact Nat.le_refl _
  | @cons l1 l2 c _ ih => show nbg l1 ≤ (if c.2.2 then 0 else 1) + nbg l2; omega
  | @cons_cons l1 l2 c _ ih => show (if c.2.2 then 0 else 1) + nbg l1 ≤ (if c.2.2 then 0 else 1) + nbg l2; omega
def mrgB (out : List Cn) (c : Cn) : Bool := c.2.2 || !(match out.getLast? with
  | some d => sameC c d
  | none => false)
theorem mrg_cons (out : List Cn) (c : Cn) (r : List Cn) : mrg out (c :: r) = if mrgB out c then mrg (out ++ [c]) r else mrg out r := rfl
theorem mrg_sub : ∀ (rest out : List Cn), (mrg out rest).Sublist (out ++ rest)
  | [], out => by unfold mrg; simp
  | c :: r, out => by
    have h1 := mrg_sub r (out ++ [c])
    have h2 := mrg_sub r out
    have h : mrg out (c :: r) = mrg (out ++ [c]) r ∨ mrg out (c :: r) = mrg out r := by
      rw [mrg_cons]
      by_cases q : mrgB out c = true
      · rw [if_pos q]; exact Or.inl rfl
      · rw [if_neg q]; exact Or.inr rfl
    rcases h with h | h
    · rw [h]; simpa using h1
    · rw [h]; exact h2.trans (List.Sublist.append_left (List.sublist_cons_self c r) out)
theorem rmL_sub : ∀ l : List Cn, (rmL l).Sublist l
  | [] => List.Sublist.refl _
  | [c] => by
    unfold rmL
    split
    · exact List.nil_sublist _
    · exact List.Sublist.refl _
  | c :: d :: r => by
    unfold rmL
    split
    · exact (rmL_sub (d :: r)).trans (List.sublist_cons_self c _)
    · exact (rmL_sub (d :: r)).cons_cons c
theorem rmL_pn : ∀ l : List Cn, pcs (rmL l) ≤ nbg (rmL l) ∧ (∀ d r, l = d :: r → d.2.2 = false → pcs (rmL l) + 1 ≤ nbg (rmL l))
  | [] => ⟨Nat.le_refl _, fun d r h => by cases h⟩
  | [c] => by
    unfold rmL
    cases hc : c.2.2 with
    | true => simp [pcs, nbg, hc]
    | false => simp [pcs, nbg, hc]
  | c :: d :: r => by
    obtain ⟨h1, h2⟩ := rmL_pn (d :: r)
    unfold rmL
    cases hc : c.2.2 with
    | true =>
      cases hd : d.2.2 with
      | true =>
        simp only [Bool.and_self, if_true]
        refine ⟨h1, fun e s he hz => ?_⟩
        cases he
        rw [hc] at hz
        cases hz
      | false =>
        have h3 := h2 d r rfl hd
        simp only [Bool.and_false, Bool.false_eq_true, if_false]
        refine ⟨?_, fun e s he hz => ?_⟩
        · show (if c.2.2 then 1 else 0) + pcs (rmL (d :: r)) ≤ (if c.2.2 then 0 else 1) + nbg (rmL (d :: r))
          rw [hc]
          simp
          omega
        · cases he
          rw [hc] at hz
          cases hz
    | false =>
      simp only [Bool.false_and, Bool.false_eq_true, if_false]
      have e1 : pcs (c :: rmL (d :: r)) = pcs (rmL (d :: r)) := by show (if c.2.2 then 1 else 0) + _ = _; rw [hc]; simp
      have e2 : nbg (c :: rmL (d :: r)) = 1 + nbg (rmL (d :: r)) := by show (if c.2.2 then 0 else 1) + _ = _; rw [hc]; simp
      rw [e1, e2]
      exact ⟨by omega, fun _ _ _ _ => by omega⟩
def tidyB (b : List Cn) : Bool := match b.head?, b.getLast? with
  | some c, some d => sameC c d
  | _, _ => false
theorem tidyC_eq (k : Nat) (b : List Cn) : tidyC k b = if k = 2 ∧ 1 < b.length ∧ tidyB b = true then b.dropLast else b := rfl
theorem tidyC_subl (k : Nat) (b : List Cn) : (tidyC k b).Sublist b := by
  rw [tidyC_eq]
  by_cases q : (k = 2 ∧ 1 < b.length ∧ tidyB b = true)
  · rw [if_pos q]; exact List.dropLast_sublist b
  · rw [if_neg q]; exact List.Sublist.refl _
theorem tidyS_subl (k : Nat) (cs : List Cn) : (tidyS k cs).Sublist cs := by
  unfold tidyS
  dsimp only
  have h1 : (if k = 1 then rmL (mrg [] cs) else mrg [] cs).Sublist cs := by
    have hm : (mrg [] cs).Sublist cs := mrg_sub cs []
    by_cases q : k = 1
    · rw [if_pos q]; exact (rmL_sub _).trans hm
    · rw [if_neg q]; exact hm
  generalize (if k = 1 then rmL (mrg [] cs) else mrg [] cs) = b at *
  by_cases q : (tidyC k b).length < k + 1
  · rw [if_pos q]; exact List.nil_sublist _
  · rw [if_neg q]; exact (tidyC_subl k b).trans h1
theorem tidy1_pn (cs : List Cn) : pcs (tidyS 1 cs) ≤ nbg (tidyS 1 cs) := by
  unfold tidyS
  dsimp only
  rw [if_pos rfl]
  have e : tidyC 1 (rmL (mrg [] cs)) = rmL (mrg [] cs) := by unfold tidyC; rw [if_neg (by omega)]
  rw [e]
  by_cases q : (rmL (mrg [] cs)).length < 1 + 1
  · rw [if_pos q]; exact Nat.le_refl _
  · rw [if_neg q]; exact (rmL_pn _).1
theorem keL_subl {S : Nat → Bool} : ∀ (cs : List Cn) (i : Nat), (keL S i cs).Sublist cs
  | [], _ => List.Sublist.refl _
  | d :: r, i => by
    unfold keL
    split
    · exact (keL_subl r (i + 1)).cons_cons d
    · exact (keL_subl r (i + 1)).trans (List.sublist_cons_self d r)
theorem kepC_subl (b : List Cn) : (kepC b).Sublist b := by
  unfold kepC
  split
  · exact keL_subl b 0
  · exact List.Sublist.refl _
section CP
variable {u l : Bool} {b : Int}
theorem cutL_pcs : ∀ (rest : List Cn) (prev : Option Cn) (out : List Cn), pcs out ≤ 1 → (out = [] ∨ 1 ≤ out.length) → pcs (cutL u l b true prev rest out) ≤ 1 := by
  intro rest
  induction rest with
  | nil => intro prev out h _; exact h
  | cons c rest ih =>
    intro prev out h _
    have h1 : pcs (cut1 u l b true prev c out) ≤ 1 := by
      unfold cut1
      cases prev with
      | none => exact h
      | some q =>
        dsimp only
        split
        · rw [pcs_app, pcs_1, if_pos rfl]
          unfold bordC
          cases out with
          | nil => cases u <;> simp [pcs]
          | cons a s => cases u <;> simpa using h
        · exact h
    have h2 : pcs (cut2 u l b true c (cut1 u l b true prev c out)) ≤ 1 := by
      generalize cut1 u l b true prev c out = o at *
      unfold cut2
      split
      · rw [pcs_app, pcs_1, if_pos rfl]
        cases o with
        | nil => simp [pcs]
        | cons a s => simpa using h1
      · exact h1
    exact ih (some c) _ h2 (by
      cases cut2 u l b true c (cut1 u l b true prev c out) with
      | nil => exact Or.inl rfl
      | cons a s => exact Or.inr (by simp))
theorem cutS_pcs (cs : List Cn) : pcs (cutS u l b true cs) ≤ 1 := by
  have h := @cutL_pcs u l b cs none [] (by simp [pcs]) (Or.inl rfl)
  unfold cutS
  rw [if_pos rfl]
  unfold cutE
  cases cs.head? with
  | none => exact h
  | some f =>
    cases cs.getLast? with
    | none => exact h
    | some q =>
      dsimp only
      split
      · rw [pcs_app, pcs_1]
        generalize cutL u l b true none cs [] = o at *
        unfold bordC
        cases o with
        | nil => cases u <;> simp [pcs]
        | cons a s => cases u <;> simpa using h
      · exact h
theorem cutL_nbg : ∀ (rest : List Cn) (prev : Option Cn) (out : List Cn), nbg (cutL u l b false prev rest out) ≤ nbg out + nbg rest := by
  intro rest
  induction rest with
  | nil => intro prev out; unfold cutL; omega
  | cons c rest ih =>
    intro prev out
    have h := ih (some c) (cut2 u l b false c (cut1 u l b false prev c out))
    have h2 : nbg (cut2 u l b false c (cut1 u l b false prev c out)) ≤ nbg out + (if c.2.2 then 0 else 1) := by
      unfold cut2 cut1
      cases prev with
      | none =>
        dsimp only
        split
        · rw [nbg_app, nbg_1]; simp
        · split <;> omega
      | some q =>
        dsimp only
        cases hc : c.2.2 with
        | true =>
          simp only [Bool.not_true, Bool.false_and, Bool.false_eq_true, if_false]
          split
          · rw [nbg_app, nbg_1]; simp
          · simp
        | false =>
          cases h1 : insC u l b c <;> cases h2 : insC u l b q <;> simp [nbg_app, nbg_1, nbg, bordC] <;> cases u <;> simp [nbg_app, nbg_1, nbg]
    have e : nbg (c :: rest) = (if c.2.2 then 0 else 1) + nbg rest := rfl
    rw [e]
    show nbg (cutL u l b false (some c) rest _) ≤ _
    omega
theorem cutS_nbg (cs : List Cn) : nbg (cutS u l b false cs) ≤ nbg cs := by
  have := @cutL_nbg u l b cs none []
  unfold cutS
  rw [if_neg (by decide)]
  simpa [nbg] using this
end CP
