/-! pieces: what holds of every way of corners -/
/-- no corner alone -/
def NL : List Cn → Prop
  | [] => True
  | [c] => c.2.2 = false
  | c :: d :: r => ¬ (c.2.2 = true ∧ d.2.2 = true) ∧ NL (d :: r)
/-- the first one begins -/
def FB (l : List Cn) : Prop := ∀ c r, l = c :: r → c.2.2 = true
theorem NL.rm : ∀ {l : List Cn}, NL l → rmL l = l
  | [], _ => rfl
  | [c], h => by
    have h : c.2.2 = false := h
    unfold rmL
    rw [h]; rfl
  | c :: d :: r, h => by
    unfold rmL
    have e : (c.2.2 && d.2.2) = false := by
      cases h1 : c.2.2 <;> cases h2 : d.2.2 <;> simp
      exact h.1 ⟨h1, h2⟩
    rw [e, if_neg (by decide), h.2.rm]
theorem rmL_nb {d : Cn} {r : List Cn} (h : d.2.2 = false) : ∃ t, rmL (d :: r) = d :: t := by
  cases r with
  | nil => exact ⟨[], by unfold rmL; rw [h]; rfl⟩
  | cons e r => exact ⟨rmL (e :: r), by show (if (d.2.2 && e.2.2) = true then rmL (e :: r) else d :: rmL (e :: r)) = _; rw [h]; rfl⟩
theorem NL_rmL : ∀ (l : List Cn), NL (rmL l)
  | [] => trivial
  | [c] => by
    unfold rmL
    cases h : c.2.2 with
    | true => exact trivial
    | false => exact h
  | c :: d :: r => by
    have ih := NL_rmL (d :: r)
    show NL (if (c.2.2 && d.2.2) = true then rmL (d :: r) else c :: rmL (d :: r))
    cases h1 : c.2.2 with
    | true =>
      cases h2 : d.2.2 with
      | true => exact ih
      | false =>
        obtain ⟨t, ht⟩ := rmL_nb (r := r) h2
        rw [ht] at ih ⊢
        exact ⟨fun z => by rw [h2] at z; exact absurd z.2 (by decide), ih⟩
    | false =>
      show NL (c :: rmL (d :: r))
      cases ht : rmL (d :: r) with
      | nil => exact h1
      | cons e t =>
        rw [ht] at ih
        exact ⟨fun z => by rw [h1] at z; exact absurd z.1 (by decide), ih⟩
theorem FB_rmL : ∀ {l : List Cn}, FB l → FB (rmL l)
  | [], _ => fun c r h => by unfold rmL at h; exact absurd h (by simp)
  | [c], h => by
    have hc := h c [] rfl
    unfold rmL
    rw [hc]
    exact fun c r h => absurd h (by simp)
  | c :: d :: r, h => by
    have hc := h c (d :: r) rfl
    show FB (if (c.2.2 && d.2.2) = true then rmL (d :: r) else c :: rmL (d :: r))
    cases h2 : d.2.2 with
    | true =>
      rw [hc]
      exact FB_rmL (fun c' r' z => by cases z; exact h2)
    | false =>
      rw [hc]
      exact fun c' r' z => by cases z; exact hc
theorem rmL_ne1 {l : List Cn} (h : FB l) : (rmL l).length ≠ 1 := by
  intro z
  have h1 := NL_rmL l
  have h2 := FB_rmL h
  cases ht : rmL l with
  | nil => rw [ht] at z; exact absurd z (by simp)
  | cons c r =>
    rw [ht] at z h1 h2
    cases r with
    | nil =>
      have a := h2 c [] rfl
      have b : c.2.2 = false := h1
      rw [a] at b
      exact absurd b (by decide)
    | cons d r => simp at z
theorem NL_app {l : List Cn} {x : Cn} : NL l → x.2.2 = true → ∀ y : Cn, y.2.2 = false → NL (l ++ [x] ++ [y]) := by
  intro h hx y hy
  induction l with
  | nil => exact ⟨fun z => by rw [hy] at z; exact absurd z.2 (by decide), hy⟩
  | cons c r ih =>
    cases r with
    | nil =>
      have hc : c.2.2 = false := h
      exact ⟨fun z => by rw [hc] at z; exact absurd z.1 (by decide), ⟨fun z => by rw [hy] at z; exact absurd z.2 (by decide), hy⟩⟩
    | cons d r => exact ⟨h.1, ih h.2⟩
theorem NL_nb {l : List Cn} {y : Cn} : NL l → y.2.2 = false → NL (l ++ [y]) := by
  intro h hy
  induction l with
  | nil => exact hy
  | cons c r ih =>
    cases r with
    | nil =>
      have hc : c.2.2 = false := h
      exact ⟨fun z => by rw [hc] at z; exact absurd z.1 (by decide), hy⟩
    | cons d r => exact ⟨h.1, ih h.2⟩
/-- the last one may be a beginning -/
def NLx (l : List Cn) : Prop := ∀ x : Cn, x.2.2 = false → NL (l ++ [x])
theorem NLx_last {l : List Cn} {d : Cn} (h : NLx l) (hl : l.getLast? = some d) (hd : d.2.2 = false) : NL l := by
  have h0 := h (0, 0, false) rfl
  clear h
  induction l with
  | nil => exact trivial
  | cons c r ih =>
    cases r with
    | nil =>
      have : c = d := by simpa using hl
      subst this
      exact hd
    | cons e r =>
      exact ⟨h0.1, ih (by simpa using hl) h0.2⟩
section CN
variable {u l : Bool} {b : Int}
/-- how the written stand, with q behind -/
def stQ (u l : Bool) (b : Int) (q : Cn) (out : List Cn) : Prop := if insC u l b q then NLx out ∧ ∃ d, out.getLast? = some d ∧ d.2.2 = q.2.2 else NL out
theorem stQ_NL {q : Cn} {out : List Cn} (h : stQ u l b q out) (hq : q.2.2 = false) : NL out := by
  unfold stQ at h
  split at h
  · obtain ⟨h1, d, h2, h3⟩ := h
    exact NLx_last h1 h2 (by rw [h3]; exact hq)
  · exact h
theorem stQ_step {q c : Cn} {out : List Cn} (h : stQ u l b q out) (hc : c.2.2 = true → q.2.2 = false) : stQ u l b c (cut2 u l b false c (cut1 u l b false (some q) c out)) := by
  cases hg : c.2.2 with
  | true =>
    have hn := stQ_NL h (hc hg)
    have e1 : cut1 u l b false (some q) c out = out := by unfold cut1; rw [hg]; rfl
    rw [e1]
    unfold cut2 stQ
    cases hi : insC u l b c with
    | true =>
      simp only [if_true, Bool.false_eq_true, if_false]
      exact ⟨fun x hx => NL_app hn hg x hx, (c.1, c.2.1, c.2.2), by simp, hg.symm ▸ rfl⟩
    | false => exact hn
  | false =>
    unfold cut1 cut2 stQ
    rw [hg]
    unfold stQ at h
    cases hq : insC u l b q with
    | true =>
      rw [hq, if_pos rfl] at h
      obtain ⟨h1, d, h2, h3⟩ := h
      cases hi : insC u l b c with
      | true =>
        simp [hq]
        exact fun x hx => NL_nb (h1 (c.1, c.2.1, false) rfl) hx
      | false =>
        simp [hq]
        refine h1 _ ?_
        unfold bordC
        split <;> rfl
    | false =>
      rw [hq, if_neg (by decide)] at h
      cases hi : insC u l b c with
      | true =>
        simp [hq]
        intro x hx
        have hb : (bordC u b q c true).2.2 = true := by unfold bordC; split <;> rfl
        have := NL_nb (NL_app h hb (c.1, c.2.1, false) rfl) hx
        simpa using this
      | false =>
        simp [hq]
        exact h
theorem cutL_NL : ∀ (rest : List Cn) (q : Cn) (out : List Cn), NL (q :: rest) → stQ u l b q out → NL (cutL u l b false (some q) rest out)
  | [], q, out, hn, h => stQ_NL h hn
  | c :: r, q, out, hn, h => cutL_NL r c _ hn.2 (stQ_step h (fun z => by
      cases hq : q.2.2 with
      | false => rfl
      | true => exact absurd ⟨hq, z⟩ hn.1))
theorem cutS_NL {cs : List Cn} (h : NL cs) (hf : FB cs) : NL (cutS u l b false cs) := by
  unfold cutS
  rw [if_neg (by decide)]
  cases cs with
  | nil => exact trivial
  | cons c r =>
    refine cutL_NL r c _ h ?_
    have hc := hf c r rfl
    unfold stQ cut2 cut1
    cases hi : insC u l b c with
    | true =>
      simp
      exact fun x hx => ⟨fun z => by rw [hx] at z; exact absurd z.2 (by decide), hx⟩
    | false => simp; exact trivial
theorem FB_app {l : List Cn} {x : Cn} (h : FB l) (hn : l ≠ []) : FB (l ++ [x]) := by
  cases l with
  | nil => exact absurd rfl hn
  | cons c r => intro c' r' z; injection z with z1 z2; rw [← z1]; exact h c r rfl
theorem FB_one {x : Cn} (h : x.2.2 = true) : FB [x] := fun c r z => by injection z with z1 z2; rw [← z1]; exact h
theorem cutL_FB : ∀ (rest : List Cn) (q : Cn) (out : List Cn), FB out → (insC u l b q = true → out ≠ []) → FB (cutL u l b false (some q) rest out)
  | [], q, out, h, _ => h
  | c :: r, q, out, h, hq => by
    show FB (cutL u l b false (some c) r (cut2 u l b false c (cut1 u l b false (some q) c out)))
    have s1 : FB (cut1 u l b false (some q) c out) ∧ (insC u l b c = true → c.2.2 = false → cut1 u l b false (some q) c out ≠ []) := by
      unfold cut1
      cases hg : c.2.2 with
      | true => exact ⟨by simpa using h, fun _ z => absurd z (by decide)⟩
      | false =>
        cases hi : insC u l b c with
        | true =>
          cases hj : insC u l b q with
          | true => simp [hj]; exact ⟨h, hq hj⟩
          | false =>
            simp [hj]
            by_cases e : out = []
            · subst e
              exact FB_one (by unfold bordC; split <;> rfl)
            · exact FB_app h e
        | false =>
          cases hj : insC u l b q with
          | true => simp [hj]; exact FB_app h (hq hj)
          | false => simp [hj]; exact h
    refine cutL_FB r c _ ?_ ?_
    · unfold cut2
      cases hi : insC u l b c with
      | false => simpa using s1.1
      | true =>
        simp only [if_true, Bool.false_eq_true, if_false]
        by_cases e : cut1 u l b false (some q) c out = []
        · rw [e]
          refine FB_one ?_
          cases hg : c.2.2 with
          | true => rfl
          | false => exact absurd e (s1.2 hi hg)
        · exact FB_app s1.1 e
    · intro z
      unfold cut2
      rw [z, if_pos rfl]
      simp
theorem cutS_FB {cs : List Cn} (hf : FB cs) : FB (cutS u l b false cs) := by
  unfold cutS
  rw [if_neg (by decide)]
  cases cs with
  | nil => exact fun c r z => by unfold cutL at z; exact absurd z (by simp)
  | cons c r =>
    refine cutL_FB r c _ ?_ ?_
    · unfold cut2 cut1
      cases hi : insC u l b c with
      | true => simp; exact FB_one (hf c r rfl)
      | false => exact fun c r z => absurd z (by simp)
    · intro z
      unfold cut2
      rw [z, if_pos rfl]
      simp
theorem oneP_app {o : List Cn} {x y : Int} (h : oneP o) : oneP (o ++ [(x, y, o.isEmpty)]) := by
  cases o with
  | nil => exact ⟨rfl, fun d hd => by simp at hd⟩
  | cons c r =>
    refine ⟨h.1, fun d hd => ?_⟩
    rcases List.mem_append.mp hd with z | z
    · exact h.2 d z
    · simp at z; rw [z]
theorem oneP_bord {o : List Cn} {q c : Cn} (h : oneP o) : oneP (o ++ [bordC u b q c o.isEmpty]) := by
  unfold bordC
  split
  · exact oneP_app h
  · exact oneP_app h
theorem cutL_oneP : ∀ (rest : List Cn) (q : Option Cn) (out : List Cn), oneP out → oneP (cutL u l b true q rest out)
  | [], q, out, h => h
  | c :: r, q, out, h => by
    refine cutL_oneP r (some c) _ ?_
    have s1 : oneP (cut1 u l b true q c out) := by
      unfold cut1
      cases q with
      | none => exact h
      | some q =>
        dsimp only
        split
        · rw [if_pos rfl]; exact oneP_bord h
        · exact h
    unfold cut2
    split
    · rw [if_pos rfl]; exact oneP_app s1
    · exact s1
theorem cutS_oneP {cs : List Cn} : oneP (cutS u l b true cs) := by
  unfold cutS
  rw [if_pos rfl]
  have h := cutL_oneP (u := u) (l := l) (b := b) cs none [] trivial
  unfold cutE
  split
  · split
    · exact oneP_bord h
    · exact h
  · exact h
end CN
theorem mrg_or (c : Cn) (r out : List Cn) : mrg out (c :: r) = mrg (out ++ [c]) r ∨ mrg out (c :: r) = mrg out r := by
  rw [mrg]
  exact if h : _ then Or.inl (if_pos h) else Or.inr (if_neg h)
theorem mrg_pr2 : ∀ (rest out : List Cn), ∃ t, mrg out rest = out ++ t ∧ ∀ x ∈ t, x ∈ rest
  | [], out => ⟨[], by unfold mrg; simp, fun x hx => by simp at hx⟩
  | c :: r, out => by
    rcases mrg_or c r out with e | e
    · obtain ⟨t, h1, h2⟩ := mrg_pr2 r (out ++ [c])
      refine ⟨c :: t, by rw [e, h1]; simp, fun x hx => ?_⟩
      rcases List.mem_cons.mp hx with z | z
      · rw [z]; exact List.mem_cons_self
      · exact List.mem_cons_of_mem _ (h2 x z)
    · obtain ⟨t, h1, h2⟩ := mrg_pr2 r out
      exact ⟨t, by rw [e]; exact h1, fun x hx => List.mem_cons_of_mem _ (h2 x hx)⟩
theorem mrg_hd {c : Cn} {r : List Cn} : ∃ t, mrg [] (c :: r) = c :: t ∧ ∀ x ∈ t, x ∈ r := by
  obtain ⟨t, h1, h2⟩ := mrg_pr2 r [c]
  refine ⟨t, ?_, h2⟩
  have : mrg [] (c :: r) = mrg [c] r := by
    show (if (c.2.2 || !(match ([] : List Cn).getLast? with | some d => sameC c d | none => false)) = true then mrg ([] ++ [c]) r else mrg [] r) = _
    simp
  rw [this, h1]
  rfl
theorem mrg_FB {l : List Cn} (h : FB l) : FB (mrg [] l) := by
  cases l with
  | nil => exact fun c r z => by unfold mrg at z; exact absurd z (by simp)
  | cons c r =>
    obtain ⟨t, h1, _⟩ := mrg_hd (c := c) (r := r)
    rw [h1]
    exact fun c' r' z => by injection z with z1 z2; rw [← z1]; exact h c r rfl
theorem mrg_oneP {l : List Cn} (h : oneP l) : oneP (mrg [] l) := by
  cases l with
  | nil => unfold mrg; exact trivial
  | cons c r =>
    obtain ⟨t, h1, h2⟩ := mrg_hd (c := c) (r := r)
    rw [h1]
    exact ⟨h.1, fun d hd => h.2 d (h2 d hd)⟩
theorem oneP.fb {l : List Cn} (h : oneP l) : FB l := fun c r z => by rw [z] at h; exact h.1
theorem oneP.nl {l : List Cn} (h : oneP l) (h2 : l.length ≠ 1) : NL l := by
  cases l with
  | nil => exact trivial
  | cons c r =>
    cases r with
    | nil => exact absurd rfl h2
    | cons d r =>
      have nb : ∀ (l : List Cn), (∀ d ∈ l, d.2.2 = false) → NL l := by
        intro l
        induction l with
        | nil => exact fun _ => trivial
        | cons c r ih =>
          intro hh
          cases r with
          | nil => exact hh c List.mem_cons_self
          | cons d r => exact ⟨fun z => by rw [hh c List.mem_cons_self] at z; exact absurd z.1 (by decide), ih (fun e he => hh e (List.mem_cons_of_mem _ he))⟩
      exact ⟨fun z => by rw [h.2 d List.mem_cons_self] at z; exact absurd z.2 (by decide), nb (d :: r) h.2⟩
theorem oneP_take {l : List Cn} (h : oneP l) (n : Nat) : oneP (l.take n) := by
  cases l with
  | nil => simp; exact trivial
  | cons c r =>
    cases n with
    | zero => exact trivial
    | succ n => exact ⟨h.1, fun d hd => h.2 d (List.mem_of_mem_take hd)⟩
theorem tidyC_or (k : Nat) (l : List Cn) : tidyC k l = l ∨ tidyC k l = l.dropLast := by
  unfold tidyC
  exact if h : _ then Or.inr (if_pos h) else Or.inl (if_neg h)
theorem oneP_tidyC {l : List Cn} {k : Nat} (h : oneP l) : oneP (tidyC k l) := by
  rcases tidyC_or k l with e | e
  · rw [e]; exact h
  · rw [e, List.dropLast_eq_take]; exact oneP_take h _
theorem tidyC_1 (l : List Cn) : tidyC 1 l = l := by unfold tidyC; rw [if_neg (fun z => absurd z.1 (by decide))]
theorem tidyC_0 (l : List Cn) : tidyC 0 l = l := by unfold tidyC; rw [if_neg (fun z => absurd z.1 (by decide))]
/-- the same as once, and drop what is too short -/
theorem tidyS_one {l : List Cn} (h : oneP l) : tidyS 1 l = if (mrg [] l).length < 2 then [] else mrg [] l := by
  unfold tidyS
  dsimp only
  rw [if_pos rfl, tidyC_1]
  by_cases q : (mrg [] l).length < 2
  · rw [if_pos q]
    have := rmL_len (mrg [] l)
    rw [if_pos (by omega)]
  · rw [if_neg q, ((mrg_oneP h).nl (by omega)).rm, if_neg (by omega)]
theorem tidyS_two (l : List Cn) : tidyS 2 l = if (tdC true (mrg [] l)).length < 3 then [] else tdC true (mrg [] l) := by
  unfold tidyS tdC
  rfl
theorem tidyS_line {l : List Cn} (h : FB l) : tidyS 1 l = rmL (mrg [] l) := by
  unfold tidyS
  dsimp only
  rw [if_pos rfl, tidyC_1]
  have := rmL_ne1 (mrg_FB h)
  by_cases q : (rmL (mrg [] l)).length < 1 + 1
  · rw [if_pos q]
    exact (List.eq_nil_of_length_eq_zero (by omega)).symm
  · rw [if_neg q]
theorem tidyS_pt {l : List Cn} (h : l.length ≤ 1) : tidyS 0 l = l := by
  cases l with
  | nil => rfl
  | cons c r =>
    cases r with
    | nil =>
      have : mrg [] [c] = [c] := by
        obtain ⟨t, h1, h2⟩ := mrg_hd (c := c) (r := [])
        cases t with
        | nil => exact h1
        | cons d t => exact absurd (h2 d List.mem_cons_self) (by simp)
      have e : (if (0 : Nat) = 1 then rmL (mrg [] [c]) else mrg [] [c]) = [c] := by rw [if_neg (by decide), this]
      unfold tidyS
      dsimp only
      rw [e, tidyC_0]
      rfl
    | cons d r => simp at h
