/-! cuts: where the corners are, and how many -/
theorem cr_pos {D B r : Int} (hr : 0 < r) (h0 : 0 ≤ B) (h1 : B ≤ r) : min 0 D ≤ (2 * (D * B) + r) / (2 * r) ∧ (2 * (D * B) + r) / (2 * r) ≤ max 0 D := by
  rcases Int.le_total 0 D with hd | hd
  · have a1 : 0 ≤ D * B := Int.mul_nonneg hd h0
    have a2 : D * B ≤ D * r := Int.mul_le_mul_of_nonneg_left h1 hd
    have e1 : 0 ≤ (2 * (D * B) + r) / (2 * r) := (Int.le_ediv_iff_mul_le (by omega)).mpr (by omega)
    have e2 : (2 * (D * B) + r) / (2 * r) < D + 1 := (Int.ediv_lt_iff_lt_mul (by omega)).mpr (by
      have : (D + 1) * (2 * r) = 2 * (D * r) + 2 * r := by rw [Int.add_mul, Int.one_mul, ← Int.mul_assoc, Int.mul_comm D 2, Int.mul_assoc]
      omega)
    omega
  · have a1 : D * B ≤ 0 := Int.mul_nonpos_of_nonpos_of_nonneg hd h0
    have a2 : D * r ≤ D * B := Int.mul_le_mul_of_nonpos_left hd h1
    have e1 : D ≤ (2 * (D * B) + r) / (2 * r) := (Int.le_ediv_iff_mul_le (by omega)).mpr (by
      have : D * (2 * r) = 2 * (D * r) := by rw [← Int.mul_assoc, Int.mul_comm D 2, Int.mul_assoc]
      omega)
    have e2 : (2 * (D * B) + r) / (2 * r) < 1 := (Int.ediv_lt_iff_lt_mul (by omega)).mpr (by omega)
    omega
theorem crS_btw {b v0 w0 v1 w1 : Int} (h : (v0 ≤ b ∧ b ≤ v1) ∨ (v1 ≤ b ∧ b ≤ v0)) : min w0 w1 ≤ crS b v0 w0 v1 w1 ∧ crS b v0 w0 v1 w1 ≤ max w0 w1 := by
  unfold crS
  by_cases hr : v1 - v0 = 0
  · rw [if_pos hr]; omega
  · rw [if_neg hr]
    rcases Int.lt_or_le v0 v1 with q | q
    · rw [Int.fdiv_eq_ediv_of_nonneg _ (by omega), Int.mul_assoc]
      have := @cr_pos (w1 - w0) (b - v0) (v1 - v0) (by omega) (by omega) (by omega)
      omega
    · have e : (2 * (w1 - w0) * (b - v0) + (v1 - v0)).fdiv (2 * (v1 - v0)) = (2 * ((w1 - w0) * (v0 - b)) + (v0 - v1)).fdiv (2 * (v0 - v1)) := by
        rw [← Int.neg_fdiv_neg]
        congr 1
        · rw [Int.mul_assoc, show v0 - b = -(b - v0) by omega, Int.mul_neg]
          omega
        · omega
      rw [e, Int.fdiv_eq_ediv_of_nonneg _ (by omega)]
      have := @cr_pos (w1 - w0) (v0 - b) (v0 - v1) (by omega) (by omega) (by omega)
      omega
section CM
variable {u l : Bool} {b : Int} {ring : Bool}
/-- where a corner of a cut comes from -/
def frm (u l : Bool) (b : Int) (cs : List Cn) (x : Cn) : Prop := (∃ c, c ∈ cs ∧ insC u l b c = true ∧ x.1 = c.1 ∧ x.2.1 = c.2.1) ∨ (∃ q, q ∈ cs ∧ ∃ c, c ∈ cs ∧ insC u l b c ≠ insC u l b q ∧ ∃ g, x = bordC u b q c g)
theorem cutL_mem {cs : List Cn} : ∀ (rest : List Cn) (prev : Option Cn) (out : List Cn), (∀ c ∈ rest, c ∈ cs) → (∀ q, prev = some q → q ∈ cs) → (∀ x ∈ out, frm u l b cs x) → ∀ x ∈ cutL u l b ring prev rest out, frm u l b cs x := by
  intro rest
  induction rest with
  | nil => intro prev out _ _ ho x hx; exact ho x hx
  | cons c rest ih =>
    intro prev out hr hp ho x hx
    have hc : c ∈ cs := hr c List.mem_cons_self
    have h1 : ∀ x ∈ cut1 u l b ring prev c out, frm u l b cs x := by
      intro x hx
      unfold cut1 at hx
      cases hpr : prev with
      | none => rw [hpr] at hx; exact ho x hx
      | some q =>
        rw [hpr] at hx
        dsimp only at hx
        by_cases hq : (!c.2.2 && (insC u l b c != insC u l b q)) = true
        · rw [if_pos hq] at hx
          rcases List.mem_append.mp hx with z | z
          · exact ho x z
          · simp only [Bool.and_eq_true, bne_iff_ne] at hq
            exact Or.inr ⟨q, hp q hpr, c, hc, hq.2, _, List.mem_singleton.mp z⟩
        · rw [if_neg hq] at hx; exact ho x hx
    have h2 : ∀ x ∈ cut2 u l b ring c (cut1 u l b ring prev c out), frm u l b cs x := by
      intro x hx
      unfold cut2 at hx
      by_cases hq : insC u l b c = true
      · rw [if_pos hq] at hx
        rcases List.mem_append.mp hx with z | z
        · exact h1 x z
        · rw [List.mem_singleton.mp z]
          exact Or.inl ⟨c, hc, hq, rfl, rfl⟩
      · rw [if_neg hq] at hx; exact h1 x hx
    exact ih (some c) _ (fun d hd => hr d (List.mem_cons_of_mem _ hd)) (fun q hq => by cases hq; exact hc) h2 x hx
theorem cutS_mem {cs : List Cn} {x : Cn} (hx : x ∈ cutS u l b ring cs) : frm u l b cs x := by
  have h0 := @cutL_mem u l b ring cs cs none [] (fun c h => h) (fun q h => by cases h) (fun x h => by cases h)
  unfold cutS at hx
  cases ring with
  | false => exact h0 x hx
  | true =>
    rw [if_pos rfl] at hx
    unfold cutE at hx
    cases hh : cs.head? with
    | none => rw [hh] at hx; exact h0 x hx
    | some f =>
      cases hg : cs.getLast? with
      | none => rw [hh, hg] at hx; exact h0 x hx
      | some q =>
        rw [hh, hg] at hx
        dsimp only at hx
        by_cases hq : (insC u l b f != insC u l b q) = true
        · rw [if_pos hq] at hx
          rcases List.mem_append.mp hx with z | z
          · exact h0 x z
          · exact Or.inr ⟨q, List.mem_of_getLast? hg, f, List.mem_of_head? hh, by simpa using hq, _, List.mem_singleton.mp z⟩
        · rw [if_neg hq] at hx; exact h0 x hx
/-- a box: low x, high x, low y, high y -/
def bxI (xa xb ya yb : Int) (c : Cn) : Prop := (xa ≤ c.1 ∧ c.1 ≤ xb) ∧ (ya ≤ c.2.1 ∧ c.2.1 ≤ yb)
theorem cut_box {cs : List Cn} {xa xb ya yb : Int} (h : ∀ c ∈ cs, bxI xa xb ya yb c) : ∀ x ∈ cutS u l b ring cs, bxI xa xb ya yb x ∧ insC u l b x = true := by
  intro x hx
  rcases cutS_mem hx with ⟨c, hc, hi, h1, h2⟩ | ⟨q, hq, c, hc, hi, g, hx⟩
  · have := h c hc
    unfold bxI at *
    unfold insC at *
    rw [h1, h2]
    exact ⟨this, hi⟩
  · have h1 := h c hc
    have h2 := h q hq
    subst hx
    unfold bordC bxI insC inS at *
    cases u <;> cases l <;> simp only [if_true, if_false, Bool.false_eq_true] at *
    · by_cases z1 : c.2.1 ≤ b <;> by_cases z2 : q.2.1 ≤ b <;> simp [z1, z2] at hi
      · have := @crS_btw b q.2.1 q.1 c.2.1 c.1 (by omega)
        simp; omega
      · have := @crS_btw b q.2.1 q.1 c.2.1 c.1 (by omega)
        simp; omega
    · by_cases z1 : b ≤ c.2.1 <;> by_cases z2 : b ≤ q.2.1 <;> simp [z1, z2] at hi
      · have := @crS_btw b q.2.1 q.1 c.2.1 c.1 (by omega)
        simp; omega
      · have := @crS_btw b q.2.1 q.1 c.2.1 c.1 (by omega)
        simp; omega
    · by_cases z1 : c.1 ≤ b <;> by_cases z2 : q.1 ≤ b <;> simp [z1, z2] at hi
      · have := @crS_btw b q.1 q.2.1 c.1 c.2.1 (by omega)
        simp; omega
      · have := @crS_btw b q.1 q.2.1 c.1 c.2.1 (by omega)
        simp; omega
    · by_cases z1 : b ≤ c.1 <;> by_cases z2 : b ≤ q.1 <;> simp [z1, z2] at hi
      · have := @crS_btw b q.1 q.2.1 c.1 c.2.1 (by omega)
        simp; omega
      · have := @crS_btw b q.1 q.2.1 c.1 c.2.1 (by omega)
        simp; omega
/-- how many are inside -/
def inN (u l : Bool) (b : Int) : List Cn → Nat
  | [] => 0
  | c :: r => (if insC u l b c then 1 else 0) + inN u l b r
theorem inN_le (u l : Bool) (b : Int) : ∀ cs, inN u l b cs ≤ cs.length
  | [] => Nat.le_refl 0
  | c :: r => by unfold inN; have := inN_le u l b r; simp only [List.length_cons]; split <;> omega
/-- i inside, o outside so far, n more at borders; the first and the last state -/
def chI (f s : Bool) (i o n : Nat) : Prop := n + (if s then 1 else 0) ≤ 2 * i ∧ n + (if s then 0 else 1) ≤ 2 * o + (if f then 0 else 0) ∧ (f = true → n + (if s then 2 else 1) ≤ 2 * i) ∧ (f = false → n + (if s then 1 else 2) ≤ 2 * o)
theorem chI_step {f s s' : Bool} {i o n : Nat} (h : chI f s i o n) : chI f s' (i + (if s' then 1 else 0)) (o + (if s' then 0 else 1)) (n + (if s' = s then 0 else 1)) := by
  unfold chI at *
  cases f <;> cases s <;> cases s' <;> simp at * <;> omega
theorem cutL_cnt (f : Bool) : ∀ (rest : List Cn) (q : Cn) (out : List Cn) (i o n : Nat), out.length ≤ i + n → chI f (insC u l b q) i o n → ∃ n', (cutL u l b ring (some q) rest out).length ≤ i + inN u l b rest + n' ∧ chI f (match rest.getLast? with | some c => insC u l b c | none => insC u l b q) (i + inN u l b rest) (o + (rest.length - inN u l b rest)) n' := by
  intro rest
  induction rest with
  | nil => intro q out i o n h1 h2; exact ⟨n, by simpa [cutL, inN] using h1, by simpa [inN] using h2⟩
  | cons c rest ih =>
    intro q out i o n h1 h2
    have l1 : (cut1 u l b ring (some q) c out).length ≤ out.length + (if insC u l b c = insC u l b q then 0 else 1) := by
      unfold cut1
      dsimp only
      by_cases z : insC u l b c = insC u l b q
      · rw [if_pos z, if_neg (by simp [z])]; omega
      · rw [if_neg z]
        split
        · simp
        · omega
    have l2 : (cut2 u l b ring c (cut1 u l b ring (some q) c out)).length ≤ (cut1 u l b ring (some q) c out).length + (if insC u l b c then 1 else 0) := by
      unfold cut2
      split
      · simp
      · omega
    have hil := inN_le u l b rest
    have key := ih c (cut2 u l b ring c (cut1 u l b ring (some q) c out)) (i + (if insC u l b c then 1 else 0)) (o + (if insC u l b c then 0 else 1)) (n + (if insC u l b c = insC u l b q then 0 else 1)) (by omega) (chI_step h2)
    obtain ⟨n', k1, k2⟩ := key
    refine ⟨n', ?_, ?_⟩
    · have e : inN u l b (c :: rest) = (if insC u l b c then 1 else 0) + inN u l b rest := rfl
      rw [e]
      show (cutL u l b ring (some c) rest _).length ≤ _
      omega
    · have e : inN u l b (c :: rest) = (if insC u l b c then 1 else 0) + inN u l b rest := rfl
      rw [e]
      have e2 : i + ((if insC u l b c then 1 else 0) + inN u l b rest) = i + (if insC u l b c then 1 else 0) + inN u l b rest := by omega
      have e3 : o + ((c :: rest).length - ((if insC u l b c then 1 else 0) + inN u l b rest)) = o + (if insC u l b c then 0 else 1) + (rest.length - inN u l b rest) := by
        simp only [List.length_cons]
        split <;> omega
      rw [e2, e3]
      cases hg : rest.getLast? with
      | none =>
        rw [hg] at k2
        rw [List.getLast?_eq_none_iff] at hg
        subst hg
        exact k2
      | some d =>
        rw [hg] at k2
        rw [List.getLast?_cons, hg]
        exact k2
theorem cutS_len (cs : List Cn) : 2 * (cutS u l b ring cs).length ≤ 3 * cs.length := by
  cases cs with
  | nil => unfold cutS cutE; cases ring <;> simp [cutL]
  | cons c rest =>
    have hil := inN_le u l b rest
    have hs : (cut2 u l b ring c (cut1 u l b ring none c [])).length ≤ (if insC u l b c then 1 else 0) := by
      unfold cut2 cut1
      split <;> simp
    have key := @cutL_cnt u l b ring (insC u l b c) rest c (cut2 u l b ring c (cut1 u l b ring none c [])) (if insC u l b c then 1 else 0) (if insC u l b c then 0 else 1) 0 (by omega) (by
      unfold chI
      cases insC u l b c <;> simp)
    obtain ⟨n', k1, k2⟩ := key
    have kL : (cutL u l b ring none (c :: rest) []).length ≤ (if insC u l b c then 1 else 0) + inN u l b rest + n' := k1
    have hE : (cutE u l b (c :: rest) (cutL u l b ring none (c :: rest) [])).length ≤ (cutL u l b ring none (c :: rest) []).length + (if (match rest.getLast? with | some c => insC u l b c | none => insC u l b c) = insC u l b c then 0 else 1) := by
      unfold cutE
      rw [List.head?_cons, List.getLast?_cons]
      dsimp only
      cases hg : rest.getLast? with
      | none => simp
      | some d =>
        dsimp only [Option.getD_some]
        by_cases z : insC u l b c = insC u l b d
        · rw [if_neg (by simp [z])]; omega
        · rw [if_pos (by simp [z]), if_neg (fun q => z q.symm)]; simp
    have hfin : (cutS u l b ring (c :: rest)).length ≤ (cutL u l b ring none (c :: rest) []).length + (if (match rest.getLast? with | some c => insC u l b c | none => insC u l b c) = insC u l b c then 0 else 1) := by
      unfold cutS
      cases ring with
      | false => rw [if_neg (by decide)]; omega
      | true => rw [if_pos rfl]; exact hE
    simp only [List.length_cons]
    generalize (match rest.getLast? with | some c => insC u l b c | none => insC u l b c) = s at *
    unfold chI at k2
    cases hf : insC u l b c <;> cases s <;> simp [hf] at * <;> omega
end CM
