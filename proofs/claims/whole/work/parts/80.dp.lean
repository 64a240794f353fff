/-! which corners stay: the theory -/
def dpF (far : Nat → Nat → Option Nat) : Nat → Nat → Nat → Nat → Bool
  | 0, _, _, _ => false
  | n + 1, a, b, j => match far a b with
    | none => false
    | some c => (j == c) || dpF far n a c j || dpF far n c b j
def dp (far : Nat → Nat → Option Nat) (a b j : Nat) : Bool := dpF far (b - a) a b j
def farI (far : Nat → Nat → Option Nat) : Prop := ∀ a b c, far a b = some c → a < c ∧ c < b
theorem dpF_st {far : Nat → Nat → Option Nat} (hf : farI far) : ∀ (n n' a b j : Nat), b - a ≤ n → b - a ≤ n' → dpF far n a b j = dpF far n' a b j := by
  intro n
  induction n with
  | zero =>
    intro n' a b j h1 h2
    cases n' with
    | zero => rfl
    | succ k =>
      unfold dpF
      cases h : far a b with
      | none => rfl
      | some c => have := hf a b c h; omega
  | succ n ih =>
    intro n' a b j h1 h2
    cases n' with
    | zero =>
      unfold dpF
      cases h : far a b with
      | none => rfl
      | some c => have := hf a b c h; omega
    | succ k =>
      unfold dpF
      cases h : far a b with
      | none => rfl
      | some c =>
        have := hf a b c h
        dsimp only
        rw [ih k a c j (by omega) (by omega), ih k c b j (by omega) (by omega)]
theorem dp_none {far : Nat → Nat → Option Nat} {a b : Nat} (j : Nat) (h : far a b = none) : dp far a b j = false := by
  unfold dp
  cases b - a with
  | zero => rfl
  | succ n => unfold dpF; rw [h]
theorem dp_some {far : Nat → Nat → Option Nat} (hf : farI far) {a b c : Nat} (j : Nat) (h : far a b = some c) : dp far a b j = ((j == c) || dp far a c j || dp far c b j) := by
  have hc := hf a b c h
  unfold dp
  rw [dpF_st hf (b - a) (b - a - 1 + 1) a b j (by omega) (by omega), dpF_st hf (c - a) (b - a - 1) a c j (by omega) (by omega), dpF_st hf (b - c) (b - a - 1) c b j (by omega) (by omega)]
  conv => lhs; unfold dpF
  rw [h]
theorem dpF_in {far : Nat → Nat → Option Nat} (hf : farI far) : ∀ (n a b j : Nat), dpF far n a b j = true → a < j ∧ j < b := by
  intro n
  induction n with
  | zero => intro a b j h; cases h
  | succ n ih =>
    intro a b j h
    unfold dpF at h
    cases hc : far a b with
    | none => rw [hc] at h; cases h
    | some c =>
      rw [hc] at h
      have := hf a b c hc
      simp only [Bool.or_eq_true, beq_iff_eq] at h
      rcases h with (h | h) | h
      · omega
      · have := ih a c j h; omega
      · have := ih c b j h; omega
theorem dp_in {far : Nat → Nat → Option Nat} (hf : farI far) {a b j : Nat} (h : dp far a b j = true) : a < j ∧ j < b := dpF_in hf _ a b j h
/-- one behind the other -/
def cns (S : Nat → Bool) (a b : Nat) : Prop := S a = true ∧ S b = true ∧ a < b ∧ ∀ j, a < j → j < b → S j = false
def updS (S : Nat → Bool) (c : Nat) : Nat → Bool := fun j => if j = c then true else S j
def invM (far : Nat → Nat → Option Nat) (L : Nat) (S : Nat → Bool) : Prop := S 0 = true ∧ S L = true ∧ (∀ a b, b ≤ L → cns S a b → ∀ j, a < j → j < b → dp far 0 L j = dp far a b j) ∧ (∀ j, 0 < j → j < L → S j = true → dp far 0 L j = true)
theorem invM_0 {far : Nat → Nat → Option Nat} {L : Nat} {S : Nat → Bool} (hS : ∀ j, j ≤ L → S j = (decide (j = 0) || decide (j = L))) : invM far L S := by
  refine ⟨by rw [hS 0 (by omega)]; simp, by rw [hS L (by omega)]; simp, fun a b hb hc j h1 h2 => ?_, fun j h1 h2 h3 => ?_⟩
  · have q1 := hc.1
    have q2 := hc.2.1
    have q3 := hc.2.2.1
    rw [hS a (by omega)] at q1
    rw [hS b (by omega)] at q2
    simp only [Bool.or_eq_true, decide_eq_true_eq] at q1 q2
    rw [show a = 0 by omega, show b = L by omega]
  · rw [hS j (by omega)] at h3
    simp only [Bool.or_eq_true, decide_eq_true_eq] at h3
    omega
theorem invM_mark {far : Nat → Nat → Option Nat} (hf : farI far) {L : Nat} {S : Nat → Bool} (h : invM far L S) {a b c : Nat} (hb : b ≤ L) (hc : cns S a b) (hm : far a b = some c) : invM far L (updS S c) := by
  obtain ⟨h0, hL, hp, hd⟩ := h
  have hac := hf a b c hm
  obtain ⟨ca, cb, cab, cn⟩ := id hc
  have dpc : ∀ j, a < j → j < b → dp far 0 L j = ((j == c) || dp far a c j || dp far c b j) := by
    intro j h1 h2
    rw [hp a b hb hc j h1 h2, dp_some hf j hm]
  refine ⟨by unfold updS; split <;> simp_all, by unfold updS; split <;> simp_all, fun a' b' hb' hc' j h1 h2 => ?_, fun j h1 h2 h3 => ?_⟩
  · obtain ⟨u1, u2, u3, u4⟩ := hc'
    have S'b : updS S c b = true := by unfold updS; split <;> simp_all
    have S'a : updS S c a = true := by unfold updS; split <;> simp_all
    have S'c : updS S c c = true := by unfold updS; simp
    have out : ∀ k, updS S c k = true → k ≠ c → S k = true := by intro k hk hne; unfold updS at hk; rwa [if_neg hne] at hk
    by_cases q1 : a' = c
    · subst q1
      have : b' = b := by
        rcases Nat.lt_trichotomy b' b with q | q | q
        · have := cn b' (by omega) q
          rw [out b' u2 (by omega)] at this
          cases this
        · exact q
        · have := u4 b (by omega) q
          rw [S'b] at this
          cases this
      subst this
      rw [dpc j (by omega) (by omega)]
      have e1 : (j == a') = false := by simp; omega
      have e2 : dp far a a' j = false := by
        cases hq : dp far a a' j with
        | false => rfl
        | true => have := dp_in hf hq; omega
      rw [e1, e2]
      rfl
    · by_cases q2 : b' = c
      · subst q2
        have : a' = a := by
          rcases Nat.lt_trichotomy a' a with q | q | q
          · have := u4 a q (by omega)
            rw [S'a] at this
            cases this
          · exact q
          · have := cn a' q (by omega)
            rw [out a' u1 q1] at this
            cases this
        subst this
        rw [dpc j (by omega) (by omega)]
        have e1 : (j == b') = false := by simp; omega
        have e2 : dp far b' b j = false := by
          cases hq : dp far b' b j with
          | false => rfl
          | true => have := dp_in hf hq; omega
        rw [e1, e2]
        simp
      · refine hp a' b' hb' ⟨out a' u1 q1, out b' u2 q2, u3, fun k k1 k2 => ?_⟩ j h1 h2
        have := u4 k k1 k2
        unfold updS at this
        split at this
        · cases this
        · exact this
  · by_cases q : j = c
    · subst q
      rw [dpc j (by omega) (by omega)]
      simp
    · unfold updS at h3
      rw [if_neg q] at h3
      exact hd j h1 h2 h3
theorem down_ex {S : Nat → Bool} : ∀ j, S 0 = true → 0 < j → ∃ a, a < j ∧ S a = true ∧ ∀ k, a < k → k < j → S k = false := by
  intro j h0
  induction j with
  | zero => intro h; omega
  | succ j ih =>
    intro _
    by_cases q : S j = true
    · exact ⟨j, by omega, q, fun k h1 h2 => by omega⟩
    · have qf : S j = false := by simpa using q
      by_cases q2 : j = 0
      · subst q2; rw [h0] at qf; cases qf
      · obtain ⟨a, h1, h2, h3⟩ := ih (by omega)
        refine ⟨a, by omega, h2, fun k k1 k2 => ?_⟩
        by_cases q3 : k = j
        · rw [q3]; exact qf
        · exact h3 k k1 (by omega)
theorem up_ex {S : Nat → Bool} {L : Nat} (hL : S L = true) : ∀ (m j : Nat), L - j = m → j < L → ∃ b, j < b ∧ b ≤ L ∧ S b = true ∧ ∀ k, j < k → k < b → S k = false := by
  intro m
  induction m with
  | zero => intro j h1 h2; omega
  | succ m ih =>
    intro j h1 h2
    by_cases q : S (j + 1) = true
    · exact ⟨j + 1, by omega, by omega, q, fun k h1 h2 => by omega⟩
    · have qf : S (j + 1) = false := by simpa using q
      by_cases q2 : j + 1 = L
      · rw [q2, hL] at qf; cases qf
      · obtain ⟨b, h3, h4, h5, h6⟩ := ih (j + 1) (by omega) (by omega)
        refine ⟨b, by omega, h4, h5, fun k k1 k2 => ?_⟩
        by_cases q3 : k = j + 1
        · rw [q3]; exact qf
        · exact h6 k (by omega) k2
/-- the corner stays -/
def ksB (far : Nat → Nat → Option Nat) (L j : Nat) : Bool := decide (j = 0) || decide (j = L) || dp far 0 L j
theorem invM_end {far : Nat → Nat → Option Nat} {L : Nat} {S : Nat → Bool} (h : invM far L S) (hn : ∀ a b, b ≤ L → cns S a b → far a b = none) {j : Nat} (hj : j ≤ L) : S j = ksB far L j := by
  obtain ⟨h0, hL, hp, hd⟩ := h
  unfold ksB
  by_cases q0 : j = 0
  · subst q0; rw [h0]; simp
  · by_cases q1 : j = L
    · subst q1; rw [hL]; simp
    · rw [decide_eq_false q0, decide_eq_false q1]
      cases hS : S j with
      | true => rw [hd j (by omega) (by omega) hS]; rfl
      | false =>
        obtain ⟨a, a1, a2, a3⟩ := down_ex j h0 (by omega)
        obtain ⟨b, b1, b2, b3, b4⟩ := up_ex hL _ j rfl (by omega)
        have hc : cns S a b := ⟨a2, b3, by omega, fun k k1 k2 => by
          rcases Nat.lt_trichotomy k j with q | q | q
          · exact a3 k k1 q
          · rw [q]; exact hS
          · exact b4 k q k2⟩
        rw [hp a b b2 hc j a1 b1, dp_none j (hn a b b2 hc)]
        rfl
/-- how many below n are not marked -/
def um (S : Nat → Bool) : Nat → Nat
  | 0 => 0
  | n + 1 => um S n + (if S n then 0 else 1)
theorem um_le (S : Nat → Bool) : ∀ n, um S n ≤ n
  | 0 => Nat.le_refl 0
  | n + 1 => by unfold um; have := um_le S n; split <;> omega
theorem um_upd {S : Nat → Bool} {c : Nat} (hc : S c = false) : ∀ n, um (updS S c) n + (if c < n then 1 else 0) = um S n := by
  intro n
  induction n with
  | zero => rfl
  | succ n ih =>
    have e1 : um (updS S c) (n + 1) = um (updS S c) n + (if updS S c n then 0 else 1) := rfl
    have e2 : um S (n + 1) = um S n + (if S n then 0 else 1) := rfl
    rw [e1, e2]
    by_cases q : n = c
    · have u : updS S c n = true := by unfold updS; rw [if_pos q]
      have v : S n = false := by rw [q]; exact hc
      have w1 : ¬ c < n := by omega
      have w2 : c < n + 1 := by omega
      simp only [u, v, w1, w2, if_true, if_false, Bool.false_eq_true] at ih ⊢
      omega
    · have u : updS S c n = S n := by unfold updS; rw [if_neg q]
      have w : (c < n + 1) = (c < n) := propext ⟨fun h => by omega, fun h => by omega⟩
      rw [u]
      simp only [w]
      omega
theorem um_0 {S : Nat → Bool} (h : S 0 = true) : ∀ n, um S (n + 1) ≤ n := by
  intro n
  induction n with
  | zero => unfold um um; rw [h]; simp
  | succ n ih => unfold um; split <;> omega
theorem amx_in (f : Nat → Int) : ∀ (m i : Nat) (s : Option Nat × Int) (c : Nat), (amx f m i s).1 = some c → s.1 = some c ∨ (i ≤ c ∧ c < i + m) := by
  intro m
  induction m with
  | zero => intro i s c h; exact Or.inl h
  | succ m ih =>
    intro i s c h
    unfold amx at h
    rcases ih _ _ _ h with q | q
    · split at q
      · have : i = c := by simpa using q
        exact Or.inr (by omega)
      · exact Or.inl q
    · exact Or.inr (by omega)
theorem farC_I (cs : List Cn) : farI (farC cs) := by
  intro a b c h
  unfold farC finF at h
  split at h
  · rcases amx_in _ _ _ _ _ h with q | q
    · cases q
    · omega
  · cases h
