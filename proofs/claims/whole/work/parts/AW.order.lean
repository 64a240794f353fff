/-! tiles in order; the difference told both ways -/
def tsQ (ts : List Te) : Prop := (∀ k, k < ts.length → teP (tE ts k)) ∧ ∀ i j, i < j → j < ts.length → (tE ts i).1.1 < (tE ts j).1.1
theorem tsQ_app {ts : List Te} {t : Te} (h : tsQ ts) (ht : teP t) (hl : ∀ k, k < ts.length → (tE ts k).1.1 < t.1.1) : tsQ (ts ++ [t]) := by
  refine ⟨fun k hk => ?_, fun i j hij hj => ?_⟩
  · simp only [List.length_append, List.length_cons, List.length_nil] at hk
    by_cases e : k = ts.length
    · rw [e, tE_end]; exact ht
    · rw [tE_app (by omega)]; exact h.1 k (by omega)
  · simp only [List.length_append, List.length_cons, List.length_nil] at hj
    rw [tE_app (show i < ts.length by omega)]
    by_cases e : j = ts.length
    · rw [e, tE_end]; exact hl i (by omega)
    · rw [tE_app (by omega)]; exact h.2 i j hij (by omega)
theorem flC_q {R : Rg} {Gs : List Ft} {z c : Nat} {ts : List Te} (hz : z < 5) (hc : c < 4 ^ z) (h : tsQ ts) (hl : ∀ k, k < ts.length → (tE ts k).1.1 < (((4 ^ z - 1) / 3 + c : Nat) : Int)) : tsQ (flC R Gs z c ts).2 ∧ ∀ k, k < (flC R Gs z c ts).2.length → (tE (flC R Gs z c ts).2 k).1.1 < (((4 ^ z - 1) / 3 + (c + 1) : Nat) : Int) := by
  have keep : tsQ ts ∧ ∀ k, k < ts.length → (tE ts k).1.1 < (((4 ^ z - 1) / 3 + (c + 1) : Nat) : Int) := ⟨h, fun k hk => by have := hl k hk; omega⟩
  unfold flC
  split
  · split
    · exact keep
    · dsimp only
      split
      · refine ⟨tsQ_app h ⟨z, c, hz, hc, rfl⟩ hl, fun k hk => ?_⟩
        simp only [List.length_append, List.length_cons, List.length_nil] at hk
        by_cases e : k = ts.length
        · rw [e, tE_end]; dsimp only; omega
        · rw [tE_app (by omega)]; exact keep.2 k (by omega)
      · exact keep
  · exact keep
theorem flI_q {R : Rg} {Gs : List Ft} {z : Nat} (hz : z < 5) : ∀ (n c : Nat) (s : Bool × List Te), n + c = 4 ^ z → tsQ s.2 → (∀ k, k < s.2.length → (tE s.2 k).1.1 < (((4 ^ z - 1) / 3 + c : Nat) : Int)) → tsQ (flI R Gs z n c s).2 ∧ ∀ k, k < (flI R Gs z n c s).2.length → (tE (flI R Gs z n c s).2 k).1.1 < (((4 ^ (z + 1) - 1) / 3 : Nat) : Int) := by
  have p1 := (p43 ⟨z, hz⟩).1
  dsimp only at p1
  intro n
  induction n with
  | zero =>
    intro c s hn h hl
    refine ⟨h, fun k hk => ?_⟩
    have hk' : k < s.2.length := hk
    have := hl k hk'
    show (tE s.2 k).1.1 < _
    omega
  | succ n ih =>
    intro c s hn h hl
    unfold flI
    split
    · obtain ⟨a1, a2⟩ := flC_q (R := R) (Gs := Gs) hz (show c < 4 ^ z by omega) h hl
      exact ih (c + 1) _ (by omega) a1 a2
    · exact ⟨h, fun k hk => by have := hl k hk; omega⟩
theorem flO_q {R : Rg} {Gs : List Ft} : ∀ (n z : Nat) (s : Bool × List Te), n + z ≤ 5 → tsQ s.2 → (∀ k, k < s.2.length → (tE s.2 k).1.1 < (((4 ^ z - 1) / 3 : Nat) : Int)) → tsQ (flO R Gs n z s).2 := by
  intro n
  induction n with
  | zero => intro z s hn h hl; exact h
  | succ n ih =>
    intro z s hn h hl
    unfold flO
    obtain ⟨a1, a2⟩ := flI_q (R := R) (Gs := Gs) (show z < 5 by omega) (4 ^ z) 0 s rfl h hl
    exact ih (z + 1) _ (by omega) a1 a2
theorem flP_q {R : Rg} {Gs : List Ft} (hR : RgB R) : tsQ (flP R Gs).2 := by
  have := hR.2.2.2.2
  exact flO_q _ 0 _ (by omega) ⟨fun k hk => by simp at hk, fun i j _ hj => by simp at hj⟩ (fun k hk => by simp at hk)
theorem lk_bf {R R2 : Rg} {ts us : List Te} (h1 : tsQ ts) (h2 : tsQ us) : lkP R R2 ts us ↔ bfP R R2 ts us := by
  unfold lkP bfP
  constructor
  · rintro ⟨a, b, c⟩
    exact ⟨a, b, fun k hk => ⟨(teP_pl (h1.1 k hk) (h2.1 k (by omega))).mpr (c k hk).1, (c k hk).2⟩⟩
  · rintro ⟨a, b, c⟩
    exact ⟨a, b, fun k hk => ⟨(teP_pl (h1.1 k hk) (h2.1 k (by omega))).mp (c k hk).1, (c k hk).2⟩⟩
/-- an entry, told -/
def deM (ts us : List Te) (e : Option Nat × Option Nat) : De := match e with
  | (some a, none) => dfE 0 ts a 0
  | (none, some b) => dfE 1 us b (tb us b).length
  | (some _, some b) => dfE 2 us b (tb us b).length
  | (none, none) => dD
theorem mgE_end (ts us : List Te) : ∀ f, mgE ts us f ts.length us.length = []
  | 0 => rfl
  | f + 1 => by
    show (if ts.length < ts.length ∨ us.length < us.length then _ else _) = _
    rw [if_neg (by omega)]
theorem cm_mg {ts us : List Te} (h1 : tsQ ts) (h2 : tsQ us) (p1 : ∀ k, k < ts.length → (tE ts k).1.1 ≤ 340) (p2 : ∀ k, k < us.length → (tE us k).1.1 ≤ 340) : ∀ (n pl i j f : Nat) (es : List De), n + pl = 341 → i ≤ ts.length → j ≤ us.length → (∀ k, i ≤ k → k < ts.length → (pl : Int) ≤ (tE ts k).1.1) → (∀ k, j ≤ k → k < us.length → (pl : Int) ≤ (tE us k).1.1) → (ts.length - i) + (us.length - j) ≤ f → cmL ts us n pl i j es = es ++ (mgE ts us f i j).map (deM ts us) := by
  intro n
  induction n with
  | zero =>
    intro pl i j f es hn hi hj a1 a2 hf
    have e1 : i = ts.length := by
      rcases Nat.lt_or_ge i ts.length with q | q
      · have := a1 i (Nat.le_refl i) q
        have := p1 i q
        omega
      · omega
    have e2 : j = us.length := by
      rcases Nat.lt_or_ge j us.length with q | q
      · have := a2 j (Nat.le_refl j) q
        have := p2 j q
        omega
      · omega
    rw [e1, e2, mgE_end]
    show es = es ++ []
    rw [List.append_nil]
  | succ n ih =>
    intro pl i j f es hn hi hj a1 a2 hf
    show cmL ts us n (pl + 1) (if hdB ts i pl then i + 1 else i) (if hdB us j pl then j + 1 else j) (es ++ cmE ts us i j (hdB ts i pl) (hdB us j pl)) = _
    have nx1 : hdB ts i pl = true → (i < ts.length ∧ (tE ts i).1.1 = (pl : Int)) := fun h => by unfold hdB at h; simpa using h
    have nx2 : hdB us j pl = true → (j < us.length ∧ (tE us j).1.1 = (pl : Int)) := fun h => by unfold hdB at h; simpa using h
    have no1 : hdB ts i pl = false → i < ts.length → (pl : Int) < (tE ts i).1.1 := fun h hi' => by
      have := a1 i (Nat.le_refl i) hi'
      unfold hdB at h
      rw [decide_eq_true hi'] at h
      simp at h
      omega
    have no2 : hdB us j pl = false → j < us.length → (pl : Int) < (tE us j).1.1 := fun h hj' => by
      have := a2 j (Nat.le_refl j) hj'
      unfold hdB at h
      rw [decide_eq_true hj'] at h
      simp at h
      omega
    have up1 : hdB ts i pl = true → ∀ k, i + 1 ≤ k → k < ts.length → ((pl + 1 : Nat) : Int) ≤ (tE ts k).1.1 := fun h k hk hk2 => by
      have := h1.2 i k hk hk2
      have := (nx1 h).2
      omega
    have up2 : hdB us j pl = true → ∀ k, j + 1 ≤ k → k < us.length → ((pl + 1 : Nat) : Int) ≤ (tE us k).1.1 := fun h k hk hk2 => by
      have := h2.2 j k hk hk2
      have := (nx2 h).2
      omega
    have st1 : hdB ts i pl = false → ∀ k, i ≤ k → k < ts.length → ((pl + 1 : Nat) : Int) ≤ (tE ts k).1.1 := fun h k hk hk2 => by
      have g := no1 h (by omega)
      rcases Nat.eq_or_lt_of_le hk with e | e
      · rw [← e]; omega
      · have := h1.2 i k e hk2; omega
    have st2 : hdB us j pl = false → ∀ k, j ≤ k → k < us.length → ((pl + 1 : Nat) : Int) ≤ (tE us k).1.1 := fun h k hk hk2 => by
      have g := no2 h (by omega)
      rcases Nat.eq_or_lt_of_le hk with e | e
      · rw [← e]; omega
      · have := h2.2 j k e hk2; omega
    cases q1 : hdB ts i pl with
    | true =>
      obtain ⟨b1, b2⟩ := nx1 q1
      obtain ⟨g, rfl⟩ : ∃ g, f = g + 1 := ⟨f - 1, by omega⟩
      cases q2 : hdB us j pl with
      | true =>
        obtain ⟨c1, c2⟩ := nx2 q2
        have m1 : mg1 ts us i j = false := by unfold mg1; rw [decide_eq_false (by omega), decide_eq_false (show ¬ (tE ts i).1.1 < (tE us j).1.1 by omega)]; simp
        have m2 : mg2 ts us i j = false := by unfold mg2; rw [decide_eq_false (by omega), decide_eq_false (show ¬ (tE us j).1.1 < (tE ts i).1.1 by omega)]; simp
        have eE : mgE ts us (g + 1) i j = (if mgC ts us i j then [mgP ts us i j] else []) ++ mgE ts us g (i + 1) (j + 1) := by
          show (if i < ts.length ∨ j < us.length then (if mgC ts us i j then [mgP ts us i j] else []) ++ mgE ts us g (if mg2 ts us i j then i else i + 1) (if mg1 ts us i j then j else j + 1) else []) = _
          rw [if_pos (Or.inl b1), m1, m2]
          rfl
        rw [if_pos rfl, if_pos rfl, ih (pl + 1) (i + 1) (j + 1) g _ (by omega) (by omega) (by omega) (up1 q1) (up2 q2) (by omega), eE, List.map_append, ← List.append_assoc]
        congr 2
        unfold cmE
        rw [if_pos rfl, if_pos rfl]
        have ec : mgC ts us i j = !decide (tb ts i = tb us j) := by unfold mgC; rw [m1, m2]; rfl
        have eP : mgP ts us i j = (some i, some j) := by unfold mgP; rw [m1, m2]; rfl
        rw [ec, eP]
        by_cases qs : tb ts i = tb us j
        · rw [if_pos qs, decide_eq_true qs]; rfl
        · rw [if_neg qs, decide_eq_false qs]; rfl
      | false =>
        have m1 : mg1 ts us i j = true := by
          unfold mg1
          by_cases e : j = us.length
          · rw [decide_eq_true e]; rfl
          · have := no2 q2 (by omega)
            rw [decide_eq_true b1, decide_eq_true (show (tE ts i).1.1 < (tE us j).1.1 by omega)]; simp
        have m2 : mg2 ts us i j = false := by
          unfold mg2
          rw [decide_eq_false (by omega)]
          by_cases e : j < us.length
          · have := no2 q2 e
            rw [decide_eq_false (show ¬ (tE us j).1.1 < (tE ts i).1.1 by omega)]; simp
          · rw [decide_eq_false e]; rfl
        have ec : mgC ts us i j = true := by unfold mgC; rw [m1]; rfl
        have eP : mgP ts us i j = (some i, none) := by unfold mgP; rw [m1, m2]; rfl
        have eE : mgE ts us (g + 1) i j = [(some i, none)] ++ mgE ts us g (i + 1) j := by
          show (if i < ts.length ∨ j < us.length then (if mgC ts us i j then [mgP ts us i j] else []) ++ mgE ts us g (if mg2 ts us i j then i else i + 1) (if mg1 ts us i j then j else j + 1) else []) = _
          rw [if_pos (Or.inl b1), m1, m2, ec, eP]
          rfl
        rw [if_pos rfl, if_neg (by decide), ih (pl + 1) (i + 1) j g _ (by omega) (by omega) (by omega) (up1 q1) (st2 q2) (by omega), eE, List.map_append, ← List.append_assoc]
        rfl
    | false =>
      cases q2 : hdB us j pl with
      | true =>
        obtain ⟨c1, c2⟩ := nx2 q2
        obtain ⟨g, rfl⟩ : ∃ g, f = g + 1 := ⟨f - 1, by omega⟩
        have m2 : mg2 ts us i j = true := by
          unfold mg2
          by_cases e : i = ts.length
          · rw [decide_eq_true e]; rfl
          · have := no1 q1 (by omega)
            rw [decide_eq_true c1, decide_eq_true (show (tE us j).1.1 < (tE ts i).1.1 by omega)]; simp
        have m1 : mg1 ts us i j = false := by
          unfold mg1
          rw [decide_eq_false (by omega)]
          by_cases e : i < ts.length
          · have := no1 q1 e
            rw [decide_eq_false (show ¬ (tE ts i).1.1 < (tE us j).1.1 by omega)]; simp
          · rw [decide_eq_false e]; rfl
        have ec : mgC ts us i j = true := by unfold mgC; rw [m1, m2]; rfl
        have eP : mgP ts us i j = (none, some j) := by unfold mgP; rw [m1, m2]; rfl
        have eE : mgE ts us (g + 1) i j = [(none, some j)] ++ mgE ts us g i (j + 1) := by
          show (if i < ts.length ∨ j < us.length then (if mgC ts us i j then [mgP ts us i j] else []) ++ mgE ts us g (if mg2 ts us i j then i else i + 1) (if mg1 ts us i j then j else j + 1) else []) = _
          rw [if_pos (Or.inr c1), m1, m2, ec, eP]
          rfl
        rw [if_neg (by decide), if_pos rfl, ih (pl + 1) i (j + 1) g _ (by omega) (by omega) (by omega) (st1 q1) (up2 q2) (by omega), eE, List.map_append, ← List.append_assoc]
        rfl
      | false =>
        rw [if_neg (by decide), if_neg (by decide), ih (pl + 1) i j f _ (by omega) (by omega) (by omega) (st1 q1) (st2 q2) hf]
        unfold cmE
        rw [if_neg (by decide), if_neg (by decide), List.append_nil]
theorem cmP_mg {ts us : List Te} (h1 : tsQ ts) (h2 : tsQ us) (o1 : tsOk ts) (o2 : tsOk us) : cmP ts us = (mgE ts us (ts.length + us.length) 0 0).map (deM ts us) := by
  have := cm_mg h1 h2 (fun k hk => (o1 k hk).1.2) (fun k hk => (o2 k hk).1.2) 341 0 0 0 (ts.length + us.length) [] rfl (by omega) (by omega) (fun k _ hk => (o1 k hk).1.1) (fun k _ hk => (o2 k hk).1.1) (by omega)
  unfold cmP
  rw [this, List.nil_append]
