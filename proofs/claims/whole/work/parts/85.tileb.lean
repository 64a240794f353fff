/-! shapes and tiles: bounds -/
theorem keL_app {S : Nat → Bool} (c : Cn) : ∀ (l : List Cn) (i : Nat), keL S i (l ++ [c]) = keL S i l ++ (if S (i + l.length) then [c] else [])
  | [], i => by simp [keL]
  | d :: r, i => by
    have h := keL_app (S := S) c r (i + 1)
    show (if S i then d :: keL S (i + 1) (r ++ [c]) else keL S (i + 1) (r ++ [c])) = (if S i then d :: keL S (i + 1) r else keL S (i + 1) r) ++ _
    rw [h, show i + (d :: r).length = i + 1 + r.length by simp; omega]
    split <;> simp
theorem mrg_app (c : Cn) : ∀ (r out : List Cn), mrg out (r ++ [c]) = if mrgB (mrg out r) c then mrg out r ++ [c] else mrg out r
  | [], out => by show mrg out [c] = _; rw [mrg_cons]; rfl
  | d :: r, out => by
    show mrg out (d :: (r ++ [c])) = _
    rw [mrg_cons, mrg_cons]
    by_cases q : mrgB out d = true
    · rw [if_pos q, if_pos q]; exact mrg_app c r (out ++ [d])
    · rw [if_neg q, if_neg q]; exact mrg_app c r out
theorem mrg_pre : ∀ (r out : List Cn), ∃ t, mrg out r = out ++ t
  | [], out => ⟨[], by simp [mrg]⟩
  | d :: r, out => by
    rw [mrg_cons]
    by_cases q : mrgB out d = true
    · rw [if_pos q]
      obtain ⟨t, ht⟩ := mrg_pre r (out ++ [d])
      exact ⟨d :: t, by rw [ht]; simp⟩
    · rw [if_neg q]
      exact mrg_pre r out
theorem ring_tidy {f : Cn} {mid : List Cn} {c : Cn} (h1 : c.1 = f.1) (h2 : c.2.1 = f.2.1) (hl : mid.length ≤ 11) : (tidyS 2 (f :: (mid ++ [c]))).length ≤ 12 := by
  have hsub : (mrg [] (f :: (mid ++ [c]))).Sublist (f :: (mid ++ [c])) := mrg_sub _ []
  have hlen := hsub.length_le
  simp only [List.length_cons, List.length_append, List.length_nil] at hlen
  have e0 : mrg [] (f :: (mid ++ [c])) = mrg [f] (mid ++ [c]) := by
    rw [mrg_cons, if_pos (by simp [mrgB])]
    rfl
  obtain ⟨t, ht⟩ := mrg_pre (mid ++ [c]) [f]
  have hlast : ∃ d, (mrg [] (f :: (mid ++ [c]))).getLast? = some d ∧ d.1 = c.1 ∧ d.2.1 = c.2.1 := by
    rw [e0, mrg_app]
    by_cases q : mrgB (mrg [f] mid) c = true
    · rw [if_pos q]; exact ⟨c, by simp, rfl, rfl⟩
    · rw [if_neg q]
      unfold mrgB at q
      cases hg : (mrg [f] mid).getLast? with
      | none => rw [hg] at q; simp at q
      | some d =>
        rw [hg] at q
        simp [sameC] at q
        exact ⟨d, rfl, q.2.1.symm, q.2.2.symm⟩
  have hhead : (mrg [] (f :: (mid ++ [c]))).head? = some f := by rw [e0, ht]; rfl
  unfold tidyS
  dsimp only
  rw [if_neg (show ¬ (2 = 1) by omega)]
  generalize mrg [] (f :: (mid ++ [c])) = b at *
  obtain ⟨d, hd, d1, d2⟩ := hlast
  have htc : (tidyC 2 b).length ≤ 12 := by
    rw [tidyC_eq]
    have hb : tidyB b = true := by unfold tidyB; rw [hhead, hd]; simp [sameC]; constructor <;> omega
    by_cases q : 1 < b.length
    · rw [if_pos ⟨rfl, q, hb⟩, List.length_dropLast]; omega
    · rw [if_neg (fun h => q h.2.1)]; omega
  split
  · simp
  · exact htc
theorem sfL_cons (z : Int) (cs : List Pt) (n : Nat) : ∃ t, sfL z cs (n + 1) = sfC z cs 0 :: t ∧ t.length = n ∧ nbg t = n := by
  induction n with
  | zero => exact ⟨[], by simp [sfL], rfl, rfl⟩
  | succ n ih =>
    obtain ⟨t, h1, h2, h3⟩ := ih
    refine ⟨t ++ [sfC z cs (n + 1)], by rw [sfL_succ, h1]; rfl, by simp [h2], ?_⟩
    rw [nbg_app, nbg_1, h3]
    simp [sfC]
theorem ksB_0 (far : Nat → Nat → Option Nat) (L : Nat) : ksB far L 0 = true := by simp [ksB]
theorem ksB_L (far : Nat → Nat → Option Nat) (L : Nat) : ksB far L L = true := by simp [ksB]
theorem shpC_len {F : Ft} (ok : fOk F) (hl : F.2.2.length ≤ 12) (z : Int) : (shpC z F).length ≤ 12 := by
  have hc := ok.c
  unfold shpC
  by_cases q : F.1.2.1 = 2
  · have h3 : 3 ≤ F.2.2.length := by
      rcases ok.2.1 with s | s | s
      · omega
      · omega
      · exact s.2.1
    obtain ⟨n, hn⟩ : ∃ n, F.2.2.length = n + 1 := ⟨F.2.2.length - 1, by omega⟩
    obtain ⟨t, t1, t2, _⟩ := sfL_cons z F.2.2 n
    have hb : basC z F = sfC z F.2.2 0 :: (t ++ [((sfC z F.2.2 0).1, (sfC z F.2.2 0).2.1, false)]) := by
      unfold basC
      rw [if_pos q, hn, t1]
      rfl
    have hbl : (basC z F).length = n + 2 := by rw [hb]; simp [t2]
    have hk : kepC (basC z F) = sfC z F.2.2 0 :: (keL (ksB (farC (basC z F)) ((basC z F).length - 1)) 1 t ++ [((sfC z F.2.2 0).1, (sfC z F.2.2 0).2.1, false)]) := by
      unfold kepC
      rw [if_pos (by omega)]
      generalize farC (basC z F) = far
      rw [hbl, hb]
      show (if ksB far (n + 2 - 1) 0 then _ else _) = _
      rw [if_pos (ksB_0 _ _), keL_app, if_pos (by rw [t2, show 1 + n = n + 2 - 1 by omega]; exact ksB_L _ _)]
    rw [q, hk]
    refine ring_tidy rfl rfl ?_
    have := (keL_subl (S := ksB (farC (basC z F)) ((basC z F).length - 1)) t 1).length_le
    omega
  · have hb : (basC z F).length = F.2.2.length := by unfold basC; rw [if_neg q]; simp [sfL]
    have h1 := (tidyS_subl F.1.2.1.toNat (kepC (basC z F))).length_le
    have h2 := (kepC_subl (basC z F)).length_le
    omega
theorem shpC_nbg {F : Ft} (ok : fOk F) (hl : F.2.2.length ≤ 12) (z : Int) (q : F.1.2.1 ≠ 2) : nbg (shpC z F) ≤ 11 := by
  have hc := ok.c
  have h1 := sub_nbg (tidyS_subl F.1.2.1.toNat (kepC (basC z F)))
  have h2 := sub_nbg (kepC_subl (basC z F))
  obtain ⟨n, hn⟩ : ∃ n, F.2.2.length = n + 1 := ⟨F.2.2.length - 1, by omega⟩
  obtain ⟨t, t1, t2, t3⟩ := sfL_cons z F.2.2 n
  have hb : basC z F = sfC z F.2.2 0 :: t := by unfold basC; rw [if_neg q, List.append_nil, hn, t1]
  have h3 : nbg (basC z F) ≤ 11 := by
    rw [hb]
    show (if (sfC z F.2.2 0).2.2 then 0 else 1) + nbg t ≤ 11
    rw [if_pos (by simp [sfC])]
    omega
  unfold shpC
  omega
def cutW (k : Nat) (left top : Int) (w : Nat) (cs : List Cn) : List Cn := cutS (decide (w < 2)) (decide (w % 2 = 0)) (bdS w left top) (decide (k = 2)) cs
def cutN (k : Nat) (left top : Int) : Nat → List Cn → List Cn
  | 0, cs => cs
  | n + 1, cs => cutW k left top n (cutN k left top n cs)
def cutT (k : Nat) (left top : Int) (cs : List Cn) : List Cn := tidyS k (cutN k left top 4 cs)
theorem cutN_len {k : Nat} {left top : Int} {cs : List Cn} (h : cs.length ≤ 12) : (cutN k left top 1 cs).length ≤ 18 ∧ (cutN k left top 2 cs).length ≤ 27 ∧ (cutN k left top 3 cs).length ≤ 40 ∧ (cutN k left top 4 cs).length ≤ 60 := by
  have s : ∀ w, 2 * (cutN k left top (w + 1) cs).length ≤ 3 * (cutN k left top w cs).length := fun w => cutS_len _
  have h0 : (cutN k left top 0 cs).length ≤ 12 := h
  have h1 := s 0
  have h2 := s 1
  have h3 := s 2
  have h4 := s 3
  simp only [Nat.zero_add, Nat.reduceAdd] at h1 h2 h3 h4
  omega
theorem cutN_len1 {k : Nat} {left top : Int} {cs : List Cn} (h : cs.length ≤ 1) : (cutN k left top 4 cs).length ≤ 1 := by
  have s : ∀ w, 2 * (cutN k left top (w + 1) cs).length ≤ 3 * (cutN k left top w cs).length := fun w => cutS_len _
  have h0 : (cutN k left top 0 cs).length ≤ 1 := h
  have h1 := s 0
  have h2 := s 1
  have h3 := s 2
  have h4 := s 3
  simp only [Nat.zero_add, Nat.reduceAdd] at h1 h2 h3 h4
  omega
theorem cutN_in {k : Nat} {left top : Int} {cs : List Cn} {xa xb ya yb : Int} (h : ∀ c ∈ cs, bxI xa xb ya yb c) : ∀ w, ∀ c ∈ cutN k left top w cs, bxI xa xb ya yb c := by
  intro w
  induction w with
  | zero => exact h
  | succ w ih => exact fun c hc => (cut_box ih c hc).1
theorem cutN_bord {k : Nat} {left top : Int} {cs : List Cn} {w : Nat} {c : Cn} (hc : c ∈ cutN k left top (w + 1) cs) : insC (decide (w < 2)) (decide (w % 2 = 0)) (bdS w left top) c = true := by
  rcases cutS_mem hc with ⟨d, _, h1, h2, h3⟩ | ⟨q, hq, d, hd, hi, g, hx⟩
  · unfold insC at *; rw [h2, h3]; exact h1
  · subst hx
    unfold insC inS bordC at *
    cases decide (w < 2) <;> cases decide (w % 2 = 0) <;> simp
theorem cutN_box {k : Nat} {left top : Int} {cs : List Cn} (h : ∀ c ∈ cs, inW c) (hl : 0 ≤ left ∧ left ≤ 3840) (ht : 0 ≤ top ∧ top ≤ 3840) : (∀ w, ∀ c ∈ cutN k left top w cs, bxI (-8) 4104 (-8) 4104 c) ∧ ∀ c ∈ cutN k left top 4 cs, bxI (left - 8) (left + 264) (top - 8) (top + 264) c := by
  have b0 : ∀ c ∈ cs, bxI (-8) 4104 (-8) 4104 c := fun c hc => by have := h c hc; unfold inW at this; unfold bxI; omega
  refine ⟨cutN_in b0, ?_⟩
  have b1 : ∀ c ∈ cutN k left top 1 cs, bxI (left - 8) 4104 (-8) 4104 c := by
    intro c hc
    have e1 := cutN_in b0 1 c hc
    have e2 := cutN_bord (w := 0) hc
    simp [insC, inS, bdS] at e2
    unfold bxI at *
    omega
  have b2 : ∀ c ∈ cutN k left top 2 cs, bxI (left - 8) (left + 264) (-8) 4104 c := by
    intro c hc
    have e1 := (cut_box b1 c hc).1
    have e2 := cutN_bord (w := 1) hc
    simp [insC, inS, bdS] at e2
    unfold bxI at *
    omega
  have b3 : ∀ c ∈ cutN k left top 3 cs, bxI (left - 8) (left + 264) (top - 8) 4104 c := by
    intro c hc
    have e1 := (cut_box b2 c hc).1
    have e2 := cutN_bord (w := 2) hc
    simp [insC, inS, bdS] at e2
    unfold bxI at *
    omega
  intro c hc
  have e1 := (cut_box b3 c hc).1
  have e2 := cutN_bord (w := 3) hc
  simp [insC, inS, bdS] at e2
  unfold bxI at *
  omega
theorem cutN_nil (k : Nat) (left top : Int) : ∀ w, cutN k left top w [] = []
  | 0 => rfl
  | w + 1 => by
    show cutW k left top w (cutN k left top w []) = []
    rw [cutN_nil k left top w]
    unfold cutW cutS cutE
    cases decide (k = 2) <;> simp [cutL]
theorem cutN_stop {k : Nat} {left top : Int} {cs : List Cn} {w : Nat} (h : cutN k left top w cs = []) : ∀ v, cutN k left top (w + v) cs = []
  | 0 => h
  | v + 1 => by
    show cutW k left top (w + v) (cutN k left top (w + v) cs) = []
    rw [cutN_stop h v]
    unfold cutW cutS cutE
    cases decide (k = 2) <;> simp [cutL]
theorem bxF_in : ∀ (cs : List Cn) (b : Bx), ((cs.foldl bxS b).1 ≤ b.1 ∧ b.2.1 ≤ (cs.foldl bxS b).2.1 ∧ (cs.foldl bxS b).2.2.1 ≤ b.2.2.1 ∧ b.2.2.2 ≤ (cs.foldl bxS b).2.2.2) ∧ ∀ c ∈ cs, bxI (cs.foldl bxS b).1 (cs.foldl bxS b).2.1 (cs.foldl bxS b).2.2.1 (cs.foldl bxS b).2.2.2 c := by
  intro cs
  induction cs with
  | nil => intro b; exact ⟨⟨Int.le_refl _, Int.le_refl _, Int.le_refl _, Int.le_refl _⟩, fun c hc => by cases hc⟩
  | cons d cs ih =>
    intro b
    obtain ⟨h1, h2⟩ := ih (bxS b d)
    rw [List.foldl_cons]
    have e : bxS b d = (min b.1 d.1, max b.2.1 d.1, min b.2.2.1 d.2.1, max b.2.2.2 d.2.1) := rfl
    have e1 : (bxS b d).1 = min b.1 d.1 := rfl
    have e2 : (bxS b d).2.1 = max b.2.1 d.1 := rfl
    have e3 : (bxS b d).2.2.1 = min b.2.2.1 d.2.1 := rfl
    have e4 : (bxS b d).2.2.2 = max b.2.2.2 d.2.1 := rfl
    refine ⟨by omega, fun c hc => ?_⟩
    rcases List.mem_cons.mp hc with q | q
    · subst q; unfold bxI; omega
    · exact h2 c q
theorem bxL_in (cs : List Cn) : ∀ c ∈ cs, bxI (bxL cs).1 (bxL cs).2.1 (bxL cs).2.2.1 (bxL cs).2.2.2 c := (bxF_in cs _).2
theorem bxF_B : ∀ (cs : List Cn) (b : Bx), (∀ c ∈ cs, cB c) → bxB b → bxB (cs.foldl bxS b) := by
  intro cs
  induction cs with
  | nil => intro b _ h; exact h
  | cons d cs ih => intro b h hb; exact ih (bxS b d) (fun c hc => h c (List.mem_cons_of_mem _ hc)) (bxS_B hb (h d List.mem_cons_self))
theorem bxL_B {cs : List Cn} (h : ∀ c ∈ cs, cB c) : bxB (bxL cs) := bxF_B cs _ h (by unfold bxB; dsimp only; omega)
theorem miss_nil {k : Nat} {left top : Int} {cs : List Cn} (h : missB (bxL cs) left top = true) : cutT k left top cs = [] := by
  have key : cutN k left top 4 cs = [] := by
    have no : ∀ w, w < 4 → (∀ c ∈ cutN k left top (w + 1) cs, False) → cutN k left top 4 cs = [] := by
      intro w hw hf
      have e : cutN k left top (w + 1) cs = [] := List.eq_nil_iff_forall_not_mem.mpr hf
      have := cutN_stop e (4 - (w + 1))
      rwa [show w + 1 + (4 - (w + 1)) = 4 by omega] at this
    unfold missB at h
    simp only [Bool.or_eq_true, decide_eq_true_eq] at h
    rcases h with ((h | h) | h) | h
    · refine no 0 (by omega) (fun c hc => ?_)
      have e1 := cutN_in (bxL_in cs) 1 c hc
      have e2 := cutN_bord (w := 0) hc
      simp [insC, inS, bdS] at e2
      unfold bxI at e1
      omega
    · refine no 1 (by omega) (fun c hc => ?_)
      have e1 := cutN_in (bxL_in cs) 2 c hc
      have e2 := cutN_bord (w := 1) hc
      simp [insC, inS, bdS] at e2
      unfold bxI at e1
      omega
    · refine no 2 (by omega) (fun c hc => ?_)
      have e1 := cutN_in (bxL_in cs) 3 c hc
      have e2 := cutN_bord (w := 2) hc
      simp [insC, inS, bdS] at e2
      unfold bxI at e1
      omega
    · refine no 3 (by omega) (fun c hc => ?_)
      have e1 := cutN_in (bxL_in cs) 4 c hc
      have e2 := cutN_bord (w := 3) hc
      simp [insC, inS, bdS] at e2
      unfold bxI at e1
      omega
  unfold cutT
  rw [key]
  have := (tidyS_subl k []).length_le
  exact List.eq_nil_of_length_eq_zero (by simpa using this)
/-- a feature's bytes -/
def corB : Int → Int → List Cn → List Nat
  | _, _, [] => []
  | x, y, c :: r => (if c.2.2 then cntB (1 + runL r) else []) ++ cntB (zig (c.1 - x)) ++ cntB (zig (c.2.1 - y)) ++ corB c.1 c.2.1 r
def wrB (step k s : Nat) (left top : Int) (cs : List Cn) : List Nat := cntB step ++ [k + 4 * s] ++ cntB (pcs cs) ++ corB left top cs
theorem cntB_1 {n : Nat} (h : n < 128) : (cntB n).length = 1 := by unfold cntB cntF; rw [if_pos h]; rfl
theorem cntB_2 {n : Nat} (h : n < 16384) : (cntB n).length ≤ 2 := by
  unfold cntB cntF
  split
  · simp
  · unfold cntF
    rw [if_pos (by omega)]
    simp
theorem corB_len {xa xb ya yb : Int} (hx : xb - xa ≤ 1000) (hy : yb - ya ≤ 1000) : ∀ (cs : List Cn) (x y : Int), cs.length ≤ 100 → (xa ≤ x ∧ x ≤ xb) → (ya ≤ y ∧ y ≤ yb) → (∀ c ∈ cs, bxI xa xb ya yb c) → (corB x y cs).length ≤ pcs cs + 4 * cs.length := by
  intro cs
  induction cs with
  | nil => intro x y _ _ _ _; simp [corB, pcs]
  | cons c r ih =>
    intro x y hl h1 h2 hb
    have hc := hb c List.mem_cons_self
    have hi := ih c.1 c.2.1 (by simp at hl; omega) hc.1 hc.2 (fun d hd => hb d (List.mem_cons_of_mem _ hd))
    have hr := runL_le r
    simp only [List.length_cons] at hl ⊢
    have z1 : (cntB (zig (c.1 - x))).length ≤ 2 := cntB_2 (by unfold zig; unfold bxI at hc; split <;> omega)
    have z2 : (cntB (zig (c.2.1 - y))).length ≤ 2 := cntB_2 (by unfold zig; unfold bxI at hc; split <;> omega)
    unfold corB pcs
    simp only [List.length_append]
    split
    · rw [cntB_1 (by omega)]; omega
    · simp only [List.length_nil]; omega
theorem cutT_all {F : Ft} (ok : fOk F) (hl12 : F.2.2.length ≤ 12) {z left top : Int} (hl : 0 ≤ left ∧ left ≤ 3840) (ht : 0 ≤ top ∧ top ≤ 3840) {k : Nat} (hk : F.1.2.1 = (k : Int)) {cs : List Cn} (hcs : cs = shpC z F) : (cutT k left top cs).length ≤ 60 ∧ pcs (cutT k left top cs) + 4 * (cutT k left top cs).length ≤ 241 ∧ ∀ c ∈ cutT k left top cs, bxI (left - 8) (left + 264) (top - 8) (top + 264) c := by
  subst hcs
  have hlen := shpC_len ok hl12 z
  have hW := shpC_W ok.b z
  have hN := cutN_len (k := k) (left := left) (top := top) hlen
  have hB := (cutN_box (k := k) hW hl ht).2
  have hsl := tidyS_subl k (cutN k left top 4 (shpC z F))
  have hsl2 := hsl.length_le
  refine ⟨by unfold cutT; omega, ?_, fun c hc => hB c (hsl.subset hc)⟩
  unfold cutT
  by_cases q2 : k = 2
  · have hp : pcs (cutN k left top 4 (shpC z F)) ≤ 1 := by
      show pcs (cutW k left top 3 _) ≤ 1
      unfold cutW
      rw [decide_eq_true q2]
      exact cutS_pcs _
    have := sub_pcs hsl
    omega
  · by_cases q1 : k = 1
    · have hn := shpC_nbg ok hl12 z (by omega)
      have s : ∀ w, nbg (cutN k left top (w + 1) (shpC z F)) ≤ nbg (cutN k left top w (shpC z F)) := by
        intro w
        show nbg (cutW k left top w _) ≤ _
        unfold cutW
        rw [decide_eq_false q2]
        exact cutS_nbg _
      have h0 : nbg (cutN k left top 0 (shpC z F)) ≤ 11 := hn
      have h1 := s 0
      have h2 := s 1
      have h3 := s 2
      have h4 := s 3
      simp only [Nat.zero_add, Nat.reduceAdd] at h1 h2 h3 h4
      have h5 := sub_nbg hsl
      have h6 := tidy1_pn (cutN k left top 4 (shpC z F))
      have h7 := pn_len (tidyS k (cutN k left top 4 (shpC z F)))
      rw [q1] at *
      omega
    · have h0 : F.1.2.1 = 0 := by have := ok.k; omega
      have h1 : (shpC z F).length ≤ 1 := by
        have hb : (basC z F).length = F.2.2.length := by unfold basC; rw [if_neg (by omega)]; simp [sfL]
        have e1 := (tidyS_subl F.1.2.1.toNat (kepC (basC z F))).length_le
        have e2 := (kepC_subl (basC z F)).length_le
        rcases ok.2.1 with s | s | s
        · unfold shpC; have := s.2; omega
        · omega
        · omega
      have h2 := cutN_len1 (k := k) (left := left) (top := top) h1
      have h3 := pcs_le (tidyS k (cutN k left top 4 (shpC z F)))
      omega
theorem wrB_len {F : Ft} (ok : fOk F) (hl12 : F.2.2.length ≤ 12) {z left top : Int} (hl : 0 ≤ left ∧ left ≤ 3840) (ht : 0 ≤ top ∧ top ≤ 3840) {k s step : Nat} (hk : F.1.2.1 = (k : Int)) (hs : step < 16384) : (wrB step k s left top (cutT k left top (shpC z F))).length ≤ 245 := by
  obtain ⟨h1, h2, h3⟩ := cutT_all ok hl12 hl ht hk (z := z) rfl
  have h4 := corB_len (by omega) (by omega) (cutT k left top (shpC z F)) left top (by omega) (by omega) (by omega) h3
  have h5 := pcs_le (cutT k left top (shpC z F))
  have h6 := cntB_2 hs
  have h7 : (cntB (pcs (cutT k left top (shpC z F)))).length = 1 := cntB_1 (by omega)
  unfold wrB
  simp only [List.length_append, List.length_cons, List.length_nil]
  omega
