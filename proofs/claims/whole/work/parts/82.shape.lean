/-! TileMaker: shapes -/
theorem dvB {v : Int} (k : Nat) (hv : 0 ≤ v ∧ v ≤ 4095) : 0 ≤ v / 2 ^ k ∧ v / 2 ^ k ≤ 4095 := by
  have hp : (0 : Int) < 2 ^ k := Int.pow_pos (by decide)
  exact ⟨Int.ediv_nonneg hv.1 (Int.le_of_lt hp), Int.le_trans (Int.ediv_le_self _ hv.1) hv.2⟩
def sfC (z : Int) (cs : List Pt) (j : Nat) : Cn := (cX cs j / 2 ^ (4 - z).toNat, cY cs j / 2 ^ (4 - z).toNat, decide (j = 0))
def sfL (z : Int) (cs : List Pt) (n : Nat) : List Cn := (List.range n).map (sfC z cs)
def basC (z : Int) (F : Ft) : List Cn := sfL z F.2.2 F.2.2.length ++ (if F.1.2.1 = 2 then [((sfC z F.2.2 0).1, (sfC z F.2.2 0).2.1, false)] else [])
def kepC (b : List Cn) : List Cn := if 2 < b.length then keL (ksB (farC b) (b.length - 1)) 0 b else b
def shpC (z : Int) (F : Ft) : List Cn := tidyS F.1.2.1.toNat (kepC (basC z F))
def inW (c : Cn) : Prop := (0 ≤ c.1 ∧ c.1 ≤ 4095) ∧ (0 ≤ c.2.1 ∧ c.2.1 ≤ 4095)
theorem inW.b {c : Cn} (h : inW c) : cB c := by unfold inW at h; unfold cB; omega
theorem wB_of {cs : List Cn} (h : ∀ c ∈ cs, inW c) : wB cs := by
  intro j
  unfold pX pY
  by_cases q : j < cs.length
  · exact h _ (List.mem_of_getElem? (getD_some q))
  · rw [List.getD_eq_getElem?_getD, List.getElem?_eq_none (by omega)]
    simp [dC]
theorem sfL_len (z : Int) (cs : List Pt) (n : Nat) : (sfL z cs n).length = n := by simp [sfL]
theorem sfL_succ (z : Int) (cs : List Pt) (n : Nat) : sfL z cs (n + 1) = sfL z cs n ++ [sfC z cs n] := by simp [sfL, List.range_succ]
theorem sfC_W {cs : List Pt} (h : csB cs) (z : Int) (j : Nat) : inW (sfC z cs j) := ⟨dvB _ (h j).1, dvB _ (h j).2⟩
theorem sfL_W {cs : List Pt} (h : csB cs) (z : Int) (n : Nat) : ∀ c ∈ sfL z cs n, inW c := by
  intro c hc
  obtain ⟨j, _, rfl⟩ := List.mem_map.mp hc
  exact sfC_W h z j
theorem basC_W {F : Ft} (h : csB F.2.2) (z : Int) : ∀ c ∈ basC z F, inW c := by
  intro c hc
  rcases List.mem_append.mp hc with q | q
  · exact sfL_W h z _ c q
  · split at q
    · rw [List.mem_singleton.mp q]; exact sfC_W h z 0
    · cases q
theorem keL_mem {S : Nat → Bool} : ∀ (cs : List Cn) (i : Nat) (c : Cn), c ∈ keL S i cs → c ∈ cs
  | [], _, c, h => h
  | d :: r, i, c, h => by
    unfold keL at h
    split at h
    · rcases List.mem_cons.mp h with q | q
      · rw [q]; exact List.mem_cons_self
      · exact List.mem_cons_of_mem _ (keL_mem r (i + 1) c q)
    · exact List.mem_cons_of_mem _ (keL_mem r (i + 1) c h)
theorem kepC_mem {b : List Cn} {c : Cn} (h : c ∈ kepC b) : c ∈ b := by
  unfold kepC at h
  split at h
  · exact keL_mem b 0 c h
  · exact h
theorem ite_mem {P : Prop} [Decidable P] {x y : List Cn} {c : Cn} (h : c ∈ (if P then x else y)) : c ∈ x ∨ c ∈ y := by
  by_cases q : P
  · rw [if_pos q] at h; exact Or.inl h
  · rw [if_neg q] at h; exact Or.inr h
theorem tidyC_sub {k : Nat} {b : List Cn} {c : Cn} (h : c ∈ tidyC k b) : c ∈ b := by
  rcases ite_mem h with q | q
  · exact (List.dropLast_sublist b).subset q
  · exact q
theorem tidyS_sub {k : Nat} {cs : List Cn} {c : Cn} (h : c ∈ tidyS k cs) : c ∈ cs := by
  unfold tidyS at h
  generalize hb : (if k = 1 then rmL (mrg [] cs) else mrg [] cs) = b at h
  dsimp only at h
  have h2 : c ∈ b := by
    by_cases q : (tidyC k b).length < k + 1
    · rw [if_pos q] at h; cases h
    · rw [if_neg q] at h; exact tidyC_sub h
  have h3 : c ∈ mrg [] cs := by
    by_cases q : k = 1
    · rw [if_pos q] at hb; rw [← hb] at h2; exact rmL_mem _ c h2
    · rw [if_neg q] at hb; rw [hb]; exact h2
  rcases mrg_mem cs [] c h3 with q | q
  · cases q
  · exact q
theorem shpC_W {F : Ft} (h : csB F.2.2) (z : Int) : ∀ c ∈ shpC z F, inW c := fun c hc => basC_W h z c (kepC_mem (tidyS_sub hc))
def shS (m p : Nat) : Nat → Prop := fun b => iv p (p + 4) b ∨ b = m + 2
section SH
variable {T : mT} {Q : mOut → mT → Prop} {m p a : Nat} {z : Int} {F : Ft}
theorem l_shape {T0 : mT} (hF : FeatR T0 a F) (hb : csB F.2.2) (hz : 0 ≤ z ∧ z ≤ 4) (dis : a + 3 ≤ p ∨ p + 4 ≤ a) : ∀ (k i : Nat) (T : mT), F.2.2.length - i = k → i ≤ F.2.2.length → Fr (iv p (p + 4)) T0 T → PathR T p 13 (sfL z F.2.2 i) →
    (∀ T2, PathR T2 p 13 (sfL z F.2.2 F.2.2.length) → Fr (iv p (p + 4)) T0 T2 → XW 83 57 [some (.ref (m)), some (.ref (a)), some (.ref (p)), some (.int (iI (4 - z))), some (.int (iI ((F.2.2.length : Nat) : Int)))] [] T2 Q) → XW 83 10 [some (.ref (m)), some (.ref (a)), some (.ref (p)), some (.int (iI (4 - z))), some (.int (iI ((i : Nat) : Int)))] [] T Q := by
  intro k
  induction k with
  | zero =>
    intro i T hk hi hf hp hQ
    have hFT : FeatR T a F := hF.fr hf (fun b hb z => by have := z.1; have := z.2; have := hb.1; have := hb.2; omega)
    obtain ⟨⟨g1, g2, g3, g4, g5⟩, gn, c1, c2, c3, c4⟩ := id hFT
    have : i = F.2.2.length := by omega
    subst this
    rw [e_83_10]
    simp (maxSteps := 4000000) (disch := first | (simp (disch := omega) only [XB_i, XB_n, va_rf_s, va_rf_n, mSI_K, mSI_I, mSI_J, mSI_P, mSI_N, mSJ_K, mSJ_I, mSJ_J, mSJ_P, mSJ_N, mSP_K, mSP_I, mSP_J, mSP_P, mSP_N, mNn, mNi, mNr, mN0, al20, al21, al22, al23, al25, true_or, or_true, and_self, if_true, if_false, mCat_n, mCat_i, mCat_r, mCat_l, mCat_0, Nat.reduceAdd, Nat.reduceLeDiff, Nat.reduceLT, true_and, and_true, Nat.zero_le, bI_01, mInB_J, mInB_Z, mInB_N, g1, c1]; done) | omega | (unfold R32 at *; omega)) only [e_83_12, e_83_12_n, e_83_13, e_83_16, XB_i, XB_n, va_rf_s, va_rf_n, mSI_K, mSI_I, mSI_J, mSI_P, mSI_N, mSJ_K, mSJ_I, mSJ_J, mSJ_P, mSJ_N, mSP_K, mSP_I, mSP_J, mSP_P, mSP_N, mNn, mNi, mNr, mN0, al20, al21, al22, al23, al25, true_or, or_true, and_self, if_true, if_false, mCat_n, mCat_i, mCat_r, mCat_l, mCat_0, Nat.reduceAdd, Nat.reduceLeDiff, Nat.reduceLT, true_and, and_true, Nat.zero_le, bI_01, bI_0, i10, tf0, iI_add, iI_sub, iI_mul, iI_neg, iI_add1, iI_sub1, iI_m1, nc1, ncm1, iI_clJ, iI_cl0, iI_clN, Int.toNat_natCast, mU_n, mU_s, p_min, p_max, p_abs, ni_2, ni_3, ni_4, ni_7, ni_8, ni_9, ni_12, ni_24, ni_97, ni_100, ni_122, ni_200, ni_256, ni_4096, ni_5000, ni_9999, iI_lt, iI_le, iI_eq, iz_eq, iz_lt, iz_le, iz_gt, iz_ge, iy_eq, iy_lt, iy_le, iI_ltN, iI_leN, iI_eqN, if_pos, if_neg, g1, c1]
    exact hQ T hp hf
  | succ k ih =>
    intro i T hk hi hf hp hQ
    have hFT : FeatR T a F := hF.fr hf (fun b hb z => by have := z.1; have := z.2; have := hb.1; have := hb.2; omega)
    obtain ⟨⟨g1, g2, g3, g4, g5⟩, gn, c1, c2, c3, c4⟩ := id hFT
    have p1 := hp.1.1
    have x1 := hb.x i
    have y1 := hb.y i
    have call : XW 83 48 [some (.ref (m)), some (.ref (a)), some (.ref (p)), some (.int (iI (4 - z))), some (.int (iI ((i : Nat) : Int)))] [.int (bI (decide (i = 0))), .int (iI (sfC z F.2.2 i).2.1), .int (iI (sfC z F.2.2 i).1), .ref p] T Q := by
      refine c_83_48 (by simp only [XB_i, XB_n, va_rf_s, va_rf_n, mSI_K, mSI_I, mSI_J, mSI_P, mSI_N, mSJ_K, mSJ_I, mSJ_J, mSJ_P, mSJ_N, mSP_K, mSP_I, mSP_J, mSP_P, mSP_N, mNn, mNi, mNr, mN0, al20, al21, al22, al23, al25, true_or, or_true, and_self, if_true, if_false, mCat_n, mCat_i, mCat_r, mCat_l, mCat_0, Nat.reduceAdd, Nat.reduceLeDiff, Nat.reduceLT, true_and, and_true, Nat.zero_le, bI_01]) (by rw [p1]) (ct_path_add (c := sfC z F.2.2 i) hp (by rw [sfL_len]; omega) (fun T2 h2 f2 => ?_))
      simp (maxSteps := 4000000) (disch := first | (simp (disch := omega) only [XB_i, XB_n, va_rf_s, va_rf_n, mSI_K, mSI_I, mSI_J, mSI_P, mSI_N, mSJ_K, mSJ_I, mSJ_J, mSJ_P, mSJ_N, mSP_K, mSP_I, mSP_J, mSP_P, mSP_N, mNn, mNi, mNr, mN0, al20, al21, al22, al23, al25, true_or, or_true, and_self, if_true, if_false, mCat_n, mCat_i, mCat_r, mCat_l, mCat_0, Nat.reduceAdd, Nat.reduceLeDiff, Nat.reduceLT, true_and, and_true, Nat.zero_le, bI_01, mInB_J, mInB_Z, mInB_N]; done) | omega | (unfold R32 at *; omega)) only [e_83_51, e_83_54, XB_i, XB_n, va_rf_s, va_rf_n, mSI_K, mSI_I, mSI_J, mSI_P, mSI_N, mSJ_K, mSJ_I, mSJ_J, mSJ_P, mSJ_N, mSP_K, mSP_I, mSP_J, mSP_P, mSP_N, mNn, mNi, mNr, mN0, al20, al21, al22, al23, al25, true_or, or_true, and_self, if_true, if_false, mCat_n, mCat_i, mCat_r, mCat_l, mCat_0, Nat.reduceAdd, Nat.reduceLeDiff, Nat.reduceLT, true_and, and_true, Nat.zero_le, bI_01, bI_0, i10, tf0, iI_add, iI_sub, iI_mul, iI_neg, iI_add1, iI_sub1, iI_m1, nc1, ncm1, iI_clJ, iI_cl0, iI_clN, Int.toNat_natCast, mU_n, mU_s, p_min, p_max, p_abs, ni_2, ni_3, ni_4, ni_7, ni_8, ni_9, ni_12, ni_24, ni_97, ni_100, ni_122, ni_200, ni_256, ni_4096, ni_5000, ni_9999, iI_lt, iI_le, iI_eq, iz_eq, iz_lt, iz_le, iz_gt, iz_ge, iy_eq, iy_lt, iy_le, iI_ltN, iI_leN, iI_eqN, if_pos, if_neg]
      rw [← sfL_succ] at h2
      exact ih (i + 1) T2 (by omega) (by omega) (hf.tr f2) h2 hQ
    rw [e_83_10]
    unfold sfC at call
    by_cases q : i = 0
    · rw [decide_eq_true q, bI_t] at call
      simp (maxSteps := 4000000) (disch := first | (simp (disch := omega) only [XB_i, XB_n, va_rf_s, va_rf_n, mSI_K, mSI_I, mSI_J, mSI_P, mSI_N, mSJ_K, mSJ_I, mSJ_J, mSJ_P, mSJ_N, mSP_K, mSP_I, mSP_J, mSP_P, mSP_N, mNn, mNi, mNr, mN0, al20, al21, al22, al23, al25, true_or, or_true, and_self, if_true, if_false, mCat_n, mCat_i, mCat_r, mCat_l, mCat_0, Nat.reduceAdd, Nat.reduceLeDiff, Nat.reduceLT, true_and, and_true, Nat.zero_le, bI_01, mInB_J, mInB_Z, mInB_N, g1, g2, g3, g4, g5, c1, c3, c4, iI_shr, x1, y1]; done) | omega | (unfold R32 at *; omega)) only [e_83_12, e_83_12_n, e_83_13, e_83_16, e_83_19, e_83_19_n, e_83_20, e_83_20_n, e_83_21, e_83_24, e_83_26, e_83_27, e_83_28, e_83_29, e_83_29_n, e_83_30, e_83_33, e_83_35, e_83_36, e_83_37, e_83_38, e_83_40, e_83_43, e_83_44, e_83_47, XB_i, XB_n, va_rf_s, va_rf_n, mSI_K, mSI_I, mSI_J, mSI_P, mSI_N, mSJ_K, mSJ_I, mSJ_J, mSJ_P, mSJ_N, mSP_K, mSP_I, mSP_J, mSP_P, mSP_N, mNn, mNi, mNr, mN0, al20, al21, al22, al23, al25, true_or, or_true, and_self, if_true, if_false, mCat_n, mCat_i, mCat_r, mCat_l, mCat_0, Nat.reduceAdd, Nat.reduceLeDiff, Nat.reduceLT, true_and, and_true, Nat.zero_le, bI_01, bI_0, i10, tf0, iI_add, iI_sub, iI_mul, iI_neg, iI_add1, iI_sub1, iI_m1, nc1, ncm1, iI_clJ, iI_cl0, iI_clN, Int.toNat_natCast, mU_n, mU_s, p_min, p_max, p_abs, ni_2, ni_3, ni_4, ni_7, ni_8, ni_9, ni_12, ni_24, ni_97, ni_100, ni_122, ni_200, ni_256, ni_4096, ni_5000, ni_9999, iI_lt, iI_le, iI_eq, iz_eq, iz_lt, iz_le, iz_gt, iz_ge, iy_eq, iy_lt, iy_le, iI_ltN, iI_leN, iI_eqN, if_pos, if_neg, g1, g2, g3, g4, g5, c1, c3, c4, iI_shr, x1, y1]
      exact call
    · rw [decide_eq_false q, bI_f] at call
      simp (maxSteps := 4000000) (disch := first | (simp (disch := omega) only [XB_i, XB_n, va_rf_s, va_rf_n, mSI_K, mSI_I, mSI_J, mSI_P, mSI_N, mSJ_K, mSJ_I, mSJ_J, mSJ_P, mSJ_N, mSP_K, mSP_I, mSP_J, mSP_P, mSP_N, mNn, mNi, mNr, mN0, al20, al21, al22, al23, al25, true_or, or_true, and_self, if_true, if_false, mCat_n, mCat_i, mCat_r, mCat_l, mCat_0, Nat.reduceAdd, Nat.reduceLeDiff, Nat.reduceLT, true_and, and_true, Nat.zero_le, bI_01, mInB_J, mInB_Z, mInB_N, g1, g2, g3, g4, g5, c1, c3, c4, iI_shr, x1, y1]; done) | omega | (unfold R32 at *; omega)) only [e_83_12, e_83_12_n, e_83_13, e_83_16, e_83_19, e_83_19_n, e_83_20, e_83_20_n, e_83_21, e_83_24, e_83_26, e_83_27, e_83_28, e_83_29, e_83_29_n, e_83_30, e_83_33, e_83_35, e_83_36, e_83_37, e_83_38, e_83_40, e_83_43, e_83_44, e_83_47, XB_i, XB_n, va_rf_s, va_rf_n, mSI_K, mSI_I, mSI_J, mSI_P, mSI_N, mSJ_K, mSJ_I, mSJ_J, mSJ_P, mSJ_N, mSP_K, mSP_I, mSP_J, mSP_P, mSP_N, mNn, mNi, mNr, mN0, al20, al21, al22, al23, al25, true_or, or_true, and_self, if_true, if_false, mCat_n, mCat_i, mCat_r, mCat_l, mCat_0, Nat.reduceAdd, Nat.reduceLeDiff, Nat.reduceLT, true_and, and_true, Nat.zero_le, bI_01, bI_0, i10, tf0, iI_add, iI_sub, iI_mul, iI_neg, iI_add1, iI_sub1, iI_m1, nc1, ncm1, iI_clJ, iI_cl0, iI_clN, Int.toNat_natCast, mU_n, mU_s, p_min, p_max, p_abs, ni_2, ni_3, ni_4, ni_7, ni_8, ni_9, ni_12, ni_24, ni_97, ni_100, ni_122, ni_200, ni_256, ni_4096, ni_5000, ni_9999, iI_lt, iI_le, iI_eq, iz_eq, iz_lt, iz_le, iz_gt, iz_ge, iy_eq, iy_lt, iy_le, iI_ltN, iI_leN, iI_eqN, if_pos, if_neg, g1, g2, g3, g4, g5, c1, c3, c4, iI_shr, x1, y1]
      exact call
theorem ct_shape (hm : StK T m) (hz1 : T.2.1 m 1 = iI z) (hz : 0 ≤ z ∧ z ≤ 4) (hF : FeatR T a F) (ok : fOk F) (hp : PathR T p 13 []) (dis : m + 12 ≤ p) (da : a + 3 ≤ m ∨ p + 4 ≤ a) (hQ : ∀ T2, PathR T2 p 13 (shpC z F) → BxR T2 p (bxL (shpC z F)) → Fr (shS m p) T T2 → Q (.inl none) T2) : XW 83 0 [some (.ref (m)), some (.ref (a)), some (.ref (p)), none, none] [] T Q := by
  have m1 := hm.1
  have bK := ok.k
  have bC := ok.c
  have hb := ok.b
  obtain ⟨k, hk⟩ : ∃ k : Nat, F.1.2.1 = (k : Int) := ⟨F.1.2.1.toNat, by omega⟩
  have sub : ∀ b, iv p (p + 4) b → shS m p b := fun b h => Or.inl h
  simp (maxSteps := 4000000) (disch := first | (simp (disch := omega) only [XB_i, XB_n, va_rf_s, va_rf_n, mSI_K, mSI_I, mSI_J, mSI_P, mSI_N, mSJ_K, mSJ_I, mSJ_J, mSJ_P, mSJ_N, mSP_K, mSP_I, mSP_J, mSP_P, mSP_N, mNn, mNi, mNr, mN0, al20, al21, al22, al23, al25, true_or, or_true, and_self, if_true, if_false, mCat_n, mCat_i, mCat_r, mCat_l, mCat_0, Nat.reduceAdd, Nat.reduceLeDiff, Nat.reduceLT, true_and, and_true, Nat.zero_le, bI_01, mInB_J, mInB_Z, mInB_N, m1, hz1]; done) | omega | (unfold R32 at *; omega)) only [e_83_0, e_83_1, e_83_1_n, e_83_2, e_83_5, e_83_6, e_83_7, e_83_8, XB_i, XB_n, va_rf_s, va_rf_n, mSI_K, mSI_I, mSI_J, mSI_P, mSI_N, mSJ_K, mSJ_I, mSJ_J, mSJ_P, mSJ_N, mSP_K, mSP_I, mSP_J, mSP_P, mSP_N, mNn, mNi, mNr, mN0, al20, al21, al22, al23, al25, true_or, or_true, and_self, if_true, if_false, mCat_n, mCat_i, mCat_r, mCat_l, mCat_0, Nat.reduceAdd, Nat.reduceLeDiff, Nat.reduceLT, true_and, and_true, Nat.zero_le, bI_01, bI_0, i10, tf0, iI_add, iI_sub, iI_mul, iI_neg, iI_add1, iI_sub1, iI_m1, nc1, ncm1, iI_clJ, iI_cl0, iI_clN, Int.toNat_natCast, mU_n, mU_s, p_min, p_max, p_abs, ni_2, ni_3, ni_4, ni_7, ni_8, ni_9, ni_12, ni_24, ni_97, ni_100, ni_122, ni_200, ni_256, ni_4096, ni_5000, ni_9999, iI_lt, iI_le, iI_eq, iz_eq, iz_lt, iz_le, iz_gt, iz_ge, iy_eq, iy_lt, iy_le, iI_ltN, iI_leN, iI_eqN, if_pos, if_neg, m1, hz1]
  refine l_shape (T0 := T) hF hb hz (by omega) _ 0 T rfl (by omega) Fr.rf hp (fun T1 hp1 f1 => ?_)
  /- the end -/
  have fin : ∀ (T4 : mT) (ks : List Cn), ks = kepC (basC z F) → PathR T4 p 13 ks → Fr (shS m p) T T4 → XW 83 100 [some (.ref (m)), some (.ref (a)), some (.ref (p)), some (.int (iI (4 - z))), some (.int (iI ((F.2.2.length : Nat) : Int)))] [] T4 Q := by
    intro T4 ks hks hp4 f4
    have hF4 : FeatR T4 a F := hF.fr f4 (fun b hb q => by rcases q with q | q; have := q.1; have := q.2; have := hb.1; have := hb.2; omega; have := hb.1; have := hb.2; omega)
    have g1 := hF4.1.1
    have g2 := hF4.2.1.2.1
    have p1 := hp4.1.1
    have W : ∀ c ∈ ks, cB c := fun c hc => (basC_W hb z c (kepC_mem (by rw [← hks]; exact hc))).b
    simp (maxSteps := 4000000) (disch := first | (simp (disch := omega) only [XB_i, XB_n, va_rf_s, va_rf_n, mSI_K, mSI_I, mSI_J, mSI_P, mSI_N, mSJ_K, mSJ_I, mSJ_J, mSJ_P, mSJ_N, mSP_K, mSP_I, mSP_J, mSP_P, mSP_N, mNn, mNi, mNr, mN0, al20, al21, al22, al23, al25, true_or, or_true, and_self, if_true, if_false, mCat_n, mCat_i, mCat_r, mCat_l, mCat_0, Nat.reduceAdd, Nat.reduceLeDiff, Nat.reduceLT, true_and, and_true, Nat.zero_le, bI_01, mInB_J, mInB_Z, mInB_N, g1, g2, hk]; done) | omega | (unfold R32 at *; omega)) only [e_83_100, e_83_100_n, e_83_101, e_83_101_n, e_83_102, XB_i, XB_n, va_rf_s, va_rf_n, mSI_K, mSI_I, mSI_J, mSI_P, mSI_N, mSJ_K, mSJ_I, mSJ_J, mSJ_P, mSJ_N, mSP_K, mSP_I, mSP_J, mSP_P, mSP_N, mNn, mNi, mNr, mN0, al20, al21, al22, al23, al25, true_or, or_true, and_self, if_true, if_false, mCat_n, mCat_i, mCat_r, mCat_l, mCat_0, Nat.reduceAdd, Nat.reduceLeDiff, Nat.reduceLT, true_and, and_true, Nat.zero_le, bI_01, bI_0, i10, tf0, iI_add, iI_sub, iI_mul, iI_neg, iI_add1, iI_sub1, iI_m1, nc1, ncm1, iI_clJ, iI_cl0, iI_clN, Int.toNat_natCast, mU_n, mU_s, p_min, p_max, p_abs, ni_2, ni_3, ni_4, ni_7, ni_8, ni_9, ni_12, ni_24, ni_97, ni_100, ni_122, ni_200, ni_256, ni_4096, ni_5000, ni_9999, iI_lt, iI_le, iI_eq, iz_eq, iz_lt, iz_le, iz_gt, iz_ge, iy_eq, iy_lt, iy_le, iI_ltN, iI_leN, iI_eqN, if_pos, if_neg, g1, g2, hk]
    refine c_83_105 (by simp only [XB_i, XB_n, va_rf_s, va_rf_n, mSI_K, mSI_I, mSI_J, mSI_P, mSI_N, mSJ_K, mSJ_I, mSJ_J, mSJ_P, mSJ_N, mSP_K, mSP_I, mSP_J, mSP_P, mSP_N, mNn, mNi, mNr, mN0, al20, al21, al22, al23, al25, true_or, or_true, and_self, if_true, if_false, mCat_n, mCat_i, mCat_r, mCat_l, mCat_0, Nat.reduceAdd, Nat.reduceLeDiff, Nat.reduceLT, true_and, and_true, Nat.zero_le, bI_01]) (by rw [p1]) (ct_path_tidy hp4 W (by omega) (fun T5 h5 f5 => ?_))
    have hsh : shpC z F = tidyS k ks := by unfold shpC; rw [hk, hks]; rfl
    rw [← hsh] at h5
    have p5 := h5.1.1
    simp (maxSteps := 4000000) (disch := first | (simp (disch := omega) only [XB_i, XB_n, va_rf_s, va_rf_n, mSI_K, mSI_I, mSI_J, mSI_P, mSI_N, mSJ_K, mSJ_I, mSJ_J, mSJ_P, mSJ_N, mSP_K, mSP_I, mSP_J, mSP_P, mSP_N, mNn, mNi, mNr, mN0, al20, al21, al22, al23, al25, true_or, or_true, and_self, if_true, if_false, mCat_n, mCat_i, mCat_r, mCat_l, mCat_0, Nat.reduceAdd, Nat.reduceLeDiff, Nat.reduceLT, true_and, and_true, Nat.zero_le, bI_01, mInB_J, mInB_Z, mInB_N]; done) | omega | (unfold R32 at *; omega)) only [e_83_108, e_83_108_n, XB_i, XB_n, va_rf_s, va_rf_n, mSI_K, mSI_I, mSI_J, mSI_P, mSI_N, mSJ_K, mSJ_I, mSJ_J, mSJ_P, mSJ_N, mSP_K, mSP_I, mSP_J, mSP_P, mSP_N, mNn, mNi, mNr, mN0, al20, al21, al22, al23, al25, true_or, or_true, and_self, if_true, if_false, mCat_n, mCat_i, mCat_r, mCat_l, mCat_0, Nat.reduceAdd, Nat.reduceLeDiff, Nat.reduceLT, true_and, and_true, Nat.zero_le, bI_01, bI_0, i10, tf0, iI_add, iI_sub, iI_mul, iI_neg, iI_add1, iI_sub1, iI_m1, nc1, ncm1, iI_clJ, iI_cl0, iI_clN, Int.toNat_natCast, mU_n, mU_s, p_min, p_max, p_abs, ni_2, ni_3, ni_4, ni_7, ni_8, ni_9, ni_12, ni_24, ni_97, ni_100, ni_122, ni_200, ni_256, ni_4096, ni_5000, ni_9999, iI_lt, iI_le, iI_eq, iz_eq, iz_lt, iz_le, iz_gt, iz_ge, iy_eq, iy_lt, iy_le, iI_ltN, iI_leN, iI_eqN, if_pos, if_neg]
    refine c_83_109 (by simp only [XB_i, XB_n, va_rf_s, va_rf_n, mSI_K, mSI_I, mSI_J, mSI_P, mSI_N, mSJ_K, mSJ_I, mSJ_J, mSJ_P, mSJ_N, mSP_K, mSP_I, mSP_J, mSP_P, mSP_N, mNn, mNi, mNr, mN0, al20, al21, al22, al23, al25, true_or, or_true, and_self, if_true, if_false, mCat_n, mCat_i, mCat_r, mCat_l, mCat_0, Nat.reduceAdd, Nat.reduceLeDiff, Nat.reduceLT, true_and, and_true, Nat.zero_le, bI_01]) (by rw [p5]) (ct_path_measure (fun c hc => (shpC_W hb z c hc).b) h5 (fun T6 h6 x6 f6 => ?_))
    simp (maxSteps := 4000000) (disch := first | (simp (disch := omega) only [XB_i, XB_n, va_rf_s, va_rf_n, mSI_K, mSI_I, mSI_J, mSI_P, mSI_N, mSJ_K, mSJ_I, mSJ_J, mSJ_P, mSJ_N, mSP_K, mSP_I, mSP_J, mSP_P, mSP_N, mNn, mNi, mNr, mN0, al20, al21, al22, al23, al25, true_or, or_true, and_self, if_true, if_false, mCat_n, mCat_i, mCat_r, mCat_l, mCat_0, Nat.reduceAdd, Nat.reduceLeDiff, Nat.reduceLT, true_and, and_true, Nat.zero_le, bI_01, mInB_J, mInB_Z, mInB_N]; done) | omega | (unfold R32 at *; omega)) only [e_83_112, XB_i, XB_n, va_rf_s, va_rf_n, mSI_K, mSI_I, mSI_J, mSI_P, mSI_N, mSJ_K, mSJ_I, mSJ_J, mSJ_P, mSJ_N, mSP_K, mSP_I, mSP_J, mSP_P, mSP_N, mNn, mNi, mNr, mN0, al20, al21, al22, al23, al25, true_or, or_true, and_self, if_true, if_false, mCat_n, mCat_i, mCat_r, mCat_l, mCat_0, Nat.reduceAdd, Nat.reduceLeDiff, Nat.reduceLT, true_and, and_true, Nat.zero_le, bI_01, bI_0, i10, tf0, iI_add, iI_sub, iI_mul, iI_neg, iI_add1, iI_sub1, iI_m1, nc1, ncm1, iI_clJ, iI_cl0, iI_clN, Int.toNat_natCast, mU_n, mU_s, p_min, p_max, p_abs, ni_2, ni_3, ni_4, ni_7, ni_8, ni_9, ni_12, ni_24, ni_97, ni_100, ni_122, ni_200, ni_256, ni_4096, ni_5000, ni_9999, iI_lt, iI_le, iI_eq, iz_eq, iz_lt, iz_le, iz_gt, iz_ge, iy_eq, iy_lt, iy_le, iI_ltN, iI_leN, iI_eqN, if_pos, if_neg]
    exact hQ T6 h6 x6 ((f4.tr (f5.mono sub)).tr (f6.mono (fun b hb => Or.inl ⟨hb.1, by have := hb.2; omega⟩)))
  have mid : ∀ (T3 : mT), PathR T3 p 13 (basC z F) → Fr (iv p (p + 4)) T T3 → XW 83 82 [some (.ref (m)), some (.ref (a)), some (.ref (p)), some (.int (iI (4 - z))), some (.int (iI ((F.2.2.length : Nat) : Int)))] [] T3 Q := by
    intro T3 hp3 f3
    have p1 := hp3.1.1
    have pc := hp3.2.1
    have pl := hp3.2.2.1
    have hm3 : StK T3 m := ⟨by rw [f3.K]; exact hm.1, by rw [f3.P (fun q => by have := q.1; omega)]; exact hm.2.1, by rw [f3.K]; exact hm.2.2⟩
    have m3 := hm3.1
    by_cases q : 2 < (basC z F).length
    · simp (maxSteps := 4000000) (disch := first | (simp (disch := omega) only [XB_i, XB_n, va_rf_s, va_rf_n, mSI_K, mSI_I, mSI_J, mSI_P, mSI_N, mSJ_K, mSJ_I, mSJ_J, mSJ_P, mSJ_N, mSP_K, mSP_I, mSP_J, mSP_P, mSP_N, mNn, mNi, mNr, mN0, al20, al21, al22, al23, al25, true_or, or_true, and_self, if_true, if_false, mCat_n, mCat_i, mCat_r, mCat_l, mCat_0, Nat.reduceAdd, Nat.reduceLeDiff, Nat.reduceLT, true_and, and_true, Nat.zero_le, bI_01, mInB_J, mInB_Z, mInB_N, p1, pc]; done) | omega | (unfold R32 at *; omega)) only [e_83_82, e_83_82_n, e_83_83, e_83_86, e_83_87, e_83_90, e_83_90_n, e_83_91, e_83_91_n, XB_i, XB_n, va_rf_s, va_rf_n, mSI_K, mSI_I, mSI_J, mSI_P, mSI_N, mSJ_K, mSJ_I, mSJ_J, mSJ_P, mSJ_N, mSP_K, mSP_I, mSP_J, mSP_P, mSP_N, mNn, mNi, mNr, mN0, al20, al21, al22, al23, al25, true_or, or_true, and_self, if_true, if_false, mCat_n, mCat_i, mCat_r, mCat_l, mCat_0, Nat.reduceAdd, Nat.reduceLeDiff, Nat.reduceLT, true_and, and_true, Nat.zero_le, bI_01, bI_0, i10, tf0, iI_add, iI_sub, iI_mul, iI_neg, iI_add1, iI_sub1, iI_m1, nc1, ncm1, iI_clJ, iI_cl0, iI_clN, Int.toNat_natCast, mU_n, mU_s, p_min, p_max, p_abs, ni_2, ni_3, ni_4, ni_7, ni_8, ni_9, ni_12, ni_24, ni_97, ni_100, ni_122, ni_200, ni_256, ni_4096, ni_5000, ni_9999, iI_lt, iI_le, iI_eq, iz_eq, iz_lt, iz_le, iz_gt, iz_ge, iy_eq, iy_lt, iy_le, iI_ltN, iI_leN, iI_eqN, if_pos, if_neg, p1, pc]
      refine c_83_92 (by simp only [XB_i, XB_n, va_rf_s, va_rf_n, mSI_K, mSI_I, mSI_J, mSI_P, mSI_N, mSJ_K, mSJ_I, mSJ_J, mSJ_P, mSJ_N, mSP_K, mSP_I, mSP_J, mSP_P, mSP_N, mNn, mNi, mNr, mN0, al20, al21, al22, al23, al25, true_or, or_true, and_self, if_true, if_false, mCat_n, mCat_i, mCat_r, mCat_l, mCat_0, Nat.reduceAdd, Nat.reduceLeDiff, Nat.reduceLT, true_and, and_true, Nat.zero_le, bI_01]) (by rw [m3]) (ct_mark (L := (basC z F).length - 1) hm3 hp3 dis (wB_of (basC_W hb z)) (by omega) (by omega) (by omega) (fun T4 h4 f4 => ?_))
      have f4' : Fr (shS m p) T3 T4 := f4.mono (fun b hb => Or.inr (by have := hb.1; have := hb.2; omega))
      have hp4 : PathR T4 p 13 (basC z F) := hp3.fr f4 (fun b hb q => by have := q.1; have := q.2; have := hb.1; omega)
      have hm4 : StK T4 m := ⟨by rw [f4.K]; exact hm3.1, by rw [f4.P (fun q => by have := q.1; omega)]; exact hm3.2.1, by rw [f4.K]; exact hm3.2.2⟩
      have m4 := hm4.1
      simp (maxSteps := 4000000) (disch := first | (simp (disch := omega) only [XB_i, XB_n, va_rf_s, va_rf_n, mSI_K, mSI_I, mSI_J, mSI_P, mSI_N, mSJ_K, mSJ_I, mSJ_J, mSJ_P, mSJ_N, mSP_K, mSP_I, mSP_J, mSP_P, mSP_N, mNn, mNi, mNr, mN0, al20, al21, al22, al23, al25, true_or, or_true, and_self, if_true, if_false, mCat_n, mCat_i, mCat_r, mCat_l, mCat_0, Nat.reduceAdd, Nat.reduceLeDiff, Nat.reduceLT, true_and, and_true, Nat.zero_le, bI_01, mInB_J, mInB_Z, mInB_N]; done) | omega | (unfold R32 at *; omega)) only [e_83_95, e_83_95_n, e_83_96, e_83_96_n, XB_i, XB_n, va_rf_s, va_rf_n, mSI_K, mSI_I, mSI_J, mSI_P, mSI_N, mSJ_K, mSJ_I, mSJ_J, mSJ_P, mSJ_N, mSP_K, mSP_I, mSP_J, mSP_P, mSP_N, mNn, mNi, mNr, mN0, al20, al21, al22, al23, al25, true_or, or_true, and_self, if_true, if_false, mCat_n, mCat_i, mCat_r, mCat_l, mCat_0, Nat.reduceAdd, Nat.reduceLeDiff, Nat.reduceLT, true_and, and_true, Nat.zero_le, bI_01, bI_0, i10, tf0, iI_add, iI_sub, iI_mul, iI_neg, iI_add1, iI_sub1, iI_m1, nc1, ncm1, iI_clJ, iI_cl0, iI_clN, Int.toNat_natCast, mU_n, mU_s, p_min, p_max, p_abs, ni_2, ni_3, ni_4, ni_7, ni_8, ni_9, ni_12, ni_24, ni_97, ni_100, ni_122, ni_200, ni_256, ni_4096, ni_5000, ni_9999, iI_lt, iI_le, iI_eq, iz_eq, iz_lt, iz_le, iz_gt, iz_ge, iy_eq, iy_lt, iy_le, iI_ltN, iI_leN, iI_eqN, if_pos, if_neg]
      refine c_83_97 (by simp only [XB_i, XB_n, va_rf_s, va_rf_n, mSI_K, mSI_I, mSI_J, mSI_P, mSI_N, mSJ_K, mSJ_I, mSJ_J, mSJ_P, mSJ_N, mSP_K, mSP_I, mSP_J, mSP_P, mSP_N, mNn, mNi, mNr, mN0, al20, al21, al22, al23, al25, true_or, or_true, and_self, if_true, if_false, mCat_n, mCat_i, mCat_r, mCat_l, mCat_0, Nat.reduceAdd, Nat.reduceLeDiff, Nat.reduceLT, true_and, and_true, Nat.zero_le, bI_01]) (by rw [m4]) (ct_keep (S := ksB (farC (basC z F)) ((basC z F).length - 1)) hm4 dis hp4 pl (fun j hj => h4 j (by omega)) (fun T5 h5 f5 => ?_))
      simp only [XB_i, XB_n, va_rf_s, va_rf_n, mSI_K, mSI_I, mSI_J, mSI_P, mSI_N, mSJ_K, mSJ_I, mSJ_J, mSJ_P, mSJ_N, mSP_K, mSP_I, mSP_J, mSP_P, mSP_N, mNn, mNi, mNr, mN0, al20, al21, al22, al23, al25, true_or, or_true, and_self, if_true, if_false, mCat_n, mCat_i, mCat_r, mCat_l, mCat_0, Nat.reduceAdd, Nat.reduceLeDiff, Nat.reduceLT, true_and, and_true, Nat.zero_le, bI_01]
      exact fin T5 _ (by unfold kepC; rw [if_pos q]) h5 (((f3.mono sub).tr f4').tr (f5.mono sub))
    · simp (maxSteps := 4000000) (disch := first | (simp (disch := omega) only [XB_i, XB_n, va_rf_s, va_rf_n, mSI_K, mSI_I, mSI_J, mSI_P, mSI_N, mSJ_K, mSJ_I, mSJ_J, mSJ_P, mSJ_N, mSP_K, mSP_I, mSP_J, mSP_P, mSP_N, mNn, mNi, mNr, mN0, al20, al21, al22, al23, al25, true_or, or_true, and_self, if_true, if_false, mCat_n, mCat_i, mCat_r, mCat_l, mCat_0, Nat.reduceAdd, Nat.reduceLeDiff, Nat.reduceLT, true_and, and_true, Nat.zero_le, bI_01, mInB_J, mInB_Z, mInB_N, p1, pc]; done) | omega | (unfold R32 at *; omega)) only [e_83_82, e_83_82_n, e_83_83, e_83_86, e_83_87, XB_i, XB_n, va_rf_s, va_rf_n, mSI_K, mSI_I, mSI_J, mSI_P, mSI_N, mSJ_K, mSJ_I, mSJ_J, mSJ_P, mSJ_N, mSP_K, mSP_I, mSP_J, mSP_P, mSP_N, mNn, mNi, mNr, mN0, al20, al21, al22, al23, al25, true_or, or_true, and_self, if_true, if_false, mCat_n, mCat_i, mCat_r, mCat_l, mCat_0, Nat.reduceAdd, Nat.reduceLeDiff, Nat.reduceLT, true_and, and_true, Nat.zero_le, bI_01, bI_0, i10, tf0, iI_add, iI_sub, iI_mul, iI_neg, iI_add1, iI_sub1, iI_m1, nc1, ncm1, iI_clJ, iI_cl0, iI_clN, Int.toNat_natCast, mU_n, mU_s, p_min, p_max, p_abs, ni_2, ni_3, ni_4, ni_7, ni_8, ni_9, ni_12, ni_24, ni_97, ni_100, ni_122, ni_200, ni_256, ni_4096, ni_5000, ni_9999, iI_lt, iI_le, iI_eq, iz_eq, iz_lt, iz_le, iz_gt, iz_ge, iy_eq, iy_lt, iy_le, iI_ltN, iI_leN, iI_eqN, if_pos, if_neg, p1, pc]
      exact fin T3 _ (by unfold kepC; rw [if_neg q]) hp3 (f3.mono sub)
  have hF1 : FeatR T1 a F := hF.fr f1 (fun b hb q => by have := q.1; have := q.2; have := hb.1; have := hb.2; omega)
  have g1 := hF1.1.1
  have g2 := hF1.2.1.2.1
  have hl12 := hF1.2.2.2.1
  by_cases q : F.1.2.1 = 2
  · obtain ⟨⟨p1, p2, p3, p4, p5, p6, p7, p8⟩, pc, pl, pa⟩ := id hp1
    have h0 : (sfL z F.2.2 F.2.2.length)[0]? = some (sfC z F.2.2 0) := by
      unfold sfL
      rw [List.getElem?_map, List.getElem?_range (by omega)]
      rfl
    have a0 := pa 0 _ h0
    have a1 := a0.1
    have a2 := a0.2.1
    simp (maxSteps := 4000000) (disch := first | (simp (disch := omega) only [XB_i, XB_n, va_rf_s, va_rf_n, mSI_K, mSI_I, mSI_J, mSI_P, mSI_N, mSJ_K, mSJ_I, mSJ_J, mSJ_P, mSJ_N, mSP_K, mSP_I, mSP_J, mSP_P, mSP_N, mNn, mNi, mNr, mN0, al20, al21, al22, al23, al25, true_or, or_true, and_self, if_true, if_false, mCat_n, mCat_i, mCat_r, mCat_l, mCat_0, Nat.reduceAdd, Nat.reduceLeDiff, Nat.reduceLT, true_and, and_true, Nat.zero_le, bI_01, mInB_J, mInB_Z, mInB_N, g1, g2, p1, p2, p3, p5, p6, a1, a2]; done) | omega | (unfold R32 at *; omega)) only [e_83_57, e_83_57_n, e_83_58, e_83_61, e_83_62, e_83_65, e_83_65_n, e_83_66, e_83_66_n, e_83_67, e_83_70, e_83_71, e_83_72, e_83_72_n, e_83_73, e_83_76, e_83_77, e_83_78, XB_i, XB_n, va_rf_s, va_rf_n, mSI_K, mSI_I, mSI_J, mSI_P, mSI_N, mSJ_K, mSJ_I, mSJ_J, mSJ_P, mSJ_N, mSP_K, mSP_I, mSP_J, mSP_P, mSP_N, mNn, mNi, mNr, mN0, al20, al21, al22, al23, al25, true_or, or_true, and_self, if_true, if_false, mCat_n, mCat_i, mCat_r, mCat_l, mCat_0, Nat.reduceAdd, Nat.reduceLeDiff, Nat.reduceLT, true_and, and_true, Nat.zero_le, bI_01, bI_0, i10, tf0, iI_add, iI_sub, iI_mul, iI_neg, iI_add1, iI_sub1, iI_m1, nc1, ncm1, iI_clJ, iI_cl0, iI_clN, Int.toNat_natCast, mU_n, mU_s, p_min, p_max, p_abs, ni_2, ni_3, ni_4, ni_7, ni_8, ni_9, ni_12, ni_24, ni_97, ni_100, ni_122, ni_200, ni_256, ni_4096, ni_5000, ni_9999, iI_lt, iI_le, iI_eq, iz_eq, iz_lt, iz_le, iz_gt, iz_ge, iy_eq, iy_lt, iy_le, iI_ltN, iI_leN, iI_eqN, if_pos, if_neg, g1, g2, p1, p2, p3, p5, p6, a1, a2]
    refine c_83_79 (by simp only [XB_i, XB_n, va_rf_s, va_rf_n, mSI_K, mSI_I, mSI_J, mSI_P, mSI_N, mSJ_K, mSJ_I, mSJ_J, mSJ_P, mSJ_N, mSP_K, mSP_I, mSP_J, mSP_P, mSP_N, mNn, mNi, mNr, mN0, al20, al21, al22, al23, al25, true_or, or_true, and_self, if_true, if_false, mCat_n, mCat_i, mCat_r, mCat_l, mCat_0, Nat.reduceAdd, Nat.reduceLeDiff, Nat.reduceLT, true_and, and_true, Nat.zero_le, bI_01]) (by rw [p1]) (ct_path_add (c := ((sfC z F.2.2 0).1, (sfC z F.2.2 0).2.1, false)) hp1 (by rw [sfL_len]; omega) (fun T3 h3 f3 => ?_))
    have : basC z F = sfL z F.2.2 F.2.2.length ++ [((sfC z F.2.2 0).1, (sfC z F.2.2 0).2.1, false)] := by unfold basC; rw [if_pos q]
    rw [← this] at h3
    simp only [XB_i, XB_n, va_rf_s, va_rf_n, mSI_K, mSI_I, mSI_J, mSI_P, mSI_N, mSJ_K, mSJ_I, mSJ_J, mSJ_P, mSJ_N, mSP_K, mSP_I, mSP_J, mSP_P, mSP_N, mNn, mNi, mNr, mN0, al20, al21, al22, al23, al25, true_or, or_true, and_self, if_true, if_false, mCat_n, mCat_i, mCat_r, mCat_l, mCat_0, Nat.reduceAdd, Nat.reduceLeDiff, Nat.reduceLT, true_and, and_true, Nat.zero_le, bI_01]
    exact mid T3 h3 (f1.tr f3)
  · simp (maxSteps := 4000000) (disch := first | (simp (disch := omega) only [XB_i, XB_n, va_rf_s, va_rf_n, mSI_K, mSI_I, mSI_J, mSI_P, mSI_N, mSJ_K, mSJ_I, mSJ_J, mSJ_P, mSJ_N, mSP_K, mSP_I, mSP_J, mSP_P, mSP_N, mNn, mNi, mNr, mN0, al20, al21, al22, al23, al25, true_or, or_true, and_self, if_true, if_false, mCat_n, mCat_i, mCat_r, mCat_l, mCat_0, Nat.reduceAdd, Nat.reduceLeDiff, Nat.reduceLT, true_and, and_true, Nat.zero_le, bI_01, mInB_J, mInB_Z, mInB_N, g1, g2]; done) | omega | (unfold R32 at *; omega)) only [e_83_57, e_83_57_n, e_83_58, e_83_61, e_83_62, XB_i, XB_n, va_rf_s, va_rf_n, mSI_K, mSI_I, mSI_J, mSI_P, mSI_N, mSJ_K, mSJ_I, mSJ_J, mSJ_P, mSJ_N, mSP_K, mSP_I, mSP_J, mSP_P, mSP_N, mNn, mNi, mNr, mN0, al20, al21, al22, al23, al25, true_or, or_true, and_self, if_true, if_false, mCat_n, mCat_i, mCat_r, mCat_l, mCat_0, Nat.reduceAdd, Nat.reduceLeDiff, Nat.reduceLT, true_and, and_true, Nat.zero_le, bI_01, bI_0, i10, tf0, iI_add, iI_sub, iI_mul, iI_neg, iI_add1, iI_sub1, iI_m1, nc1, ncm1, iI_clJ, iI_cl0, iI_clN, Int.toNat_natCast, mU_n, mU_s, p_min, p_max, p_abs, ni_2, ni_3, ni_4, ni_7, ni_8, ni_9, ni_12, ni_24, ni_97, ni_100, ni_122, ni_200, ni_256, ni_4096, ni_5000, ni_9999, iI_lt, iI_le, iI_eq, iz_eq, iz_lt, iz_le, iz_gt, iz_ge, iy_eq, iy_lt, iy_le, iI_ltN, iI_leN, iI_eqN, if_pos, if_neg, g1, g2]
    have : basC z F = sfL z F.2.2 F.2.2.length := by unfold basC; rw [if_neg q, List.append_nil]
    rw [← this] at hp1
    exact mid T1 hp1 f1
end SH
