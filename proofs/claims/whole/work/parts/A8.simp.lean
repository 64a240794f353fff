/-! the reference: simplify -/
theorem pX_app {cs : List Cn} {c : Cn} {j : Nat} (h : j < cs.length) : pX (cs ++ [c]) j = pX cs j ∧ pY (cs ++ [c]) j = pY cs j ∧ pG (cs ++ [c]) j = pG cs j := by
  unfold pX pY pG
  rw [List.getD_eq_getElem?_getD, List.getD_eq_getElem?_getD, List.getElem?_append_left h]
  exact ⟨rfl, rfl, rfl⟩
theorem pX_end (cs : List Cn) (c : Cn) : pX (cs ++ [c]) cs.length = c.1 ∧ pY (cs ++ [c]) cs.length = c.2.1 ∧ pG (cs ++ [c]) cs.length = c.2.2 := by
  unfold pX pY pG
  rw [List.getD_eq_getElem?_getD, List.getElem?_append_right (Nat.le_refl _), Nat.sub_self]
  exact ⟨rfl, rfl, rfl⟩
def stS (m : Nat) : Nat → Nat → Prop := fun b _ => b = m + 40
/-- one piece -/
def oneP : List Cn → Prop
  | [] => True
  | c :: r => c.2.2 = true ∧ ∀ d ∈ r, d.2.2 = false
theorem oneP.g : ∀ {cs : List Cn}, oneP cs → ∀ j, j < cs.length → pG cs j = decide (j = 0)
  | [], _, j, hj => by simp at hj
  | c :: r, h, 0, _ => by
    show c.2.2 = _
    rw [h.1]; rfl
  | c :: r, h, j + 1, hj => by
    have hj' : j < r.length := by simpa using hj
    show (r.getD j dC).2.2 = _
    rw [List.getD_eq_getElem?_getD, List.getElem?_eq_getElem hj']
    have := h.2 r[j] (List.getElem_mem hj')
    simpa using this
theorem oneP.ke {S : Nat → Bool} (h0 : S 0 = true) : ∀ {cs : List Cn}, oneP cs → oneP (keL S 0 cs)
  | [], _ => trivial
  | c :: r, h => by
    unfold keL
    rw [h0, if_pos rfl]
    exact ⟨h.1, fun d hd => h.2 d (keL_mem r 1 d hd)⟩
section MI
variable {T : mT} {Q : mOut → mT → Prop} {m : Nat} {cs : List Cn}
theorem lm_s1 {T0 : mT} (hM0 : ModK T0 m) (hC : CwR T0 m cs) (hl : cs.length ≤ 16) : ∀ (k i : Nat) (T : mT), cs.length - i = k → i ≤ cs.length → Mf (stS m) T0 T → (∀ j, j < i → T.2.1 (m + 40) j = bI (decide (j = 0) || decide (j = cs.length - 1))) →
    (∀ T2, (∀ j, j < cs.length → T2.2.1 (m + 40) j = bI (decide (j = 0) || decide (j = cs.length - 1))) → Mf (stS m) T0 T2 → XW 133 41 [some (.ref (m)), some (.int (iI ((cs.length : Nat) : Int))), none, none, none, none] [] T2 Q) → XW 133 2 [some (.ref (m)), some (.int (iI ((i : Nat) : Int))), none, none, none, none] [] T Q := by
  have ns : ∀ b j, cvS m b j → ¬ stS m b j := by rintro b j (⟨q, _⟩ | q) z; unfold stS at z; omega; have := q.2; unfold stS at z; omega
  intro k
  induction k with
  | zero =>
    intro i T hk hi hT hS hQ
    have hM := hM0.mf hT
    have c1 := (hC.mf hT ns).1
    have : i = cs.length := by omega
    subst this
    rw [e_133_2]
    simp (maxSteps := 4000000) (disch := first | (simp (disch := omega) only [XB_i, XB_n, va_rf_s, va_rf_n, mSI_K, mSI_I, mSI_J, mSI_P, mSI_N, mSJ_K, mSJ_I, mSJ_J, mSJ_P, mSJ_N, mSP_K, mSP_I, mSP_J, mSP_P, mSP_N, mNn, mNi, mNr, mN0, al20, al21, al22, al23, al25, true_or, or_true, and_self, if_true, if_false, mCat_n, mCat_i, mCat_r, mCat_l, mCat_0, Nat.reduceAdd, Nat.reduceLeDiff, Nat.reduceLT, true_and, and_true, Nat.zero_le, bI_01, mInB_J, mInB_Z, mInB_N, hM.k, c1]; done) | omega | (unfold R32 at *; omega)) only [e_133_3, e_133_3_n, e_133_4, e_133_7, XB_i, XB_n, va_rf_s, va_rf_n, mSI_K, mSI_I, mSI_J, mSI_P, mSI_N, mSJ_K, mSJ_I, mSJ_J, mSJ_P, mSJ_N, mSP_K, mSP_I, mSP_J, mSP_P, mSP_N, mNn, mNi, mNr, mN0, al20, al21, al22, al23, al25, true_or, or_true, and_self, if_true, if_false, mCat_n, mCat_i, mCat_r, mCat_l, mCat_0, Nat.reduceAdd, Nat.reduceLeDiff, Nat.reduceLT, true_and, and_true, Nat.zero_le, bI_01, bI_0, i10, tf0, iI_add, iI_sub, iI_mul, iI_neg, iI_add1, iI_sub1, iI_m1, nca, nc1, ncm1, iI_clJ, iI_cl0, iI_clN, Int.toNat_natCast, mU_n, mU_s, p_min, p_max, p_abs, ni_2, ni_3, ni_4, ni_7, ni_8, ni_9, ni_12, ni_24, ni_97, ni_100, ni_122, ni_200, ni_256, ni_4096, ni_5000, ni_9999, iI_lt, iI_le, iI_eq, iz_eq, iz_lt, iz_le, iz_gt, iz_ge, iy_eq, iy_lt, iy_le, iI_ltN, iI_leN, iI_eqN, if_pos, if_neg, hM.k, c1]
    exact hQ T hS hT
  | succ k ih =>
    intro i T hk hi hT hS hQ
    have hM := hM0.mf hT
    have c1 := (hC.mf hT ns).1
    have nx : ∀ b : Bool, b = (decide (i = 0) || decide (i = cs.length - 1)) → XW 133 2 [some (.ref (m)), some (.int (iI ((i + 1 : Nat) : Int))), none, none, none, none] [] (mSI T (m + 40) i (bI b)) Q := by
      intro b hb
      refine ih (i + 1) _ (by omega) (by omega) (hT.sI rfl) (fun j hj => ?_) hQ
      rw [mSI_I]
      by_cases q : j = i
      · rw [q, mU_s, hb]
      · rw [mU_n _ _ (by omega)]; exact hS j (by omega)
    have n1 := nx true
    have n0 := nx false
    rw [bI_t] at n1
    rw [bI_f] at n0
    rw [e_133_2]
    by_cases q0 : i = 0
    · subst q0
      simp (maxSteps := 4000000) (disch := first | (simp (disch := omega) only [XB_i, XB_n, va_rf_s, va_rf_n, mSI_K, mSI_I, mSI_J, mSI_P, mSI_N, mSJ_K, mSJ_I, mSJ_J, mSJ_P, mSJ_N, mSP_K, mSP_I, mSP_J, mSP_P, mSP_N, mNn, mNi, mNr, mN0, al20, al21, al22, al23, al25, true_or, or_true, and_self, if_true, if_false, mCat_n, mCat_i, mCat_r, mCat_l, mCat_0, Nat.reduceAdd, Nat.reduceLeDiff, Nat.reduceLT, true_and, and_true, Nat.zero_le, bI_01, mInB_J, mInB_Z, mInB_N, hM.k, hM.r48, hM.a48, c1]; done) | omega | (unfold R32 at *; omega)) only [e_133_3, e_133_3_n, e_133_4, e_133_7, e_133_10, e_133_10_n, e_133_11, e_133_14, e_133_15, e_133_16, e_133_19, e_133_20, e_133_20_n, e_133_21, e_133_24, e_133_25, e_133_26, e_133_29, e_133_30, e_133_33, e_133_34, e_133_34_z, e_133_35, e_133_38, XB_i, XB_n, va_rf_s, va_rf_n, mSI_K, mSI_I, mSI_J, mSI_P, mSI_N, mSJ_K, mSJ_I, mSJ_J, mSJ_P, mSJ_N, mSP_K, mSP_I, mSP_J, mSP_P, mSP_N, mNn, mNi, mNr, mN0, al20, al21, al22, al23, al25, true_or, or_true, and_self, if_true, if_false, mCat_n, mCat_i, mCat_r, mCat_l, mCat_0, Nat.reduceAdd, Nat.reduceLeDiff, Nat.reduceLT, true_and, and_true, Nat.zero_le, bI_01, bI_0, i10, tf0, iI_add, iI_sub, iI_mul, iI_neg, iI_add1, iI_sub1, iI_m1, nca, nc1, ncm1, iI_clJ, iI_cl0, iI_clN, Int.toNat_natCast, mU_n, mU_s, p_min, p_max, p_abs, ni_2, ni_3, ni_4, ni_7, ni_8, ni_9, ni_12, ni_24, ni_97, ni_100, ni_122, ni_200, ni_256, ni_4096, ni_5000, ni_9999, iI_lt, iI_le, iI_eq, iz_eq, iz_lt, iz_le, iz_gt, iz_ge, iy_eq, iy_lt, iy_le, iI_ltN, iI_leN, iI_eqN, if_pos, if_neg, hM.k, hM.r48, hM.a48, c1]
      exact n1 (by simp)
    · by_cases q1 : i = cs.length - 1
      · simp (maxSteps := 4000000) (disch := first | (simp (disch := omega) only [XB_i, XB_n, va_rf_s, va_rf_n, mSI_K, mSI_I, mSI_J, mSI_P, mSI_N, mSJ_K, mSJ_I, mSJ_J, mSJ_P, mSJ_N, mSP_K, mSP_I, mSP_J, mSP_P, mSP_N, mNn, mNi, mNr, mN0, al20, al21, al22, al23, al25, true_or, or_true, and_self, if_true, if_false, mCat_n, mCat_i, mCat_r, mCat_l, mCat_0, Nat.reduceAdd, Nat.reduceLeDiff, Nat.reduceLT, true_and, and_true, Nat.zero_le, bI_01, mInB_J, mInB_Z, mInB_N, hM.k, hM.r48, hM.a48, c1]; done) | omega | (unfold R32 at *; omega)) only [e_133_3, e_133_3_n, e_133_4, e_133_7, e_133_10, e_133_10_n, e_133_11, e_133_14, e_133_15, e_133_16, e_133_19, e_133_20, e_133_20_n, e_133_21, e_133_24, e_133_25, e_133_26, e_133_29, e_133_30, e_133_33, e_133_34, e_133_34_z, e_133_35, e_133_38, XB_i, XB_n, va_rf_s, va_rf_n, mSI_K, mSI_I, mSI_J, mSI_P, mSI_N, mSJ_K, mSJ_I, mSJ_J, mSJ_P, mSJ_N, mSP_K, mSP_I, mSP_J, mSP_P, mSP_N, mNn, mNi, mNr, mN0, al20, al21, al22, al23, al25, true_or, or_true, and_self, if_true, if_false, mCat_n, mCat_i, mCat_r, mCat_l, mCat_0, Nat.reduceAdd, Nat.reduceLeDiff, Nat.reduceLT, true_and, and_true, Nat.zero_le, bI_01, bI_0, i10, tf0, iI_add, iI_sub, iI_mul, iI_neg, iI_add1, iI_sub1, iI_m1, nca, nc1, ncm1, iI_clJ, iI_cl0, iI_clN, Int.toNat_natCast, mU_n, mU_s, p_min, p_max, p_abs, ni_2, ni_3, ni_4, ni_7, ni_8, ni_9, ni_12, ni_24, ni_97, ni_100, ni_122, ni_200, ni_256, ni_4096, ni_5000, ni_9999, iI_lt, iI_le, iI_eq, iz_eq, iz_lt, iz_le, iz_gt, iz_ge, iy_eq, iy_lt, iy_le, iI_ltN, iI_leN, iI_eqN, if_pos, if_neg, hM.k, hM.r48, hM.a48, c1]
        exact n1 (by simp [q1])
      · simp (maxSteps := 4000000) (disch := first | (simp (disch := omega) only [XB_i, XB_n, va_rf_s, va_rf_n, mSI_K, mSI_I, mSI_J, mSI_P, mSI_N, mSJ_K, mSJ_I, mSJ_J, mSJ_P, mSJ_N, mSP_K, mSP_I, mSP_J, mSP_P, mSP_N, mNn, mNi, mNr, mN0, al20, al21, al22, al23, al25, true_or, or_true, and_self, if_true, if_false, mCat_n, mCat_i, mCat_r, mCat_l, mCat_0, Nat.reduceAdd, Nat.reduceLeDiff, Nat.reduceLT, true_and, and_true, Nat.zero_le, bI_01, mInB_J, mInB_Z, mInB_N, hM.k, hM.r48, hM.a48, c1]; done) | omega | (unfold R32 at *; omega)) only [e_133_3, e_133_3_n, e_133_4, e_133_7, e_133_10, e_133_10_n, e_133_11, e_133_14, e_133_15, e_133_16, e_133_19, e_133_20, e_133_20_n, e_133_21, e_133_24, e_133_25, e_133_26, e_133_29, e_133_30, e_133_33, e_133_34, e_133_34_z, e_133_35, e_133_38, XB_i, XB_n, va_rf_s, va_rf_n, mSI_K, mSI_I, mSI_J, mSI_P, mSI_N, mSJ_K, mSJ_I, mSJ_J, mSJ_P, mSJ_N, mSP_K, mSP_I, mSP_J, mSP_P, mSP_N, mNn, mNi, mNr, mN0, al20, al21, al22, al23, al25, true_or, or_true, and_self, if_true, if_false, mCat_n, mCat_i, mCat_r, mCat_l, mCat_0, Nat.reduceAdd, Nat.reduceLeDiff, Nat.reduceLT, true_and, and_true, Nat.zero_le, bI_01, bI_0, i10, tf0, iI_add, iI_sub, iI_mul, iI_neg, iI_add1, iI_sub1, iI_m1, nca, nc1, ncm1, iI_clJ, iI_cl0, iI_clN, Int.toNat_natCast, mU_n, mU_s, p_min, p_max, p_abs, ni_2, ni_3, ni_4, ni_7, ni_8, ni_9, ni_12, ni_24, ni_97, ni_100, ni_122, ni_200, ni_256, ni_4096, ni_5000, ni_9999, iI_lt, iI_le, iI_eq, iz_eq, iz_lt, iz_le, iz_gt, iz_ge, iy_eq, iy_lt, iy_le, iI_ltN, iI_leN, iI_eqN, if_pos, if_neg, hM.k, hM.r48, hM.a48, c1]
        exact n0 (by simp [q0, q1])
theorem lm_s2 {T0 : mT} {L u0 turn : Nat} (hM0 : ModK T0 m) (hC : CwR T0 m cs) (hB : wB cs) (hL : cs.length = L + 1) (hl : L ≤ 12) : ∀ (k b : Nat) (T : mT) (S : Nat → Bool) (a : Nat) (more : Bool) (l5 : Option Value), L + 1 - b = k → b ≤ L + 1 → a < b → Mf (stS m) T0 T → (∀ j, j ≤ L → T.2.1 (m + 40) j = bI (S j)) → invM (farC cs) L S → S a = true → (∀ j, a < j → j < b → S j = false) → (more = false → ∀ a' b', b' ≤ a → cns S a' b' → farC cs a' b' = none) → um S L + (if more then 1 else 0) ≤ u0 →
    (∀ (T2 : mT) (S2 : Nat → Bool) (more2 : Bool) (l3 l4 l5 : Option Value), Mf (stS m) T0 T2 → (∀ j, j ≤ L → T2.2.1 (m + 40) j = bI (S2 j)) → invM (farC cs) L S2 → (more2 = false → ∀ a' b', b' ≤ L → cns S2 a' b' → farC cs a' b' = none) → um S2 L + (if more2 then 1 else 0) ≤ u0 → mNL l3 = true → XW 133 115 [some (.ref (m)), some (.int (bI more2)), some (.int (iI ((turn : Nat) : Int))), l3, l4, l5] [] T2 Q) → XW 133 62 [some (.ref (m)), some (.int (bI more)), some (.int (iI ((turn : Nat) : Int))), some (.int (iI ((a : Nat) : Int))), some (.int (iI ((b : Nat) : Int))), l5] [] T Q := by
  have ns : ∀ b j, cvS m b j → ¬ stS m b j := by rintro b j (⟨q, _⟩ | q) z; unfold stS at z; omega; have := q.2; unfold stS at z; omega
  intro k
  induction k with
  | zero =>
    intro b T S a more l5 hk hb hab hT hS hI hSa hgap hno hu hQ
    have hM := hM0.mf hT
    have c1 := (hC.mf hT ns).1
    rw [hL] at c1
    have : b = L + 1 := by omega
    subst this
    have ha : a = L := by
      rcases Nat.lt_or_ge a L with z | z
      · have := hgap L z (by omega)
        rw [hI.2.1] at this
        exact absurd this (by decide)
      · omega
    rw [e_133_62]
    simp (maxSteps := 4000000) (disch := first | (simp (disch := omega) only [XB_i, XB_n, va_rf_s, va_rf_n, mSI_K, mSI_I, mSI_J, mSI_P, mSI_N, mSJ_K, mSJ_I, mSJ_J, mSJ_P, mSJ_N, mSP_K, mSP_I, mSP_J, mSP_P, mSP_N, mNn, mNi, mNr, mN0, al20, al21, al22, al23, al25, true_or, or_true, and_self, if_true, if_false, mCat_n, mCat_i, mCat_r, mCat_l, mCat_0, Nat.reduceAdd, Nat.reduceLeDiff, Nat.reduceLT, true_and, and_true, Nat.zero_le, bI_01, mInB_J, mInB_Z, mInB_N, hM.k, c1]; done) | omega | (unfold R32 at *; omega)) only [e_133_64, e_133_64_n, e_133_65, e_133_68, XB_i, XB_n, va_rf_s, va_rf_n, mSI_K, mSI_I, mSI_J, mSI_P, mSI_N, mSJ_K, mSJ_I, mSJ_J, mSJ_P, mSJ_N, mSP_K, mSP_I, mSP_J, mSP_P, mSP_N, mNn, mNi, mNr, mN0, al20, al21, al22, al23, al25, true_or, or_true, and_self, if_true, if_false, mCat_n, mCat_i, mCat_r, mCat_l, mCat_0, Nat.reduceAdd, Nat.reduceLeDiff, Nat.reduceLT, true_and, and_true, Nat.zero_le, bI_01, bI_0, i10, tf0, iI_add, iI_sub, iI_mul, iI_neg, iI_add1, iI_sub1, iI_m1, nca, nc1, ncm1, iI_clJ, iI_cl0, iI_clN, Int.toNat_natCast, mU_n, mU_s, p_min, p_max, p_abs, ni_2, ni_3, ni_4, ni_7, ni_8, ni_9, ni_12, ni_24, ni_97, ni_100, ni_122, ni_200, ni_256, ni_4096, ni_5000, ni_9999, iI_lt, iI_le, iI_eq, iz_eq, iz_lt, iz_le, iz_gt, iz_ge, iy_eq, iy_lt, iy_le, iI_ltN, iI_leN, iI_eqN, if_pos, if_neg, hM.k, c1]
    exact hQ T S more _ _ _ hT hS hI (fun z a' b' h1 h2 => hno z a' b' (by omega) h2) hu (mNi _)
  | succ k ih =>
    intro b T S a more l5 hk hb hab hT hS hI hSa hgap hno hu hQ
    have hM := hM0.mf hT
    have hCT := hC.mf hT ns
    have c1 := hCT.1
    rw [hL] at c1
    have s1 := hS b (by omega)
    rw [e_133_62]
    cases hSb : S b with
    | false =>
      rw [hSb] at s1
      simp (maxSteps := 4000000) (disch := first | (simp (disch := omega) only [XB_i, XB_n, va_rf_s, va_rf_n, mSI_K, mSI_I, mSI_J, mSI_P, mSI_N, mSJ_K, mSJ_I, mSJ_J, mSJ_P, mSJ_N, mSP_K, mSP_I, mSP_J, mSP_P, mSP_N, mNn, mNi, mNr, mN0, al20, al21, al22, al23, al25, true_or, or_true, and_self, if_true, if_false, mCat_n, mCat_i, mCat_r, mCat_l, mCat_0, Nat.reduceAdd, Nat.reduceLeDiff, Nat.reduceLT, true_and, and_true, Nat.zero_le, bI_01, mInB_J, mInB_Z, mInB_N, hM.k, hM.r48, hM.a48, c1, s1, bI_f]; done) | omega | (unfold R32 at *; omega)) only [e_133_64, e_133_64_n, e_133_65, e_133_68, e_133_71, e_133_71_n, e_133_72, e_133_75, e_133_77, e_133_78, e_133_109, e_133_112, XB_i, XB_n, va_rf_s, va_rf_n, mSI_K, mSI_I, mSI_J, mSI_P, mSI_N, mSJ_K, mSJ_I, mSJ_J, mSJ_P, mSJ_N, mSP_K, mSP_I, mSP_J, mSP_P, mSP_N, mNn, mNi, mNr, mN0, al20, al21, al22, al23, al25, true_or, or_true, and_self, if_true, if_false, mCat_n, mCat_i, mCat_r, mCat_l, mCat_0, Nat.reduceAdd, Nat.reduceLeDiff, Nat.reduceLT, true_and, and_true, Nat.zero_le, bI_01, bI_0, i10, tf0, iI_add, iI_sub, iI_mul, iI_neg, iI_add1, iI_sub1, iI_m1, nca, nc1, ncm1, iI_clJ, iI_cl0, iI_clN, Int.toNat_natCast, mU_n, mU_s, p_min, p_max, p_abs, ni_2, ni_3, ni_4, ni_7, ni_8, ni_9, ni_12, ni_24, ni_97, ni_100, ni_122, ni_200, ni_256, ni_4096, ni_5000, ni_9999, iI_lt, iI_le, iI_eq, iz_eq, iz_lt, iz_le, iz_gt, iz_ge, iy_eq, iy_lt, iy_le, iI_ltN, iI_leN, iI_eqN, if_pos, if_neg, hM.k, hM.r48, hM.a48, c1, s1, bI_f]
      refine ih (b + 1) T S a more l5 (by omega) (by omega) (by omega) hT hS hI hSa (fun j h1 h2 => ?_) hno hu hQ
      rcases Nat.lt_succ_iff_lt_or_eq.mp h2 with z | z
      · exact hgap j h1 z
      · rw [z]; exact hSb
    | true =>
      rw [hSb] at s1
      have hcn : cns S a b := ⟨hSa, hSb, hab, hgap⟩
      have pf := fun Q => @m_far T Q m cs a b hM hCT hB hab (by omega) (by omega)
      cases hf : farC cs a b with
      | none =>
        rw [hf] at pf
        have eo : oN none = -1 := rfl
        rw [eo] at pf
        simp (maxSteps := 4000000) (disch := first | (simp (disch := omega) only [XB_i, XB_n, va_rf_s, va_rf_n, mSI_K, mSI_I, mSI_J, mSI_P, mSI_N, mSJ_K, mSJ_I, mSJ_J, mSJ_P, mSJ_N, mSP_K, mSP_I, mSP_J, mSP_P, mSP_N, mNn, mNi, mNr, mN0, al20, al21, al22, al23, al25, true_or, or_true, and_self, if_true, if_false, mCat_n, mCat_i, mCat_r, mCat_l, mCat_0, Nat.reduceAdd, Nat.reduceLeDiff, Nat.reduceLT, true_and, and_true, Nat.zero_le, bI_01, mInB_J, mInB_Z, mInB_N, hM.k, hM.r48, hM.a48, c1, s1, bI_t, pf, nim1]; done) | omega | (unfold R32 at *; omega)) only [e_133_64, e_133_64_n, e_133_65, e_133_68, e_133_71, e_133_71_n, e_133_72, e_133_75, e_133_77, e_133_78, e_133_81, e_133_81_n, e_133_82, e_133_83, e_133_88, e_133_90, e_133_92, e_133_93, e_133_96, e_133_96_n, e_133_97, e_133_100, e_133_102, e_133_103, e_133_103_z, e_133_104, e_133_105, e_133_106, e_133_108, e_133_109, e_133_112, d_133_85, XB_i, XB_n, va_rf_s, va_rf_n, mSI_K, mSI_I, mSI_J, mSI_P, mSI_N, mSJ_K, mSJ_I, mSJ_J, mSJ_P, mSJ_N, mSP_K, mSP_I, mSP_J, mSP_P, mSP_N, mNn, mNi, mNr, mN0, al20, al21, al22, al23, al25, true_or, or_true, and_self, if_true, if_false, mCat_n, mCat_i, mCat_r, mCat_l, mCat_0, Nat.reduceAdd, Nat.reduceLeDiff, Nat.reduceLT, true_and, and_true, Nat.zero_le, bI_01, bI_0, i10, tf0, iI_add, iI_sub, iI_mul, iI_neg, iI_add1, iI_sub1, iI_m1, nca, nc1, ncm1, iI_clJ, iI_cl0, iI_clN, Int.toNat_natCast, mU_n, mU_s, p_min, p_max, p_abs, ni_2, ni_3, ni_4, ni_7, ni_8, ni_9, ni_12, ni_24, ni_97, ni_100, ni_122, ni_200, ni_256, ni_4096, ni_5000, ni_9999, iI_lt, iI_le, iI_eq, iz_eq, iz_lt, iz_le, iz_gt, iz_ge, iy_eq, iy_lt, iy_le, iI_ltN, iI_leN, iI_eqN, if_pos, if_neg, hM.k, hM.r48, hM.a48, c1, s1, bI_t, pf, nim1]
        refine ih (b + 1) T S b more _ (by omega) (by omega) (by omega) hT hS hI hSb (fun j h1 h2 => by omega) (fun z a' b' h1 h2 => ?_) hu hQ
        rcases Nat.lt_or_ge a b' with y | y
        · have eb : b' = b := by
            rcases Nat.lt_or_ge b' b with x | x
            · have := hgap b' y x
              rw [h2.2.1] at this
              exact absurd this (by decide)
            · omega
          subst eb
          have ea : a' = a := by
            rcases Nat.lt_trichotomy a' a with x | x | x
            · have := h2.2.2.2 a x hab
              rw [hSa] at this
              exact absurd this (by decide)
            · exact x
            · have := hgap a' x h2.2.2.1
              rw [h2.1] at this
              exact absurd this (by decide)
          rw [ea]; exact hf
        · exact hno z a' b' y h2
      | some c =>
        rw [hf] at pf
        obtain ⟨fc1, fc2⟩ := farC_I cs a b c hf
        have eo : oN (some c) = (c : Int) := rfl
        rw [eo] at pf
        have hSc := hgap c fc1 fc2
        have um1 := um_upd hSc L
        rw [if_pos (by omega)] at um1
        simp (maxSteps := 4000000) (disch := first | (simp (disch := omega) only [XB_i, XB_n, va_rf_s, va_rf_n, mSI_K, mSI_I, mSI_J, mSI_P, mSI_N, mSJ_K, mSJ_I, mSJ_J, mSJ_P, mSJ_N, mSP_K, mSP_I, mSP_J, mSP_P, mSP_N, mNn, mNi, mNr, mN0, al20, al21, al22, al23, al25, true_or, or_true, and_self, if_true, if_false, mCat_n, mCat_i, mCat_r, mCat_l, mCat_0, Nat.reduceAdd, Nat.reduceLeDiff, Nat.reduceLT, true_and, and_true, Nat.zero_le, bI_01, mInB_J, mInB_Z, mInB_N, hM.k, hM.r48, hM.a48, c1, s1, bI_t, pf, nim1]; done) | omega | (unfold R32 at *; omega)) only [e_133_64, e_133_64_n, e_133_65, e_133_68, e_133_71, e_133_71_n, e_133_72, e_133_75, e_133_77, e_133_78, e_133_81, e_133_81_n, e_133_82, e_133_83, e_133_88, e_133_90, e_133_92, e_133_93, e_133_96, e_133_96_n, e_133_97, e_133_100, e_133_102, e_133_103, e_133_103_z, e_133_104, e_133_105, e_133_106, e_133_108, e_133_109, e_133_112, d_133_85, XB_i, XB_n, va_rf_s, va_rf_n, mSI_K, mSI_I, mSI_J, mSI_P, mSI_N, mSJ_K, mSJ_I, mSJ_J, mSJ_P, mSJ_N, mSP_K, mSP_I, mSP_J, mSP_P, mSP_N, mNn, mNi, mNr, mN0, al20, al21, al22, al23, al25, true_or, or_true, and_self, if_true, if_false, mCat_n, mCat_i, mCat_r, mCat_l, mCat_0, Nat.reduceAdd, Nat.reduceLeDiff, Nat.reduceLT, true_and, and_true, Nat.zero_le, bI_01, bI_0, i10, tf0, iI_add, iI_sub, iI_mul, iI_neg, iI_add1, iI_sub1, iI_m1, nca, nc1, ncm1, iI_clJ, iI_cl0, iI_clN, Int.toNat_natCast, mU_n, mU_s, p_min, p_max, p_abs, ni_2, ni_3, ni_4, ni_7, ni_8, ni_9, ni_12, ni_24, ni_97, ni_100, ni_122, ni_200, ni_256, ni_4096, ni_5000, ni_9999, iI_lt, iI_le, iI_eq, iz_eq, iz_lt, iz_le, iz_gt, iz_ge, iy_eq, iy_lt, iy_le, iI_ltN, iI_leN, iI_eqN, if_pos, if_neg, hM.k, hM.r48, hM.a48, c1, s1, bI_t, pf, nim1]
        refine ih (b + 1) (mSI T (m + 40) c 1) (updS S c) b true _ (by omega) (by omega) (by omega) (hT.sI rfl) (fun j hj => ?_) (invM_mark (farC_I cs) hI (by omega) hcn hf) ?_ (fun j h1 h2 => by omega) (fun z => absurd z (by decide)) ?_ hQ
        · unfold updS
          by_cases e : j = c
          · rw [if_pos e, e]; show _ = (1 : Int32); (simp (disch := omega) only [mSI_I, mSI_J, mSI_P, mSJ_I, mSJ_J, mSJ_P, mSP_I, mSP_J, mSP_P, mU_n, mU_s] <;> first | done | rfl | assumption)
          · rw [if_neg e, ← hS j hj]; (simp (disch := omega) only [mSI_I, mSI_J, mSI_P, mSJ_I, mSJ_J, mSJ_P, mSP_I, mSP_J, mSP_P, mU_n, mU_s] <;> first | done | rfl | assumption)
        · unfold updS
          rw [if_neg (by omega)]; exact hSb
        · rw [if_pos rfl]
          have : um S L ≤ u0 := by split at hu <;> omega
          omega
theorem lm_s3 {T0 : mT} {L : Nat} (hM0 : ModK T0 m) (hC : CwR T0 m cs) (hB : wB cs) (hL : cs.length = L + 1) (hl : L ≤ 12) (hL0 : 0 < L) : ∀ (u : Nat) (turn : Nat) (T : mT) (S : Nat → Bool) (more : Bool) (l3 l4 l5 : Option Value), um S L + (if more then 1 else 0) ≤ u → turn + u ≤ 15 → Mf (stS m) T0 T → (∀ j, j ≤ L → T.2.1 (m + 40) j = bI (S j)) → invM (farC cs) L S → (more = false → ∀ a' b', b' ≤ L → cns S a' b' → farC cs a' b' = none) →
    (∀ (T2 : mT) (l1 l2 l3 l4 l5 : Option Value), Mf (stS m) T0 T2 → (∀ j, j ≤ L → T2.2.1 (m + 40) j = bI (ksB (farC cs) L j)) → mNL l1 = true → mNL l2 = true → mNL l3 = true → XW 133 121 [some (.ref (m)), l1, l2, l3, l4, l5] [] T2 Q) → mNL l3 = true → XW 133 45 [some (.ref (m)), some (.int (bI more)), some (.int (iI ((turn : Nat) : Int))), l3, l4, l5] [] T Q := by
  intro u
  induction u with
  | zero =>
    intro turn T S more l3 l4 l5 hu ht hT hS hI hno hQ h3
    cases more with
    | true => rw [if_pos rfl] at hu; omega
    | false =>
      rw [e_133_45]
      have n16 : (16 : Int32) = iI 16 := rfl
      simp (maxSteps := 4000000) (disch := first | (simp (disch := omega) only [XB_i, XB_n, va_rf_s, va_rf_n, mSI_K, mSI_I, mSI_J, mSI_P, mSI_N, mSJ_K, mSJ_I, mSJ_J, mSJ_P, mSJ_N, mSP_K, mSP_I, mSP_J, mSP_P, mSP_N, mNn, mNi, mNr, mN0, al20, al21, al22, al23, al25, true_or, or_true, and_self, if_true, if_false, mCat_n, mCat_i, mCat_r, mCat_l, mCat_0, Nat.reduceAdd, Nat.reduceLeDiff, Nat.reduceLT, true_and, and_true, Nat.zero_le, bI_01, mInB_J, mInB_Z, mInB_N, bI_f, n16]; done) | omega | (unfold R32 at *; omega)) only [e_133_46, e_133_48, e_133_51, e_133_52, XB_i, XB_n, va_rf_s, va_rf_n, mSI_K, mSI_I, mSI_J, mSI_P, mSI_N, mSJ_K, mSJ_I, mSJ_J, mSJ_P, mSJ_N, mSP_K, mSP_I, mSP_J, mSP_P, mSP_N, mNn, mNi, mNr, mN0, al20, al21, al22, al23, al25, true_or, or_true, and_self, if_true, if_false, mCat_n, mCat_i, mCat_r, mCat_l, mCat_0, Nat.reduceAdd, Nat.reduceLeDiff, Nat.reduceLT, true_and, and_true, Nat.zero_le, bI_01, bI_0, i10, tf0, iI_add, iI_sub, iI_mul, iI_neg, iI_add1, iI_sub1, iI_m1, nca, nc1, ncm1, iI_clJ, iI_cl0, iI_clN, Int.toNat_natCast, mU_n, mU_s, p_min, p_max, p_abs, ni_2, ni_3, ni_4, ni_7, ni_8, ni_9, ni_12, ni_24, ni_97, ni_100, ni_122, ni_200, ni_256, ni_4096, ni_5000, ni_9999, iI_lt, iI_le, iI_eq, iz_eq, iz_lt, iz_le, iz_gt, iz_ge, iy_eq, iy_lt, iy_le, iI_ltN, iI_leN, iI_eqN, if_pos, if_neg, bI_f, n16]
      exact hQ T _ _ _ _ _ hT (fun j hj => by rw [hS j hj, invM_end hI (hno rfl) hj]) (mNi _) (mNi _) h3
  | succ u ih =>
    intro turn T S more l3 l4 l5 hu ht hT hS hI hno hQ h3
    have n16 : (16 : Int32) = iI 16 := rfl
    cases more with
    | false =>
      rw [e_133_45]
      simp (maxSteps := 4000000) (disch := first | (simp (disch := omega) only [XB_i, XB_n, va_rf_s, va_rf_n, mSI_K, mSI_I, mSI_J, mSI_P, mSI_N, mSJ_K, mSJ_I, mSJ_J, mSJ_P, mSJ_N, mSP_K, mSP_I, mSP_J, mSP_P, mSP_N, mNn, mNi, mNr, mN0, al20, al21, al22, al23, al25, true_or, or_true, and_self, if_true, if_false, mCat_n, mCat_i, mCat_r, mCat_l, mCat_0, Nat.reduceAdd, Nat.reduceLeDiff, Nat.reduceLT, true_and, and_true, Nat.zero_le, bI_01, mInB_J, mInB_Z, mInB_N, bI_f, n16]; done) | omega | (unfold R32 at *; omega)) only [e_133_46, e_133_48, e_133_51, e_133_52, XB_i, XB_n, va_rf_s, va_rf_n, mSI_K, mSI_I, mSI_J, mSI_P, mSI_N, mSJ_K, mSJ_I, mSJ_J, mSJ_P, mSJ_N, mSP_K, mSP_I, mSP_J, mSP_P, mSP_N, mNn, mNi, mNr, mN0, al20, al21, al22, al23, al25, true_or, or_true, and_self, if_true, if_false, mCat_n, mCat_i, mCat_r, mCat_l, mCat_0, Nat.reduceAdd, Nat.reduceLeDiff, Nat.reduceLT, true_and, and_true, Nat.zero_le, bI_01, bI_0, i10, tf0, iI_add, iI_sub, iI_mul, iI_neg, iI_add1, iI_sub1, iI_m1, nca, nc1, ncm1, iI_clJ, iI_cl0, iI_clN, Int.toNat_natCast, mU_n, mU_s, p_min, p_max, p_abs, ni_2, ni_3, ni_4, ni_7, ni_8, ni_9, ni_12, ni_24, ni_97, ni_100, ni_122, ni_200, ni_256, ni_4096, ni_5000, ni_9999, iI_lt, iI_le, iI_eq, iz_eq, iz_lt, iz_le, iz_gt, iz_ge, iy_eq, iy_lt, iy_le, iI_ltN, iI_leN, iI_eqN, if_pos, if_neg, bI_f, n16]
      exact hQ T _ _ _ _ _ hT (fun j hj => by rw [hS j hj, invM_end hI (hno rfl) hj]) (mNi _) (mNi _) h3
    | true =>
      rw [if_pos rfl] at hu
      rw [e_133_45]
      simp (maxSteps := 4000000) (disch := first | (simp (disch := omega) only [XB_i, XB_n, va_rf_s, va_rf_n, mSI_K, mSI_I, mSI_J, mSI_P, mSI_N, mSJ_K, mSJ_I, mSJ_J, mSJ_P, mSJ_N, mSP_K, mSP_I, mSP_J, mSP_P, mSP_N, mNn, mNi, mNr, mN0, al20, al21, al22, al23, al25, true_or, or_true, and_self, if_true, if_false, mCat_n, mCat_i, mCat_r, mCat_l, mCat_0, Nat.reduceAdd, Nat.reduceLeDiff, Nat.reduceLT, true_and, and_true, Nat.zero_le, bI_01, mInB_J, mInB_Z, mInB_N, bI_t, n16, h3]; done) | omega | (unfold R32 at *; omega)) only [e_133_46, e_133_48, e_133_51, e_133_52, e_133_55, e_133_56, e_133_57, e_133_58, e_133_59, e_133_60, XB_i, XB_n, va_rf_s, va_rf_n, mSI_K, mSI_I, mSI_J, mSI_P, mSI_N, mSJ_K, mSJ_I, mSJ_J, mSJ_P, mSJ_N, mSP_K, mSP_I, mSP_J, mSP_P, mSP_N, mNn, mNi, mNr, mN0, al20, al21, al22, al23, al25, true_or, or_true, and_self, if_true, if_false, mCat_n, mCat_i, mCat_r, mCat_l, mCat_0, Nat.reduceAdd, Nat.reduceLeDiff, Nat.reduceLT, true_and, and_true, Nat.zero_le, bI_01, bI_0, i10, tf0, iI_add, iI_sub, iI_mul, iI_neg, iI_add1, iI_sub1, iI_m1, nca, nc1, ncm1, iI_clJ, iI_cl0, iI_clN, Int.toNat_natCast, mU_n, mU_s, p_min, p_max, p_abs, ni_2, ni_3, ni_4, ni_7, ni_8, ni_9, ni_12, ni_24, ni_97, ni_100, ni_122, ni_200, ni_256, ni_4096, ni_5000, ni_9999, iI_lt, iI_le, iI_eq, iz_eq, iz_lt, iz_le, iz_gt, iz_ge, iy_eq, iy_lt, iy_le, iI_ltN, iI_leN, iI_eqN, if_pos, if_neg, bI_t, n16, h3]
      refine lm_s2 (u0 := u) (turn := turn) (L := L) hM0 hC hB hL hl _ 1 T S 0 false l5 rfl (by omega) (by omega) hT hS hI hI.1 (fun j h1 h2 => by omega) (fun _ a' b' h1 h2 => by have := h2.2.2.1; omega) (by rw [if_neg (by decide)]; omega) ?_
      intro T2 S2 more2 l3' l4' l5' hT2 hS2 hI2 hno2 hu2 h3'
      simp (maxSteps := 4000000) (disch := first | (simp (disch := omega) only [XB_i, XB_n, va_rf_s, va_rf_n, mSI_K, mSI_I, mSI_J, mSI_P, mSI_N, mSJ_K, mSJ_I, mSJ_J, mSJ_P, mSJ_N, mSP_K, mSP_I, mSP_J, mSP_P, mSP_N, mNn, mNi, mNr, mN0, al20, al21, al22, al23, al25, true_or, or_true, and_self, if_true, if_false, mCat_n, mCat_i, mCat_r, mCat_l, mCat_0, Nat.reduceAdd, Nat.reduceLeDiff, Nat.reduceLT, true_and, and_true, Nat.zero_le, bI_01, mInB_J, mInB_Z, mInB_N]; done) | omega | (unfold R32 at *; omega)) only [e_133_115, e_133_118, XB_i, XB_n, va_rf_s, va_rf_n, mSI_K, mSI_I, mSI_J, mSI_P, mSI_N, mSJ_K, mSJ_I, mSJ_J, mSJ_P, mSJ_N, mSP_K, mSP_I, mSP_J, mSP_P, mSP_N, mNn, mNi, mNr, mN0, al20, al21, al22, al23, al25, true_or, or_true, and_self, if_true, if_false, mCat_n, mCat_i, mCat_r, mCat_l, mCat_0, Nat.reduceAdd, Nat.reduceLeDiff, Nat.reduceLT, true_and, and_true, Nat.zero_le, bI_01, bI_0, i10, tf0, iI_add, iI_sub, iI_mul, iI_neg, iI_add1, iI_sub1, iI_m1, nca, nc1, ncm1, iI_clJ, iI_cl0, iI_clN, Int.toNat_natCast, mU_n, mU_s, p_min, p_max, p_abs, ni_2, ni_3, ni_4, ni_7, ni_8, ni_9, ni_12, ni_24, ni_97, ni_100, ni_122, ni_200, ni_256, ni_4096, ni_5000, ni_9999, iI_lt, iI_le, iI_eq, iz_eq, iz_lt, iz_le, iz_gt, iz_ge, iy_eq, iy_lt, iy_le, iI_ltN, iI_leN, iI_eqN, if_pos, if_neg]
      exact ih (turn + 1) T2 S2 more2 l3' l4' l5' hu2 (by omega) hT2 hS2 hI2 hno2 hQ h3'
/-- where simplify writes -/
def smS (m : Nat) : Nat → Nat → Prop := fun b j => cvS m b j ∨ b = m + 40
theorem lm_s4 {S : Nat → Bool} {l1 l4 l5 : Option Value} {N : Nat} (hN : N ≤ 16) (h1 : mNL l1 = true) : ∀ (rest : List Cn) (i : Nat) (T0 T : mT) (out : List Cn), i + rest.length = N → out.length ≤ i → ModK T0 m → Mf (smS m) T0 T → T.2.1 m 43 = iI N → (∀ j, j < N → T.2.1 (m + 40) j = bI (S j)) → (∀ j, j < out.length → T.2.1 (m + 34) j = iI (pX out j) ∧ T.2.1 (m + 35) j = iI (pY out j) ∧ T.2.1 (m + 36) j = bI (decide (j = 0))) → (∀ j, j < rest.length → T.2.1 (m + 34) (i + j) = iI (pX rest j) ∧ T.2.1 (m + 35) (i + j) = iI (pY rest j)) →
    (∀ T2, T2.2.1 m 43 = iI (out ++ keL S i rest).length → (∀ j, j < (out ++ keL S i rest).length → T2.2.1 (m + 34) j = iI (pX (out ++ keL S i rest) j) ∧ T2.2.1 (m + 35) j = iI (pY (out ++ keL S i rest) j) ∧ T2.2.1 (m + 36) j = bI (decide (j = 0))) → Mf (smS m) T0 T2 → Q (.inl none) T2) → XW 133 125 [some (.ref (m)), l1, some (.int (iI ((out.length : Nat) : Int))), some (.int (iI ((i : Nat) : Int))), l4, l5] [] T Q := by
  intro rest
  induction rest with
  | nil =>
    intro i T0 T out hi ho hM0 hT h43 hst hout hrest hQ
    have hM := hM0.mf hT
    have : i = N := by simpa using hi
    subst this
    rw [e_133_125]
    simp (maxSteps := 4000000) (disch := first | (simp (disch := omega) only [XB_i, XB_n, va_rf_s, va_rf_n, mSI_K, mSI_I, mSI_J, mSI_P, mSI_N, mSJ_K, mSJ_I, mSJ_J, mSJ_P, mSJ_N, mSP_K, mSP_I, mSP_J, mSP_P, mSP_N, mNn, mNi, mNr, mN0, al20, al21, al22, al23, al25, true_or, or_true, and_self, if_true, if_false, mCat_n, mCat_i, mCat_r, mCat_l, mCat_0, Nat.reduceAdd, Nat.reduceLeDiff, Nat.reduceLT, true_and, and_true, Nat.zero_le, bI_01, mInB_J, mInB_Z, mInB_N, hM.k, h43]; done) | omega | (unfold R32 at *; omega)) only [e_133_126, e_133_126_n, e_133_127, e_133_130, e_133_190, e_133_190_n, e_133_191, e_133_192, e_133_195, XB_i, XB_n, va_rf_s, va_rf_n, mSI_K, mSI_I, mSI_J, mSI_P, mSI_N, mSJ_K, mSJ_I, mSJ_J, mSJ_P, mSJ_N, mSP_K, mSP_I, mSP_J, mSP_P, mSP_N, mNn, mNi, mNr, mN0, al20, al21, al22, al23, al25, true_or, or_true, and_self, if_true, if_false, mCat_n, mCat_i, mCat_r, mCat_l, mCat_0, Nat.reduceAdd, Nat.reduceLeDiff, Nat.reduceLT, true_and, and_true, Nat.zero_le, bI_01, bI_0, i10, tf0, iI_add, iI_sub, iI_mul, iI_neg, iI_add1, iI_sub1, iI_m1, nca, nc1, ncm1, iI_clJ, iI_cl0, iI_clN, Int.toNat_natCast, mU_n, mU_s, p_min, p_max, p_abs, ni_2, ni_3, ni_4, ni_7, ni_8, ni_9, ni_12, ni_24, ni_97, ni_100, ni_122, ni_200, ni_256, ni_4096, ni_5000, ni_9999, iI_lt, iI_le, iI_eq, iz_eq, iz_lt, iz_le, iz_gt, iz_ge, iy_eq, iy_lt, iy_le, iI_ltN, iI_leN, iI_eqN, if_pos, if_neg, hM.k, h43]
    unfold keL at hQ
    rw [List.append_nil] at hQ
    exact hQ _ (by (simp (disch := omega) only [mSI_I, mSI_J, mSI_P, mSJ_I, mSJ_J, mSJ_P, mSP_I, mSP_J, mSP_P, mU_n, mU_s] <;> first | done | rfl | assumption)) (fun j hj => by obtain ⟨a1, a2, a3⟩ := hout j hj; exact ⟨by rw [← a1]; (simp (disch := omega) only [mSI_I, mSI_J, mSI_P, mSJ_I, mSJ_J, mSJ_P, mSP_I, mSP_J, mSP_P, mU_n, mU_s] <;> first | done | rfl | assumption), by rw [← a2]; (simp (disch := omega) only [mSI_I, mSI_J, mSI_P, mSJ_I, mSJ_J, mSJ_P, mSP_I, mSP_J, mSP_P, mU_n, mU_s] <;> first | done | rfl | assumption), by rw [← a3]; (simp (disch := omega) only [mSI_I, mSI_J, mSI_P, mSJ_I, mSJ_J, mSJ_P, mSP_I, mSP_J, mSP_P, mU_n, mU_s] <;> first | done | rfl | assumption)⟩) (hT.sI (Or.inl (Or.inl ⟨rfl, rfl⟩)))
  | cons c rest ih =>
    intro i T0 T out hi ho hM0 hT h43 hst hout hrest hQ
    simp only [List.length_cons] at hi hrest
    have hM := hM0.mf hT
    have s1 := hst i (by omega)
    obtain ⟨x1, y1⟩ := hrest 0 (by omega)
    rw [Nat.add_zero] at x1 y1
    have x1 : T.2.1 (m + 34) i = iI c.1 := x1
    have y1 : T.2.1 (m + 35) i = iI c.2.1 := y1
    unfold keL at hQ
    rw [e_133_125]
    cases hs : S i with
    | false =>
      rw [hs] at s1
      rw [hs, if_neg (by decide)] at hQ
      simp (maxSteps := 4000000) (disch := first | (simp (disch := omega) only [XB_i, XB_n, va_rf_s, va_rf_n, mSI_K, mSI_I, mSI_J, mSI_P, mSI_N, mSJ_K, mSJ_I, mSJ_J, mSJ_P, mSJ_N, mSP_K, mSP_I, mSP_J, mSP_P, mSP_N, mNn, mNi, mNr, mN0, al20, al21, al22, al23, al25, true_or, or_true, and_self, if_true, if_false, mCat_n, mCat_i, mCat_r, mCat_l, mCat_0, Nat.reduceAdd, Nat.reduceLeDiff, Nat.reduceLT, true_and, and_true, Nat.zero_le, bI_01, mInB_J, mInB_Z, mInB_N, hM.k, hM.r48, hM.a48, h43, s1, bI_f]; done) | omega | (unfold R32 at *; omega)) only [e_133_126, e_133_126_n, e_133_127, e_133_130, e_133_133, e_133_133_n, e_133_134, e_133_137, e_133_138, e_133_139, e_133_184, e_133_187, XB_i, XB_n, va_rf_s, va_rf_n, mSI_K, mSI_I, mSI_J, mSI_P, mSI_N, mSJ_K, mSJ_I, mSJ_J, mSJ_P, mSJ_N, mSP_K, mSP_I, mSP_J, mSP_P, mSP_N, mNn, mNi, mNr, mN0, al20, al21, al22, al23, al25, true_or, or_true, and_self, if_true, if_false, mCat_n, mCat_i, mCat_r, mCat_l, mCat_0, Nat.reduceAdd, Nat.reduceLeDiff, Nat.reduceLT, true_and, and_true, Nat.zero_le, bI_01, bI_0, i10, tf0, iI_add, iI_sub, iI_mul, iI_neg, iI_add1, iI_sub1, iI_m1, nca, nc1, ncm1, iI_clJ, iI_cl0, iI_clN, Int.toNat_natCast, mU_n, mU_s, p_min, p_max, p_abs, ni_2, ni_3, ni_4, ni_7, ni_8, ni_9, ni_12, ni_24, ni_97, ni_100, ni_122, ni_200, ni_256, ni_4096, ni_5000, ni_9999, iI_lt, iI_le, iI_eq, iz_eq, iz_lt, iz_le, iz_gt, iz_ge, iy_eq, iy_lt, iy_le, iI_ltN, iI_leN, iI_eqN, if_pos, if_neg, hM.k, hM.r48, hM.a48, h43, s1, bI_f]
      refine ih (i + 1) T0 T out (by omega) (by omega) hM0 hT h43 hst hout (fun j hj => ?_) hQ
      have := hrest (j + 1) (by omega)
      rw [show i + (j + 1) = i + 1 + j by omega] at this
      exact this
    | true =>
      rw [hs] at s1
      rw [hs, if_pos rfl] at hQ
      have eL : (out ++ [c]).length = out.length + 1 := by simp
      have go : ∀ v : Int32, v = bI (decide (out.length = 0)) → XW 133 125 [some (.ref (m)), l1, some (.int (iI ((out.length + 1 : Nat) : Int))), some (.int (iI ((i + 1 : Nat) : Int))), l4, l5] [] (mSI (mSI (mSI T (m + 34) out.length (iI c.1)) (m + 35) out.length (iI c.2.1)) (m + 36) out.length v) Q := by
        intro v hv
        have := ih (i + 1) T0 (mSI (mSI (mSI T (m + 34) out.length (iI c.1)) (m + 35) out.length (iI c.2.1)) (m + 36) out.length v) (out ++ [c]) (by omega) (by rw [eL]; omega) hM0 (((hT.sI (Or.inl (Or.inr ⟨by omega, by omega⟩))).sI (Or.inl (Or.inr ⟨by omega, by omega⟩))).sI (Or.inl (Or.inr ⟨by omega, by omega⟩))) (by rw [← h43]; (simp (disch := omega) only [mSI_I, mSI_J, mSI_P, mSJ_I, mSJ_J, mSJ_P, mSP_I, mSP_J, mSP_P, mU_n, mU_s] <;> first | done | rfl | assumption)) (fun j hj => by rw [← hst j hj]; (simp (disch := omega) only [mSI_I, mSI_J, mSI_P, mSJ_I, mSJ_J, mSJ_P, mSP_I, mSP_J, mSP_P, mU_n, mU_s] <;> first | done | rfl | assumption)) (fun j hj => ?_) (fun j hj => ?_) (by rw [List.append_assoc]; exact hQ)
        · rw [eL] at this
          exact this
        · rw [eL] at hj
          by_cases e : j = out.length
          · subst e
            obtain ⟨b1, b2, b3⟩ := pX_end out c
            rw [b1, b2, ← hv]
            exact ⟨by (simp (disch := omega) only [mSI_I, mSI_J, mSI_P, mSJ_I, mSJ_J, mSJ_P, mSP_I, mSP_J, mSP_P, mU_n, mU_s] <;> first | done | rfl | assumption), by (simp (disch := omega) only [mSI_I, mSI_J, mSI_P, mSJ_I, mSJ_J, mSJ_P, mSP_I, mSP_J, mSP_P, mU_n, mU_s] <;> first | done | rfl | assumption), by (simp (disch := omega) only [mSI_I, mSI_J, mSI_P, mSJ_I, mSJ_J, mSJ_P, mSP_I, mSP_J, mSP_P, mU_n, mU_s] <;> first | done | rfl | assumption)⟩
          · obtain ⟨a1, a2, a3⟩ := hout j (by omega)
            obtain ⟨b1, b2, b3⟩ := pX_app (c := c) (show j < out.length by omega)
            rw [b1, b2]
            exact ⟨by rw [← a1]; (simp (disch := omega) only [mSI_I, mSI_J, mSI_P, mSJ_I, mSJ_J, mSJ_P, mSP_I, mSP_J, mSP_P, mU_n, mU_s] <;> first | done | rfl | assumption), by rw [← a2]; (simp (disch := omega) only [mSI_I, mSI_J, mSI_P, mSJ_I, mSJ_J, mSJ_P, mSP_I, mSP_J, mSP_P, mU_n, mU_s] <;> first | done | rfl | assumption), by rw [← a3]; (simp (disch := omega) only [mSI_I, mSI_J, mSI_P, mSJ_I, mSJ_J, mSJ_P, mSP_I, mSP_J, mSP_P, mU_n, mU_s] <;> first | done | rfl | assumption)⟩
        · have := hrest (j + 1) (by omega)
          rw [show i + (j + 1) = i + 1 + j by omega] at this
          obtain ⟨a1, a2⟩ := this
          exact ⟨Eq.trans (by (simp (disch := omega) only [mSI_I, mSI_J, mSI_P, mSJ_I, mSJ_J, mSJ_P, mSP_I, mSP_J, mSP_P, mU_n, mU_s] <;> first | done | rfl | assumption)) a1, Eq.trans (by (simp (disch := omega) only [mSI_I, mSI_J, mSI_P, mSJ_I, mSJ_J, mSJ_P, mSP_I, mSP_J, mSP_P, mU_n, mU_s] <;> first | done | rfl | assumption)) a2⟩
      by_cases q0 : out.length = 0
      · have g := go 1 (by rw [q0]; rfl)
        rw [q0] at g
        rw [q0] at ho ⊢
        simp (maxSteps := 4000000) (disch := first | (simp (disch := omega) only [XB_i, XB_n, va_rf_s, va_rf_n, mSI_K, mSI_I, mSI_J, mSI_P, mSI_N, mSJ_K, mSJ_I, mSJ_J, mSJ_P, mSJ_N, mSP_K, mSP_I, mSP_J, mSP_P, mSP_N, mNn, mNi, mNr, mN0, al20, al21, al22, al23, al25, true_or, or_true, and_self, if_true, if_false, mCat_n, mCat_i, mCat_r, mCat_l, mCat_0, Nat.reduceAdd, Nat.reduceLeDiff, Nat.reduceLT, true_and, and_true, Nat.zero_le, bI_01, mInB_J, mInB_Z, mInB_N, hM.k, hM.r40, hM.a40, hM.r41, hM.a41, hM.r42, hM.a42, hM.r48, hM.a48, h43, s1, bI_t, x1, y1]; done) | omega | (unfold R32 at *; omega)) only [e_133_126, e_133_126_n, e_133_127, e_133_130, e_133_133, e_133_133_n, e_133_134, e_133_137, e_133_138, e_133_139, e_133_142, e_133_142_n, e_133_143, e_133_146, e_133_147, e_133_147_n, e_133_148, e_133_151, e_133_152, e_133_153, e_133_154, e_133_154_n, e_133_155, e_133_158, e_133_159, e_133_159_n, e_133_160, e_133_163, e_133_164, e_133_165, e_133_166, e_133_166_n, e_133_167, e_133_170, e_133_171, e_133_172, e_133_175, e_133_176, e_133_179, e_133_180, e_133_180_z, e_133_181, e_133_184, e_133_187, XB_i, XB_n, va_rf_s, va_rf_n, mSI_K, mSI_I, mSI_J, mSI_P, mSI_N, mSJ_K, mSJ_I, mSJ_J, mSJ_P, mSJ_N, mSP_K, mSP_I, mSP_J, mSP_P, mSP_N, mNn, mNi, mNr, mN0, al20, al21, al22, al23, al25, true_or, or_true, and_self, if_true, if_false, mCat_n, mCat_i, mCat_r, mCat_l, mCat_0, Nat.reduceAdd, Nat.reduceLeDiff, Nat.reduceLT, true_and, and_true, Nat.zero_le, bI_01, bI_0, i10, tf0, iI_add, iI_sub, iI_mul, iI_neg, iI_add1, iI_sub1, iI_m1, nca, nc1, ncm1, iI_clJ, iI_cl0, iI_clN, Int.toNat_natCast, mU_n, mU_s, p_min, p_max, p_abs, ni_2, ni_3, ni_4, ni_7, ni_8, ni_9, ni_12, ni_24, ni_97, ni_100, ni_122, ni_200, ni_256, ni_4096, ni_5000, ni_9999, iI_lt, iI_le, iI_eq, iz_eq, iz_lt, iz_le, iz_gt, iz_ge, iy_eq, iy_lt, iy_le, iI_ltN, iI_leN, iI_eqN, if_pos, if_neg, hM.k, hM.r40, hM.a40, hM.r41, hM.a41, hM.r42, hM.a42, hM.r48, hM.a48, h43, s1, bI_t, x1, y1]
        exact g
      · have g := go 0 (by rw [decide_eq_false q0]; rfl)
        simp (maxSteps := 4000000) (disch := first | (simp (disch := omega) only [XB_i, XB_n, va_rf_s, va_rf_n, mSI_K, mSI_I, mSI_J, mSI_P, mSI_N, mSJ_K, mSJ_I, mSJ_J, mSJ_P, mSJ_N, mSP_K, mSP_I, mSP_J, mSP_P, mSP_N, mNn, mNi, mNr, mN0, al20, al21, al22, al23, al25, true_or, or_true, and_self, if_true, if_false, mCat_n, mCat_i, mCat_r, mCat_l, mCat_0, Nat.reduceAdd, Nat.reduceLeDiff, Nat.reduceLT, true_and, and_true, Nat.zero_le, bI_01, mInB_J, mInB_Z, mInB_N, hM.k, hM.r40, hM.a40, hM.r41, hM.a41, hM.r42, hM.a42, hM.r48, hM.a48, h43, s1, bI_t, x1, y1]; done) | omega | (unfold R32 at *; omega)) only [e_133_126, e_133_126_n, e_133_127, e_133_130, e_133_133, e_133_133_n, e_133_134, e_133_137, e_133_138, e_133_139, e_133_142, e_133_142_n, e_133_143, e_133_146, e_133_147, e_133_147_n, e_133_148, e_133_151, e_133_152, e_133_153, e_133_154, e_133_154_n, e_133_155, e_133_158, e_133_159, e_133_159_n, e_133_160, e_133_163, e_133_164, e_133_165, e_133_166, e_133_166_n, e_133_167, e_133_170, e_133_171, e_133_172, e_133_175, e_133_176, e_133_179, e_133_180, e_133_180_z, e_133_181, e_133_184, e_133_187, XB_i, XB_n, va_rf_s, va_rf_n, mSI_K, mSI_I, mSI_J, mSI_P, mSI_N, mSJ_K, mSJ_I, mSJ_J, mSJ_P, mSJ_N, mSP_K, mSP_I, mSP_J, mSP_P, mSP_N, mNn, mNi, mNr, mN0, al20, al21, al22, al23, al25, true_or, or_true, and_self, if_true, if_false, mCat_n, mCat_i, mCat_r, mCat_l, mCat_0, Nat.reduceAdd, Nat.reduceLeDiff, Nat.reduceLT, true_and, and_true, Nat.zero_le, bI_01, bI_0, i10, tf0, iI_add, iI_sub, iI_mul, iI_neg, iI_add1, iI_sub1, iI_m1, nca, nc1, ncm1, iI_clJ, iI_cl0, iI_clN, Int.toNat_natCast, mU_n, mU_s, p_min, p_max, p_abs, ni_2, ni_3, ni_4, ni_7, ni_8, ni_9, ni_12, ni_24, ni_97, ni_100, ni_122, ni_200, ni_256, ni_4096, ni_5000, ni_9999, iI_lt, iI_le, iI_eq, iz_eq, iz_lt, iz_le, iz_gt, iz_ge, iy_eq, iy_lt, iy_le, iI_ltN, iI_leN, iI_eqN, if_pos, if_neg, hM.k, hM.r40, hM.a40, hM.r41, hM.a41, hM.r42, hM.a42, hM.r48, hM.a48, h43, s1, bI_t, x1, y1]
        exact g
theorem m_simplify (hM : ModK T m) (hC : CwR T m cs) (hB : wB cs) (ho : oneP cs) (hl : cs.length ≤ 13) (hl2 : 2 ≤ cs.length) (hQ : ∀ T2, CwR T2 m (keL (ksB (farC cs) (cs.length - 1)) 0 cs) → Mf (smS m) T T2 → Q (.inl none) T2) : XW 133 0 [some (.ref (m)), none, none, none, none, none] [] T Q := by
  obtain ⟨c1, c2, c3, c4⟩ := id hC
  have ns : ∀ b j, cvS m b j → ¬ stS m b j := by rintro b j (⟨q, _⟩ | q) z; unfold stS at z; omega; have := q.2; unfold stS at z; omega
  obtain ⟨L, hL⟩ : ∃ L, cs.length = L + 1 := ⟨cs.length - 1, by omega⟩
  simp (maxSteps := 4000000) (disch := first | (simp (disch := omega) only [XB_i, XB_n, va_rf_s, va_rf_n, mSI_K, mSI_I, mSI_J, mSI_P, mSI_N, mSJ_K, mSJ_I, mSJ_J, mSJ_P, mSJ_N, mSP_K, mSP_I, mSP_J, mSP_P, mSP_N, mNn, mNi, mNr, mN0, al20, al21, al22, al23, al25, true_or, or_true, and_self, if_true, if_false, mCat_n, mCat_i, mCat_r, mCat_l, mCat_0, Nat.reduceAdd, Nat.reduceLeDiff, Nat.reduceLT, true_and, and_true, Nat.zero_le, bI_01, mInB_J, mInB_Z, mInB_N]; done) | omega | (unfold R32 at *; omega)) only [e_133_0, e_133_1, XB_i, XB_n, va_rf_s, va_rf_n, mSI_K, mSI_I, mSI_J, mSI_P, mSI_N, mSJ_K, mSJ_I, mSJ_J, mSJ_P, mSJ_N, mSP_K, mSP_I, mSP_J, mSP_P, mSP_N, mNn, mNi, mNr, mN0, al20, al21, al22, al23, al25, true_or, or_true, and_self, if_true, if_false, mCat_n, mCat_i, mCat_r, mCat_l, mCat_0, Nat.reduceAdd, Nat.reduceLeDiff, Nat.reduceLT, true_and, and_true, Nat.zero_le, bI_01, bI_0, i10, tf0, iI_add, iI_sub, iI_mul, iI_neg, iI_add1, iI_sub1, iI_m1, nca, nc1, ncm1, iI_clJ, iI_cl0, iI_clN, Int.toNat_natCast, mU_n, mU_s, p_min, p_max, p_abs, ni_2, ni_3, ni_4, ni_7, ni_8, ni_9, ni_12, ni_24, ni_97, ni_100, ni_122, ni_200, ni_256, ni_4096, ni_5000, ni_9999, iI_lt, iI_le, iI_eq, iz_eq, iz_lt, iz_le, iz_gt, iz_ge, iy_eq, iy_lt, iy_le, iI_ltN, iI_leN, iI_eqN, if_pos, if_neg]
  refine lm_s1 hM hC (by omega) _ 0 T rfl (by omega) Mf.rf (fun j hj => by omega) (fun T1 h1 f1 => ?_)
  simp (maxSteps := 4000000) (disch := first | (simp (disch := omega) only [XB_i, XB_n, va_rf_s, va_rf_n, mSI_K, mSI_I, mSI_J, mSI_P, mSI_N, mSJ_K, mSJ_I, mSJ_J, mSJ_P, mSJ_N, mSP_K, mSP_I, mSP_J, mSP_P, mSP_N, mNn, mNi, mNr, mN0, al20, al21, al22, al23, al25, true_or, or_true, and_self, if_true, if_false, mCat_n, mCat_i, mCat_r, mCat_l, mCat_0, Nat.reduceAdd, Nat.reduceLeDiff, Nat.reduceLT, true_and, and_true, Nat.zero_le, bI_01, mInB_J, mInB_Z, mInB_N]; done) | omega | (unfold R32 at *; omega)) only [e_133_41, e_133_42, e_133_43, e_133_44, XB_i, XB_n, va_rf_s, va_rf_n, mSI_K, mSI_I, mSI_J, mSI_P, mSI_N, mSJ_K, mSJ_I, mSJ_J, mSJ_P, mSJ_N, mSP_K, mSP_I, mSP_J, mSP_P, mSP_N, mNn, mNi, mNr, mN0, al20, al21, al22, al23, al25, true_or, or_true, and_self, if_true, if_false, mCat_n, mCat_i, mCat_r, mCat_l, mCat_0, Nat.reduceAdd, Nat.reduceLeDiff, Nat.reduceLT, true_and, and_true, Nat.zero_le, bI_01, bI_0, i10, tf0, iI_add, iI_sub, iI_mul, iI_neg, iI_add1, iI_sub1, iI_m1, nca, nc1, ncm1, iI_clJ, iI_cl0, iI_clN, Int.toNat_natCast, mU_n, mU_s, p_min, p_max, p_abs, ni_2, ni_3, ni_4, ni_7, ni_8, ni_9, ni_12, ni_24, ni_97, ni_100, ni_122, ni_200, ni_256, ni_4096, ni_5000, ni_9999, iI_lt, iI_le, iI_eq, iz_eq, iz_lt, iz_le, iz_gt, iz_ge, iy_eq, iy_lt, iy_le, iI_ltN, iI_leN, iI_eqN, if_pos, if_neg]
  have hu := um_0 (S := fun j => decide (j = 0) || decide (j = L)) (by simp) L
  have hu2 : um (fun j => decide (j = 0) || decide (j = L)) L ≤ 12 := by
    have := um_le (fun j => decide (j = 0) || decide (j = L)) L
    omega
  refine lm_s3 (L := L) hM hC hB hL (by omega) (by omega) 13 0 T1 (fun j => decide (j = 0) || decide (j = L)) true none none none (by rw [if_pos rfl]; omega) (by omega) f1 (fun j hj => ?_) (invM_0 (fun j _ => rfl)) (fun z => absurd z (by decide)) ?_ mNn
  · rw [h1 j (by omega), hL, Nat.add_sub_cancel]
  · intro T2 l1 l2 l3 l4 l5 f2 h2 n1 n2 n3
    simp (maxSteps := 4000000) (disch := first | (simp (disch := omega) only [XB_i, XB_n, va_rf_s, va_rf_n, mSI_K, mSI_I, mSI_J, mSI_P, mSI_N, mSJ_K, mSJ_I, mSJ_J, mSJ_P, mSJ_N, mSP_K, mSP_I, mSP_J, mSP_P, mSP_N, mNn, mNi, mNr, mN0, al20, al21, al22, al23, al25, true_or, or_true, and_self, if_true, if_false, mCat_n, mCat_i, mCat_r, mCat_l, mCat_0, Nat.reduceAdd, Nat.reduceLeDiff, Nat.reduceLT, true_and, and_true, Nat.zero_le, bI_01, mInB_J, mInB_Z, mInB_N, n1, n2]; done) | omega | (unfold R32 at *; omega)) only [e_133_121, e_133_122, e_133_123, e_133_124, XB_i, XB_n, va_rf_s, va_rf_n, mSI_K, mSI_I, mSI_J, mSI_P, mSI_N, mSJ_K, mSJ_I, mSJ_J, mSJ_P, mSJ_N, mSP_K, mSP_I, mSP_J, mSP_P, mSP_N, mNn, mNi, mNr, mN0, al20, al21, al22, al23, al25, true_or, or_true, and_self, if_true, if_false, mCat_n, mCat_i, mCat_r, mCat_l, mCat_0, Nat.reduceAdd, Nat.reduceLeDiff, Nat.reduceLT, true_and, and_true, Nat.zero_le, bI_01, bI_0, i10, tf0, iI_add, iI_sub, iI_mul, iI_neg, iI_add1, iI_sub1, iI_m1, nca, nc1, ncm1, iI_clJ, iI_cl0, iI_clN, Int.toNat_natCast, mU_n, mU_s, p_min, p_max, p_abs, ni_2, ni_3, ni_4, ni_7, ni_8, ni_9, ni_12, ni_24, ni_97, ni_100, ni_122, ni_200, ni_256, ni_4096, ni_5000, ni_9999, iI_lt, iI_le, iI_eq, iz_eq, iz_lt, iz_le, iz_gt, iz_ge, iy_eq, iy_lt, iy_le, iI_ltN, iI_leN, iI_eqN, if_pos, if_neg, n1, n2]
    have hC2 := hC.mf f2 ns
    have := @lm_s4 Q m (ksB (farC cs) L) l1 l4 l5 cs.length (by omega) n1 cs 0 T T2 [] (by omega) (by simp) hM (f2.mono (fun b j h => Or.inr h)) hC2.1 (fun j hj => h2 j (by omega)) (fun j hj => by simp at hj) (fun j hj => by rw [Nat.zero_add]; exact ⟨hC2.2.1 j hj, hC2.2.2.1 j hj⟩) (fun T3 g1 g2 f3 => ?_)
    · exact this
    · rw [List.nil_append] at g1 g2
      refine hQ T3 ?_ f3
      rw [hL, Nat.add_sub_cancel]
      have hk := (oneP.ke (S := ksB (farC cs) L) (ksB_0 _ _) ho).g
      exact ⟨g1, fun j hj => (g2 j hj).1, fun j hj => (g2 j hj).2.1, fun j hj => by rw [(g2 j hj).2.2, hk j hj]⟩
end MI
