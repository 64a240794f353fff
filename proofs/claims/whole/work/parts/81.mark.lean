/-! TileMaker: marking, keeping -/
def StK (T : mT) (m : Nat) : Prop := T.1 m = (10, 0) ∧ T.2.2.2.1 m 3 = some (m + 2) ∧ T.1 (m + 2) = (23, 13)
def nsN (S : Nat → Bool) (a L : Nat) : Nat := (fndP S (L - (a + 1)) (a + 1)).getD L
theorem fndP_spec (p : Nat → Bool) : ∀ (m i : Nat), (∃ c, fndP p m i = some c ∧ i ≤ c ∧ c < i + m ∧ p c = true ∧ ∀ j, i ≤ j → j < c → p j = false) ∨ (fndP p m i = none ∧ ∀ j, i ≤ j → j < i + m → p j = false) := by
  intro m
  induction m with
  | zero => intro i; exact Or.inr ⟨rfl, fun j h1 h2 => by omega⟩
  | succ m ih =>
    intro i
    unfold fndP
    by_cases q : p i = true
    · rw [if_pos q]
      exact Or.inl ⟨i, rfl, Nat.le_refl i, by omega, q, fun j h1 h2 => by omega⟩
    · have qf : p i = false := by simpa using q
      rw [if_neg q]
      rcases ih (i + 1) with ⟨c, h1, h2, h3, h4, h5⟩ | ⟨h1, h2⟩
      · refine Or.inl ⟨c, h1, by omega, by omega, h4, fun j j1 j2 => ?_⟩
        by_cases e : j = i
        · rw [e]; exact qf
        · exact h5 j (by omega) j2
      · refine Or.inr ⟨h1, fun j j1 j2 => ?_⟩
        by_cases e : j = i
        · rw [e]; exact qf
        · exact h2 j (by omega) (by omega)
theorem nsN_cns {S : Nat → Bool} {a L : Nat} (ha : S a = true) (hL : S L = true) (h : a < L) : cns S a (nsN S a L) ∧ nsN S a L ≤ L := by
  unfold nsN
  rcases fndP_spec S (L - (a + 1)) (a + 1) with ⟨c, h1, h2, h3, h4, h5⟩ | ⟨h1, h2⟩
  · rw [h1]
    exact ⟨⟨ha, h4, by simp; omega, fun j j1 j2 => h5 j (by omega) (by simpa using j2)⟩, by simp; omega⟩
  · rw [h1]
    exact ⟨⟨ha, hL, by simpa using h, fun j j1 j2 => h2 j (by omega) (by simp at j2; omega)⟩, by simp⟩
def keL (S : Nat → Bool) : Nat → List Cn → List Cn
  | _, [] => []
  | i, c :: r => if S i then c :: keL S (i + 1) r else keL S (i + 1) r
section MK
variable {T : mT} {Q : mOut → mT → Prop} {m p r a L : Nat} {cs : List Cn} {S : Nat → Bool}
theorem l_nextS (hk : StK T m) (hS : ∀ j, j < L → T.2.1 (m + 2) j = bI (S j)) (hL : L ≤ 13) : ∀ (k i : Nat), L - i = k → i ≤ L → XW 86 4 [some (.ref (m)), some (.int (iI ((a : Nat) : Int))), some (.int (iI ((L : Nat) : Int))), some (.int (iI ((i : Nat) : Int)))] [] T Q = Q (.inl (some (.int (iI (((fndP S k i).getD L : Nat) : Int))))) T := by
  intro k
  obtain ⟨k1, k2, k3⟩ := hk
  induction k with
  | zero =>
    intro i hk hi
    rw [e_86_4]
    simp (maxSteps := 4000000) (disch := first | (simp (disch := omega) only [XB_i, XB_n, va_rf_s, va_rf_n, mSI_K, mSI_I, mSI_J, mSI_P, mSI_N, mSJ_K, mSJ_I, mSJ_J, mSJ_P, mSJ_N, mSP_K, mSP_I, mSP_J, mSP_P, mSP_N, mNn, mNi, mNr, mN0, al20, al21, al22, al23, al25, true_or, or_true, and_self, if_true, if_false, mCat_n, mCat_i, mCat_r, mCat_l, mCat_0, Nat.reduceAdd, Nat.reduceLeDiff, Nat.reduceLT, true_and, and_true, Nat.zero_le, bI_01, mInB_J, mInB_Z, mInB_N]; done) | omega | (unfold R32 at *; omega)) only [e_86_0, e_86_1, e_86_2, e_86_3, e_86_5, e_86_6, e_86_9, e_86_9_n, e_86_10, e_86_13, e_86_14, e_86_15, e_86_18, e_86_19, e_86_20, e_86_23, e_86_26, e_86_27, XB_i, XB_n, va_rf_s, va_rf_n, mSI_K, mSI_I, mSI_J, mSI_P, mSI_N, mSJ_K, mSJ_I, mSJ_J, mSJ_P, mSJ_N, mSP_K, mSP_I, mSP_J, mSP_P, mSP_N, mNn, mNi, mNr, mN0, al20, al21, al22, al23, al25, true_or, or_true, and_self, if_true, if_false, mCat_n, mCat_i, mCat_r, mCat_l, mCat_0, Nat.reduceAdd, Nat.reduceLeDiff, Nat.reduceLT, true_and, and_true, Nat.zero_le, bI_01, bI_0, i10, tf0, iI_add, iI_sub, iI_mul, iI_neg, iI_add1, iI_sub1, iI_m1, nc1, ncm1, iI_clJ, iI_cl0, iI_clN, Int.toNat_natCast, mU_n, mU_s, p_min, p_max, p_abs, ni_2, ni_3, ni_4, ni_7, ni_8, ni_9, ni_12, ni_24, ni_97, ni_100, ni_122, ni_200, ni_256, ni_4096, ni_5000, ni_9999, iI_lt, iI_le, iI_eq, iz_eq, iz_lt, iz_le, iz_gt, iz_ge, iy_eq, iy_lt, iy_le, iI_ltN, iI_leN, iI_eqN, if_pos, if_neg]
    rfl
  | succ k ih =>
    intro i hk hi
    have i1 := ih (i + 1) (by omega) (by omega)
    rw [e_86_4]
    show _ = Q (.inl (some (.int (iI (((if S i = true then some i else fndP S k (i + 1)).getD L : Nat) : Int))))) T
    simp (maxSteps := 4000000) (disch := first | (simp (disch := omega) only [XB_i, XB_n, va_rf_s, va_rf_n, mSI_K, mSI_I, mSI_J, mSI_P, mSI_N, mSJ_K, mSJ_I, mSJ_J, mSJ_P, mSJ_N, mSP_K, mSP_I, mSP_J, mSP_P, mSP_N, mNn, mNi, mNr, mN0, al20, al21, al22, al23, al25, true_or, or_true, and_self, if_true, if_false, mCat_n, mCat_i, mCat_r, mCat_l, mCat_0, Nat.reduceAdd, Nat.reduceLeDiff, Nat.reduceLT, true_and, and_true, Nat.zero_le, bI_01, mInB_J, mInB_Z, mInB_N, k1, k2, k3, hS, i1]; done) | omega | (unfold R32 at *; omega)) only [e_86_0, e_86_1, e_86_2, e_86_3, e_86_5, e_86_6, e_86_9, e_86_9_n, e_86_10, e_86_13, e_86_14, e_86_15, e_86_18, e_86_19, e_86_20, e_86_23, e_86_26, e_86_27, XB_i, XB_n, va_rf_s, va_rf_n, mSI_K, mSI_I, mSI_J, mSI_P, mSI_N, mSJ_K, mSJ_I, mSJ_J, mSJ_P, mSJ_N, mSP_K, mSP_I, mSP_J, mSP_P, mSP_N, mNn, mNi, mNr, mN0, al20, al21, al22, al23, al25, true_or, or_true, and_self, if_true, if_false, mCat_n, mCat_i, mCat_r, mCat_l, mCat_0, Nat.reduceAdd, Nat.reduceLeDiff, Nat.reduceLT, true_and, and_true, Nat.zero_le, bI_01, bI_0, i10, tf0, iI_add, iI_sub, iI_mul, iI_neg, iI_add1, iI_sub1, iI_m1, nc1, ncm1, iI_clJ, iI_cl0, iI_clN, Int.toNat_natCast, mU_n, mU_s, p_min, p_max, p_abs, ni_2, ni_3, ni_4, ni_7, ni_8, ni_9, ni_12, ni_24, ni_97, ni_100, ni_122, ni_200, ni_256, ni_4096, ni_5000, ni_9999, iI_lt, iI_le, iI_eq, iz_eq, iz_lt, iz_le, iz_gt, iz_ge, iy_eq, iy_lt, iy_le, iI_ltN, iI_leN, iI_eqN, if_pos, if_neg, k1, k2, k3, hS, i1]
    cases S i <;> simp
theorem p_nextS (hk : StK T m) (hS : ∀ j, j < L → T.2.1 (m + 2) j = bI (S j)) (hL : L ≤ 13) (ha : a < L) : XW 86 0 [some (.ref (m)), some (.int (iI ((a : Nat) : Int))), some (.int (iI ((L : Nat) : Int))), none] [] T Q = Q (.inl (some (.int (iI ((nsN S a L : Nat) : Int))))) T := by
  simp (maxSteps := 4000000) (disch := first | (simp (disch := omega) only [XB_i, XB_n, va_rf_s, va_rf_n, mSI_K, mSI_I, mSI_J, mSI_P, mSI_N, mSJ_K, mSJ_I, mSJ_J, mSJ_P, mSJ_N, mSP_K, mSP_I, mSP_J, mSP_P, mSP_N, mNn, mNi, mNr, mN0, al20, al21, al22, al23, al25, true_or, or_true, and_self, if_true, if_false, mCat_n, mCat_i, mCat_r, mCat_l, mCat_0, Nat.reduceAdd, Nat.reduceLeDiff, Nat.reduceLT, true_and, and_true, Nat.zero_le, bI_01, mInB_J, mInB_Z, mInB_N]; done) | omega | (unfold R32 at *; omega)) only [e_86_0, e_86_1, e_86_2, e_86_3, XB_i, XB_n, va_rf_s, va_rf_n, mSI_K, mSI_I, mSI_J, mSI_P, mSI_N, mSJ_K, mSJ_I, mSJ_J, mSJ_P, mSJ_N, mSP_K, mSP_I, mSP_J, mSP_P, mSP_N, mNn, mNi, mNr, mN0, al20, al21, al22, al23, al25, true_or, or_true, and_self, if_true, if_false, mCat_n, mCat_i, mCat_r, mCat_l, mCat_0, Nat.reduceAdd, Nat.reduceLeDiff, Nat.reduceLT, true_and, and_true, Nat.zero_le, bI_01, bI_0, i10, tf0, iI_add, iI_sub, iI_mul, iI_neg, iI_add1, iI_sub1, iI_m1, nc1, ncm1, iI_clJ, iI_cl0, iI_clN, Int.toNat_natCast, mU_n, mU_s, p_min, p_max, p_abs, ni_2, ni_3, ni_4, ni_7, ni_8, ni_9, ni_12, ni_24, ni_97, ni_100, ni_122, ni_200, ni_256, ni_4096, ni_5000, ni_9999, iI_lt, iI_le, iI_eq, iz_eq, iz_lt, iz_le, iz_gt, iz_ge, iy_eq, iy_lt, iy_le, iI_ltN, iI_leN, iI_eqN, if_pos, if_neg]
  exact l_nextS hk hS hL _ (a + 1) rfl (by omega)
theorem l_mark1 {T0 : mT} (hk : StK T0 m) (hL : L < 13) : ∀ (k i : Nat) (T : mT), L + 1 - i = k → i ≤ L + 1 → Fr (iv (m + 2) (m + 3)) T0 T → (∀ j, j < i → T.2.1 (m + 2) j = bI (decide (j = 0) || decide (j = L))) →
    (∀ T2, (∀ j, j ≤ L → T2.2.1 (m + 2) j = bI (decide (j = 0) || decide (j = L))) → Fr (iv (m + 2) (m + 3)) T0 T2 → XW 85 40 [some (.ref (m)), some (.ref (p)), some (.int (iI ((L : Nat) : Int))), some (.int (iI ((L + 1 : Nat) : Int))), none, none, none] [] T2 Q) → XW 85 9 [some (.ref (m)), some (.ref (p)), some (.int (iI ((L : Nat) : Int))), some (.int (iI ((i : Nat) : Int))), none, none, none] [] T Q := by
  intro k
  obtain ⟨k1, k2, k3⟩ := hk
  induction k with
  | zero =>
    intro i T hk hi hf hS hQ
    have : i = L + 1 := by omega
    subst this
    rw [e_85_9]
    simp (maxSteps := 4000000) (disch := first | (simp (disch := omega) only [XB_i, XB_n, va_rf_s, va_rf_n, mSI_K, mSI_I, mSI_J, mSI_P, mSI_N, mSJ_K, mSJ_I, mSJ_J, mSJ_P, mSJ_N, mSP_K, mSP_I, mSP_J, mSP_P, mSP_N, mNn, mNi, mNr, mN0, al20, al21, al22, al23, al25, true_or, or_true, and_self, if_true, if_false, mCat_n, mCat_i, mCat_r, mCat_l, mCat_0, Nat.reduceAdd, Nat.reduceLeDiff, Nat.reduceLT, true_and, and_true, Nat.zero_le, bI_01, mInB_J, mInB_Z, mInB_N]; done) | omega | (unfold R32 at *; omega)) only [e_85_10, e_85_11, XB_i, XB_n, va_rf_s, va_rf_n, mSI_K, mSI_I, mSI_J, mSI_P, mSI_N, mSJ_K, mSJ_I, mSJ_J, mSJ_P, mSJ_N, mSP_K, mSP_I, mSP_J, mSP_P, mSP_N, mNn, mNi, mNr, mN0, al20, al21, al22, al23, al25, true_or, or_true, and_self, if_true, if_false, mCat_n, mCat_i, mCat_r, mCat_l, mCat_0, Nat.reduceAdd, Nat.reduceLeDiff, Nat.reduceLT, true_and, and_true, Nat.zero_le, bI_01, bI_0, i10, tf0, iI_add, iI_sub, iI_mul, iI_neg, iI_add1, iI_sub1, iI_m1, nc1, ncm1, iI_clJ, iI_cl0, iI_clN, Int.toNat_natCast, mU_n, mU_s, p_min, p_max, p_abs, ni_2, ni_3, ni_4, ni_7, ni_8, ni_9, ni_12, ni_24, ni_97, ni_100, ni_122, ni_200, ni_256, ni_4096, ni_5000, ni_9999, iI_lt, iI_le, iI_eq, iz_eq, iz_lt, iz_le, iz_gt, iz_ge, iy_eq, iy_lt, iy_le, iI_ltN, iI_leN, iI_eqN, if_pos, if_neg]
    exact hQ T (fun j hj => hS j (by omega)) hf
  | succ k ih =>
    intro i T hk hi hf hS hQ
    have g1 : T.1 m = (10, 0) := by rw [hf.K]; exact k1
    have g2 : T.2.2.2.1 m 3 = some (m + 2) := by rw [hf.P (fun q => by have := q.1; omega)]; exact k2
    have g3 : T.1 (m + 2) = (23, 13) := by rw [hf.K]; exact k3
    have nx : ∀ b : Bool, b = (decide (i = 0) || decide (i = L)) → XW 85 9 [some (.ref (m)), some (.ref (p)), some (.int (iI ((L : Nat) : Int))), some (.int (iI ((i + 1 : Nat) : Int))), none, none, none] [] (mSI T (m + 2) i (bI b)) Q := by
      intro b hb
      refine ih (i + 1) _ (by omega) (by omega) (hf.iI ⟨by omega, by omega⟩) (fun j hj => ?_) hQ
      rw [mSI_I]
      by_cases q : j = i
      · rw [q, mU_s, hb]
      · rw [mU_n _ _ (by omega)]; exact hS j (by omega)
    have n1 := nx true
    have n0 := nx false
    rw [bI_t] at n1
    rw [bI_f] at n0
    rw [e_85_9]
    by_cases q0 : i = 0
    · subst q0
      simp (maxSteps := 4000000) (disch := first | (simp (disch := omega) only [XB_i, XB_n, va_rf_s, va_rf_n, mSI_K, mSI_I, mSI_J, mSI_P, mSI_N, mSJ_K, mSJ_I, mSJ_J, mSJ_P, mSJ_N, mSP_K, mSP_I, mSP_J, mSP_P, mSP_N, mNn, mNi, mNr, mN0, al20, al21, al22, al23, al25, true_or, or_true, and_self, if_true, if_false, mCat_n, mCat_i, mCat_r, mCat_l, mCat_0, Nat.reduceAdd, Nat.reduceLeDiff, Nat.reduceLT, true_and, and_true, Nat.zero_le, bI_01, mInB_J, mInB_Z, mInB_N, g1, g2, g3]; done) | omega | (unfold R32 at *; omega)) only [e_85_10, e_85_11, e_85_14, e_85_14_n, e_85_15, e_85_18, e_85_19, e_85_20, e_85_23, e_85_24, e_85_25, e_85_28, e_85_29, e_85_32, e_85_33, e_85_33_z, e_85_34, e_85_37, XB_i, XB_n, va_rf_s, va_rf_n, mSI_K, mSI_I, mSI_J, mSI_P, mSI_N, mSJ_K, mSJ_I, mSJ_J, mSJ_P, mSJ_N, mSP_K, mSP_I, mSP_J, mSP_P, mSP_N, mNn, mNi, mNr, mN0, al20, al21, al22, al23, al25, true_or, or_true, and_self, if_true, if_false, mCat_n, mCat_i, mCat_r, mCat_l, mCat_0, Nat.reduceAdd, Nat.reduceLeDiff, Nat.reduceLT, true_and, and_true, Nat.zero_le, bI_01, bI_0, i10, tf0, iI_add, iI_sub, iI_mul, iI_neg, iI_add1, iI_sub1, iI_m1, nc1, ncm1, iI_clJ, iI_cl0, iI_clN, Int.toNat_natCast, mU_n, mU_s, p_min, p_max, p_abs, ni_2, ni_3, ni_4, ni_7, ni_8, ni_9, ni_12, ni_24, ni_97, ni_100, ni_122, ni_200, ni_256, ni_4096, ni_5000, ni_9999, iI_lt, iI_le, iI_eq, iz_eq, iz_lt, iz_le, iz_gt, iz_ge, iy_eq, iy_lt, iy_le, iI_ltN, iI_leN, iI_eqN, if_pos, if_neg, g1, g2, g3]
      exact n1 (by simp)
    · by_cases q1 : i = L
      · simp (maxSteps := 4000000) (disch := first | (simp (disch := omega) only [XB_i, XB_n, va_rf_s, va_rf_n, mSI_K, mSI_I, mSI_J, mSI_P, mSI_N, mSJ_K, mSJ_I, mSJ_J, mSJ_P, mSJ_N, mSP_K, mSP_I, mSP_J, mSP_P, mSP_N, mNn, mNi, mNr, mN0, al20, al21, al22, al23, al25, true_or, or_true, and_self, if_true, if_false, mCat_n, mCat_i, mCat_r, mCat_l, mCat_0, Nat.reduceAdd, Nat.reduceLeDiff, Nat.reduceLT, true_and, and_true, Nat.zero_le, bI_01, mInB_J, mInB_Z, mInB_N, g1, g2, g3]; done) | omega | (unfold R32 at *; omega)) only [e_85_10, e_85_11, e_85_14, e_85_14_n, e_85_15, e_85_18, e_85_19, e_85_20, e_85_23, e_85_24, e_85_25, e_85_28, e_85_29, e_85_32, e_85_33, e_85_33_z, e_85_34, e_85_37, XB_i, XB_n, va_rf_s, va_rf_n, mSI_K, mSI_I, mSI_J, mSI_P, mSI_N, mSJ_K, mSJ_I, mSJ_J, mSJ_P, mSJ_N, mSP_K, mSP_I, mSP_J, mSP_P, mSP_N, mNn, mNi, mNr, mN0, al20, al21, al22, al23, al25, true_or, or_true, and_self, if_true, if_false, mCat_n, mCat_i, mCat_r, mCat_l, mCat_0, Nat.reduceAdd, Nat.reduceLeDiff, Nat.reduceLT, true_and, and_true, Nat.zero_le, bI_01, bI_0, i10, tf0, iI_add, iI_sub, iI_mul, iI_neg, iI_add1, iI_sub1, iI_m1, nc1, ncm1, iI_clJ, iI_cl0, iI_clN, Int.toNat_natCast, mU_n, mU_s, p_min, p_max, p_abs, ni_2, ni_3, ni_4, ni_7, ni_8, ni_9, ni_12, ni_24, ni_97, ni_100, ni_122, ni_200, ni_256, ni_4096, ni_5000, ni_9999, iI_lt, iI_le, iI_eq, iz_eq, iz_lt, iz_le, iz_gt, iz_ge, iy_eq, iy_lt, iy_le, iI_ltN, iI_leN, iI_eqN, if_pos, if_neg, g1, g2, g3]
        exact n1 (by simp [q1])
      · simp (maxSteps := 4000000) (disch := first | (simp (disch := omega) only [XB_i, XB_n, va_rf_s, va_rf_n, mSI_K, mSI_I, mSI_J, mSI_P, mSI_N, mSJ_K, mSJ_I, mSJ_J, mSJ_P, mSJ_N, mSP_K, mSP_I, mSP_J, mSP_P, mSP_N, mNn, mNi, mNr, mN0, al20, al21, al22, al23, al25, true_or, or_true, and_self, if_true, if_false, mCat_n, mCat_i, mCat_r, mCat_l, mCat_0, Nat.reduceAdd, Nat.reduceLeDiff, Nat.reduceLT, true_and, and_true, Nat.zero_le, bI_01, mInB_J, mInB_Z, mInB_N, g1, g2, g3]; done) | omega | (unfold R32 at *; omega)) only [e_85_10, e_85_11, e_85_14, e_85_14_n, e_85_15, e_85_18, e_85_19, e_85_20, e_85_23, e_85_24, e_85_25, e_85_28, e_85_29, e_85_32, e_85_33, e_85_33_z, e_85_34, e_85_37, XB_i, XB_n, va_rf_s, va_rf_n, mSI_K, mSI_I, mSI_J, mSI_P, mSI_N, mSJ_K, mSJ_I, mSJ_J, mSJ_P, mSJ_N, mSP_K, mSP_I, mSP_J, mSP_P, mSP_N, mNn, mNi, mNr, mN0, al20, al21, al22, al23, al25, true_or, or_true, and_self, if_true, if_false, mCat_n, mCat_i, mCat_r, mCat_l, mCat_0, Nat.reduceAdd, Nat.reduceLeDiff, Nat.reduceLT, true_and, and_true, Nat.zero_le, bI_01, bI_0, i10, tf0, iI_add, iI_sub, iI_mul, iI_neg, iI_add1, iI_sub1, iI_m1, nc1, ncm1, iI_clJ, iI_cl0, iI_clN, Int.toNat_natCast, mU_n, mU_s, p_min, p_max, p_abs, ni_2, ni_3, ni_4, ni_7, ni_8, ni_9, ni_12, ni_24, ni_97, ni_100, ni_122, ni_200, ni_256, ni_4096, ni_5000, ni_9999, iI_lt, iI_le, iI_eq, iz_eq, iz_lt, iz_le, iz_gt, iz_ge, iy_eq, iy_lt, iy_le, iI_ltN, iI_leN, iI_eqN, if_pos, if_neg, g1, g2, g3]
        exact n0 (by simp [q0, q1])
theorem l_mark2 {T0 : mT} (hk : StK T0 m) (hp : PathR T0 p r cs) (dis : m + 12 ≤ p) (hB : wB cs) (hl : cs.length = L + 1) (hL : L < 13) (hL0 : 0 < L) : ∀ (k f n : Nat) (S : Nat → Bool) (T : mT) (l5 l6 : Option Value), um S L + (L - f) = k → n + k ≤ 2 * L → f ≤ L → S f = true → invM (farC cs) L S → (∀ a b, b ≤ f → cns S a b → farC cs a b = none) → (∀ j, j ≤ L → T.2.1 (m + 2) j = bI (S j)) → Fr (iv (m + 2) (m + 3)) T0 T →
    (∀ T2, (∀ j, j ≤ L → T2.2.1 (m + 2) j = bI (ksB (farC cs) L j)) → Fr (iv (m + 2) (m + 3)) T0 T2 → Q (.inl none) T2) → XW 85 45 [some (.ref (m)), some (.ref (p)), some (.int (iI ((L : Nat) : Int))), some (.int (iI ((f : Nat) : Int))), some (.int (iI ((n : Nat) : Int))), l5, l6] [] T Q := by
  intro k
  obtain ⟨k1, k2, k3⟩ := id hk
  induction k using Nat.strongRecOn with
  | _ k ih =>
    intro f n S T l5 l6 hk' hn hf hSf hI hdone hS hfr hQ
    have g1 : T.1 m = (10, 0) := by rw [hfr.K]; exact k1
    have g2 : T.2.2.2.1 m 3 = some (m + 2) := by rw [hfr.P (fun q => by have := q.1; omega)]; exact k2
    have g3 : T.1 (m + 2) = (23, 13) := by rw [hfr.K]; exact k3
    have hpT : PathR T p r cs := hp.fr hfr (fun b hb z => by have := z.1; have := z.2; have := hb.1; omega)
    obtain ⟨⟨p1, p2, p3, p4, p5, p6, p7, p8⟩, pc, pl, pa⟩ := id hpT
    rw [hl] at pc
    have hle : um S L ≤ L := um_le S L
    rw [e_85_45]
    by_cases q : f = L
    · subst q
      simp (maxSteps := 4000000) (disch := first | (simp (disch := omega) only [XB_i, XB_n, va_rf_s, va_rf_n, mSI_K, mSI_I, mSI_J, mSI_P, mSI_N, mSJ_K, mSJ_I, mSJ_J, mSJ_P, mSJ_N, mSP_K, mSP_I, mSP_J, mSP_P, mSP_N, mNn, mNi, mNr, mN0, al20, al21, al22, al23, al25, true_or, or_true, and_self, if_true, if_false, mCat_n, mCat_i, mCat_r, mCat_l, mCat_0, Nat.reduceAdd, Nat.reduceLeDiff, Nat.reduceLT, true_and, and_true, Nat.zero_le, bI_01, mInB_J, mInB_Z, mInB_N, p1, pc]; done) | omega | (unfold R32 at *; omega)) only [e_85_47, e_85_48, e_85_48_n, e_85_49, e_85_52, e_85_53, e_85_56, e_85_57, e_85_58, e_85_104, XB_i, XB_n, va_rf_s, va_rf_n, mSI_K, mSI_I, mSI_J, mSI_P, mSI_N, mSJ_K, mSJ_I, mSJ_J, mSJ_P, mSJ_N, mSP_K, mSP_I, mSP_J, mSP_P, mSP_N, mNn, mNi, mNr, mN0, al20, al21, al22, al23, al25, true_or, or_true, and_self, if_true, if_false, mCat_n, mCat_i, mCat_r, mCat_l, mCat_0, Nat.reduceAdd, Nat.reduceLeDiff, Nat.reduceLT, true_and, and_true, Nat.zero_le, bI_01, bI_0, i10, tf0, iI_add, iI_sub, iI_mul, iI_neg, iI_add1, iI_sub1, iI_m1, nc1, ncm1, iI_clJ, iI_cl0, iI_clN, Int.toNat_natCast, mU_n, mU_s, p_min, p_max, p_abs, ni_2, ni_3, ni_4, ni_7, ni_8, ni_9, ni_12, ni_24, ni_97, ni_100, ni_122, ni_200, ni_256, ni_4096, ni_5000, ni_9999, iI_lt, iI_le, iI_eq, iz_eq, iz_lt, iz_le, iz_gt, iz_ge, iy_eq, iy_lt, iy_le, iI_ltN, iI_leN, iI_eqN, if_pos, if_neg, p1, pc]
      exact hQ T (fun j hj => by rw [hS j hj, invM_end hI hdone hj]) hfr
    · have hfL : f < L := by omega
      have hc := nsN_cns hSf hI.2.1 hfL
      have pn := fun Q => @p_nextS T Q m f L S ⟨g1, g2, g3⟩ (fun j hj => hS j (by omega)) (by omega) hfL
      have pf := fun Q => @p_far2 T Q p r f (nsN S f L) cs hpT hB hc.1.2.2.1 (by omega)
      cases hm : farC cs f (nsN S f L) with
      | none =>
        rw [hm] at pf
        have eo : iI (oN none) = -1 := rfl
        rw [eo] at pf
        simp (maxSteps := 4000000) (disch := first | (simp (disch := omega) only [XB_i, XB_n, va_rf_s, va_rf_n, mSI_K, mSI_I, mSI_J, mSI_P, mSI_N, mSJ_K, mSJ_I, mSJ_J, mSJ_P, mSJ_N, mSP_K, mSP_I, mSP_J, mSP_P, mSP_N, mNn, mNi, mNr, mN0, al20, al21, al22, al23, al25, true_or, or_true, and_self, if_true, if_false, mCat_n, mCat_i, mCat_r, mCat_l, mCat_0, Nat.reduceAdd, Nat.reduceLeDiff, Nat.reduceLT, true_and, and_true, Nat.zero_le, bI_01, mInB_J, mInB_Z, mInB_N, p1, pc, g1, pn, pf]; done) | omega | (unfold R32 at *; omega)) only [e_85_47, e_85_48, e_85_48_n, e_85_49, e_85_52, e_85_53, e_85_56, e_85_57, e_85_58, e_85_61, e_85_61_n, e_85_62, e_85_63, e_85_67, e_85_69, e_85_69_n, e_85_70, e_85_71, e_85_76, e_85_78, e_85_80, e_85_81, e_85_84, e_85_86, e_85_87, e_85_90, e_85_90_n, e_85_91, e_85_94, e_85_96, e_85_97, e_85_97_z, e_85_98, e_85_101, d_85_64, d_85_73, XB_i, XB_n, va_rf_s, va_rf_n, mSI_K, mSI_I, mSI_J, mSI_P, mSI_N, mSJ_K, mSJ_I, mSJ_J, mSJ_P, mSJ_N, mSP_K, mSP_I, mSP_J, mSP_P, mSP_N, mNn, mNi, mNr, mN0, al20, al21, al22, al23, al25, true_or, or_true, and_self, if_true, if_false, mCat_n, mCat_i, mCat_r, mCat_l, mCat_0, Nat.reduceAdd, Nat.reduceLeDiff, Nat.reduceLT, true_and, and_true, Nat.zero_le, bI_01, bI_0, i10, tf0, iI_add, iI_sub, iI_mul, iI_neg, iI_add1, iI_sub1, iI_m1, nc1, ncm1, iI_clJ, iI_cl0, iI_clN, Int.toNat_natCast, mU_n, mU_s, p_min, p_max, p_abs, ni_2, ni_3, ni_4, ni_7, ni_8, ni_9, ni_12, ni_24, ni_97, ni_100, ni_122, ni_200, ni_256, ni_4096, ni_5000, ni_9999, iI_lt, iI_le, iI_eq, iz_eq, iz_lt, iz_le, iz_gt, iz_ge, iy_eq, iy_lt, iy_le, iI_ltN, iI_leN, iI_eqN, if_pos, if_neg, p1, pc, g1, pn, pf]
        refine ih (um S L + (L - nsN S f L)) (by have := hc.1.2.2.1; omega) (nsN S f L) (n + 1) S T _ _ rfl (by have := hc.1.2.2.1; omega) hc.2 hc.1.2.1 hI (fun a b hb hab => ?_) hS hfr hQ
        by_cases e : b ≤ f
        · exact hdone a b e hab
        · have e1 : b = nsN S f L := by
            rcases Nat.lt_or_ge b (nsN S f L) with z | z
            · have := hc.1.2.2.2 b (by omega) z
              rw [hab.2.1] at this
              cases this
            · omega
          have e2 : a = f := by
            rcases Nat.lt_trichotomy a f with z | z | z
            · have := hab.2.2.2 f z (by omega)
              rw [hSf] at this
              cases this
            · exact z
            · have := hc.1.2.2.2 a z (by have := hab.2.2.1; omega)
              rw [hab.1] at this
              cases this
          rw [e1, e2]
          exact hm
      | some c =>
        have hcI := farC_I cs _ _ _ hm
        have hSc : S c = false := hc.1.2.2.2 c hcI.1 hcI.2
        have hum := um_upd hSc L
        rw [if_pos (by omega)] at hum
        rw [hm] at pf
        have eo : iI (oN (some c)) = iI (c : Int) := rfl
        rw [eo] at pf
        have nm : ¬ iI (c : Int) = -1 := by rw [show (-1 : Int32) = iI (-1) from rfl, iI_eq ⟨by omega, by omega⟩ ⟨by omega, by omega⟩]; omega
        simp (maxSteps := 4000000) (disch := first | (simp (disch := omega) only [XB_i, XB_n, va_rf_s, va_rf_n, mSI_K, mSI_I, mSI_J, mSI_P, mSI_N, mSJ_K, mSJ_I, mSJ_J, mSJ_P, mSJ_N, mSP_K, mSP_I, mSP_J, mSP_P, mSP_N, mNn, mNi, mNr, mN0, al20, al21, al22, al23, al25, true_or, or_true, and_self, if_true, if_false, mCat_n, mCat_i, mCat_r, mCat_l, mCat_0, Nat.reduceAdd, Nat.reduceLeDiff, Nat.reduceLT, true_and, and_true, Nat.zero_le, bI_01, mInB_J, mInB_Z, mInB_N, p1, pc, g1, g2, g3, pn, pf, nm]; done) | omega | (unfold R32 at *; omega)) only [e_85_47, e_85_48, e_85_48_n, e_85_49, e_85_52, e_85_53, e_85_56, e_85_57, e_85_58, e_85_61, e_85_61_n, e_85_62, e_85_63, e_85_67, e_85_69, e_85_69_n, e_85_70, e_85_71, e_85_76, e_85_78, e_85_80, e_85_81, e_85_84, e_85_86, e_85_87, e_85_90, e_85_90_n, e_85_91, e_85_94, e_85_96, e_85_97, e_85_97_z, e_85_98, e_85_101, d_85_64, d_85_73, XB_i, XB_n, va_rf_s, va_rf_n, mSI_K, mSI_I, mSI_J, mSI_P, mSI_N, mSJ_K, mSJ_I, mSJ_J, mSJ_P, mSJ_N, mSP_K, mSP_I, mSP_J, mSP_P, mSP_N, mNn, mNi, mNr, mN0, al20, al21, al22, al23, al25, true_or, or_true, and_self, if_true, if_false, mCat_n, mCat_i, mCat_r, mCat_l, mCat_0, Nat.reduceAdd, Nat.reduceLeDiff, Nat.reduceLT, true_and, and_true, Nat.zero_le, bI_01, bI_0, i10, tf0, iI_add, iI_sub, iI_mul, iI_neg, iI_add1, iI_sub1, iI_m1, nc1, ncm1, iI_clJ, iI_cl0, iI_clN, Int.toNat_natCast, mU_n, mU_s, p_min, p_max, p_abs, ni_2, ni_3, ni_4, ni_7, ni_8, ni_9, ni_12, ni_24, ni_97, ni_100, ni_122, ni_200, ni_256, ni_4096, ni_5000, ni_9999, iI_lt, iI_le, iI_eq, iz_eq, iz_lt, iz_le, iz_gt, iz_ge, iy_eq, iy_lt, iy_le, iI_ltN, iI_leN, iI_eqN, if_pos, if_neg, p1, pc, g1, g2, g3, pn, pf, nm]
        refine ih (um (updS S c) L + (L - f)) (by omega) f (n + 1) (updS S c) _ _ _ rfl (by omega) hf (by unfold updS; split; rfl; exact hSf) (invM_mark (farC_I cs) hI hc.2 hc.1 hm) (fun a b hb hab => ?_) (fun j hj => ?_) (hfr.iI ⟨by omega, by omega⟩) hQ
        · have h1 : updS S c a = S a := by unfold updS; rw [if_neg (by have := hab.2.2.1; omega)]
          have h2 : updS S c b = S b := by unfold updS; rw [if_neg (by omega)]
          refine hdone a b hb ⟨by rw [← h1]; exact hab.1, by rw [← h2]; exact hab.2.1, hab.2.2.1, fun j j1 j2 => ?_⟩
          have := hab.2.2.2 j j1 j2
          unfold updS at this
          rwa [if_neg (by omega)] at this
        · rw [mSI_I]
          unfold updS
          by_cases e : j = c
          · rw [e, mU_s, if_pos rfl]; rfl
          · rw [mU_n _ _ (by omega), if_neg e]; exact hS j hj
theorem ct_mark (hk : StK T m) (hp : PathR T p r cs) (dis : m + 12 ≤ p) (hB : wB cs) (hl : cs.length = L + 1) (hL : L < 13) (hL0 : 0 < L) (hQ : ∀ T2, (∀ j, j ≤ L → T2.2.1 (m + 2) j = bI (ksB (farC cs) L j)) → Fr (iv (m + 2) (m + 3)) T T2 → Q (.inl none) T2) : XW 85 0 [some (.ref (m)), some (.ref (p)), none, none, none, none, none] [] T Q := by
  obtain ⟨⟨p1, p2, p3, p4, p5, p6, p7, p8⟩, pc, pl, pa⟩ := id hp
  rw [hl] at pc
  have e1 : L + 1 - 1 = L := by omega
  simp (maxSteps := 4000000) (disch := first | (simp (disch := omega) only [XB_i, XB_n, va_rf_s, va_rf_n, mSI_K, mSI_I, mSI_J, mSI_P, mSI_N, mSJ_K, mSJ_I, mSJ_J, mSJ_P, mSJ_N, mSP_K, mSP_I, mSP_J, mSP_P, mSP_N, mNn, mNi, mNr, mN0, al20, al21, al22, al23, al25, true_or, or_true, and_self, if_true, if_false, mCat_n, mCat_i, mCat_r, mCat_l, mCat_0, Nat.reduceAdd, Nat.reduceLeDiff, Nat.reduceLT, true_and, and_true, Nat.zero_le, bI_01, mInB_J, mInB_Z, mInB_N, p1, pc, e1]; done) | omega | (unfold R32 at *; omega)) only [e_85_0, e_85_0_n, e_85_1, e_85_4, e_85_5, e_85_6, e_85_7, e_85_8, XB_i, XB_n, va_rf_s, va_rf_n, mSI_K, mSI_I, mSI_J, mSI_P, mSI_N, mSJ_K, mSJ_I, mSJ_J, mSJ_P, mSJ_N, mSP_K, mSP_I, mSP_J, mSP_P, mSP_N, mNn, mNi, mNr, mN0, al20, al21, al22, al23, al25, true_or, or_true, and_self, if_true, if_false, mCat_n, mCat_i, mCat_r, mCat_l, mCat_0, Nat.reduceAdd, Nat.reduceLeDiff, Nat.reduceLT, true_and, and_true, Nat.zero_le, bI_01, bI_0, i10, tf0, iI_add, iI_sub, iI_mul, iI_neg, iI_add1, iI_sub1, iI_m1, nc1, ncm1, iI_clJ, iI_cl0, iI_clN, Int.toNat_natCast, mU_n, mU_s, p_min, p_max, p_abs, ni_2, ni_3, ni_4, ni_7, ni_8, ni_9, ni_12, ni_24, ni_97, ni_100, ni_122, ni_200, ni_256, ni_4096, ni_5000, ni_9999, iI_lt, iI_le, iI_eq, iz_eq, iz_lt, iz_le, iz_gt, iz_ge, iy_eq, iy_lt, iy_le, iI_ltN, iI_leN, iI_eqN, if_pos, if_neg, p1, pc, e1]
  refine l_mark1 hk hL _ 0 T rfl (by omega) Fr.rf (fun j hj => by omega) (fun T2 hS f2 => ?_)
  simp (maxSteps := 4000000) (disch := first | (simp (disch := omega) only [XB_i, XB_n, va_rf_s, va_rf_n, mSI_K, mSI_I, mSI_J, mSI_P, mSI_N, mSJ_K, mSJ_I, mSJ_J, mSJ_P, mSJ_N, mSP_K, mSP_I, mSP_J, mSP_P, mSP_N, mNn, mNi, mNr, mN0, al20, al21, al22, al23, al25, true_or, or_true, and_self, if_true, if_false, mCat_n, mCat_i, mCat_r, mCat_l, mCat_0, Nat.reduceAdd, Nat.reduceLeDiff, Nat.reduceLT, true_and, and_true, Nat.zero_le, bI_01, mInB_J, mInB_Z, mInB_N]; done) | omega | (unfold R32 at *; omega)) only [e_85_40, e_85_41, e_85_42, e_85_43, XB_i, XB_n, va_rf_s, va_rf_n, mSI_K, mSI_I, mSI_J, mSI_P, mSI_N, mSJ_K, mSJ_I, mSJ_J, mSJ_P, mSJ_N, mSP_K, mSP_I, mSP_J, mSP_P, mSP_N, mNn, mNi, mNr, mN0, al20, al21, al22, al23, al25, true_or, or_true, and_self, if_true, if_false, mCat_n, mCat_i, mCat_r, mCat_l, mCat_0, Nat.reduceAdd, Nat.reduceLeDiff, Nat.reduceLT, true_and, and_true, Nat.zero_le, bI_01, bI_0, i10, tf0, iI_add, iI_sub, iI_mul, iI_neg, iI_add1, iI_sub1, iI_m1, nc1, ncm1, iI_clJ, iI_cl0, iI_clN, Int.toNat_natCast, mU_n, mU_s, p_min, p_max, p_abs, ni_2, ni_3, ni_4, ni_7, ni_8, ni_9, ni_12, ni_24, ni_97, ni_100, ni_122, ni_200, ni_256, ni_4096, ni_5000, ni_9999, iI_lt, iI_le, iI_eq, iz_eq, iz_lt, iz_le, iz_gt, iz_ge, iy_eq, iy_lt, iy_le, iI_ltN, iI_leN, iI_eqN, if_pos, if_neg]
  have h0 : (fun j => decide (j = 0) || decide (j = L)) 0 = true := by simp
  refine l_mark2 hk hp dis hB hl hL hL0 _ 0 0 (fun j => decide (j = 0) || decide (j = L)) T2 none none rfl ?_ (by omega) h0 (invM_0 (fun j hj => rfl)) (fun a b hb hab => by have := hab.2.2.1; omega) hS f2 hQ
  have := um_0 (S := fun j => decide (j = 0) || decide (j = L)) h0 (L - 1)
  rw [show L - 1 + 1 = L by omega] at this
  omega
theorem l_keep {n : Nat} (hn : n ≤ r) (hn13 : n ≤ 13) (dis : m + 12 ≤ p) : ∀ (rest : List Cn) (i : Nat) (T : mT) (out : List Cn), i + rest.length = n → StK T m → (∀ j, j < n → T.2.1 (m + 2) j = bI (S j)) → PK T p r → T.2.1 p 3 = iI n → Half T p i out rest → (∀ T2, PathR T2 p r (out ++ keL S i rest) → Fr (iv p (p + 4)) T T2 → Q (.inl none) T2) → XW 84 4 [some (.ref (m)), some (.ref (p)), some (.int (iI ((out.length : Nat) : Int))), some (.int (iI ((i : Nat) : Int)))] [] T Q := by
  intro rest
  induction rest with
  | nil =>
    intro i T out hi hk hS hpk h3 hh hQ
    have hin : i = n := by simpa using hi
    have k1 := hk.1
    have p1 := hpk.1
    rw [e_84_4]
    simp (maxSteps := 4000000) (disch := first | (simp (disch := omega) only [XB_i, XB_n, va_rf_s, va_rf_n, mSI_K, mSI_I, mSI_J, mSI_P, mSI_N, mSJ_K, mSJ_I, mSJ_J, mSJ_P, mSJ_N, mSP_K, mSP_I, mSP_J, mSP_P, mSP_N, mNn, mNi, mNr, mN0, al20, al21, al22, al23, al25, true_or, or_true, and_self, if_true, if_false, mCat_n, mCat_i, mCat_r, mCat_l, mCat_0, Nat.reduceAdd, Nat.reduceLeDiff, Nat.reduceLT, true_and, and_true, Nat.zero_le, bI_01, mInB_J, mInB_Z, mInB_N, k1, p1, h3]; done) | omega | (unfold R32 at *; omega)) only [e_84_0, e_84_1, e_84_2, e_84_3, e_84_5, e_84_5_n, e_84_6, e_84_9, e_84_12, e_84_12_n, e_84_13, e_84_16, e_84_17, e_84_18, e_84_21, e_84_21_n, e_84_22, e_84_23, e_84_27, e_84_30, e_84_33, e_84_36, e_84_36_n, e_84_37, e_84_38, e_84_41, XB_i, XB_n, va_rf_s, va_rf_n, mSI_K, mSI_I, mSI_J, mSI_P, mSI_N, mSJ_K, mSJ_I, mSJ_J, mSJ_P, mSJ_N, mSP_K, mSP_I, mSP_J, mSP_P, mSP_N, mNn, mNi, mNr, mN0, al20, al21, al22, al23, al25, true_or, or_true, and_self, if_true, if_false, mCat_n, mCat_i, mCat_r, mCat_l, mCat_0, Nat.reduceAdd, Nat.reduceLeDiff, Nat.reduceLT, true_and, and_true, Nat.zero_le, bI_01, bI_0, i10, tf0, iI_add, iI_sub, iI_mul, iI_neg, iI_add1, iI_sub1, iI_m1, nc1, ncm1, iI_clJ, iI_cl0, iI_clN, Int.toNat_natCast, mU_n, mU_s, p_min, p_max, p_abs, ni_2, ni_3, ni_4, ni_7, ni_8, ni_9, ni_12, ni_24, ni_97, ni_100, ni_122, ni_200, ni_256, ni_4096, ni_5000, ni_9999, iI_lt, iI_le, iI_eq, iz_eq, iz_lt, iz_le, iz_gt, iz_ge, iy_eq, iy_lt, iy_le, iI_ltN, iI_leN, iI_eqN, if_pos, if_neg, k1, p1, h3]
    refine hQ _ ⟨⟨hpk.1, hpk.2⟩, ?_, by have := hh.1; simp only [keL, List.append_nil]; omega, ?_⟩ (Fr.sI ⟨by omega, by omega⟩)
    · simp only [mSI_I, mU_s, keL, List.append_nil]
    · intro j c hc
      simp only [keL, List.append_nil] at hc
      exact (hh.2.1 j c hc).fr (S := iv p (p + 1)) (Fr.sI ⟨by omega, by omega⟩) (fun b hb z => by have := hb.1; have := z.2; omega)
  | cons c rest ih =>
    intro i T out hi hk hS hpk h3 hh hQ
    simp only [List.length_cons] at hi
    have hout := hh.1
    obtain ⟨k1, k2, k3⟩ := id hk
    have p1 := hpk.1
    have p8 := hpk.2.2.2.2.2.2.2
    have hcc := hh.head
    have hSi := hS i (by omega)
    rw [e_84_4]
    unfold keL at hQ
    cases hs : S i with
    | true =>
      rw [hs] at hQ hSi
      simp (maxSteps := 4000000) (disch := first | (simp (disch := omega) only [XB_i, XB_n, va_rf_s, va_rf_n, mSI_K, mSI_I, mSI_J, mSI_P, mSI_N, mSJ_K, mSJ_I, mSJ_J, mSJ_P, mSJ_N, mSP_K, mSP_I, mSP_J, mSP_P, mSP_N, mNn, mNi, mNr, mN0, al20, al21, al22, al23, al25, true_or, or_true, and_self, if_true, if_false, mCat_n, mCat_i, mCat_r, mCat_l, mCat_0, Nat.reduceAdd, Nat.reduceLeDiff, Nat.reduceLT, true_and, and_true, Nat.zero_le, bI_01, mInB_J, mInB_Z, mInB_N, k1, k2, k3, p1, h3, hSi]; done) | omega | (unfold R32 at *; omega)) only [e_84_5, e_84_5_n, e_84_6, e_84_9, e_84_12, e_84_12_n, e_84_13, e_84_16, e_84_17, e_84_18, e_84_21, e_84_21_n, e_84_22, e_84_23, XB_i, XB_n, va_rf_s, va_rf_n, mSI_K, mSI_I, mSI_J, mSI_P, mSI_N, mSJ_K, mSJ_I, mSJ_J, mSJ_P, mSJ_N, mSP_K, mSP_I, mSP_J, mSP_P, mSP_N, mNn, mNi, mNr, mN0, al20, al21, al22, al23, al25, true_or, or_true, and_self, if_true, if_false, mCat_n, mCat_i, mCat_r, mCat_l, mCat_0, Nat.reduceAdd, Nat.reduceLeDiff, Nat.reduceLT, true_and, and_true, Nat.zero_le, bI_01, bI_0, i10, tf0, iI_add, iI_sub, iI_mul, iI_neg, iI_add1, iI_sub1, iI_m1, nc1, ncm1, iI_clJ, iI_cl0, iI_clN, Int.toNat_natCast, mU_n, mU_s, p_min, p_max, p_abs, ni_2, ni_3, ni_4, ni_7, ni_8, ni_9, ni_12, ni_24, ni_97, ni_100, ni_122, ni_200, ni_256, ni_4096, ni_5000, ni_9999, iI_lt, iI_le, iI_eq, iz_eq, iz_lt, iz_le, iz_gt, iz_ge, iy_eq, iy_lt, iy_le, iI_ltN, iI_leN, iI_eqN, if_pos, if_neg, k1, k2, k3, p1, h3, hSi]
      refine c_84_24 (by simp only [XB_i, XB_n, va_rf_s, va_rf_n, mSI_K, mSI_I, mSI_J, mSI_P, mSI_N, mSJ_K, mSJ_I, mSJ_J, mSJ_P, mSJ_N, mSP_K, mSP_I, mSP_J, mSP_P, mSP_N, mNn, mNi, mNr, mN0, al20, al21, al22, al23, al25, true_or, or_true, and_self, if_true, if_false, mCat_n, mCat_i, mCat_r, mCat_l, mCat_0, Nat.reduceAdd, Nat.reduceLeDiff, Nat.reduceLT, true_and, and_true, Nat.zero_le, bI_01]) (by rw [p1]) (ct_path_move hpk (by omega) (by omega) hcc (fun T2 q2 e2 a2 o2 f2 => ?_))
      simp (maxSteps := 4000000) (disch := first | (simp (disch := omega) only [XB_i, XB_n, va_rf_s, va_rf_n, mSI_K, mSI_I, mSI_J, mSI_P, mSI_N, mSJ_K, mSJ_I, mSJ_J, mSJ_P, mSJ_N, mSP_K, mSP_I, mSP_J, mSP_P, mSP_N, mNn, mNi, mNr, mN0, al20, al21, al22, al23, al25, true_or, or_true, and_self, if_true, if_false, mCat_n, mCat_i, mCat_r, mCat_l, mCat_0, Nat.reduceAdd, Nat.reduceLeDiff, Nat.reduceLT, true_and, and_true, Nat.zero_le, bI_01, mInB_J, mInB_Z, mInB_N]; done) | omega | (unfold R32 at *; omega)) only [e_84_27, e_84_30, e_84_33, XB_i, XB_n, va_rf_s, va_rf_n, mSI_K, mSI_I, mSI_J, mSI_P, mSI_N, mSJ_K, mSJ_I, mSJ_J, mSJ_P, mSJ_N, mSP_K, mSP_I, mSP_J, mSP_P, mSP_N, mNn, mNi, mNr, mN0, al20, al21, al22, al23, al25, true_or, or_true, and_self, if_true, if_false, mCat_n, mCat_i, mCat_r, mCat_l, mCat_0, Nat.reduceAdd, Nat.reduceLeDiff, Nat.reduceLT, true_and, and_true, Nat.zero_le, bI_01, bI_0, i10, tf0, iI_add, iI_sub, iI_mul, iI_neg, iI_add1, iI_sub1, iI_m1, nc1, ncm1, iI_clJ, iI_cl0, iI_clN, Int.toNat_natCast, mU_n, mU_s, p_min, p_max, p_abs, ni_2, ni_3, ni_4, ni_7, ni_8, ni_9, ni_12, ni_24, ni_97, ni_100, ni_122, ni_200, ni_256, ni_4096, ni_5000, ni_9999, iI_lt, iI_le, iI_eq, iz_eq, iz_lt, iz_le, iz_gt, iz_ge, iy_eq, iy_lt, iy_le, iI_ltN, iI_leN, iI_eqN, if_pos, if_neg]
      have := ih (i + 1) T2 (out ++ [c]) (by omega) ⟨by rw [f2.K]; exact k1, by rw [f2.P (fun z => by have := z.1; omega)]; exact k2, by rw [f2.K]; exact k3⟩ (fun j hj => by rw [f2.I (fun z => by have := z.1; omega)]; exact hS j hj) q2 (by rw [e2]; exact h3) (hh.step a2 o2) (fun T3 h3 f3 => hQ T3 (by rw [if_pos rfl]; simpa using h3) (f2.tr f3))
      rw [List.length_append] at this
      exact this
    | false =>
      rw [hs] at hQ hSi
      simp (maxSteps := 4000000) (disch := first | (simp (disch := omega) only [XB_i, XB_n, va_rf_s, va_rf_n, mSI_K, mSI_I, mSI_J, mSI_P, mSI_N, mSJ_K, mSJ_I, mSJ_J, mSJ_P, mSJ_N, mSP_K, mSP_I, mSP_J, mSP_P, mSP_N, mNn, mNi, mNr, mN0, al20, al21, al22, al23, al25, true_or, or_true, and_self, if_true, if_false, mCat_n, mCat_i, mCat_r, mCat_l, mCat_0, Nat.reduceAdd, Nat.reduceLeDiff, Nat.reduceLT, true_and, and_true, Nat.zero_le, bI_01, mInB_J, mInB_Z, mInB_N, k1, k2, k3, p1, h3, hSi]; done) | omega | (unfold R32 at *; omega)) only [e_84_5, e_84_5_n, e_84_6, e_84_9, e_84_12, e_84_12_n, e_84_13, e_84_16, e_84_17, e_84_18, e_84_21, e_84_21_n, e_84_22, e_84_23, e_84_27, e_84_30, e_84_33, XB_i, XB_n, va_rf_s, va_rf_n, mSI_K, mSI_I, mSI_J, mSI_P, mSI_N, mSJ_K, mSJ_I, mSJ_J, mSJ_P, mSJ_N, mSP_K, mSP_I, mSP_J, mSP_P, mSP_N, mNn, mNi, mNr, mN0, al20, al21, al22, al23, al25, true_or, or_true, and_self, if_true, if_false, mCat_n, mCat_i, mCat_r, mCat_l, mCat_0, Nat.reduceAdd, Nat.reduceLeDiff, Nat.reduceLT, true_and, and_true, Nat.zero_le, bI_01, bI_0, i10, tf0, iI_add, iI_sub, iI_mul, iI_neg, iI_add1, iI_sub1, iI_m1, nc1, ncm1, iI_clJ, iI_cl0, iI_clN, Int.toNat_natCast, mU_n, mU_s, p_min, p_max, p_abs, ni_2, ni_3, ni_4, ni_7, ni_8, ni_9, ni_12, ni_24, ni_97, ni_100, ni_122, ni_200, ni_256, ni_4096, ni_5000, ni_9999, iI_lt, iI_le, iI_eq, iz_eq, iz_lt, iz_le, iz_gt, iz_ge, iy_eq, iy_lt, iy_le, iI_ltN, iI_leN, iI_eqN, if_pos, if_neg, k1, k2, k3, p1, h3, hSi]
      exact ih (i + 1) T out (by omega) hk hS hpk h3 hh.tail (fun T3 h3 f3 => hQ T3 (by simpa using h3) f3)
theorem ct_keep (hk : StK T m) (dis : m + 12 ≤ p) (hp : PathR T p r cs) (hl : cs.length ≤ 13) (hS : ∀ j, j < cs.length → T.2.1 (m + 2) j = bI (S j)) (hQ : ∀ T2, PathR T2 p r (keL S 0 cs) → Fr (iv p (p + 4)) T T2 → Q (.inl none) T2) : XW 84 0 [some (.ref (m)), some (.ref (p)), none, none] [] T Q := by
  simp (maxSteps := 4000000) (disch := first | (simp (disch := omega) only [XB_i, XB_n, va_rf_s, va_rf_n, mSI_K, mSI_I, mSI_J, mSI_P, mSI_N, mSJ_K, mSJ_I, mSJ_J, mSJ_P, mSJ_N, mSP_K, mSP_I, mSP_J, mSP_P, mSP_N, mNn, mNi, mNr, mN0, al20, al21, al22, al23, al25, true_or, or_true, and_self, if_true, if_false, mCat_n, mCat_i, mCat_r, mCat_l, mCat_0, Nat.reduceAdd, Nat.reduceLeDiff, Nat.reduceLT, true_and, and_true, Nat.zero_le, bI_01, mInB_J, mInB_Z, mInB_N]; done) | omega | (unfold R32 at *; omega)) only [e_84_0, e_84_1, e_84_2, e_84_3, XB_i, XB_n, va_rf_s, va_rf_n, mSI_K, mSI_I, mSI_J, mSI_P, mSI_N, mSJ_K, mSJ_I, mSJ_J, mSJ_P, mSJ_N, mSP_K, mSP_I, mSP_J, mSP_P, mSP_N, mNn, mNi, mNr, mN0, al20, al21, al22, al23, al25, true_or, or_true, and_self, if_true, if_false, mCat_n, mCat_i, mCat_r, mCat_l, mCat_0, Nat.reduceAdd, Nat.reduceLeDiff, Nat.reduceLT, true_and, and_true, Nat.zero_le, bI_01, bI_0, i10, tf0, iI_add, iI_sub, iI_mul, iI_neg, iI_add1, iI_sub1, iI_m1, nc1, ncm1, iI_clJ, iI_cl0, iI_clN, Int.toNat_natCast, mU_n, mU_s, p_min, p_max, p_abs, ni_2, ni_3, ni_4, ni_7, ni_8, ni_9, ni_12, ni_24, ni_97, ni_100, ni_122, ni_200, ni_256, ni_4096, ni_5000, ni_9999, iI_lt, iI_le, iI_eq, iz_eq, iz_lt, iz_le, iz_gt, iz_ge, iy_eq, iy_lt, iy_le, iI_ltN, iI_leN, iI_eqN, if_pos, if_neg]
  exact l_keep (n := cs.length) hp.2.2.1 hl dis cs 0 T [] (by simp) hk hS hp.1 hp.2.1 ⟨by simp, fun j c hc => by simp at hc, fun j c hc => by rw [Nat.zero_add]; exact hp.2.2.2 j c hc⟩ hQ
end MK
