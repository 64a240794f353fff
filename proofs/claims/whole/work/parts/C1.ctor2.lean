/-! constructors: the inner classes -/
theorem cd_1 : ¬ (1 : Int32) < 0 ∧ (1 : Int32).toNatClampNeg ≤ 65536 := by decide +kernel
theorem cn_1 : (1 : Int32).toNatClampNeg = 1 := by decide +kernel
theorem cd_2 : ¬ (2 : Int32) < 0 ∧ (2 : Int32).toNatClampNeg ≤ 65536 := by decide +kernel
theorem cn_2 : (2 : Int32).toNatClampNeg = 2 := by decide +kernel
theorem cd_3 : ¬ (3 : Int32) < 0 ∧ (3 : Int32).toNatClampNeg ≤ 65536 := by decide +kernel
theorem cn_3 : (3 : Int32).toNatClampNeg = 3 := by decide +kernel
theorem cd_5 : ¬ (5 : Int32) < 0 ∧ (5 : Int32).toNatClampNeg ≤ 65536 := by decide +kernel
theorem cn_5 : (5 : Int32).toNatClampNeg = 5 := by decide +kernel
theorem cd_12 : ¬ (12 : Int32) < 0 ∧ (12 : Int32).toNatClampNeg ≤ 65536 := by decide +kernel
theorem cn_12 : (12 : Int32).toNatClampNeg = 12 := by decide +kernel
theorem cd_13 : ¬ (13 : Int32) < 0 ∧ (13 : Int32).toNatClampNeg ≤ 65536 := by decide +kernel
theorem cn_13 : (13 : Int32).toNatClampNeg = 13 := by decide +kernel
theorem cd_16 : ¬ (16 : Int32) < 0 ∧ (16 : Int32).toNatClampNeg ≤ 65536 := by decide +kernel
theorem cn_16 : (16 : Int32).toNatClampNeg = 16 := by decide +kernel
theorem cd_24 : ¬ (24 : Int32) < 0 ∧ (24 : Int32).toNatClampNeg ≤ 65536 := by decide +kernel
theorem cn_24 : (24 : Int32).toNatClampNeg = 24 := by decide +kernel
theorem cd_25 : ¬ (25 : Int32) < 0 ∧ (25 : Int32).toNatClampNeg ≤ 65536 := by decide +kernel
theorem cn_25 : (25 : Int32).toNatClampNeg = 25 := by decide +kernel
theorem cd_60 : ¬ (60 : Int32) < 0 ∧ (60 : Int32).toNatClampNeg ≤ 65536 := by decide +kernel
theorem cn_60 : (60 : Int32).toNatClampNeg = 60 := by decide +kernel
theorem cd_72 : ¬ (72 : Int32) < 0 ∧ (72 : Int32).toNatClampNeg ≤ 65536 := by decide +kernel
theorem cn_72 : (72 : Int32).toNatClampNeg = 72 := by decide +kernel
theorem cd_100 : ¬ (100 : Int32) < 0 ∧ (100 : Int32).toNatClampNeg ≤ 65536 := by decide +kernel
theorem cn_100 : (100 : Int32).toNatClampNeg = 100 := by decide +kernel
theorem cd_120 : ¬ (120 : Int32) < 0 ∧ (120 : Int32).toNatClampNeg ≤ 65536 := by decide +kernel
theorem cn_120 : (120 : Int32).toNatClampNeg = 120 := by decide +kernel
theorem cd_200 : ¬ (200 : Int32) < 0 ∧ (200 : Int32).toNatClampNeg ≤ 65536 := by decide +kernel
theorem cn_200 : (200 : Int32).toNatClampNeg = 200 := by decide +kernel
theorem cd_400 : ¬ (400 : Int32) < 0 ∧ (400 : Int32).toNatClampNeg ≤ 65536 := by decide +kernel
theorem cn_400 : (400 : Int32).toNatClampNeg = 400 := by decide +kernel
theorem cd_500 : ¬ (500 : Int32) < 0 ∧ (500 : Int32).toNatClampNeg ≤ 65536 := by decide +kernel
theorem cn_500 : (500 : Int32).toNatClampNeg = 500 := by decide +kernel
theorem cd_864 : ¬ (864 : Int32) < 0 ∧ (864 : Int32).toNatClampNeg ≤ 65536 := by decide +kernel
theorem cn_864 : (864 : Int32).toNatClampNeg = 864 := by decide +kernel
theorem cd_5000 : ¬ (5000 : Int32) < 0 ∧ (5000 : Int32).toNatClampNeg ≤ 65536 := by decide +kernel
theorem cn_5000 : (5000 : Int32).toNatClampNeg = 5000 := by decide +kernel
theorem cd_5880 : ¬ (5880 : Int32) < 0 ∧ (5880 : Int32).toNatClampNeg ≤ 65536 := by decide +kernel
theorem cn_5880 : (5880 : Int32).toNatClampNeg = 5880 := by decide +kernel
theorem cd_12000 : ¬ (12000 : Int32) < 0 ∧ (12000 : Int32).toNatClampNeg ≤ 65536 := by decide +kernel
theorem cn_12000 : (12000 : Int32).toNatClampNeg = 12000 := by decide +kernel
theorem cd_25000 : ¬ (25000 : Int32) < 0 ∧ (25000 : Int32).toNatClampNeg ≤ 65536 := by decide +kernel
theorem cn_25000 : (25000 : Int32).toNatClampNeg = 25000 := by decide +kernel
def Fe0 (T : mT) (a : Nat) : Prop := FeatK T a ∧ ∀ j, T.2.1 a j = 0
theorem Fe0.ag {T T2 : mT} {a : Nat} (h : Fe0 T a) (hs : ∀ b, iv a (a + 3) b → Ag T T2 b) : Fe0 T2 a := ⟨h.1.ag hs, fun j => by rw [(hs a ⟨by omega, by omega⟩).2.1]; exact h.2 j⟩
def Pr0 (T : mT) (a : Nat) : Prop := PkrR T a (a + 1) (a + 109) ∧ Mk0 T (a + 1) ∧ OctR T (a + 109) []
theorem Pr0.ag {T T2 : mT} {a : Nat} (h : Pr0 T a) (hs : ∀ b, iv a (a + 111) b → Ag T T2 b) : Pr0 T2 a := by
  obtain ⟨h1, h2, h3⟩ := h
  refine ⟨?_, h2.ag (fun b hb => hs b ⟨by have := hb.1; omega, by have := hb.2; omega⟩), h3.ag (fun b hb => hs b ⟨by have := hb.1; omega, by have := hb.2; omega⟩)⟩
  unfold PkrR
  rw [(hs a ⟨by omega, by omega⟩).1, (hs a ⟨by omega, by omega⟩).2.2.2]
  exact h1
theorem ni_X2 {T : mT} {Q : mOut → mT → Prop} {a : Nat} (h0 : Fz T a 3) (hQ : ∀ T2, Md T T2 a 3 24 → Fe0 T2 a → Q (.inl none) T2) : XW 14 0 [some (.ref (a))] [] T Q := by
  have hB := BK.go h0
  rw [e_14_0, e_14_1 (by simp only [XB_i, XB_n, va_rf_s, va_rf_n, mSI_K, mSI_I, mSI_J, mSI_P, mSI_N, mSJ_K, mSJ_I, mSJ_J, mSJ_P, mSJ_N, mSP_K, mSP_I, mSP_J, mSP_P, mSP_N, mNn, mNi, mNr, mN0, al20, al21, al22, al23, al25, true_or, or_true, and_self, if_true, if_false, mCat_n, mCat_i, mCat_r, mCat_l, mCat_0, Nat.reduceAdd, Nat.reduceLeDiff, Nat.reduceLT, true_and, and_true, Nat.zero_le, bI_01])]
  rw [e_14_4, e_14_5, e_14_7 cd_12, cn_12, hB.nxe, e_14_9 hB.k1]
  obtain ⟨hB1, hA1, hZ1⟩ := hB.arr (f := 6) (k := 21) (n := 12) (by simp)
  generalize mSP (mNw T 21 12 12) a 6 (some (a + 1)) = t1 at hB1 hA1 hZ1 ⊢
  replace hB : BK T t1 a 3 2 12 [(6, 1, 21, 12)] := hB1
  rw [e_14_12, e_14_13, e_14_15 cd_12, cn_12, hB.nxe, e_14_17 hB.k1]
  obtain ⟨hB2, hA2, hZ2⟩ := hB.arr (f := 7) (k := 21) (n := 12) (by simp)
  generalize mSP (mNw t1 21 12 12) a 7 (some (a + 2)) = t2 at hB2 hA2 hZ2 ⊢
  replace hB : BK T t2 a 3 3 24 [(7, 2, 21, 12), (6, 1, 21, 12)] := hB2
  rw [e_14_20]
  exact hQ t2 (hB.md h0) ⟨⟨hB.1, (hB.l (f := 6) (o := 1) (k := 21) (n := 12) (by simp)).1, (hB.l (f := 7) (o := 2) (k := 21) (n := 12) (by simp)).1, (hB.l (f := 6) (o := 1) (k := 21) (n := 12) (by simp)).2, (hB.l (f := 7) (o := 2) (k := 21) (n := 12) (by simp)).2⟩, hB.2.1⟩
theorem ni_X3 {T : mT} {Q : mOut → mT → Prop} {a : Nat} (h0 : Fz T a 4) (hQ : ∀ T2, Md T T2 a 2 5880 → OctR T2 a [] → Q (.inl none) T2) : XW 39 0 [some (.ref (a))] [] T Q := by
  have hB := BK.go h0
  rw [e_39_0, e_39_1 (by simp only [XB_i, XB_n, va_rf_s, va_rf_n, mSI_K, mSI_I, mSI_J, mSI_P, mSI_N, mSJ_K, mSJ_I, mSJ_J, mSJ_P, mSJ_N, mSP_K, mSP_I, mSP_J, mSP_P, mSP_N, mNn, mNi, mNr, mN0, al20, al21, al22, al23, al25, true_or, or_true, and_self, if_true, if_false, mCat_n, mCat_i, mCat_r, mCat_l, mCat_0, Nat.reduceAdd, Nat.reduceLeDiff, Nat.reduceLT, true_and, and_true, Nat.zero_le, bI_01])]
  rw [e_39_4, e_39_5, e_39_8 cd_5880, cn_5880, hB.nxe, e_39_10 hB.k1]
  obtain ⟨hB1, hA1, hZ1⟩ := hB.arr (f := 0) (k := 20) (n := 5880) (by simp)
  generalize mSP (mNw T 20 5880 5880) a 0 (some (a + 1)) = t1 at hB1 hA1 hZ1 ⊢
  replace hB : BK T t1 a 4 2 5880 [(0, 1, 20, 5880)] := hB1
  rw [e_39_13]
  exact hQ t1 (hB.md h0) ⟨hB.1, (hB.l (f := 0) (o := 1) (k := 20) (n := 5880) (by simp)).1, (hB.l (f := 0) (o := 1) (k := 20) (n := 5880) (by simp)).2, hB.2.1 1, by simp, fun j x hj => absurd hj (by simp)⟩
theorem ni_X7 {T : mT} {Q : mOut → mT → Prop} {a : Nat} (h0 : Fz T a 8) (hQ : ∀ T2, Md T T2 a 1 0 → Q (.inl none) T2) : XW 70 0 [some (.ref (a))] [] T Q := by
  rw [e_70_0, e_70_1 (by simp only [XB_i, XB_n, va_rf_s, va_rf_n, mSI_K, mSI_I, mSI_J, mSI_P, mSI_N, mSJ_K, mSJ_I, mSJ_J, mSJ_P, mSJ_N, mSP_K, mSP_I, mSP_J, mSP_P, mSP_N, mNn, mNi, mNr, mN0, al20, al21, al22, al23, al25, true_or, or_true, and_self, if_true, if_false, mCat_n, mCat_i, mCat_r, mCat_l, mCat_0, Nat.reduceAdd, Nat.reduceLeDiff, Nat.reduceLT, true_and, and_true, Nat.zero_le, bI_01]), e_70_4]
  exact hQ T ((BK.go h0).md h0)
theorem ni_X8 {T : mT} {Q : mOut → mT → Prop} {a : Nat} (h0 : Fz T a 9) (hQ : ∀ T2, Md T T2 a 1 0 → Q (.inl none) T2) : XW 77 0 [some (.ref (a))] [] T Q := by
  rw [e_77_0, e_77_1 (by simp only [XB_i, XB_n, va_rf_s, va_rf_n, mSI_K, mSI_I, mSI_J, mSI_P, mSI_N, mSJ_K, mSJ_I, mSJ_J, mSJ_P, mSJ_N, mSP_K, mSP_I, mSP_J, mSP_P, mSP_N, mNn, mNi, mNr, mN0, al20, al21, al22, al23, al25, true_or, or_true, and_self, if_true, if_false, mCat_n, mCat_i, mCat_r, mCat_l, mCat_0, Nat.reduceAdd, Nat.reduceLeDiff, Nat.reduceLT, true_and, and_true, Nat.zero_le, bI_01]), e_77_4]
  exact hQ T ((BK.go h0).md h0)
theorem ni_X6 {T : mT} {Q : mOut → mT → Prop} {a : Nat} {z : Int32} {r : Nat} (hz : ¬ z < 0) (hr : z.toNatClampNeg = r) (hr2 : r ≤ 1000) (h0 : Fz T a 7) (hQ : ∀ T2, Md T T2 a 4 (r + r + r) → PathR T2 a r [] → Q (.inl none) T2) : XW 56 0 [some (.ref (a)), some (.int (z))] [] T Q := by
  have hB := BK.go h0
  have hc : ¬ z < 0 ∧ z.toNatClampNeg ≤ 65536 := ⟨hz, by omega⟩
  rw [e_56_0, e_56_1 (by simp only [XB_i, XB_n, va_rf_s, va_rf_n, mSI_K, mSI_I, mSI_J, mSI_P, mSI_N, mSJ_K, mSJ_I, mSJ_J, mSJ_P, mSJ_N, mSP_K, mSP_I, mSP_J, mSP_P, mSP_N, mNn, mNi, mNr, mN0, al20, al21, al22, al23, al25, true_or, or_true, and_self, if_true, if_false, mCat_n, mCat_i, mCat_r, mCat_l, mCat_0, Nat.reduceAdd, Nat.reduceLeDiff, Nat.reduceLT, true_and, and_true, Nat.zero_le, bI_01])]
  rw [e_56_4, e_56_5, e_56_6 hc, hr, hB.nxe, e_56_8 hB.k1]
  obtain ⟨hB1, hA1, hZ1⟩ := hB.arr (f := 0) (k := 21) (n := r) (by simp)
  generalize mSP (mNw T 21 r r) a 0 (some (a + 1)) = t1 at hB1 hA1 hZ1 ⊢
  replace hB : BK T t1 a 7 2 (0 + r) [(0, 1, 21, r)] := hB1
  rw [e_56_11, e_56_12, e_56_13 hc, hr, hB.nxe, e_56_15 hB.k1]
  obtain ⟨hB2, hA2, hZ2⟩ := hB.arr (f := 1) (k := 21) (n := r) (by simp)
  generalize mSP (mNw t1 21 r r) a 1 (some (a + 2)) = t2 at hB2 hA2 hZ2 ⊢
  replace hB : BK T t2 a 7 3 (0 + r + r) [(1, 2, 21, r), (0, 1, 21, r)] := hB2
  rw [e_56_18, e_56_19, e_56_20 hc, hr, hB.nxe, e_56_22 hB.k1]
  obtain ⟨hB3, hA3, hZ3⟩ := hB.arr (f := 2) (k := 23) (n := r) (by simp)
  generalize mSP (mNw t2 23 r r) a 2 (some (a + 3)) = t3 at hB3 hA3 hZ3 ⊢
  replace hB : BK T t3 a 7 4 (0 + r + r + r) [(2, 3, 23, r), (1, 2, 21, r), (0, 1, 21, r)] := hB3
  rw [Nat.zero_add] at hB
  rw [e_56_25]
  have g := fun f k => fun (hm : (f, f + 1, k, r) ∈ [(2, 3, 23, r), (1, 2, 21, r), (0, 1, 21, r)]) => hB.l hm
  have g0 := g 0 21 (by simp)
  have g1 := g 1 21 (by simp)
  have g2 := g 2 23 (by simp)
  exact hQ t3 (hB.md h0) ⟨⟨hB.1, g0.1, g1.1, g2.1, g0.2, g1.2, g2.2, hr2⟩, hB.2.1 3, by simp, fun j c hj => absurd hj (by simp)⟩
theorem l_niX1 {T0 : mT} {Q : mOut → mT → Prop} {a : Nat} (h0 : Fz T0 a 2) (hQ : ∀ T2, Md T0 T2 a 74 792 → EdR T2 a [] → Q (.inl none) T2) : ∀ (n j : Nat) (T : mT), j + n = 24 → BK T0 T a 2 (2 + 3 * j) (24 + 32 * j) [(0, 1, 25, 24)] → (∀ i, i < j → T.2.2.2.1 (a + 1) i = some (a + 2 + 3 * i) ∧ FeatK T (a + 2 + 3 * i)) → XW 3 15 [some (.ref (a)), some (.int (iI ((j : Nat) : Int)))] [] T Q := by
  intro n
  induction n with
  | zero =>
    intro j T hj hB hF
    have : j = 24 := by omega
    subst this
    rw [e_3_15]
    simp (maxSteps := 4000000) (disch := first | (simp (disch := omega) only [XB_i, XB_n, va_rf_s, va_rf_n, mSI_K, mSI_I, mSI_J, mSI_P, mSI_N, mSJ_K, mSJ_I, mSJ_J, mSJ_P, mSJ_N, mSP_K, mSP_I, mSP_J, mSP_P, mSP_N, mNn, mNi, mNr, mN0, al20, al21, al22, al23, al25, true_or, or_true, and_self, if_true, if_false, mCat_n, mCat_i, mCat_r, mCat_l, mCat_0, Nat.reduceAdd, Nat.reduceLeDiff, Nat.reduceLT, true_and, and_true, Nat.zero_le, bI_01, mInB_J, mInB_Z, mInB_N]; done) | omega | (unfold R32 at *; omega)) only [e_3_16, e_3_18, e_3_40, XB_i, XB_n, va_rf_s, va_rf_n, mSI_K, mSI_I, mSI_J, mSI_P, mSI_N, mSJ_K, mSJ_I, mSJ_J, mSJ_P, mSJ_N, mSP_K, mSP_I, mSP_J, mSP_P, mSP_N, mNn, mNi, mNr, mN0, al20, al21, al22, al23, al25, true_or, or_true, and_self, if_true, if_false, mCat_n, mCat_i, mCat_r, mCat_l, mCat_0, Nat.reduceAdd, Nat.reduceLeDiff, Nat.reduceLT, true_and, and_true, Nat.zero_le, bI_01, bI_0, i10, tf0, iI_add, iI_sub, iI_mul, iI_neg, iI_add1, iI_sub1, iI_m1, nca, nc1, ncm1, iI_clJ, iI_cl0, iI_clN, Int.toNat_natCast, mU_n, mU_s, p_min, p_max, p_abs, ni_2, ni_3, ni_4, ni_7, ni_8, ni_9, ni_12, ni_24, ni_97, ni_100, ni_122, ni_200, ni_256, ni_4096, ni_5000, ni_9999, iI_lt, iI_le, iI_eq, iz_eq, iz_lt, iz_le, iz_gt, iz_ge, iy_eq, iy_lt, iy_le, iI_ltN, iI_leN, iI_eqN, if_pos, if_neg]
    have g := hB.l (f := 0) (o := 1) (k := 25) (n := 24) (by simp)
    exact hQ T (hB.md h0) ⟨fun j => a + 2 + 3 * j, ⟨hB.1, g.1, g.2, fun j hj => (hF j hj).1, fun j hj => (hF j hj).2⟩, ⟨fun j hj => by constructor <;> (dsimp only; omega), fun i j hi hj hij => by dsimp only; omega⟩, hB.2.1 1, by simp, fun j hj => absurd hj (by simp)⟩
  | succ n ih =>
    intro j T hj hB hF
    have hk := hB.1
    have hn := hB.nxe
    obtain ⟨hp, hq⟩ := hB.l (f := 0) (o := 1) (k := 25) (n := 24) (by simp)
    rw [e_3_15]
    simp (maxSteps := 4000000) (disch := first | (simp (disch := omega) only [XB_i, XB_n, va_rf_s, va_rf_n, mSI_K, mSI_I, mSI_J, mSI_P, mSI_N, mSJ_K, mSJ_I, mSJ_J, mSJ_P, mSJ_N, mSP_K, mSP_I, mSP_J, mSP_P, mSP_N, mNn, mNi, mNr, mN0, al20, al21, al22, al23, al25, true_or, or_true, and_self, if_true, if_false, mCat_n, mCat_i, mCat_r, mCat_l, mCat_0, Nat.reduceAdd, Nat.reduceLeDiff, Nat.reduceLT, true_and, and_true, Nat.zero_le, bI_01, mInB_J, mInB_Z, mInB_N, hk, hp, hn]; done) | omega | (unfold R32 at *; omega)) only [e_3_16, e_3_18, e_3_21, e_3_21_n, e_3_22, e_3_25, e_3_26, e_3_29, e_3_29_i, XB_i, XB_n, va_rf_s, va_rf_n, mSI_K, mSI_I, mSI_J, mSI_P, mSI_N, mSJ_K, mSJ_I, mSJ_J, mSJ_P, mSJ_N, mSP_K, mSP_I, mSP_J, mSP_P, mSP_N, mNn, mNi, mNr, mN0, al20, al21, al22, al23, al25, true_or, or_true, and_self, if_true, if_false, mCat_n, mCat_i, mCat_r, mCat_l, mCat_0, Nat.reduceAdd, Nat.reduceLeDiff, Nat.reduceLT, true_and, and_true, Nat.zero_le, bI_01, bI_0, i10, tf0, iI_add, iI_sub, iI_mul, iI_neg, iI_add1, iI_sub1, iI_m1, nca, nc1, ncm1, iI_clJ, iI_cl0, iI_clN, Int.toNat_natCast, mU_n, mU_s, p_min, p_max, p_abs, ni_2, ni_3, ni_4, ni_7, ni_8, ni_9, ni_12, ni_24, ni_97, ni_100, ni_122, ni_200, ni_256, ni_4096, ni_5000, ni_9999, iI_lt, iI_le, iI_eq, iz_eq, iz_lt, iz_le, iz_gt, iz_ge, iy_eq, iy_lt, iy_le, iI_ltN, iI_leN, iI_eqN, if_pos, if_neg, hk, hp, hn]
    refine c_3_30 (by simp only [XB_i, XB_n, va_rf_s, va_rf_n, mSI_K, mSI_I, mSI_J, mSI_P, mSI_N, mSJ_K, mSJ_I, mSJ_J, mSJ_P, mSJ_N, mSP_K, mSP_I, mSP_J, mSP_P, mSP_N, mNn, mNi, mNr, mN0, al20, al21, al22, al23, al25, true_or, or_true, and_self, if_true, if_false, mCat_n, mCat_i, mCat_r, mCat_l, mCat_0, Nat.reduceAdd, Nat.reduceLeDiff, Nat.reduceLT, true_and, and_true, Nat.zero_le, bI_01]) (ni_X2 hB.fz (fun T2 hM hP => ?_))
    obtain ⟨hB2, hA, hC, ⟨c1, c2, c3⟩, hx⟩ := hB.aas (c := a + 1) (j := j) hM (by omega) (by omega)
    have kc : T2.1 (a + 1) = (25, 24) := ((hB.ag2 hM (by omega)).1).trans hq
    simp (maxSteps := 4000000) (disch := first | (simp (disch := omega) only [XB_i, XB_n, va_rf_s, va_rf_n, mSI_K, mSI_I, mSI_J, mSI_P, mSI_N, mSJ_K, mSJ_I, mSJ_J, mSJ_P, mSJ_N, mSP_K, mSP_I, mSP_J, mSP_P, mSP_N, mNn, mNi, mNr, mN0, al20, al21, al22, al23, al25, true_or, or_true, and_self, if_true, if_false, mCat_n, mCat_i, mCat_r, mCat_l, mCat_0, Nat.reduceAdd, Nat.reduceLeDiff, Nat.reduceLT, true_and, and_true, Nat.zero_le, bI_01, mInB_J, mInB_Z, mInB_N, kc, hx, mCo25]; done) | omega | (unfold R32 at *; omega)) only [e_3_33, e_3_34, e_3_37, XB_i, XB_n, va_rf_s, va_rf_n, mSI_K, mSI_I, mSI_J, mSI_P, mSI_N, mSJ_K, mSJ_I, mSJ_J, mSJ_P, mSJ_N, mSP_K, mSP_I, mSP_J, mSP_P, mSP_N, mNn, mNi, mNr, mN0, al20, al21, al22, al23, al25, true_or, or_true, and_self, if_true, if_false, mCat_n, mCat_i, mCat_r, mCat_l, mCat_0, Nat.reduceAdd, Nat.reduceLeDiff, Nat.reduceLT, true_and, and_true, Nat.zero_le, bI_01, bI_0, i10, tf0, iI_add, iI_sub, iI_mul, iI_neg, iI_add1, iI_sub1, iI_m1, nca, nc1, ncm1, iI_clJ, iI_cl0, iI_clN, Int.toNat_natCast, mU_n, mU_s, p_min, p_max, p_abs, ni_2, ni_3, ni_4, ni_7, ni_8, ni_9, ni_12, ni_24, ni_97, ni_100, ni_122, ni_200, ni_256, ni_4096, ni_5000, ni_9999, iI_lt, iI_le, iI_eq, iz_eq, iz_lt, iz_le, iz_gt, iz_ge, iy_eq, iy_lt, iy_le, iI_ltN, iI_leN, iI_eqN, if_pos, if_neg, kc, hx, mCo25]
    have i1 := ih (j + 1) (mSP T2 (a + 1) j (some (a + (2 + 3 * j)))) (by omega) (by rw [show 2 + 3 * (j + 1) = 2 + 3 * j + 3 by omega, show 24 + 32 * (j + 1) = 24 + 32 * j + 8 + 24 by omega]; exact hB2) (fun i hi => by
      by_cases q : i = j
      · subst q
        refine ⟨by rw [c1]; congr 1; omega, ?_⟩
        have := (hP.1.ag (fun b hb => hC b (by have := hb.1; omega)))
        rw [show a + 2 + 3 * i = a + (2 + 3 * i) by omega]
        exact this
      · have f1 := hF i (by omega)
        exact ⟨by rw [c3 i q]; exact f1.1, f1.2.ag (fun b hb => hA b (by have := hb.2; omega) (by have := hb.1; omega))⟩)
    exact i1
theorem ni_X1 {T : mT} {Q : mOut → mT → Prop} {a : Nat} (h0 : Fz T a 2) (hQ : ∀ T2, Md T T2 a 74 792 → EdR T2 a [] → Q (.inl none) T2) : XW 3 0 [some (.ref (a)), none] [] T Q := by
  have hB := BK.go h0
  rw [e_3_0, e_3_1 (by simp only [XB_i, XB_n, va_rf_s, va_rf_n, mSI_K, mSI_I, mSI_J, mSI_P, mSI_N, mSJ_K, mSJ_I, mSJ_J, mSJ_P, mSJ_N, mSP_K, mSP_I, mSP_J, mSP_P, mSP_N, mNn, mNi, mNr, mN0, al20, al21, al22, al23, al25, true_or, or_true, and_self, if_true, if_false, mCat_n, mCat_i, mCat_r, mCat_l, mCat_0, Nat.reduceAdd, Nat.reduceLeDiff, Nat.reduceLT, true_and, and_true, Nat.zero_le, bI_01])]
  rw [e_3_4, e_3_5, e_3_7 cd_24, cn_24, hB.nxe, e_3_10 hB.k1]
  obtain ⟨hB1, hA1, hZ1⟩ := hB.arr (f := 0) (k := 25) (n := 24) (by simp)
  generalize mSP (mNw T 25 24 24) a 0 (some (a + 1)) = t1 at hB1 hA1 hZ1 ⊢
  replace hB : BK T t1 a 2 2 24 [(0, 1, 25, 24)] := hB1
  simp (maxSteps := 4000000) (disch := first | (simp (disch := omega) only [XB_i, XB_n, va_rf_s, va_rf_n, mSI_K, mSI_I, mSI_J, mSI_P, mSI_N, mSJ_K, mSJ_I, mSJ_J, mSJ_P, mSJ_N, mSP_K, mSP_I, mSP_J, mSP_P, mSP_N, mNn, mNi, mNr, mN0, al20, al21, al22, al23, al25, true_or, or_true, and_self, if_true, if_false, mCat_n, mCat_i, mCat_r, mCat_l, mCat_0, Nat.reduceAdd, Nat.reduceLeDiff, Nat.reduceLT, true_and, and_true, Nat.zero_le, bI_01, mInB_J, mInB_Z, mInB_N]; done) | omega | (unfold R32 at *; omega)) only [e_3_13, e_3_14, XB_i, XB_n, va_rf_s, va_rf_n, mSI_K, mSI_I, mSI_J, mSI_P, mSI_N, mSJ_K, mSJ_I, mSJ_J, mSJ_P, mSJ_N, mSP_K, mSP_I, mSP_J, mSP_P, mSP_N, mNn, mNi, mNr, mN0, al20, al21, al22, al23, al25, true_or, or_true, and_self, if_true, if_false, mCat_n, mCat_i, mCat_r, mCat_l, mCat_0, Nat.reduceAdd, Nat.reduceLeDiff, Nat.reduceLT, true_and, and_true, Nat.zero_le, bI_01, bI_0, i10, tf0, iI_add, iI_sub, iI_mul, iI_neg, iI_add1, iI_sub1, iI_m1, nca, nc1, ncm1, iI_clJ, iI_cl0, iI_clN, Int.toNat_natCast, mU_n, mU_s, p_min, p_max, p_abs, ni_2, ni_3, ni_4, ni_7, ni_8, ni_9, ni_12, ni_24, ni_97, ni_100, ni_122, ni_200, ni_256, ni_4096, ni_5000, ni_9999, iI_lt, iI_le, iI_eq, iz_eq, iz_lt, iz_le, iz_gt, iz_ge, iy_eq, iy_lt, iy_le, iI_ltN, iI_leN, iI_eqN, if_pos, if_neg]
  exact l_niX1 h0 hQ 24 0 t1 rfl hB (fun i hi => by omega)
theorem ni_X4 {T : mT} {Q : mOut → mT → Prop} {a : Nat} (h0 : Fz T a 5) (hQ : ∀ T2, Md T T2 a 84 6499 → Sp0 T2 a → Q (.inl none) T2) : XW 43 0 [some (.ref (a))] [] T Q := by
  have hB := BK.go h0
  rw [e_43_0, e_43_1 (by simp only [XB_i, XB_n, va_rf_s, va_rf_n, mSI_K, mSI_I, mSI_J, mSI_P, mSI_N, mSJ_K, mSJ_I, mSJ_J, mSJ_P, mSJ_N, mSP_K, mSP_I, mSP_J, mSP_P, mSP_N, mNn, mNi, mNr, mN0, al20, al21, al22, al23, al25, true_or, or_true, and_self, if_true, if_false, mCat_n, mCat_i, mCat_r, mCat_l, mCat_0, Nat.reduceAdd, Nat.reduceLeDiff, Nat.reduceLT, true_and, and_true, Nat.zero_le, bI_01])]
  rw [e_43_4, e_43_5, e_43_8, hB.nxe]
  refine c_43_9 (by simp only [XB_i, XB_n, va_rf_s, va_rf_n, mSI_K, mSI_I, mSI_J, mSI_P, mSI_N, mSJ_K, mSJ_I, mSJ_J, mSJ_P, mSJ_N, mSP_K, mSP_I, mSP_J, mSP_P, mSP_N, mNn, mNi, mNr, mN0, al20, al21, al22, al23, al25, true_or, or_true, and_self, if_true, if_false, mCat_n, mCat_i, mCat_r, mCat_l, mCat_0, Nat.reduceAdd, Nat.reduceLeDiff, Nat.reduceLT, true_and, and_true, Nat.zero_le, bI_01]) (ni_X7 hB.fz (fun v1 hM1  => ?_))
  simp only [XB_n, Nat.reduceAdd]
  rw [e_43_12 (hB.k2 hM1)]
  obtain ⟨hB1, hA1, hC1⟩ := hB.obj (f := 1) hM1 (by omega) (by simp)
  generalize mSP v1 a 1 (some (a + 1)) = t1 at hB1 hA1 hC1  ⊢
  replace hB : BK T t1 a 5 2 5 [(1, 1, 8, 0)] := hB1
  rw [e_43_15, e_43_16, e_43_19, hB.nxe]
  refine c_43_20 (by simp only [XB_i, XB_n, va_rf_s, va_rf_n, mSI_K, mSI_I, mSI_J, mSI_P, mSI_N, mSJ_K, mSJ_I, mSJ_J, mSJ_P, mSJ_N, mSP_K, mSP_I, mSP_J, mSP_P, mSP_N, mNn, mNi, mNr, mN0, al20, al21, al22, al23, al25, true_or, or_true, and_self, if_true, if_false, mCat_n, mCat_i, mCat_r, mCat_l, mCat_0, Nat.reduceAdd, Nat.reduceLeDiff, Nat.reduceLT, true_and, and_true, Nat.zero_le, bI_01]) (ni_X1 hB.fz (fun v2 hM2 hP2 => ?_))
  simp only [XB_n, Nat.reduceAdd]
  rw [e_43_23 (hB.k2 hM2)]
  obtain ⟨hB2, hA2, hC2⟩ := hB.obj (f := 2) hM2 (by omega) (by simp)
  replace hP2 := hP2.ag (fun b hb => hC2 b (by have := hb.1; omega))
  generalize mSP v2 a 2 (some (a + 2)) = t2 at hB2 hA2 hC2 hP2 ⊢
  replace hB : BK T t2 a 5 76 799 [(2, 2, 2, 0), (1, 1, 8, 0)] := hB2
  rw [e_43_26, e_43_27, e_43_29 cd_100, cn_100, hB.nxe, e_43_31 hB.k1]
  obtain ⟨hB3, hA3, hZ3⟩ := hB.arr (f := 6) (k := 21) (n := 100) (by simp)
  generalize mSP (mNw t2 21 100 100) a 6 (some (a + 76)) = t3 at hB3 hA3 hZ3 ⊢
  replace hP2 := hP2.ag (fun b hb => hA3 b (by have := hb.2; omega) (by have := hb.1; omega))
  replace hB : BK T t3 a 5 77 899 [(6, 76, 21, 100), (2, 2, 2, 0), (1, 1, 8, 0)] := hB3
  rw [e_43_34, e_43_35, e_43_37 cd_100, cn_100, hB.nxe, e_43_39 hB.k1]
  obtain ⟨hB4, hA4, hZ4⟩ := hB.arr (f := 7) (k := 21) (n := 100) (by simp)
  generalize mSP (mNw t3 21 100 100) a 7 (some (a + 77)) = t4 at hB4 hA4 hZ4 ⊢
  replace hP2 := hP2.ag (fun b hb => hA4 b (by have := hb.2; omega) (by have := hb.1; omega))
  replace hB : BK T t4 a 5 78 999 [(7, 77, 21, 100), (6, 76, 21, 100), (2, 2, 2, 0), (1, 1, 8, 0)] := hB4
  rw [e_43_42, e_43_43, e_43_45 cd_100, cn_100, hB.nxe, e_43_47 hB.k1]
  obtain ⟨hB5, hA5, hZ5⟩ := hB.arr (f := 8) (k := 21) (n := 100) (by simp)
  generalize mSP (mNw t4 21 100 100) a 8 (some (a + 78)) = t5 at hB5 hA5 hZ5 ⊢
  replace hP2 := hP2.ag (fun b hb => hA5 b (by have := hb.2; omega) (by have := hb.1; omega))
  replace hB : BK T t5 a 5 79 1099 [(8, 78, 21, 100), (7, 77, 21, 100), (6, 76, 21, 100), (2, 2, 2, 0), (1, 1, 8, 0)] := hB5
  rw [e_43_50, e_43_51, e_43_53 cd_100, cn_100, hB.nxe, e_43_55 hB.k1]
  obtain ⟨hB6, hA6, hZ6⟩ := hB.arr (f := 9) (k := 21) (n := 100) (by simp)
  generalize mSP (mNw t5 21 100 100) a 9 (some (a + 79)) = t6 at hB6 hA6 hZ6 ⊢
  replace hP2 := hP2.ag (fun b hb => hA6 b (by have := hb.2; omega) (by have := hb.1; omega))
  replace hB : BK T t6 a 5 80 1199 [(9, 79, 21, 100), (8, 78, 21, 100), (7, 77, 21, 100), (6, 76, 21, 100), (2, 2, 2, 0), (1, 1, 8, 0)] := hB6
  rw [e_43_58, e_43_59, e_43_61 cd_100, cn_100, hB.nxe, e_43_63 hB.k1]
  obtain ⟨hB7, hA7, hZ7⟩ := hB.arr (f := 10) (k := 21) (n := 100) (by simp)
  generalize mSP (mNw t6 21 100 100) a 10 (some (a + 80)) = t7 at hB7 hA7 hZ7 ⊢
  replace hP2 := hP2.ag (fun b hb => hA7 b (by have := hb.2; omega) (by have := hb.1; omega))
  replace hB : BK T t7 a 5 81 1299 [(10, 80, 21, 100), (9, 79, 21, 100), (8, 78, 21, 100), (7, 77, 21, 100), (6, 76, 21, 100), (2, 2, 2, 0), (1, 1, 8, 0)] := hB7
  rw [e_43_66, e_43_67, e_43_69 cd_100, cn_100, hB.nxe, e_43_71 hB.k1]
  obtain ⟨hB8, hA8, hZ8⟩ := hB.arr (f := 11) (k := 21) (n := 100) (by simp)
  generalize mSP (mNw t7 21 100 100) a 11 (some (a + 81)) = t8 at hB8 hA8 hZ8 ⊢
  replace hP2 := hP2.ag (fun b hb => hA8 b (by have := hb.2; omega) (by have := hb.1; omega))
  replace hB : BK T t8 a 5 82 1399 [(11, 81, 21, 100), (10, 80, 21, 100), (9, 79, 21, 100), (8, 78, 21, 100), (7, 77, 21, 100), (6, 76, 21, 100), (2, 2, 2, 0), (1, 1, 8, 0)] := hB8
  rw [e_43_74, e_43_75, e_43_77 cd_100, cn_100, hB.nxe, e_43_79 hB.k1]
  obtain ⟨hB9, hA9, hZ9⟩ := hB.arr (f := 12) (k := 21) (n := 100) (by simp)
  generalize mSP (mNw t8 21 100 100) a 12 (some (a + 82)) = t9 at hB9 hA9 hZ9 ⊢
  replace hP2 := hP2.ag (fun b hb => hA9 b (by have := hb.2; omega) (by have := hb.1; omega))
  replace hB : BK T t9 a 5 83 1499 [(12, 82, 21, 100), (11, 81, 21, 100), (10, 80, 21, 100), (9, 79, 21, 100), (8, 78, 21, 100), (7, 77, 21, 100), (6, 76, 21, 100), (2, 2, 2, 0), (1, 1, 8, 0)] := hB9
  rw [e_43_82, e_43_83, e_43_86 cd_5000, cn_5000, hB.nxe, e_43_88 hB.k1]
  obtain ⟨hB10, hA10, hZ10⟩ := hB.arr (f := 13) (k := 20) (n := 5000) (by simp)
  generalize mSP (mNw t9 20 5000 5000) a 13 (some (a + 83)) = t10 at hB10 hA10 hZ10 ⊢
  replace hP2 := hP2.ag (fun b hb => hA10 b (by have := hb.2; omega) (by have := hb.1; omega))
  replace hB : BK T t10 a 5 84 6499 [(13, 83, 20, 5000), (12, 82, 21, 100), (11, 81, 21, 100), (10, 80, 21, 100), (9, 79, 21, 100), (8, 78, 21, 100), (7, 77, 21, 100), (6, 76, 21, 100), (2, 2, 2, 0), (1, 1, 8, 0)] := hB10
  rw [e_43_91]
  exact hQ t10 (hB.md h0) ⟨⟨⟨hB.1, (hB.l (f := 1) (o := 1) (k := 8) (n := 0) (by simp)).1, (hB.l (f := 2) (o := 2) (k := 2) (n := 0) (by simp)).1, (hB.l (f := 1) (o := 1) (k := 8) (n := 0) (by simp)).2⟩, ⟨(hB.l (f := 6) (o := 76) (k := 21) (n := 100) (by simp)).1, (hB.l (f := 7) (o := 77) (k := 21) (n := 100) (by simp)).1, (hB.l (f := 8) (o := 78) (k := 21) (n := 100) (by simp)).1, (hB.l (f := 9) (o := 79) (k := 21) (n := 100) (by simp)).1, (hB.l (f := 10) (o := 80) (k := 21) (n := 100) (by simp)).1, (hB.l (f := 11) (o := 81) (k := 21) (n := 100) (by simp)).1, (hB.l (f := 12) (o := 82) (k := 21) (n := 100) (by simp)).1, (hB.l (f := 13) (o := 83) (k := 20) (n := 5000) (by simp)).1⟩, ⟨(hB.l (f := 6) (o := 76) (k := 21) (n := 100) (by simp)).2, (hB.l (f := 7) (o := 77) (k := 21) (n := 100) (by simp)).2, (hB.l (f := 8) (o := 78) (k := 21) (n := 100) (by simp)).2, (hB.l (f := 9) (o := 79) (k := 21) (n := 100) (by simp)).2, (hB.l (f := 10) (o := 80) (k := 21) (n := 100) (by simp)).2, (hB.l (f := 11) (o := 81) (k := 21) (n := 100) (by simp)).2, (hB.l (f := 12) (o := 82) (k := 21) (n := 100) (by simp)).2, (hB.l (f := 13) (o := 83) (k := 20) (n := 5000) (by simp)).2⟩⟩, hP2⟩
theorem ni_X0 {T : mT} {Q : mOut → mT → Prop} {a : Nat} (h0 : Fz T a 1) (hQ : ∀ T2, Md T T2 a 174 14026 → Df0 T2 a → Q (.inl none) T2) : XW 0 0 [some (.ref (a))] [] T Q := by
  have hB := BK.go h0
  rw [e_0_0, e_0_1 (by simp only [XB_i, XB_n, va_rf_s, va_rf_n, mSI_K, mSI_I, mSI_J, mSI_P, mSI_N, mSJ_K, mSJ_I, mSJ_J, mSJ_P, mSJ_N, mSP_K, mSP_I, mSP_J, mSP_P, mSP_N, mNn, mNi, mNr, mN0, al20, al21, al22, al23, al25, true_or, or_true, and_self, if_true, if_false, mCat_n, mCat_i, mCat_r, mCat_l, mCat_0, Nat.reduceAdd, Nat.reduceLeDiff, Nat.reduceLT, true_and, and_true, Nat.zero_le, bI_01])]
  rw [e_0_4, e_0_5, e_0_8, hB.nxe]
  refine c_0_9 (by simp only [XB_i, XB_n, va_rf_s, va_rf_n, mSI_K, mSI_I, mSI_J, mSI_P, mSI_N, mSJ_K, mSJ_I, mSJ_J, mSJ_P, mSJ_N, mSP_K, mSP_I, mSP_J, mSP_P, mSP_N, mNn, mNi, mNr, mN0, al20, al21, al22, al23, al25, true_or, or_true, and_self, if_true, if_false, mCat_n, mCat_i, mCat_r, mCat_l, mCat_0, Nat.reduceAdd, Nat.reduceLeDiff, Nat.reduceLT, true_and, and_true, Nat.zero_le, bI_01]) (ni_X4 hB.fz (fun v1 hM1 hP1 => ?_))
  simp only [XB_n, Nat.reduceAdd]
  rw [e_0_12 (hB.k2 hM1)]
  obtain ⟨hB1, hA1, hC1⟩ := hB.obj (f := 0) hM1 (by omega) (by simp)
  replace hP1 := hP1.ag (fun b hb => hC1 b (by have := hb.1; omega))
  generalize mSP v1 a 0 (some (a + 1)) = t1 at hB1 hA1 hC1 hP1 ⊢
  replace hB : BK T t1 a 1 85 6513 [(0, 1, 5, 0)] := hB1
  rw [e_0_15, e_0_16, e_0_19, hB.nxe]
  refine c_0_20 (by simp only [XB_i, XB_n, va_rf_s, va_rf_n, mSI_K, mSI_I, mSI_J, mSI_P, mSI_N, mSJ_K, mSJ_I, mSJ_J, mSJ_P, mSJ_N, mSP_K, mSP_I, mSP_J, mSP_P, mSP_N, mNn, mNi, mNr, mN0, al20, al21, al22, al23, al25, true_or, or_true, and_self, if_true, if_false, mCat_n, mCat_i, mCat_r, mCat_l, mCat_0, Nat.reduceAdd, Nat.reduceLeDiff, Nat.reduceLT, true_and, and_true, Nat.zero_le, bI_01]) (ni_X4 hB.fz (fun v2 hM2 hP2 => ?_))
  simp only [XB_n, Nat.reduceAdd]
  rw [e_0_23 (hB.k2 hM2)]
  obtain ⟨hB2, hA2, hC2⟩ := hB.obj (f := 1) hM2 (by omega) (by simp)
  replace hP2 := hP2.ag (fun b hb => hC2 b (by have := hb.1; omega))
  generalize mSP v2 a 1 (some (a + 85)) = t2 at hB2 hA2 hC2 hP2 ⊢
  replace hP1 := hP1.ag (fun b hb => hA2 b (by have := hb.2; omega) (by have := hb.1; omega))
  replace hB : BK T t2 a 1 169 13026 [(1, 85, 5, 0), (0, 1, 5, 0)] := hB2
  rw [e_0_26, e_0_27, e_0_30 cd_200, cn_200, hB.nxe, e_0_32 hB.k1]
  obtain ⟨hB3, hA3, hZ3⟩ := hB.arr (f := 3) (k := 21) (n := 200) (by simp)
  generalize mSP (mNw t2 21 200 200) a 3 (some (a + 169)) = t3 at hB3 hA3 hZ3 ⊢
  replace hP1 := hP1.ag (fun b hb => hA3 b (by have := hb.2; omega) (by have := hb.1; omega))
  replace hP2 := hP2.ag (fun b hb => hA3 b (by have := hb.2; omega) (by have := hb.1; omega))
  replace hB : BK T t3 a 1 170 13226 [(3, 169, 21, 200), (1, 85, 5, 0), (0, 1, 5, 0)] := hB3
  rw [e_0_35, e_0_36, e_0_39 cd_200, cn_200, hB.nxe, e_0_41 hB.k1]
  obtain ⟨hB4, hA4, hZ4⟩ := hB.arr (f := 4) (k := 21) (n := 200) (by simp)
  generalize mSP (mNw t3 21 200 200) a 4 (some (a + 170)) = t4 at hB4 hA4 hZ4 ⊢
  replace hP1 := hP1.ag (fun b hb => hA4 b (by have := hb.2; omega) (by have := hb.1; omega))
  replace hP2 := hP2.ag (fun b hb => hA4 b (by have := hb.2; omega) (by have := hb.1; omega))
  replace hB : BK T t4 a 1 171 13426 [(4, 170, 21, 200), (3, 169, 21, 200), (1, 85, 5, 0), (0, 1, 5, 0)] := hB4
  rw [e_0_44, e_0_45, e_0_48 cd_200, cn_200, hB.nxe, e_0_50 hB.k1]
  obtain ⟨hB5, hA5, hZ5⟩ := hB.arr (f := 5) (k := 21) (n := 200) (by simp)
  generalize mSP (mNw t4 21 200 200) a 5 (some (a + 171)) = t5 at hB5 hA5 hZ5 ⊢
  replace hP1 := hP1.ag (fun b hb => hA5 b (by have := hb.2; omega) (by have := hb.1; omega))
  replace hP2 := hP2.ag (fun b hb => hA5 b (by have := hb.2; omega) (by have := hb.1; omega))
  replace hB : BK T t5 a 1 172 13626 [(5, 171, 21, 200), (4, 170, 21, 200), (3, 169, 21, 200), (1, 85, 5, 0), (0, 1, 5, 0)] := hB5
  rw [e_0_53, e_0_54, e_0_57 cd_200, cn_200, hB.nxe, e_0_59 hB.k1]
  obtain ⟨hB6, hA6, hZ6⟩ := hB.arr (f := 6) (k := 21) (n := 200) (by simp)
  generalize mSP (mNw t5 21 200 200) a 6 (some (a + 172)) = t6 at hB6 hA6 hZ6 ⊢
  replace hP1 := hP1.ag (fun b hb => hA6 b (by have := hb.2; omega) (by have := hb.1; omega))
  replace hP2 := hP2.ag (fun b hb => hA6 b (by have := hb.2; omega) (by have := hb.1; omega))
  replace hB : BK T t6 a 1 173 13826 [(6, 172, 21, 200), (5, 171, 21, 200), (4, 170, 21, 200), (3, 169, 21, 200), (1, 85, 5, 0), (0, 1, 5, 0)] := hB6
  rw [e_0_62, e_0_63, e_0_66 cd_200, cn_200, hB.nxe, e_0_68 hB.k1]
  obtain ⟨hB7, hA7, hZ7⟩ := hB.arr (f := 7) (k := 21) (n := 200) (by simp)
  generalize mSP (mNw t6 21 200 200) a 7 (some (a + 173)) = t7 at hB7 hA7 hZ7 ⊢
  replace hP1 := hP1.ag (fun b hb => hA7 b (by have := hb.2; omega) (by have := hb.1; omega))
  replace hP2 := hP2.ag (fun b hb => hA7 b (by have := hb.2; omega) (by have := hb.1; omega))
  replace hB : BK T t7 a 1 174 14026 [(7, 173, 21, 200), (6, 172, 21, 200), (5, 171, 21, 200), (4, 170, 21, 200), (3, 169, 21, 200), (1, 85, 5, 0), (0, 1, 5, 0)] := hB7
  rw [e_0_71]
  exact hQ t7 (hB.md h0) ⟨⟨⟨hB.1, (hB.l (f := 0) (o := 1) (k := 5) (n := 0) (by simp)).1, (hB.l (f := 1) (o := 85) (k := 5) (n := 0) (by simp)).1⟩, ⟨(hB.l (f := 3) (o := 169) (k := 21) (n := 200) (by simp)).1, (hB.l (f := 4) (o := 170) (k := 21) (n := 200) (by simp)).1, (hB.l (f := 5) (o := 171) (k := 21) (n := 200) (by simp)).1, (hB.l (f := 6) (o := 172) (k := 21) (n := 200) (by simp)).1, (hB.l (f := 7) (o := 173) (k := 21) (n := 200) (by simp)).1⟩, ⟨(hB.l (f := 3) (o := 169) (k := 21) (n := 200) (by simp)).2, (hB.l (f := 4) (o := 170) (k := 21) (n := 200) (by simp)).2, (hB.l (f := 5) (o := 171) (k := 21) (n := 200) (by simp)).2, (hB.l (f := 6) (o := 172) (k := 21) (n := 200) (by simp)).2, (hB.l (f := 7) (o := 173) (k := 21) (n := 200) (by simp)).2⟩⟩, hP1, hP2⟩
theorem l_niX9 {T0 : mT} {Q : mOut → mT → Prop} {a : Nat} (h0 : Fz T0 a 10) (hQ : ∀ T2, Md T0 T2 a 108 1544 → Mk0 T2 a → Q (.inl none) T2) : ∀ (n j : Nat) (T : mT), j + n = 24 → BK T0 T a 10 (12 + 4 * j) (416 + 47 * j) [(6, 11, 9, 0), (5, 7, 7, 0), (4, 3, 7, 0), (3, 2, 23, 13), (2, 1, 26, 24)] → (PathR T (a + 3) 60 [] ∧ PathR T (a + 7) 60 []) → (∀ i, i < j → T.2.2.2.1 (a + 1) i = some (a + 12 + 4 * i) ∧ PathR T (a + 12 + 4 * i) 13 []) → XW 81 60 [some (.ref (a)), some (.int (iI ((j : Nat) : Int)))] [] T Q := by
  intro n
  induction n with
  | zero =>
    intro j T hj hB hU hF
    have : j = 24 := by omega
    subst this
    rw [e_81_60]
    simp (maxSteps := 4000000) (disch := first | (simp (disch := omega) only [XB_i, XB_n, va_rf_s, va_rf_n, mSI_K, mSI_I, mSI_J, mSI_P, mSI_N, mSJ_K, mSJ_I, mSJ_J, mSJ_P, mSJ_N, mSP_K, mSP_I, mSP_J, mSP_P, mSP_N, mNn, mNi, mNr, mN0, al20, al21, al22, al23, al25, true_or, or_true, and_self, if_true, if_false, mCat_n, mCat_i, mCat_r, mCat_l, mCat_0, Nat.reduceAdd, Nat.reduceLeDiff, Nat.reduceLT, true_and, and_true, Nat.zero_le, bI_01, mInB_J, mInB_Z, mInB_N]; done) | omega | (unfold R32 at *; omega)) only [e_81_61, e_81_63, e_81_87, XB_i, XB_n, va_rf_s, va_rf_n, mSI_K, mSI_I, mSI_J, mSI_P, mSI_N, mSJ_K, mSJ_I, mSJ_J, mSJ_P, mSJ_N, mSP_K, mSP_I, mSP_J, mSP_P, mSP_N, mNn, mNi, mNr, mN0, al20, al21, al22, al23, al25, true_or, or_true, and_self, if_true, if_false, mCat_n, mCat_i, mCat_r, mCat_l, mCat_0, Nat.reduceAdd, Nat.reduceLeDiff, Nat.reduceLT, true_and, and_true, Nat.zero_le, bI_01, bI_0, i10, tf0, iI_add, iI_sub, iI_mul, iI_neg, iI_add1, iI_sub1, iI_m1, nca, nc1, ncm1, iI_clJ, iI_cl0, iI_clN, Int.toNat_natCast, mU_n, mU_s, p_min, p_max, p_abs, ni_2, ni_3, ni_4, ni_7, ni_8, ni_9, ni_12, ni_24, ni_97, ni_100, ni_122, ni_200, ni_256, ni_4096, ni_5000, ni_9999, iI_lt, iI_le, iI_eq, iz_eq, iz_lt, iz_le, iz_gt, iz_ge, iy_eq, iy_lt, iy_le, iI_ltN, iI_leN, iI_eqN, if_pos, if_neg]
    exact hQ T (hB.md h0) ⟨⟨hB.1, (hB.l (f := 2) (o := 1) (k := 26) (n := 24) (by simp)).1, (hB.l (f := 2) (o := 1) (k := 26) (n := 24) (by simp)).2, fun j hj => (hF j hj).1, (hB.l (f := 3) (o := 2) (k := 23) (n := 13) (by simp)).1, (hB.l (f := 3) (o := 2) (k := 23) (n := 13) (by simp)).2, (hB.l (f := 6) (o := 11) (k := 9) (n := 0) (by simp)).1, (hB.l (f := 6) (o := 11) (k := 9) (n := 0) (by simp)).2⟩, fun j hj => (hF j hj).2, ⟨(hB.l (f := 4) (o := 3) (k := 7) (n := 0) (by simp)).1, (hB.l (f := 5) (o := 7) (k := 7) (n := 0) (by simp)).1⟩, hU.1, hU.2⟩
  | succ n ih =>
    intro j T hj hB hU hF
    have hk := hB.1
    have hn := hB.nxe
    obtain ⟨hp, hq⟩ := (hB.l (f := 2) (o := 1) (k := 26) (n := 24) (by simp))
    rw [e_81_60]
    simp (maxSteps := 4000000) (disch := first | (simp (disch := omega) only [XB_i, XB_n, va_rf_s, va_rf_n, mSI_K, mSI_I, mSI_J, mSI_P, mSI_N, mSJ_K, mSJ_I, mSJ_J, mSJ_P, mSJ_N, mSP_K, mSP_I, mSP_J, mSP_P, mSP_N, mNn, mNi, mNr, mN0, al20, al21, al22, al23, al25, true_or, or_true, and_self, if_true, if_false, mCat_n, mCat_i, mCat_r, mCat_l, mCat_0, Nat.reduceAdd, Nat.reduceLeDiff, Nat.reduceLT, true_and, and_true, Nat.zero_le, bI_01, mInB_J, mInB_Z, mInB_N, hk, hp, hn]; done) | omega | (unfold R32 at *; omega)) only [e_81_61, e_81_63, e_81_66, e_81_66_n, e_81_67, e_81_70, e_81_71, e_81_74, e_81_74_i, XB_i, XB_n, va_rf_s, va_rf_n, mSI_K, mSI_I, mSI_J, mSI_P, mSI_N, mSJ_K, mSJ_I, mSJ_J, mSJ_P, mSJ_N, mSP_K, mSP_I, mSP_J, mSP_P, mSP_N, mNn, mNi, mNr, mN0, al20, al21, al22, al23, al25, true_or, or_true, and_self, if_true, if_false, mCat_n, mCat_i, mCat_r, mCat_l, mCat_0, Nat.reduceAdd, Nat.reduceLeDiff, Nat.reduceLT, true_and, and_true, Nat.zero_le, bI_01, bI_0, i10, tf0, iI_add, iI_sub, iI_mul, iI_neg, iI_add1, iI_sub1, iI_m1, nca, nc1, ncm1, iI_clJ, iI_cl0, iI_clN, Int.toNat_natCast, mU_n, mU_s, p_min, p_max, p_abs, ni_2, ni_3, ni_4, ni_7, ni_8, ni_9, ni_12, ni_24, ni_97, ni_100, ni_122, ni_200, ni_256, ni_4096, ni_5000, ni_9999, iI_lt, iI_le, iI_eq, iz_eq, iz_lt, iz_le, iz_gt, iz_ge, iy_eq, iy_lt, iy_le, iI_ltN, iI_leN, iI_eqN, if_pos, if_neg, hk, hp, hn]
    rw [e_81_75]
    refine c_81_77 (by simp only [XB_i, XB_n, va_rf_s, va_rf_n, mSI_K, mSI_I, mSI_J, mSI_P, mSI_N, mSJ_K, mSJ_I, mSJ_J, mSJ_P, mSJ_N, mSP_K, mSP_I, mSP_J, mSP_P, mSP_N, mNn, mNi, mNr, mN0, al20, al21, al22, al23, al25, true_or, or_true, and_self, if_true, if_false, mCat_n, mCat_i, mCat_r, mCat_l, mCat_0, Nat.reduceAdd, Nat.reduceLeDiff, Nat.reduceLT, true_and, and_true, Nat.zero_le, bI_01]) (ni_X6 cd_13.1 cn_13 (by omega) hB.fz (fun T2 hM hP => ?_))
    obtain ⟨hB2, hA, hC, ⟨c1, c2, c3⟩, hx⟩ := hB.aas (c := a + 1) (j := j) hM (by omega) (by omega)
    have kc : T2.1 (a + 1) = (26, 24) := ((hB.ag2 hM (by omega)).1).trans hq
    simp (maxSteps := 4000000) (disch := first | (simp (disch := omega) only [XB_i, XB_n, va_rf_s, va_rf_n, mSI_K, mSI_I, mSI_J, mSI_P, mSI_N, mSJ_K, mSJ_I, mSJ_J, mSJ_P, mSJ_N, mSP_K, mSP_I, mSP_J, mSP_P, mSP_N, mNn, mNi, mNr, mN0, al20, al21, al22, al23, al25, true_or, or_true, and_self, if_true, if_false, mCat_n, mCat_i, mCat_r, mCat_l, mCat_0, Nat.reduceAdd, Nat.reduceLeDiff, Nat.reduceLT, true_and, and_true, Nat.zero_le, bI_01, mInB_J, mInB_Z, mInB_N, kc, hx, mCo26]; done) | omega | (unfold R32 at *; omega)) only [e_81_80, e_81_81, e_81_84, XB_i, XB_n, va_rf_s, va_rf_n, mSI_K, mSI_I, mSI_J, mSI_P, mSI_N, mSJ_K, mSJ_I, mSJ_J, mSJ_P, mSJ_N, mSP_K, mSP_I, mSP_J, mSP_P, mSP_N, mNn, mNi, mNr, mN0, al20, al21, al22, al23, al25, true_or, or_true, and_self, if_true, if_false, mCat_n, mCat_i, mCat_r, mCat_l, mCat_0, Nat.reduceAdd, Nat.reduceLeDiff, Nat.reduceLT, true_and, and_true, Nat.zero_le, bI_01, bI_0, i10, tf0, iI_add, iI_sub, iI_mul, iI_neg, iI_add1, iI_sub1, iI_m1, nca, nc1, ncm1, iI_clJ, iI_cl0, iI_clN, Int.toNat_natCast, mU_n, mU_s, p_min, p_max, p_abs, ni_2, ni_3, ni_4, ni_7, ni_8, ni_9, ni_12, ni_24, ni_97, ni_100, ni_122, ni_200, ni_256, ni_4096, ni_5000, ni_9999, iI_lt, iI_le, iI_eq, iz_eq, iz_lt, iz_le, iz_gt, iz_ge, iy_eq, iy_lt, iy_le, iI_ltN, iI_leN, iI_eqN, if_pos, if_neg, kc, hx, mCo26]
    have i1 := ih (j + 1) (mSP T2 (a + 1) j (some (a + (12 + 4 * j)))) (by omega) (by rw [show 12 + 4 * (j + 1) = 12 + 4 * j + 4 by omega, show 416 + 47 * (j + 1) = 416 + 47 * j + 8 + (13 + 13 + 13) by omega]; exact hB2) ⟨hU.1.ag (fun b hb => hA b (by have := hb.2; omega) (by have := hb.1; omega)), hU.2.ag (fun b hb => hA b (by have := hb.2; omega) (by have := hb.1; omega))⟩ (fun i hi => by
      by_cases q : i = j
      · subst q
        refine ⟨by rw [c1]; congr 1; omega, ?_⟩
        have := (hP.ag (fun b hb => hC b (by have := hb.1; omega)))
        rw [show a + 12 + 4 * i = a + (12 + 4 * i) by omega]
        exact this
      · have f1 := hF i (by omega)
        exact ⟨by rw [c3 i q]; exact f1.1, f1.2.ag (fun b hb => hA b (by have := hb.2; omega) (by have := hb.1; omega))⟩)
    exact i1
theorem ni_X9 {T : mT} {Q : mOut → mT → Prop} {a : Nat} (h0 : Fz T a 10) (hQ : ∀ T2, Md T T2 a 108 1544 → Mk0 T2 a → Q (.inl none) T2) : XW 81 0 [some (.ref (a)), none] [] T Q := by
  have hB := BK.go h0
  rw [e_81_0, e_81_1 (by simp only [XB_i, XB_n, va_rf_s, va_rf_n, mSI_K, mSI_I, mSI_J, mSI_P, mSI_N, mSJ_K, mSJ_I, mSJ_J, mSJ_P, mSJ_N, mSP_K, mSP_I, mSP_J, mSP_P, mSP_N, mNn, mNi, mNr, mN0, al20, al21, al22, al23, al25, true_or, or_true, and_self, if_true, if_false, mCat_n, mCat_i, mCat_r, mCat_l, mCat_0, Nat.reduceAdd, Nat.reduceLeDiff, Nat.reduceLT, true_and, and_true, Nat.zero_le, bI_01])]
  rw [e_81_4, e_81_5, e_81_7 cd_24, cn_24, hB.nxe, e_81_10 hB.k1]
  obtain ⟨hB1, hA1, hZ1⟩ := hB.arr (f := 2) (k := 26) (n := 24) (by simp)
  generalize mSP (mNw T 26 24 24) a 2 (some (a + 1)) = t1 at hB1 hA1 hZ1 ⊢
  replace hB : BK T t1 a 10 2 24 [(2, 1, 26, 24)] := hB1
  rw [e_81_13, e_81_14, e_81_16 cd_13, cn_13, hB.nxe, e_81_18 hB.k1]
  obtain ⟨hB2, hA2, hZ2⟩ := hB.arr (f := 3) (k := 23) (n := 13) (by simp)
  generalize mSP (mNw t1 23 13 13) a 3 (some (a + 2)) = t2 at hB2 hA2 hZ2 ⊢
  replace hB : BK T t2 a 10 3 37 [(3, 2, 23, 13), (2, 1, 26, 24)] := hB2
  rw [e_81_21, e_81_22, e_81_25, hB.nxe]
  rw [e_81_26]
  refine c_81_28 (by simp only [XB_i, XB_n, va_rf_s, va_rf_n, mSI_K, mSI_I, mSI_J, mSI_P, mSI_N, mSJ_K, mSJ_I, mSJ_J, mSJ_P, mSJ_N, mSP_K, mSP_I, mSP_J, mSP_P, mSP_N, mNn, mNi, mNr, mN0, al20, al21, al22, al23, al25, true_or, or_true, and_self, if_true, if_false, mCat_n, mCat_i, mCat_r, mCat_l, mCat_0, Nat.reduceAdd, Nat.reduceLeDiff, Nat.reduceLT, true_and, and_true, Nat.zero_le, bI_01]) (ni_X6 cd_60.1 cn_60 (by omega) hB.fz (fun v3 hM3 hP3 => ?_))
  simp only [XB_n, Nat.reduceAdd]
  rw [e_81_31 (hB.k2 hM3)]
  obtain ⟨hB3, hA3, hC3⟩ := hB.obj (f := 4) hM3 (by omega) (by simp)
  replace hP3 := hP3.ag (fun b hb => hC3 b (by have := hb.1; omega))
  generalize mSP v3 a 4 (some (a + 3)) = t3 at hB3 hA3 hC3 hP3 ⊢
  replace hB : BK T t3 a 10 7 225 [(4, 3, 7, 0), (3, 2, 23, 13), (2, 1, 26, 24)] := hB3
  rw [e_81_34, e_81_35, e_81_38, hB.nxe]
  rw [e_81_39]
  refine c_81_41 (by simp only [XB_i, XB_n, va_rf_s, va_rf_n, mSI_K, mSI_I, mSI_J, mSI_P, mSI_N, mSJ_K, mSJ_I, mSJ_J, mSJ_P, mSJ_N, mSP_K, mSP_I, mSP_J, mSP_P, mSP_N, mNn, mNi, mNr, mN0, al20, al21, al22, al23, al25, true_or, or_true, and_self, if_true, if_false, mCat_n, mCat_i, mCat_r, mCat_l, mCat_0, Nat.reduceAdd, Nat.reduceLeDiff, Nat.reduceLT, true_and, and_true, Nat.zero_le, bI_01]) (ni_X6 cd_60.1 cn_60 (by omega) hB.fz (fun v4 hM4 hP4 => ?_))
  simp only [XB_n, Nat.reduceAdd]
  rw [e_81_44 (hB.k2 hM4)]
  obtain ⟨hB4, hA4, hC4⟩ := hB.obj (f := 5) hM4 (by omega) (by simp)
  replace hP4 := hP4.ag (fun b hb => hC4 b (by have := hb.1; omega))
  generalize mSP v4 a 5 (some (a + 7)) = t4 at hB4 hA4 hC4 hP4 ⊢
  replace hP3 := hP3.ag (fun b hb => hA4 b (by have := hb.2; omega) (by have := hb.1; omega))
  replace hB : BK T t4 a 10 11 413 [(5, 7, 7, 0), (4, 3, 7, 0), (3, 2, 23, 13), (2, 1, 26, 24)] := hB4
  rw [e_81_47, e_81_48, e_81_51, hB.nxe]
  refine c_81_52 (by simp only [XB_i, XB_n, va_rf_s, va_rf_n, mSI_K, mSI_I, mSI_J, mSI_P, mSI_N, mSJ_K, mSJ_I, mSJ_J, mSJ_P, mSJ_N, mSP_K, mSP_I, mSP_J, mSP_P, mSP_N, mNn, mNi, mNr, mN0, al20, al21, al22, al23, al25, true_or, or_true, and_self, if_true, if_false, mCat_n, mCat_i, mCat_r, mCat_l, mCat_0, Nat.reduceAdd, Nat.reduceLeDiff, Nat.reduceLT, true_and, and_true, Nat.zero_le, bI_01]) (ni_X8 hB.fz (fun v5 hM5  => ?_))
  simp only [XB_n, Nat.reduceAdd]
  rw [e_81_55 (hB.k2 hM5)]
  obtain ⟨hB5, hA5, hC5⟩ := hB.obj (f := 6) hM5 (by omega) (by simp)
  generalize mSP v5 a 6 (some (a + 11)) = t5 at hB5 hA5 hC5  ⊢
  replace hP3 := hP3.ag (fun b hb => hA5 b (by have := hb.2; omega) (by have := hb.1; omega))
  replace hP4 := hP4.ag (fun b hb => hA5 b (by have := hb.2; omega) (by have := hb.1; omega))
  replace hB : BK T t5 a 10 12 416 [(6, 11, 9, 0), (5, 7, 7, 0), (4, 3, 7, 0), (3, 2, 23, 13), (2, 1, 26, 24)] := hB5
  simp (maxSteps := 4000000) (disch := first | (simp (disch := omega) only [XB_i, XB_n, va_rf_s, va_rf_n, mSI_K, mSI_I, mSI_J, mSI_P, mSI_N, mSJ_K, mSJ_I, mSJ_J, mSJ_P, mSJ_N, mSP_K, mSP_I, mSP_J, mSP_P, mSP_N, mNn, mNi, mNr, mN0, al20, al21, al22, al23, al25, true_or, or_true, and_self, if_true, if_false, mCat_n, mCat_i, mCat_r, mCat_l, mCat_0, Nat.reduceAdd, Nat.reduceLeDiff, Nat.reduceLT, true_and, and_true, Nat.zero_le, bI_01, mInB_J, mInB_Z, mInB_N]; done) | omega | (unfold R32 at *; omega)) only [e_81_58, e_81_59, XB_i, XB_n, va_rf_s, va_rf_n, mSI_K, mSI_I, mSI_J, mSI_P, mSI_N, mSJ_K, mSJ_I, mSJ_J, mSJ_P, mSJ_N, mSP_K, mSP_I, mSP_J, mSP_P, mSP_N, mNn, mNi, mNr, mN0, al20, al21, al22, al23, al25, true_or, or_true, and_self, if_true, if_false, mCat_n, mCat_i, mCat_r, mCat_l, mCat_0, Nat.reduceAdd, Nat.reduceLeDiff, Nat.reduceLT, true_and, and_true, Nat.zero_le, bI_01, bI_0, i10, tf0, iI_add, iI_sub, iI_mul, iI_neg, iI_add1, iI_sub1, iI_m1, nca, nc1, ncm1, iI_clJ, iI_cl0, iI_clN, Int.toNat_natCast, mU_n, mU_s, p_min, p_max, p_abs, ni_2, ni_3, ni_4, ni_7, ni_8, ni_9, ni_12, ni_24, ni_97, ni_100, ni_122, ni_200, ni_256, ni_4096, ni_5000, ni_9999, iI_lt, iI_le, iI_eq, iz_eq, iz_lt, iz_le, iz_gt, iz_ge, iy_eq, iy_lt, iy_le, iI_ltN, iI_leN, iI_eqN, if_pos, if_neg]
  exact l_niX9 h0 hQ 24 0 t5 rfl hB ⟨hP3, hP4⟩ (fun i hi => by omega)
theorem ni_X5 {T : mT} {Q : mOut → mT → Prop} {a : Nat} (h0 : Fz T a 6) (hQ : ∀ T2, Md T T2 a 111 7433 → Pr0 T2 a → Q (.inl none) T2) : XW 53 0 [some (.ref (a))] [] T Q := by
  have hB := BK.go h0
  rw [e_53_0, e_53_1 (by simp only [XB_i, XB_n, va_rf_s, va_rf_n, mSI_K, mSI_I, mSI_J, mSI_P, mSI_N, mSJ_K, mSJ_I, mSJ_J, mSJ_P, mSJ_N, mSP_K, mSP_I, mSP_J, mSP_P, mSP_N, mNn, mNi, mNr, mN0, al20, al21, al22, al23, al25, true_or, or_true, and_self, if_true, if_false, mCat_n, mCat_i, mCat_r, mCat_l, mCat_0, Nat.reduceAdd, Nat.reduceLeDiff, Nat.reduceLT, true_and, and_true, Nat.zero_le, bI_01])]
  rw [e_53_4, e_53_5, e_53_8, hB.nxe]
  refine c_53_9 (by simp only [XB_i, XB_n, va_rf_s, va_rf_n, mSI_K, mSI_I, mSI_J, mSI_P, mSI_N, mSJ_K, mSJ_I, mSJ_J, mSJ_P, mSJ_N, mSP_K, mSP_I, mSP_J, mSP_P, mSP_N, mNn, mNi, mNr, mN0, al20, al21, al22, al23, al25, true_or, or_true, and_self, if_true, if_false, mCat_n, mCat_i, mCat_r, mCat_l, mCat_0, Nat.reduceAdd, Nat.reduceLeDiff, Nat.reduceLT, true_and, and_true, Nat.zero_le, bI_01]) (ni_X9 hB.fz (fun v1 hM1 hP1 => ?_))
  simp only [XB_n, Nat.reduceAdd]
  rw [e_53_12 (hB.k2 hM1)]
  obtain ⟨hB1, hA1, hC1⟩ := hB.obj (f := 0) hM1 (by omega) (by simp)
  replace hP1 := hP1.ag (fun b hb => hC1 b (by have := hb.1; omega))
  generalize mSP v1 a 0 (some (a + 1)) = t1 at hB1 hA1 hC1 hP1 ⊢
  replace hB : BK T t1 a 6 109 1551 [(0, 1, 10, 0)] := hB1
  rw [e_53_15, e_53_16, e_53_19, hB.nxe]
  refine c_53_20 (by simp only [XB_i, XB_n, va_rf_s, va_rf_n, mSI_K, mSI_I, mSI_J, mSI_P, mSI_N, mSJ_K, mSJ_I, mSJ_J, mSJ_P, mSJ_N, mSP_K, mSP_I, mSP_J, mSP_P, mSP_N, mNn, mNi, mNr, mN0, al20, al21, al22, al23, al25, true_or, or_true, and_self, if_true, if_false, mCat_n, mCat_i, mCat_r, mCat_l, mCat_0, Nat.reduceAdd, Nat.reduceLeDiff, Nat.reduceLT, true_and, and_true, Nat.zero_le, bI_01]) (ni_X3 hB.fz (fun v2 hM2 hP2 => ?_))
  simp only [XB_n, Nat.reduceAdd]
  rw [e_53_23 (hB.k2 hM2)]
  obtain ⟨hB2, hA2, hC2⟩ := hB.obj (f := 1) hM2 (by omega) (by simp)
  replace hP2 := hP2.ag (fun b hb => hC2 b (by have := hb.1; omega))
  generalize mSP v2 a 1 (some (a + 109)) = t2 at hB2 hA2 hC2 hP2 ⊢
  replace hP1 := hP1.ag (fun b hb => hA2 b (by have := hb.2; omega) (by have := hb.1; omega))
  replace hB : BK T t2 a 6 111 7433 [(1, 109, 4, 0), (0, 1, 10, 0)] := hB2
  rw [e_53_26]
  exact hQ t2 (hB.md h0) ⟨⟨hB.1, (hB.l (f := 0) (o := 1) (k := 10) (n := 0) (by simp)).1, (hB.l (f := 1) (o := 109) (k := 4) (n := 0) (by simp)).1⟩, hP1, hP2⟩
