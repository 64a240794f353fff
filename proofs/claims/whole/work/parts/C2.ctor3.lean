/-! constructors: the desk -/
def De0 (T : mT) (a : Nat) : Prop := Fe0 T (a + 1) ∧ EdR T (a + 4) [] ∧ Pr0 T (a + 79) ∧ OctR T (a + 190) [] ∧ Sp0 T (a + 193) ∧ Sp0 T (a + 277) ∧ Df0 T (a + 361) ∧ Df0 T (a + 535)
theorem De0.ag {T T2 : mT} {a c : Nat} (h : De0 T a) (hs : ∀ b, a + 1 ≤ b → b < a + 709 → b ≠ a + 78 → Ag T T2 b) : De0 T2 a := by
  obtain ⟨q1, q4, q79, q190, q193, q277, q361, q535⟩ := h
  exact ⟨q1.ag (fun b hb => hs b (by have := hb.1; omega) (by have := hb.2; omega) (by have := hb.1; have := hb.2; omega)), q4.ag (fun b hb => hs b (by have := hb.1; omega) (by have := hb.2; omega) (by have := hb.1; have := hb.2; omega)), q79.ag (fun b hb => hs b (by have := hb.1; omega) (by have := hb.2; omega) (by have := hb.1; have := hb.2; omega)), q190.ag (fun b hb => hs b (by have := hb.1; omega) (by have := hb.2; omega) (by have := hb.1; have := hb.2; omega)), q193.ag (fun b hb => hs b (by have := hb.1; omega) (by have := hb.2; omega) (by have := hb.1; have := hb.2; omega)), q277.ag (fun b hb => hs b (by have := hb.1; omega) (by have := hb.2; omega) (by have := hb.1; have := hb.2; omega)), q361.ag (fun b hb => hs b (by have := hb.1; omega) (by have := hb.2; omega) (by have := hb.1; have := hb.2; omega)), q535.ag (fun b hb => hs b (by have := hb.1; omega) (by have := hb.2; omega) (by have := hb.1; have := hb.2; omega))⟩
theorem mCo24 : mCo 24 = 2 := by unfold mCo; simp
theorem l_niX10 {T0 : mT} {Q : mOut → mT → Prop} {a : Nat} (h0 : Fz T0 a 11) (hQ : ∀ T2, Md T0 T2 a 857 56832 → (∀ T9, (∀ b, iv a (a + 857) b → Ag T2 T9 b) → DeskR T9 a [] [] (fun _ => []) 0 [] none none none) → Q (.inl none) T2) : ∀ (n j : Nat) (T : mT), j + n = 2 → BK T0 T a 11 (709 + 74 * j) (55244 + 794 * j) [(12, 535, 1, 0), (11, 361, 1, 0), (9, 277, 5, 0), (8, 193, 5, 0), (6, 192, 8, 0), (5, 190, 4, 0), (4, 79, 6, 0), (2, 78, 24, 2), (1, 4, 2, 0), (0, 1, 3, 0)] → De0 T a → (∀ i, i < j → T.2.2.2.1 (a + 78) i = some (a + 709 + 74 * i) ∧ EdR T (a + 709 + 74 * i) []) → XW 91 113 [some (.ref (a)), some (.int (iI ((j : Nat) : Int)))] [] T Q := by
  intro n
  induction n with
  | zero =>
    intro j T hj hB hU hF
    have : j = 2 := by omega
    subst this
    rw [e_91_113]
    simp (maxSteps := 4000000) (disch := first | (simp (disch := omega) only [XB_i, XB_n, va_rf_s, va_rf_n, mSI_K, mSI_I, mSI_J, mSI_P, mSI_N, mSJ_K, mSJ_I, mSJ_J, mSJ_P, mSJ_N, mSP_K, mSP_I, mSP_J, mSP_P, mSP_N, mNn, mNi, mNr, mN0, al20, al21, al22, al23, al25, true_or, or_true, and_self, if_true, if_false, mCat_n, mCat_i, mCat_r, mCat_l, mCat_0, Nat.reduceAdd, Nat.reduceLeDiff, Nat.reduceLT, true_and, and_true, Nat.zero_le, bI_01, mInB_J, mInB_Z, mInB_N]; done) | omega | (unfold R32 at *; omega)) only [e_91_114, e_91_115, e_91_137, XB_i, XB_n, va_rf_s, va_rf_n, mSI_K, mSI_I, mSI_J, mSI_P, mSI_N, mSJ_K, mSJ_I, mSJ_J, mSJ_P, mSJ_N, mSP_K, mSP_I, mSP_J, mSP_P, mSP_N, mNn, mNi, mNr, mN0, al20, al21, al22, al23, al25, true_or, or_true, and_self, if_true, if_false, mCat_n, mCat_i, mCat_r, mCat_l, mCat_0, Nat.reduceAdd, Nat.reduceLeDiff, Nat.reduceLT, true_and, and_true, Nat.zero_le, bI_01, bI_0, i10, tf0, iI_add, iI_sub, iI_mul, iI_neg, iI_add1, iI_sub1, iI_m1, nca, nc1, ncm1, iI_clJ, iI_cl0, iI_clN, Int.toNat_natCast, mU_n, mU_s, p_min, p_max, p_abs, ni_2, ni_3, ni_4, ni_7, ni_8, ni_9, ni_12, ni_24, ni_97, ni_100, ni_122, ni_200, ni_256, ni_4096, ni_5000, ni_9999, iI_lt, iI_le, iI_eq, iz_eq, iz_lt, iz_le, iz_gt, iz_ge, iy_eq, iy_lt, iy_le, iI_ltN, iI_leN, iI_eqN, if_pos, if_neg]
    have f0 := hF 0 (by omega)
    have f1 := hF 1 (by omega)
    refine hQ T (hB.md h0) (fun T9 hag => ?_)
    have A0 := hag a ⟨by omega, by omega⟩
    have A78 := hag (a + 78) ⟨by omega, by omega⟩
    have A192 := hag (a + 192) ⟨by omega, by omega⟩
    obtain ⟨q1, q4, q79, q190, q193, q277, q361, q535⟩ := hU.ag (c := 0) (T2 := T9) (fun b h1 h2 h3 => hag b ⟨by omega, by omega⟩)
    have g0 := f0.2.ag (T2 := T9) (fun b hb => hag b ⟨by have := hb.1; omega, by have := hb.2; omega⟩)
    have g1 := f1.2.ag (T2 := T9) (fun b hb => hag b ⟨by have := hb.1; omega, by have := hb.2; omega⟩)
    have z : ∀ j, T9.2.1 a j = 0 := fun j => by rw [A0.2.1]; exact hB.2.1 j
    have fl : ∀ {f o k n : Nat}, (f, o, k, n) ∈ [(12, 535, 1, 0), (11, 361, 1, 0), (9, 277, 5, 0), (8, 193, 5, 0), (6, 192, 8, 0), (5, 190, 4, 0), (4, 79, 6, 0), (2, 78, 24, 2), (1, 4, 2, 0), (0, 1, 3, 0)] → T9.2.2.2.1 a f = some (a + o) := fun h => by rw [A0.2.2.2]; exact (hB.l h).1
    refine ⟨a + 193, a + 277, a + 361, a + 535, ⟨Or.inl ⟨rfl, rfl⟩, Or.inl ⟨rfl, rfl⟩⟩, ⟨⟨A0.1.trans hB.1, fl (f := 0) (o := 1) (k := 3) (n := 0) (by simp), fl (f := 1) (o := 4) (k := 2) (n := 0) (by simp), fl (f := 2) (o := 78) (k := 24) (n := 2) (by simp), fl (f := 4) (o := 79) (k := 6) (n := 0) (by simp), fl (f := 5) (o := 190) (k := 4) (n := 0) (by simp), fl (f := 6) (o := 192) (k := 8) (n := 0) (by simp), fl (f := 8) (o := 193) (k := 5) (n := 0) (by simp), fl (f := 9) (o := 277) (k := 5) (n := 0) (by simp), fl (f := 11) (o := 361) (k := 1) (n := 0) (by simp), fl (f := 12) (o := 535) (k := 1) (n := 0) (by simp)⟩, z 3, z 7, z 10, z 13⟩, ⟨⟨q1.1, q1.2 5, by simp, fun j hj => absurd hj (by simp), fun j hj => absurd hj (by simp)⟩, q4, ⟨A78.1.trans (hB.l (f := 2) (o := 78) (k := 24) (n := 2) (by simp)).2, by rw [A78.2.2.2]; exact f0.1, by rw [A78.2.2.2]; exact f1.1⟩, g0, g1, ⟨q79.1, fun _ => [], [], q79.2.1.r, q79.2.2⟩, q190, ⟨A192.1.trans (hB.l (f := 6) (o := 192) (k := 8) (n := 0) (by simp)).2, fun R hR => nomatch hR⟩, ⟨⟨q193.1, [], q193.2⟩, fun D hD => nomatch hD⟩, ⟨q277.1, [], q277.2⟩, ⟨⟨q361.1, ⟨q361.2.1.1, [], q361.2.1.2⟩, ⟨q361.2.2.1, [], q361.2.2.2⟩⟩, fun A B hD => nomatch hD⟩, ⟨q535.1, ⟨q535.2.1.1, [], q535.2.1.2⟩, ⟨q535.2.2.1, [], q535.2.2.2⟩⟩⟩⟩
  | succ n ih =>
    intro j T hj hB hU hF
    have hk := hB.1
    have hn := hB.nxe
    obtain ⟨hp, hq⟩ := (hB.l (f := 2) (o := 78) (k := 24) (n := 2) (by simp))
    rw [e_91_113]
    simp (maxSteps := 4000000) (disch := first | (simp (disch := omega) only [XB_i, XB_n, va_rf_s, va_rf_n, mSI_K, mSI_I, mSI_J, mSI_P, mSI_N, mSJ_K, mSJ_I, mSJ_J, mSJ_P, mSJ_N, mSP_K, mSP_I, mSP_J, mSP_P, mSP_N, mNn, mNi, mNr, mN0, al20, al21, al22, al23, al25, true_or, or_true, and_self, if_true, if_false, mCat_n, mCat_i, mCat_r, mCat_l, mCat_0, Nat.reduceAdd, Nat.reduceLeDiff, Nat.reduceLT, true_and, and_true, Nat.zero_le, bI_01, mInB_J, mInB_Z, mInB_N, hk, hp, hn]; done) | omega | (unfold R32 at *; omega)) only [e_91_114, e_91_115, e_91_118, e_91_118_n, e_91_119, e_91_122, e_91_123, e_91_126, e_91_126_i, XB_i, XB_n, va_rf_s, va_rf_n, mSI_K, mSI_I, mSI_J, mSI_P, mSI_N, mSJ_K, mSJ_I, mSJ_J, mSJ_P, mSJ_N, mSP_K, mSP_I, mSP_J, mSP_P, mSP_N, mNn, mNi, mNr, mN0, al20, al21, al22, al23, al25, true_or, or_true, and_self, if_true, if_false, mCat_n, mCat_i, mCat_r, mCat_l, mCat_0, Nat.reduceAdd, Nat.reduceLeDiff, Nat.reduceLT, true_and, and_true, Nat.zero_le, bI_01, bI_0, i10, tf0, iI_add, iI_sub, iI_mul, iI_neg, iI_add1, iI_sub1, iI_m1, nca, nc1, ncm1, iI_clJ, iI_cl0, iI_clN, Int.toNat_natCast, mU_n, mU_s, p_min, p_max, p_abs, ni_2, ni_3, ni_4, ni_7, ni_8, ni_9, ni_12, ni_24, ni_97, ni_100, ni_122, ni_200, ni_256, ni_4096, ni_5000, ni_9999, iI_lt, iI_le, iI_eq, iz_eq, iz_lt, iz_le, iz_gt, iz_ge, iy_eq, iy_lt, iy_le, iI_ltN, iI_leN, iI_eqN, if_pos, if_neg, hk, hp, hn]
    refine c_91_127 (by simp only [XB_i, XB_n, va_rf_s, va_rf_n, mSI_K, mSI_I, mSI_J, mSI_P, mSI_N, mSJ_K, mSJ_I, mSJ_J, mSJ_P, mSJ_N, mSP_K, mSP_I, mSP_J, mSP_P, mSP_N, mNn, mNi, mNr, mN0, al20, al21, al22, al23, al25, true_or, or_true, and_self, if_true, if_false, mCat_n, mCat_i, mCat_r, mCat_l, mCat_0, Nat.reduceAdd, Nat.reduceLeDiff, Nat.reduceLT, true_and, and_true, Nat.zero_le, bI_01]) (ni_X1 hB.fz (fun T2 hM hP => ?_))
    obtain ⟨hB2, hA, hC, ⟨c1, c2, c3⟩, hx⟩ := hB.aas (c := a + 78) (j := j) hM (by omega) (by omega)
    have kc : T2.1 (a + 78) = (24, 2) := ((hB.ag2 hM (by omega)).1).trans hq
    simp (maxSteps := 4000000) (disch := first | (simp (disch := omega) only [XB_i, XB_n, va_rf_s, va_rf_n, mSI_K, mSI_I, mSI_J, mSI_P, mSI_N, mSJ_K, mSJ_I, mSJ_J, mSJ_P, mSJ_N, mSP_K, mSP_I, mSP_J, mSP_P, mSP_N, mNn, mNi, mNr, mN0, al20, al21, al22, al23, al25, true_or, or_true, and_self, if_true, if_false, mCat_n, mCat_i, mCat_r, mCat_l, mCat_0, Nat.reduceAdd, Nat.reduceLeDiff, Nat.reduceLT, true_and, and_true, Nat.zero_le, bI_01, mInB_J, mInB_Z, mInB_N, kc, hx, mCo24]; done) | omega | (unfold R32 at *; omega)) only [e_91_130, e_91_131, e_91_134, XB_i, XB_n, va_rf_s, va_rf_n, mSI_K, mSI_I, mSI_J, mSI_P, mSI_N, mSJ_K, mSJ_I, mSJ_J, mSJ_P, mSJ_N, mSP_K, mSP_I, mSP_J, mSP_P, mSP_N, mNn, mNi, mNr, mN0, al20, al21, al22, al23, al25, true_or, or_true, and_self, if_true, if_false, mCat_n, mCat_i, mCat_r, mCat_l, mCat_0, Nat.reduceAdd, Nat.reduceLeDiff, Nat.reduceLT, true_and, and_true, Nat.zero_le, bI_01, bI_0, i10, tf0, iI_add, iI_sub, iI_mul, iI_neg, iI_add1, iI_sub1, iI_m1, nca, nc1, ncm1, iI_clJ, iI_cl0, iI_clN, Int.toNat_natCast, mU_n, mU_s, p_min, p_max, p_abs, ni_2, ni_3, ni_4, ni_7, ni_8, ni_9, ni_12, ni_24, ni_97, ni_100, ni_122, ni_200, ni_256, ni_4096, ni_5000, ni_9999, iI_lt, iI_le, iI_eq, iz_eq, iz_lt, iz_le, iz_gt, iz_ge, iy_eq, iy_lt, iy_le, iI_ltN, iI_leN, iI_eqN, if_pos, if_neg, kc, hx, mCo24]
    have i1 := ih (j + 1) (mSP T2 (a + 78) j (some (a + (709 + 74 * j)))) (by omega) (by rw [show 709 + 74 * (j + 1) = 709 + 74 * j + 74 by omega, show 55244 + 794 * (j + 1) = 55244 + 794 * j + 2 + 792 by omega]; exact hB2) (hU.ag (c := 0) (fun b h1 h2 h3 => hA b (by omega) h3)) (fun i hi => by
      by_cases q : i = j
      · subst q
        refine ⟨by rw [c1]; congr 1; omega, ?_⟩
        have := (hP.ag (fun b hb => hC b (by have := hb.1; omega)))
        rw [show a + 709 + 74 * i = a + (709 + 74 * i) by omega]
        exact this
      · have f1 := hF i (by omega)
        exact ⟨by rw [c3 i q]; exact f1.1, f1.2.ag (fun b hb => hA b (by have := hb.2; omega) (by have := hb.1; omega))⟩)
    exact i1
theorem ni_X10 {T : mT} {Q : mOut → mT → Prop} {a : Nat} (h0 : Fz T a 11) (hQ : ∀ T2, Md T T2 a 857 56832 → (∀ T9, (∀ b, iv a (a + 857) b → Ag T2 T9 b) → DeskR T9 a [] [] (fun _ => []) 0 [] none none none) → Q (.inl none) T2) : XW 91 0 [some (.ref (a)), none] [] T Q := by
  have hB := BK.go h0
  rw [e_91_0, e_91_1 (by simp only [XB_i, XB_n, va_rf_s, va_rf_n, mSI_K, mSI_I, mSI_J, mSI_P, mSI_N, mSJ_K, mSJ_I, mSJ_J, mSJ_P, mSJ_N, mSP_K, mSP_I, mSP_J, mSP_P, mSP_N, mNn, mNi, mNr, mN0, al20, al21, al22, al23, al25, true_or, or_true, and_self, if_true, if_false, mCat_n, mCat_i, mCat_r, mCat_l, mCat_0, Nat.reduceAdd, Nat.reduceLeDiff, Nat.reduceLT, true_and, and_true, Nat.zero_le, bI_01])]
  rw [e_91_4, e_91_5, e_91_8, hB.nxe]
  refine c_91_9 (by simp only [XB_i, XB_n, va_rf_s, va_rf_n, mSI_K, mSI_I, mSI_J, mSI_P, mSI_N, mSJ_K, mSJ_I, mSJ_J, mSJ_P, mSJ_N, mSP_K, mSP_I, mSP_J, mSP_P, mSP_N, mNn, mNi, mNr, mN0, al20, al21, al22, al23, al25, true_or, or_true, and_self, if_true, if_false, mCat_n, mCat_i, mCat_r, mCat_l, mCat_0, Nat.reduceAdd, Nat.reduceLeDiff, Nat.reduceLT, true_and, and_true, Nat.zero_le, bI_01]) (ni_X2 hB.fz (fun v1 hM1 hP1 => ?_))
  simp only [XB_n, Nat.reduceAdd]
  rw [e_91_12 (hB.k2 hM1)]
  obtain ⟨hB1, hA1, hC1⟩ := hB.obj (f := 0) hM1 (by omega) (by simp)
  replace hP1 := hP1.ag (fun b hb => hC1 b (by have := hb.1; omega))
  generalize mSP v1 a 0 (some (a + 1)) = t1 at hB1 hA1 hC1 hP1 ⊢
  replace hB : BK T t1 a 11 4 32 [(0, 1, 3, 0)] := hB1
  rw [e_91_15, e_91_16, e_91_19, hB.nxe]
  refine c_91_20 (by simp only [XB_i, XB_n, va_rf_s, va_rf_n, mSI_K, mSI_I, mSI_J, mSI_P, mSI_N, mSJ_K, mSJ_I, mSJ_J, mSJ_P, mSJ_N, mSP_K, mSP_I, mSP_J, mSP_P, mSP_N, mNn, mNi, mNr, mN0, al20, al21, al22, al23, al25, true_or, or_true, and_self, if_true, if_false, mCat_n, mCat_i, mCat_r, mCat_l, mCat_0, Nat.reduceAdd, Nat.reduceLeDiff, Nat.reduceLT, true_and, and_true, Nat.zero_le, bI_01]) (ni_X1 hB.fz (fun v2 hM2 hP2 => ?_))
  simp only [XB_n, Nat.reduceAdd]
  rw [e_91_23 (hB.k2 hM2)]
  obtain ⟨hB2, hA2, hC2⟩ := hB.obj (f := 1) hM2 (by omega) (by simp)
  replace hP2 := hP2.ag (fun b hb => hC2 b (by have := hb.1; omega))
  generalize mSP v2 a 1 (some (a + 4)) = t2 at hB2 hA2 hC2 hP2 ⊢
  replace hP1 := hP1.ag (fun b hb => hA2 b (by have := hb.2; omega) (by have := hb.1; omega))
  replace hB : BK T t2 a 11 78 826 [(1, 4, 2, 0), (0, 1, 3, 0)] := hB2
  rw [e_91_26, e_91_27, e_91_28 cd_2, cn_2, hB.nxe, e_91_31 hB.k1]
  obtain ⟨hB3, hA3, hZ3⟩ := hB.arr (f := 2) (k := 24) (n := 2) (by simp)
  generalize mSP (mNw t2 24 2 2) a 2 (some (a + 78)) = t3 at hB3 hA3 hZ3 ⊢
  replace hP1 := hP1.ag (fun b hb => hA3 b (by have := hb.2; omega) (by have := hb.1; omega))
  replace hP2 := hP2.ag (fun b hb => hA3 b (by have := hb.2; omega) (by have := hb.1; omega))
  replace hB : BK T t3 a 11 79 828 [(2, 78, 24, 2), (1, 4, 2, 0), (0, 1, 3, 0)] := hB3
  rw [e_91_34, e_91_35, e_91_38, hB.nxe]
  refine c_91_39 (by simp only [XB_i, XB_n, va_rf_s, va_rf_n, mSI_K, mSI_I, mSI_J, mSI_P, mSI_N, mSJ_K, mSJ_I, mSJ_J, mSJ_P, mSJ_N, mSP_K, mSP_I, mSP_J, mSP_P, mSP_N, mNn, mNi, mNr, mN0, al20, al21, al22, al23, al25, true_or, or_true, and_self, if_true, if_false, mCat_n, mCat_i, mCat_r, mCat_l, mCat_0, Nat.reduceAdd, Nat.reduceLeDiff, Nat.reduceLT, true_and, and_true, Nat.zero_le, bI_01]) (ni_X5 hB.fz (fun v4 hM4 hP4 => ?_))
  simp only [XB_n, Nat.reduceAdd]
  rw [e_91_42 (hB.k2 hM4)]
  obtain ⟨hB4, hA4, hC4⟩ := hB.obj (f := 4) hM4 (by omega) (by simp)
  replace hP4 := hP4.ag (fun b hb => hC4 b (by have := hb.1; omega))
  generalize mSP v4 a 4 (some (a + 79)) = t4 at hB4 hA4 hC4 hP4 ⊢
  replace hP1 := hP1.ag (fun b hb => hA4 b (by have := hb.2; omega) (by have := hb.1; omega))
  replace hP2 := hP2.ag (fun b hb => hA4 b (by have := hb.2; omega) (by have := hb.1; omega))
  replace hB : BK T t4 a 11 190 8263 [(4, 79, 6, 0), (2, 78, 24, 2), (1, 4, 2, 0), (0, 1, 3, 0)] := hB4
  rw [e_91_45, e_91_46, e_91_49, hB.nxe]
  refine c_91_50 (by simp only [XB_i, XB_n, va_rf_s, va_rf_n, mSI_K, mSI_I, mSI_J, mSI_P, mSI_N, mSJ_K, mSJ_I, mSJ_J, mSJ_P, mSJ_N, mSP_K, mSP_I, mSP_J, mSP_P, mSP_N, mNn, mNi, mNr, mN0, al20, al21, al22, al23, al25, true_or, or_true, and_self, if_true, if_false, mCat_n, mCat_i, mCat_r, mCat_l, mCat_0, Nat.reduceAdd, Nat.reduceLeDiff, Nat.reduceLT, true_and, and_true, Nat.zero_le, bI_01]) (ni_X3 hB.fz (fun v5 hM5 hP5 => ?_))
  simp only [XB_n, Nat.reduceAdd]
  rw [e_91_53 (hB.k2 hM5)]
  obtain ⟨hB5, hA5, hC5⟩ := hB.obj (f := 5) hM5 (by omega) (by simp)
  replace hP5 := hP5.ag (fun b hb => hC5 b (by have := hb.1; omega))
  generalize mSP v5 a 5 (some (a + 190)) = t5 at hB5 hA5 hC5 hP5 ⊢
  replace hP1 := hP1.ag (fun b hb => hA5 b (by have := hb.2; omega) (by have := hb.1; omega))
  replace hP2 := hP2.ag (fun b hb => hA5 b (by have := hb.2; omega) (by have := hb.1; omega))
  replace hP4 := hP4.ag (fun b hb => hA5 b (by have := hb.2; omega) (by have := hb.1; omega))
  replace hB : BK T t5 a 11 192 14145 [(5, 190, 4, 0), (4, 79, 6, 0), (2, 78, 24, 2), (1, 4, 2, 0), (0, 1, 3, 0)] := hB5
  rw [e_91_56, e_91_57, e_91_60, hB.nxe]
  refine c_91_61 (by simp only [XB_i, XB_n, va_rf_s, va_rf_n, mSI_K, mSI_I, mSI_J, mSI_P, mSI_N, mSJ_K, mSJ_I, mSJ_J, mSJ_P, mSJ_N, mSP_K, mSP_I, mSP_J, mSP_P, mSP_N, mNn, mNi, mNr, mN0, al20, al21, al22, al23, al25, true_or, or_true, and_self, if_true, if_false, mCat_n, mCat_i, mCat_r, mCat_l, mCat_0, Nat.reduceAdd, Nat.reduceLeDiff, Nat.reduceLT, true_and, and_true, Nat.zero_le, bI_01]) (ni_X7 hB.fz (fun v6 hM6  => ?_))
  simp only [XB_n, Nat.reduceAdd]
  rw [e_91_64 (hB.k2 hM6)]
  obtain ⟨hB6, hA6, hC6⟩ := hB.obj (f := 6) hM6 (by omega) (by simp)
  generalize mSP v6 a 6 (some (a + 192)) = t6 at hB6 hA6 hC6  ⊢
  replace hP1 := hP1.ag (fun b hb => hA6 b (by have := hb.2; omega) (by have := hb.1; omega))
  replace hP2 := hP2.ag (fun b hb => hA6 b (by have := hb.2; omega) (by have := hb.1; omega))
  replace hP4 := hP4.ag (fun b hb => hA6 b (by have := hb.2; omega) (by have := hb.1; omega))
  replace hP5 := hP5.ag (fun b hb => hA6 b (by have := hb.2; omega) (by have := hb.1; omega))
  replace hB : BK T t6 a 11 193 14150 [(6, 192, 8, 0), (5, 190, 4, 0), (4, 79, 6, 0), (2, 78, 24, 2), (1, 4, 2, 0), (0, 1, 3, 0)] := hB6
  rw [e_91_67, e_91_68, e_91_71, hB.nxe]
  refine c_91_72 (by simp only [XB_i, XB_n, va_rf_s, va_rf_n, mSI_K, mSI_I, mSI_J, mSI_P, mSI_N, mSJ_K, mSJ_I, mSJ_J, mSJ_P, mSJ_N, mSP_K, mSP_I, mSP_J, mSP_P, mSP_N, mNn, mNi, mNr, mN0, al20, al21, al22, al23, al25, true_or, or_true, and_self, if_true, if_false, mCat_n, mCat_i, mCat_r, mCat_l, mCat_0, Nat.reduceAdd, Nat.reduceLeDiff, Nat.reduceLT, true_and, and_true, Nat.zero_le, bI_01]) (ni_X4 hB.fz (fun v7 hM7 hP7 => ?_))
  simp only [XB_n, Nat.reduceAdd]
  rw [e_91_75 (hB.k2 hM7)]
  obtain ⟨hB7, hA7, hC7⟩ := hB.obj (f := 8) hM7 (by omega) (by simp)
  replace hP7 := hP7.ag (fun b hb => hC7 b (by have := hb.1; omega))
  generalize mSP v7 a 8 (some (a + 193)) = t7 at hB7 hA7 hC7 hP7 ⊢
  replace hP1 := hP1.ag (fun b hb => hA7 b (by have := hb.2; omega) (by have := hb.1; omega))
  replace hP2 := hP2.ag (fun b hb => hA7 b (by have := hb.2; omega) (by have := hb.1; omega))
  replace hP4 := hP4.ag (fun b hb => hA7 b (by have := hb.2; omega) (by have := hb.1; omega))
  replace hP5 := hP5.ag (fun b hb => hA7 b (by have := hb.2; omega) (by have := hb.1; omega))
  replace hB : BK T t7 a 11 277 20663 [(8, 193, 5, 0), (6, 192, 8, 0), (5, 190, 4, 0), (4, 79, 6, 0), (2, 78, 24, 2), (1, 4, 2, 0), (0, 1, 3, 0)] := hB7
  rw [e_91_78, e_91_79, e_91_82, hB.nxe]
  refine c_91_83 (by simp only [XB_i, XB_n, va_rf_s, va_rf_n, mSI_K, mSI_I, mSI_J, mSI_P, mSI_N, mSJ_K, mSJ_I, mSJ_J, mSJ_P, mSJ_N, mSP_K, mSP_I, mSP_J, mSP_P, mSP_N, mNn, mNi, mNr, mN0, al20, al21, al22, al23, al25, true_or, or_true, and_self, if_true, if_false, mCat_n, mCat_i, mCat_r, mCat_l, mCat_0, Nat.reduceAdd, Nat.reduceLeDiff, Nat.reduceLT, true_and, and_true, Nat.zero_le, bI_01]) (ni_X4 hB.fz (fun v8 hM8 hP8 => ?_))
  simp only [XB_n, Nat.reduceAdd]
  rw [e_91_86 (hB.k2 hM8)]
  obtain ⟨hB8, hA8, hC8⟩ := hB.obj (f := 9) hM8 (by omega) (by simp)
  replace hP8 := hP8.ag (fun b hb => hC8 b (by have := hb.1; omega))
  generalize mSP v8 a 9 (some (a + 277)) = t8 at hB8 hA8 hC8 hP8 ⊢
  replace hP1 := hP1.ag (fun b hb => hA8 b (by have := hb.2; omega) (by have := hb.1; omega))
  replace hP2 := hP2.ag (fun b hb => hA8 b (by have := hb.2; omega) (by have := hb.1; omega))
  replace hP4 := hP4.ag (fun b hb => hA8 b (by have := hb.2; omega) (by have := hb.1; omega))
  replace hP5 := hP5.ag (fun b hb => hA8 b (by have := hb.2; omega) (by have := hb.1; omega))
  replace hP7 := hP7.ag (fun b hb => hA8 b (by have := hb.2; omega) (by have := hb.1; omega))
  replace hB : BK T t8 a 11 361 27176 [(9, 277, 5, 0), (8, 193, 5, 0), (6, 192, 8, 0), (5, 190, 4, 0), (4, 79, 6, 0), (2, 78, 24, 2), (1, 4, 2, 0), (0, 1, 3, 0)] := hB8
  rw [e_91_89, e_91_90, e_91_93, hB.nxe]
  refine c_91_94 (by simp only [XB_i, XB_n, va_rf_s, va_rf_n, mSI_K, mSI_I, mSI_J, mSI_P, mSI_N, mSJ_K, mSJ_I, mSJ_J, mSJ_P, mSJ_N, mSP_K, mSP_I, mSP_J, mSP_P, mSP_N, mNn, mNi, mNr, mN0, al20, al21, al22, al23, al25, true_or, or_true, and_self, if_true, if_false, mCat_n, mCat_i, mCat_r, mCat_l, mCat_0, Nat.reduceAdd, Nat.reduceLeDiff, Nat.reduceLT, true_and, and_true, Nat.zero_le, bI_01]) (ni_X0 hB.fz (fun v9 hM9 hP9 => ?_))
  simp only [XB_n, Nat.reduceAdd]
  rw [e_91_97 (hB.k2 hM9)]
  obtain ⟨hB9, hA9, hC9⟩ := hB.obj (f := 11) hM9 (by omega) (by simp)
  replace hP9 := hP9.ag (fun b hb => hC9 b (by have := hb.1; omega))
  generalize mSP v9 a 11 (some (a + 361)) = t9 at hB9 hA9 hC9 hP9 ⊢
  replace hP1 := hP1.ag (fun b hb => hA9 b (by have := hb.2; omega) (by have := hb.1; omega))
  replace hP2 := hP2.ag (fun b hb => hA9 b (by have := hb.2; omega) (by have := hb.1; omega))
  replace hP4 := hP4.ag (fun b hb => hA9 b (by have := hb.2; omega) (by have := hb.1; omega))
  replace hP5 := hP5.ag (fun b hb => hA9 b (by have := hb.2; omega) (by have := hb.1; omega))
  replace hP7 := hP7.ag (fun b hb => hA9 b (by have := hb.2; omega) (by have := hb.1; omega))
  replace hP8 := hP8.ag (fun b hb => hA9 b (by have := hb.2; omega) (by have := hb.1; omega))
  replace hB : BK T t9 a 11 535 41210 [(11, 361, 1, 0), (9, 277, 5, 0), (8, 193, 5, 0), (6, 192, 8, 0), (5, 190, 4, 0), (4, 79, 6, 0), (2, 78, 24, 2), (1, 4, 2, 0), (0, 1, 3, 0)] := hB9
  rw [e_91_100, e_91_101, e_91_104, hB.nxe]
  refine c_91_105 (by simp only [XB_i, XB_n, va_rf_s, va_rf_n, mSI_K, mSI_I, mSI_J, mSI_P, mSI_N, mSJ_K, mSJ_I, mSJ_J, mSJ_P, mSJ_N, mSP_K, mSP_I, mSP_J, mSP_P, mSP_N, mNn, mNi, mNr, mN0, al20, al21, al22, al23, al25, true_or, or_true, and_self, if_true, if_false, mCat_n, mCat_i, mCat_r, mCat_l, mCat_0, Nat.reduceAdd, Nat.reduceLeDiff, Nat.reduceLT, true_and, and_true, Nat.zero_le, bI_01]) (ni_X0 hB.fz (fun v10 hM10 hP10 => ?_))
  simp only [XB_n, Nat.reduceAdd]
  rw [e_91_108 (hB.k2 hM10)]
  obtain ⟨hB10, hA10, hC10⟩ := hB.obj (f := 12) hM10 (by omega) (by simp)
  replace hP10 := hP10.ag (fun b hb => hC10 b (by have := hb.1; omega))
  generalize mSP v10 a 12 (some (a + 535)) = t10 at hB10 hA10 hC10 hP10 ⊢
  replace hP1 := hP1.ag (fun b hb => hA10 b (by have := hb.2; omega) (by have := hb.1; omega))
  replace hP2 := hP2.ag (fun b hb => hA10 b (by have := hb.2; omega) (by have := hb.1; omega))
  replace hP4 := hP4.ag (fun b hb => hA10 b (by have := hb.2; omega) (by have := hb.1; omega))
  replace hP5 := hP5.ag (fun b hb => hA10 b (by have := hb.2; omega) (by have := hb.1; omega))
  replace hP7 := hP7.ag (fun b hb => hA10 b (by have := hb.2; omega) (by have := hb.1; omega))
  replace hP8 := hP8.ag (fun b hb => hA10 b (by have := hb.2; omega) (by have := hb.1; omega))
  replace hP9 := hP9.ag (fun b hb => hA10 b (by have := hb.2; omega) (by have := hb.1; omega))
  replace hB : BK T t10 a 11 709 55244 [(12, 535, 1, 0), (11, 361, 1, 0), (9, 277, 5, 0), (8, 193, 5, 0), (6, 192, 8, 0), (5, 190, 4, 0), (4, 79, 6, 0), (2, 78, 24, 2), (1, 4, 2, 0), (0, 1, 3, 0)] := hB10
  simp (maxSteps := 4000000) (disch := first | (simp (disch := omega) only [XB_i, XB_n, va_rf_s, va_rf_n, mSI_K, mSI_I, mSI_J, mSI_P, mSI_N, mSJ_K, mSJ_I, mSJ_J, mSJ_P, mSJ_N, mSP_K, mSP_I, mSP_J, mSP_P, mSP_N, mNn, mNi, mNr, mN0, al20, al21, al22, al23, al25, true_or, or_true, and_self, if_true, if_false, mCat_n, mCat_i, mCat_r, mCat_l, mCat_0, Nat.reduceAdd, Nat.reduceLeDiff, Nat.reduceLT, true_and, and_true, Nat.zero_le, bI_01, mInB_J, mInB_Z, mInB_N]; done) | omega | (unfold R32 at *; omega)) only [e_91_111, e_91_112, XB_i, XB_n, va_rf_s, va_rf_n, mSI_K, mSI_I, mSI_J, mSI_P, mSI_N, mSJ_K, mSJ_I, mSJ_J, mSJ_P, mSJ_N, mSP_K, mSP_I, mSP_J, mSP_P, mSP_N, mNn, mNi, mNr, mN0, al20, al21, al22, al23, al25, true_or, or_true, and_self, if_true, if_false, mCat_n, mCat_i, mCat_r, mCat_l, mCat_0, Nat.reduceAdd, Nat.reduceLeDiff, Nat.reduceLT, true_and, and_true, Nat.zero_le, bI_01, bI_0, i10, tf0, iI_add, iI_sub, iI_mul, iI_neg, iI_add1, iI_sub1, iI_m1, nca, nc1, ncm1, iI_clJ, iI_cl0, iI_clN, Int.toNat_natCast, mU_n, mU_s, p_min, p_max, p_abs, ni_2, ni_3, ni_4, ni_7, ni_8, ni_9, ni_12, ni_24, ni_97, ni_100, ni_122, ni_200, ni_256, ni_4096, ni_5000, ni_9999, iI_lt, iI_le, iI_eq, iz_eq, iz_lt, iz_le, iz_gt, iz_ge, iy_eq, iy_lt, iy_le, iI_ltN, iI_leN, iI_eqN, if_pos, if_neg]
  exact l_niX10 h0 hQ 2 0 t10 rfl hB ⟨hP1, hP2, hP4, hP5, hP7, hP8, hP9, hP10⟩ (fun i hi => by omega)
