/-! TileMaker: prepare, cutToTile, write, make -/
theorem mCo26 : mCo 26 = 7 := by unfold mCo; simp
def MkK (T : mT) (m : Nat) : Prop := T.1 m = (10, 0) ∧ T.2.2.2.1 m 2 = some (m + 1) ∧ T.1 (m + 1) = (26, 24) ∧ (∀ j, j < 24 → T.2.2.2.1 (m + 1) j = some (m + 12 + 4 * j)) ∧ T.2.2.2.1 m 3 = some (m + 2) ∧ T.1 (m + 2) = (23, 13) ∧ T.2.2.2.1 m 6 = some (m + 11) ∧ T.1 (m + 11) = (9, 0)
def CuR (T : mT) (m u c : Nat) : Prop := ((u = m + 3 ∧ c = m + 7) ∨ (u = m + 7 ∧ c = m + 3)) ∧ T.2.2.2.1 m 4 = some u ∧ T.2.2.2.1 m 5 = some c
def MkR (T : mT) (m : Nat) (sh : Nat → List Cn) : Prop := MkK T m ∧ (∀ j, j < 24 → PathR T (m + 12 + 4 * j) 13 (sh j)) ∧ (∃ u c lu lc, CuR T m u c ∧ PathR T u 60 lu ∧ PathR T c 60 lc)
theorem MkK.fr {S : Nat → Prop} {T T2 : mT} {m : Nat} (h : MkK T m) (hf : Fr S T T2) (h0 : ¬ S m) (h1 : ¬ S (m + 1)) : MkK T2 m := by
  obtain ⟨k1, k2, k3, k4, k5, k6, k7, k8⟩ := h
  exact ⟨by rw [hf.K]; exact k1, by rw [hf.P h0]; exact k2, by rw [hf.K]; exact k3, fun j hj => by rw [hf.P h1]; exact k4 j hj, by rw [hf.P h0]; exact k5, by rw [hf.K]; exact k6, by rw [hf.P h0]; exact k7, by rw [hf.K]; exact k8⟩
theorem MkR.fr {S : Nat → Prop} {T T2 : mT} {m : Nat} {sh : Nat → List Cn} (h : MkR T m sh) (hf : Fr S T T2) (hs : ∀ b, iv m (m + 108) b → ¬ S b) : MkR T2 m sh := by
  obtain ⟨h1, h2, u, c, lu, lc, hc, hu, hl⟩ := h
  have s0 := hs m ⟨by omega, by omega⟩
  refine ⟨h1.fr hf s0 (hs (m + 1) ⟨by omega, by omega⟩), fun j hj => (h2 j hj).fr hf (fun b hb => hs b ⟨by have := hb.1; omega, by have := hb.2; omega⟩), u, c, lu, lc, ⟨hc.1, by rw [hf.P s0]; exact hc.2.1, by rw [hf.P s0]; exact hc.2.2⟩, hu.fr hf (fun b hb => hs b ?_), hl.fr hf (fun b hb => hs b ?_)⟩
  · have := hb.1; have := hb.2; exact ⟨by rcases hc.1 with q | q <;> omega, by rcases hc.1 with q | q <;> omega⟩
  · have := hb.1; have := hb.2; exact ⟨by rcases hc.1 with q | q <;> omega, by rcases hc.1 with q | q <;> omega⟩
def updH (sh : Nat → List Cn) (i : Nat) (l : List Cn) : Nat → List Cn := fun j => if j = i then l else sh j
theorem MkR.sh {T T2 : mT} {m i : Nat} {sh : Nat → List Cn} {l : List Cn} (h : MkR T m sh) (hi : i < 24) (hf : Fr (shS m (m + 12 + 4 * i)) T T2) (hp : PathR T2 (m + 12 + 4 * i) 13 l) : MkR T2 m (updH sh i l) := by
  obtain ⟨h1, h2, u, c, lu, lc, hc, hu, hl⟩ := h
  have s0 : ¬ shS m (m + 12 + 4 * i) m := by rintro (q | q); have := q.1; omega; omega
  have s1 : ¬ shS m (m + 12 + 4 * i) (m + 1) := by rintro (q | q); have := q.1; omega; omega
  refine ⟨h1.fr hf s0 s1, fun j hj => ?_, u, c, lu, lc, ⟨hc.1, by rw [hf.P s0]; exact hc.2.1, by rw [hf.P s0]; exact hc.2.2⟩, hu.fr hf (fun b hb q => ?_), hl.fr hf (fun b hb q => ?_)⟩
  · unfold updH
    by_cases q : j = i
    · rw [if_pos q, q]; exact hp
    · rw [if_neg q]
      exact (h2 j hj).fr hf (fun b hb z => by have := hb.1; have := hb.2; rcases z with z | z; have := z.1; have := z.2; omega; omega)
  · have := hb.1; have := hb.2
    rcases q with z | z
    · have := z.1; have := z.2; rcases hc.1 with q | q <;> omega
    · rcases hc.1 with q | q <;> omega
  · have := hb.1; have := hb.2
    rcases q with z | z
    · have := z.1; have := z.2; rcases hc.1 with q | q <;> omega
    · rcases hc.1 with q | q <;> omega
/-- the shape of feature j -/
def shE (z : Int) (Fs : List Ft) (j : Nat) : List Cn := if (fA Fs j).1.2.2.2 ≤ z then shpC z (fA Fs j) else []
def PrR (T : mT) (m e : Nat) (z : Int) (Fs : List Ft) (sh : Nat → List Cn) : Prop := MkR T m sh ∧ T.2.2.2.1 m 0 = some e ∧ ∀ j, j < Fs.length → sh j = shE z Fs j ∧ (sh j ≠ [] → BxR T (m + 12 + 4 * j) (bxL (sh j)))
section MA
variable {T : mT} {Q : mOut → mT → Prop} {m e o : Nat} {z : Int} {ad : Nat → Nat} {Fs : List Ft} {sh : Nat → List Cn}
theorem l_prep {T0 : mT} (hE : EdA T0 e ad Fs) (ok : esOk Fs) (hz : 0 ≤ z ∧ z ≤ 4) (dis : e + 74 ≤ m ∨ m + 108 ≤ e) : ∀ (k i : Nat) (T : mT) (sh : Nat → List Cn), Fs.length - i = k → i ≤ Fs.length → Fr (iv m (m + 108)) T0 T → MkR T m sh → T.2.2.2.1 m 0 = some e → T.2.1 m 1 = iI z → (∀ j, j < i → sh j = shE z Fs j ∧ (sh j ≠ [] → BxR T (m + 12 + 4 * j) (bxL (sh j)))) →
    (∀ T2 sh2, PrR T2 m e z Fs sh2 → Fr (iv m (m + 108)) T0 T2 → Q (.inl none) T2) → XW 82 12 [some (.ref (m)), some (.ref (e)), some (.int (iI (z))), some (.int (iI ((i : Nat) : Int)))] [] T Q := by
  intro k
  induction k with
  | zero =>
    intro i T sh hk hi hf hM h0 hz1 hsh hQ
    have hET : EdA T e ad Fs := hE.fr hf (fun b hb z => by have := z.1; have := z.2; have := hb.1; have := hb.2; omega)
    obtain ⟨⟨e1, e2, e3, e4, e5⟩, e6, e7, e8, e9⟩ := id hET
    have m1 := hM.1.1
    have : i = Fs.length := by omega
    subst this
    rw [e_82_12]
    simp (maxSteps := 4000000) (disch := first | (simp (disch := omega) only [XB_i, XB_n, va_rf_s, va_rf_n, mSI_K, mSI_I, mSI_J, mSI_P, mSI_N, mSJ_K, mSJ_I, mSJ_J, mSJ_P, mSJ_N, mSP_K, mSP_I, mSP_J, mSP_P, mSP_N, mNn, mNi, mNr, mN0, al20, al21, al22, al23, al25, true_or, or_true, and_self, if_true, if_false, mCat_n, mCat_i, mCat_r, mCat_l, mCat_0, Nat.reduceAdd, Nat.reduceLeDiff, Nat.reduceLT, true_and, and_true, Nat.zero_le, bI_01, mInB_J, mInB_Z, mInB_N, m1, h0, e1, e7]; done) | omega | (unfold R32 at *; omega)) only [e_82_0, e_82_0_n, e_82_1, e_82_1_n, e_82_2, e_82_5, e_82_5_n, e_82_6, e_82_7, e_82_10, e_82_11, e_82_13, e_82_13_n, e_82_14, e_82_17, e_82_20, e_82_23, e_82_23_n, e_82_24, e_82_27, e_82_28, e_82_29, e_82_30, e_82_33, e_82_33_n, e_82_34, e_82_37, e_82_40, e_82_41, e_82_42, e_82_45, e_82_46, e_82_49, e_82_49_n, e_82_50, e_82_50_n, e_82_51, e_82_54, e_82_57, e_82_58, e_82_59, e_82_59_n, e_82_60, e_82_63, e_82_64, e_82_68, e_82_71, e_82_74, XB_i, XB_n, va_rf_s, va_rf_n, mSI_K, mSI_I, mSI_J, mSI_P, mSI_N, mSJ_K, mSJ_I, mSJ_J, mSJ_P, mSJ_N, mSP_K, mSP_I, mSP_J, mSP_P, mSP_N, mNn, mNi, mNr, mN0, al20, al21, al22, al23, al25, true_or, or_true, and_self, if_true, if_false, mCat_n, mCat_i, mCat_r, mCat_l, mCat_0, Nat.reduceAdd, Nat.reduceLeDiff, Nat.reduceLT, true_and, and_true, Nat.zero_le, bI_01, bI_0, i10, tf0, iI_add, iI_sub, iI_mul, iI_neg, iI_add1, iI_sub1, iI_m1, nc1, ncm1, iI_clJ, iI_cl0, iI_clN, Int.toNat_natCast, mU_n, mU_s, p_min, p_max, p_abs, ni_2, ni_3, ni_4, ni_7, ni_8, ni_9, ni_12, ni_24, ni_97, ni_100, ni_122, ni_200, ni_256, ni_4096, ni_5000, ni_9999, iI_lt, iI_le, iI_eq, iz_eq, iz_lt, iz_le, iz_gt, iz_ge, iy_eq, iy_lt, iy_le, iI_ltN, iI_leN, iI_eqN, if_pos, if_neg, m1, h0, e1, e7]
    exact hQ T sh ⟨hM, h0, hsh⟩ hf
  | succ k ih =>
    intro i T sh hk hi hf hM h0 hz1 hsh hQ
    have hET : EdA T e ad Fs := hE.fr hf (fun b hb z => by have := z.1; have := z.2; have := hb.1; have := hb.2; omega)
    obtain ⟨⟨e1, e2, e3, e4, e5⟩, e6, e7, e8, e9⟩ := id hET
    obtain ⟨m1, m2, m3, m4, m5, m6, m7, m8⟩ := id hM.1
    have hp := hM.2.1 i (by omega)
    have p1 := hp.1.1
    have fo := ok.1 i (by omega)
    have hF := e9 i (by omega)
    have g1 := hF.1.1
    have gl := hF.2.1.2.2.2.1
    have bl := fo.l
    have aK := e6.1 i (by omega)
    have f1 : Fr (shS m (m + 12 + 4 * i)) T (mSI T (m + 12 + 4 * i) 3 0) := Fr.sI (Or.inl ⟨by omega, by omega⟩)
    have hM1 := hM.sh (by omega) f1 hp.empty
    have sub : ∀ b, shS m (m + 12 + 4 * i) b → iv m (m + 108) b := by
      rintro b (q | q)
      · exact ⟨by have := q.1; omega, by have := q.2; omega⟩
      · exact ⟨by omega, by omega⟩
    have s0 : ¬ shS m (m + 12 + 4 * i) m := by rintro (q | q); have := q.1; omega; omega
    rw [e_82_12]
    by_cases q : (fA Fs i).1.2.2.2 ≤ z
    · simp (maxSteps := 4000000) (disch := first | (simp (disch := omega) only [XB_i, XB_n, va_rf_s, va_rf_n, mSI_K, mSI_I, mSI_J, mSI_P, mSI_N, mSJ_K, mSJ_I, mSJ_J, mSJ_P, mSJ_N, mSP_K, mSP_I, mSP_J, mSP_P, mSP_N, mNn, mNi, mNr, mN0, al20, al21, al22, al23, al25, true_or, or_true, and_self, if_true, if_false, mCat_n, mCat_i, mCat_r, mCat_l, mCat_0, Nat.reduceAdd, Nat.reduceLeDiff, Nat.reduceLT, true_and, and_true, Nat.zero_le, bI_01, mInB_J, mInB_Z, mInB_N, m1, m2, m3, m4, h0, e1, e2, e3, e4, e7, p1, g1, gl]; done) | omega | (unfold R32 at *; omega)) only [e_82_13, e_82_13_n, e_82_14, e_82_17, e_82_20, e_82_23, e_82_23_n, e_82_24, e_82_27, e_82_28, e_82_29, e_82_30, e_82_33, e_82_33_n, e_82_34, e_82_37, e_82_40, e_82_41, e_82_42, e_82_45, e_82_46, e_82_49, e_82_49_n, e_82_50, e_82_50_n, e_82_51, e_82_54, e_82_57, e_82_58, e_82_59, e_82_59_n, e_82_60, e_82_63, e_82_64, XB_i, XB_n, va_rf_s, va_rf_n, mSI_K, mSI_I, mSI_J, mSI_P, mSI_N, mSJ_K, mSJ_I, mSJ_J, mSJ_P, mSJ_N, mSP_K, mSP_I, mSP_J, mSP_P, mSP_N, mNn, mNi, mNr, mN0, al20, al21, al22, al23, al25, true_or, or_true, and_self, if_true, if_false, mCat_n, mCat_i, mCat_r, mCat_l, mCat_0, Nat.reduceAdd, Nat.reduceLeDiff, Nat.reduceLT, true_and, and_true, Nat.zero_le, bI_01, bI_0, i10, tf0, iI_add, iI_sub, iI_mul, iI_neg, iI_add1, iI_sub1, iI_m1, nc1, ncm1, iI_clJ, iI_cl0, iI_clN, Int.toNat_natCast, mU_n, mU_s, p_min, p_max, p_abs, ni_2, ni_3, ni_4, ni_7, ni_8, ni_9, ni_12, ni_24, ni_97, ni_100, ni_122, ni_200, ni_256, ni_4096, ni_5000, ni_9999, iI_lt, iI_le, iI_eq, iz_eq, iz_lt, iz_le, iz_gt, iz_ge, iy_eq, iy_lt, iy_le, iI_ltN, iI_leN, iI_eqN, if_pos, if_neg, m1, m2, m3, m4, h0, e1, e2, e3, e4, e7, p1, g1, gl]
      have hS1 : StK (mSI T (m + 12 + 4 * i) 3 0) m := ⟨m1, m5, m6⟩
      have hz2 : (mSI T (m + 12 + 4 * i) 3 0).2.1 m 1 = iI z := by rw [f1.I s0]; exact hz1
      have hF1 : FeatR (mSI T (m + 12 + 4 * i) 3 0) (ad i) (fA Fs i) := hF.fr f1 (fun b hb z => by have := hb.1; have := hb.2; rcases z with z | z; have := z.1; have := z.2; omega; omega)
      refine c_82_65 (by simp only [XB_i, XB_n, va_rf_s, va_rf_n, mSI_K, mSI_I, mSI_J, mSI_P, mSI_N, mSJ_K, mSJ_I, mSJ_J, mSJ_P, mSJ_N, mSP_K, mSP_I, mSP_J, mSP_P, mSP_N, mNn, mNi, mNr, mN0, al20, al21, al22, al23, al25, true_or, or_true, and_self, if_true, if_false, mCat_n, mCat_i, mCat_r, mCat_l, mCat_0, Nat.reduceAdd, Nat.reduceLeDiff, Nat.reduceLT, true_and, and_true, Nat.zero_le, bI_01]) (by rw [mSI_K, m1]) (ct_shape hS1 hz2 hz hF1 fo hp.empty (by omega) (by omega) (fun T2 h2 x2 f2 => ?_))
      simp (maxSteps := 4000000) (disch := first | (simp (disch := omega) only [XB_i, XB_n, va_rf_s, va_rf_n, mSI_K, mSI_I, mSI_J, mSI_P, mSI_N, mSJ_K, mSJ_I, mSJ_J, mSJ_P, mSJ_N, mSP_K, mSP_I, mSP_J, mSP_P, mSP_N, mNn, mNi, mNr, mN0, al20, al21, al22, al23, al25, true_or, or_true, and_self, if_true, if_false, mCat_n, mCat_i, mCat_r, mCat_l, mCat_0, Nat.reduceAdd, Nat.reduceLeDiff, Nat.reduceLT, true_and, and_true, Nat.zero_le, bI_01, mInB_J, mInB_Z, mInB_N]; done) | omega | (unfold R32 at *; omega)) only [e_82_68, e_82_71, XB_i, XB_n, va_rf_s, va_rf_n, mSI_K, mSI_I, mSI_J, mSI_P, mSI_N, mSJ_K, mSJ_I, mSJ_J, mSJ_P, mSJ_N, mSP_K, mSP_I, mSP_J, mSP_P, mSP_N, mNn, mNi, mNr, mN0, al20, al21, al22, al23, al25, true_or, or_true, and_self, if_true, if_false, mCat_n, mCat_i, mCat_r, mCat_l, mCat_0, Nat.reduceAdd, Nat.reduceLeDiff, Nat.reduceLT, true_and, and_true, Nat.zero_le, bI_01, bI_0, i10, tf0, iI_add, iI_sub, iI_mul, iI_neg, iI_add1, iI_sub1, iI_m1, nc1, ncm1, iI_clJ, iI_cl0, iI_clN, Int.toNat_natCast, mU_n, mU_s, p_min, p_max, p_abs, ni_2, ni_3, ni_4, ni_7, ni_8, ni_9, ni_12, ni_24, ni_97, ni_100, ni_122, ni_200, ni_256, ni_4096, ni_5000, ni_9999, iI_lt, iI_le, iI_eq, iz_eq, iz_lt, iz_le, iz_gt, iz_ge, iy_eq, iy_lt, iy_le, iI_ltN, iI_leN, iI_eqN, if_pos, if_neg]
      have f12 : Fr (shS m (m + 12 + 4 * i)) T T2 := f1.tr f2
      have hM2 := hM.sh (by omega) f12 h2
      refine ih (i + 1) T2 _ (by omega) (by omega) (hf.tr (f12.mono sub)) hM2 (by rw [f12.P s0]; exact h0) (by rw [f12.I s0]; exact hz1) (fun j hj => ?_) hQ
      unfold updH
      by_cases e : j = i
      · rw [if_pos e, e]
        exact ⟨by unfold shE; rw [if_pos q], fun _ => x2⟩
      · rw [if_neg e]
        obtain ⟨w1, w2⟩ := hsh j (by omega)
        exact ⟨w1, fun hne => (w2 hne).fr f12 (by rintro (z | z); have := z.1; have := z.2; omega; omega)⟩
    · simp (maxSteps := 4000000) (disch := first | (simp (disch := omega) only [XB_i, XB_n, va_rf_s, va_rf_n, mSI_K, mSI_I, mSI_J, mSI_P, mSI_N, mSJ_K, mSJ_I, mSJ_J, mSJ_P, mSJ_N, mSP_K, mSP_I, mSP_J, mSP_P, mSP_N, mNn, mNi, mNr, mN0, al20, al21, al22, al23, al25, true_or, or_true, and_self, if_true, if_false, mCat_n, mCat_i, mCat_r, mCat_l, mCat_0, Nat.reduceAdd, Nat.reduceLeDiff, Nat.reduceLT, true_and, and_true, Nat.zero_le, bI_01, mInB_J, mInB_Z, mInB_N, m1, m2, m3, m4, h0, e1, e2, e3, e4, e7, p1, g1, gl]; done) | omega | (unfold R32 at *; omega)) only [e_82_13, e_82_13_n, e_82_14, e_82_17, e_82_20, e_82_23, e_82_23_n, e_82_24, e_82_27, e_82_28, e_82_29, e_82_30, e_82_33, e_82_33_n, e_82_34, e_82_37, e_82_40, e_82_41, e_82_42, e_82_45, e_82_46, e_82_49, e_82_49_n, e_82_50, e_82_50_n, e_82_51, e_82_54, e_82_57, e_82_58, e_82_59, e_82_59_n, e_82_60, e_82_63, e_82_64, e_82_68, e_82_71, XB_i, XB_n, va_rf_s, va_rf_n, mSI_K, mSI_I, mSI_J, mSI_P, mSI_N, mSJ_K, mSJ_I, mSJ_J, mSJ_P, mSJ_N, mSP_K, mSP_I, mSP_J, mSP_P, mSP_N, mNn, mNi, mNr, mN0, al20, al21, al22, al23, al25, true_or, or_true, and_self, if_true, if_false, mCat_n, mCat_i, mCat_r, mCat_l, mCat_0, Nat.reduceAdd, Nat.reduceLeDiff, Nat.reduceLT, true_and, and_true, Nat.zero_le, bI_01, bI_0, i10, tf0, iI_add, iI_sub, iI_mul, iI_neg, iI_add1, iI_sub1, iI_m1, nc1, ncm1, iI_clJ, iI_cl0, iI_clN, Int.toNat_natCast, mU_n, mU_s, p_min, p_max, p_abs, ni_2, ni_3, ni_4, ni_7, ni_8, ni_9, ni_12, ni_24, ni_97, ni_100, ni_122, ni_200, ni_256, ni_4096, ni_5000, ni_9999, iI_lt, iI_le, iI_eq, iz_eq, iz_lt, iz_le, iz_gt, iz_ge, iy_eq, iy_lt, iy_le, iI_ltN, iI_leN, iI_eqN, if_pos, if_neg, m1, m2, m3, m4, h0, e1, e2, e3, e4, e7, p1, g1, gl]
      refine ih (i + 1) _ _ (by omega) (by omega) (hf.tr (f1.mono sub)) hM1 (by rw [f1.P s0]; exact h0) (by rw [f1.I s0]; exact hz1) (fun j hj => ?_) hQ
      unfold updH
      by_cases e : j = i
      · rw [if_pos e, e]
        exact ⟨by unfold shE; rw [if_neg q], fun hne => absurd rfl hne⟩
      · rw [if_neg e]
        obtain ⟨w1, w2⟩ := hsh j (by omega)
        exact ⟨w1, fun hne => (w2 hne).fr f1 (by rintro (z | z); have := z.1; have := z.2; omega; omega)⟩
theorem ct_prepare (hM : MkR T m sh) (hE : EdA T e ad Fs) (ok : esOk Fs) (hz : 0 ≤ z ∧ z ≤ 4) (dis : e + 74 ≤ m ∨ m + 108 ≤ e) (hQ : ∀ T2 sh2, PrR T2 m e z Fs sh2 → Fr (iv m (m + 108)) T T2 → Q (.inl none) T2) : XW 82 0 [some (.ref (m)), some (.ref (e)), some (.int (iI (z))), none] [] T Q := by
  obtain ⟨⟨m1, m2, m3, m4, m5, m6, m7, m8⟩, h2, u, c, lu, lc, hc, hu, hl⟩ := id hM
  simp (maxSteps := 4000000) (disch := first | (simp (disch := omega) only [XB_i, XB_n, va_rf_s, va_rf_n, mSI_K, mSI_I, mSI_J, mSI_P, mSI_N, mSJ_K, mSJ_I, mSJ_J, mSJ_P, mSJ_N, mSP_K, mSP_I, mSP_J, mSP_P, mSP_N, mNn, mNi, mNr, mN0, al20, al21, al22, al23, al25, true_or, or_true, and_self, if_true, if_false, mCat_n, mCat_i, mCat_r, mCat_l, mCat_0, Nat.reduceAdd, Nat.reduceLeDiff, Nat.reduceLT, true_and, and_true, Nat.zero_le, bI_01, mInB_J, mInB_Z, mInB_N, m1]; done) | omega | (unfold R32 at *; omega)) only [e_82_0, e_82_0_n, e_82_1, e_82_1_n, e_82_2, e_82_5, e_82_5_n, e_82_6, e_82_7, e_82_10, e_82_11, XB_i, XB_n, va_rf_s, va_rf_n, mSI_K, mSI_I, mSI_J, mSI_P, mSI_N, mSJ_K, mSJ_I, mSJ_J, mSJ_P, mSJ_N, mSP_K, mSP_I, mSP_J, mSP_P, mSP_N, mNn, mNi, mNr, mN0, al20, al21, al22, al23, al25, true_or, or_true, and_self, if_true, if_false, mCat_n, mCat_i, mCat_r, mCat_l, mCat_0, Nat.reduceAdd, Nat.reduceLeDiff, Nat.reduceLT, true_and, and_true, Nat.zero_le, bI_01, bI_0, i10, tf0, iI_add, iI_sub, iI_mul, iI_neg, iI_add1, iI_sub1, iI_m1, nc1, ncm1, iI_clJ, iI_cl0, iI_clN, Int.toNat_natCast, mU_n, mU_s, p_min, p_max, p_abs, ni_2, ni_3, ni_4, ni_7, ni_8, ni_9, ni_12, ni_24, ni_97, ni_100, ni_122, ni_200, ni_256, ni_4096, ni_5000, ni_9999, iI_lt, iI_le, iI_eq, iz_eq, iz_lt, iz_le, iz_gt, iz_ge, iy_eq, iy_lt, iy_le, iI_ltN, iI_leN, iI_eqN, if_pos, if_neg, m1]
  have f1 : Fr (fun b => b = m) T (mSI (mSP T m 0 (some e)) m 1 (iI z)) := Fr.iI (S := fun b => b = m) (Fr.sP (S := fun b => b = m) rfl) rfl
  have nu : ∀ b, iv u (u + 4) b → ¬ b = m := fun b hb q => by have := hb.1; have := hb.2; rcases hc.1 with z | z <;> omega
  have nc : ∀ b, iv c (c + 4) b → ¬ b = m := fun b hb q => by have := hb.1; have := hb.2; rcases hc.1 with z | z <;> omega
  refine l_prep hE ok hz dis _ 0 _ sh rfl (by omega) (f1.mono (fun b hb => ⟨by omega, by omega⟩)) ⟨⟨m1, ?_, m3, fun j hj => ?_, ?_, m6, ?_, m8⟩, fun j hj => (h2 j hj).fr f1 (fun b hb q => by have := hb.1; omega), u, c, lu, lc, ⟨hc.1, ?_, ?_⟩, hu.fr f1 nu, hl.fr f1 nc⟩ ?_ ?_ (fun j hj => by omega) hQ
  · rw [mSI_P, mSP_P, mU_n _ _ (by omega)]; exact m2
  · rw [mSI_P, mSP_P, mU_n _ _ (by omega)]; exact m4 j hj
  · rw [mSI_P, mSP_P, mU_n _ _ (by omega)]; exact m5
  · rw [mSI_P, mSP_P, mU_n _ _ (by omega)]; exact m7
  · rw [mSI_P, mSP_P, mU_n _ _ (by omega)]; exact hc.2.1
  · rw [mSI_P, mSP_P, mU_n _ _ (by omega)]; exact hc.2.2
  · rw [mSI_P, mSP_P, mU_s]
  · rw [mSI_I, mU_s]
end MA
