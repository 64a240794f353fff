/-! the reference: drop, edition, feature -/
theorem plN_sp (Fs : List Ft) (n : Int) : (∀ j, j < plN Fs n → (fA Fs j).1.1 < n) ∧ (plN Fs n < Fs.length → n ≤ (fA Fs (plN Fs n)).1.1) := by
  unfold plN
  rcases fndP_spec (fun i => decide (n ≤ (fA Fs i).1.1)) Fs.length 0 with ⟨c, h1, h2, h3, h4, h5⟩ | ⟨h1, h2⟩
  · rw [h1]
    refine ⟨fun j hj => ?_, fun _ => of_decide_eq_true h4⟩
    have := h5 j (by omega) hj
    simp at this
    exact this
  · rw [h1]
    refine ⟨fun j hj => ?_, fun h => absurd h (by simp)⟩
    have := h2 j (by omega) (by simpa using hj)
    simp at this
    exact this
theorem fiZ_eq {Fs : List Ft} (ok : esOk Fs) (n : Int) : fiZ Fs n = if itB Fs (plN Fs n) n then (plN Fs n : Int) else -1 := by
  obtain ⟨p1, p2⟩ := plN_sp Fs n
  have p3 := plN_le Fs n
  unfold fiZ itB
  rcases fndP_spec (fun i => decide ((fA Fs i).1.1 = n)) Fs.length 0 with ⟨c, h1, h2, h3, h4, h5⟩ | ⟨h1, h2⟩
  · rw [h1]
    have hc : (fA Fs c).1.1 = n := of_decide_eq_true h4
    have e : plN Fs n = c := by
      rcases Nat.lt_trichotomy (plN Fs n) c with z | z | z
      · have a1 := p2 (by omega)
        have a2 := ok.2 (plN Fs n) c z (by omega)
        omega
      · exact z
      · have := p1 c z
        omega
    rw [e, decide_eq_true (show c < Fs.length by omega), decide_eq_true hc]
    rfl
  · rw [h1]
    by_cases q : plN Fs n < Fs.length
    · have := h2 (plN Fs n) (by omega) (by omega)
      simp only [decide_eq_false_iff_not] at this
      rw [decide_eq_false this]
      simp
    · rw [decide_eq_false q]
      simp
section MT
variable {T : mT} {Q : mOut → mT → Prop} {m : Nat} {Fs : List Ft}
theorem m_drop {n : Int} (hM : ModK T m) (hS : SlR T m 0 Fs) (ok : esOk Fs) (hn : R32 n) (hQ : ∀ T2, SlR T2 m 0 (rmE Fs n) → T2.2.1 m 13 = 0 → Mf (fun b j => slS m 0 b j ∨ (b = m ∧ j = 13)) T T2 → Q (.inl (some (.int (bI (itB Fs (plN Fs n) n))))) T2) : XW 128 0 [some (.ref (m)), some (.int (iI (n))), none, none] [] T Q := by
  obtain ⟨c1, c2, c3⟩ := id hS
  have f1 : Mf (fun b j => b = m ∧ j = 13) T (mSI T m 13 0) := Mf.rf.sI ⟨rfl, rfl⟩
  have hS1 : SlR (mSI T m 13 0) m 0 Fs := hS.mf f1 (by rintro b j (q | ⟨q, _⟩ | ⟨q, _⟩) z; omega; have := q.1; omega; have := q.1; omega)
  have hM1 := hM.mf f1
  have f1' : Mf (fun b j => slS m 0 b j ∨ (b = m ∧ j = 13)) T (mSI T m 13 0) := f1.mono (fun b j h => Or.inr h)
  have pf := fun Q => @m_find (mSI T m 13 0) Q m 0 Fs n hM1 hS1 (by omega) ok hn
  rw [fiZ_eq ok, show iI ((0 : Nat) : Int) = 0 from rfl] at pf
  have pl := plN_le Fs n
  unfold rmE at hQ
  cases hi : itB Fs (plN Fs n) n with
  | false =>
    rw [hi, if_neg (by decide)] at pf
    rw [hi, if_neg (by decide)] at hQ
    simp (maxSteps := 4000000) (disch := first | (simp (disch := omega) only [XB_i, XB_n, va_rf_s, va_rf_n, mSI_K, mSI_I, mSI_J, mSI_P, mSI_N, mSJ_K, mSJ_I, mSJ_J, mSJ_P, mSJ_N, mSP_K, mSP_I, mSP_J, mSP_P, mSP_N, mNn, mNi, mNr, mN0, al20, al21, al22, al23, al25, true_or, or_true, and_self, if_true, if_false, mCat_n, mCat_i, mCat_r, mCat_l, mCat_0, Nat.reduceAdd, Nat.reduceLeDiff, Nat.reduceLT, true_and, and_true, Nat.zero_le, bI_01, mInB_J, mInB_Z, mInB_N, hM.k, hM.r0, hM.a0, pf, nim1]; done) | omega | (unfold R32 at *; omega)) only [e_128_0, e_128_0_n, e_128_1, e_128_2, e_128_5, e_128_5_n, e_128_6, e_128_7, e_128_11, e_128_12, e_128_13, e_128_14, e_128_17, e_128_18, d_128_8, XB_i, XB_n, va_rf_s, va_rf_n, mSI_K, mSI_I, mSI_J, mSI_P, mSI_N, mSJ_K, mSJ_I, mSJ_J, mSJ_P, mSJ_N, mSP_K, mSP_I, mSP_J, mSP_P, mSP_N, mNn, mNi, mNr, mN0, al20, al21, al22, al23, al25, true_or, or_true, and_self, if_true, if_false, mCat_n, mCat_i, mCat_r, mCat_l, mCat_0, Nat.reduceAdd, Nat.reduceLeDiff, Nat.reduceLT, true_and, and_true, Nat.zero_le, bI_01, bI_0, i10, tf0, iI_add, iI_sub, iI_mul, iI_neg, iI_add1, iI_sub1, iI_m1, nca, nc1, ncm1, iI_clJ, iI_cl0, iI_clN, Int.toNat_natCast, mU_n, mU_s, p_min, p_max, p_abs, ni_2, ni_3, ni_4, ni_7, ni_8, ni_9, ni_12, ni_24, ni_97, ni_100, ni_122, ni_200, ni_256, ni_4096, ni_5000, ni_9999, iI_lt, iI_le, iI_eq, iz_eq, iz_lt, iz_le, iz_gt, iz_ge, iy_eq, iy_lt, iy_le, iI_ltN, iI_leN, iI_eqN, if_pos, if_neg, hM.k, hM.r0, hM.a0, pf, nim1]
    exact hQ _ hS1 (by (simp (disch := omega) only [mSI_I, mSI_J, mSI_P, mSJ_I, mSJ_J, mSJ_P, mSP_I, mSP_J, mSP_P, mU_n, mU_s] <;> first | done | rfl | assumption)) f1'
  | true =>
    have hp : plN Fs n < Fs.length := by unfold itB at hi; simp at hi; exact hi.1
    rw [hi, if_pos rfl] at pf
    rw [hi, if_pos rfl] at hQ
    have i0 : mInB 0 3 = true := mInB_Z (by omega) (by omega)
    simp (maxSteps := 4000000) (disch := first | (simp (disch := omega) only [XB_i, XB_n, va_rf_s, va_rf_n, mSI_K, mSI_I, mSI_J, mSI_P, mSI_N, mSJ_K, mSJ_I, mSJ_J, mSJ_P, mSJ_N, mSP_K, mSP_I, mSP_J, mSP_P, mSP_N, mNn, mNi, mNr, mN0, al20, al21, al22, al23, al25, true_or, or_true, and_self, if_true, if_false, mCat_n, mCat_i, mCat_r, mCat_l, mCat_0, Nat.reduceAdd, Nat.reduceLeDiff, Nat.reduceLT, true_and, and_true, Nat.zero_le, bI_01, mInB_J, mInB_Z, mInB_N, hM.k, hM.r0, hM.a0, pf, nim1, c1, i0, iI_cl0]; done) | omega | (unfold R32 at *; omega)) only [e_128_0, e_128_0_n, e_128_1, e_128_2, e_128_5, e_128_5_n, e_128_6, e_128_7, e_128_11, e_128_12, e_128_13, e_128_14, e_128_17, e_128_18, e_128_19, e_128_19_n, e_128_20, e_128_23, e_128_24, e_128_25, e_128_26, e_128_27, e_128_28, e_128_29, e_128_30, d_128_8, XB_i, XB_n, va_rf_s, va_rf_n, mSI_K, mSI_I, mSI_J, mSI_P, mSI_N, mSJ_K, mSJ_I, mSJ_J, mSJ_P, mSJ_N, mSP_K, mSP_I, mSP_J, mSP_P, mSP_N, mNn, mNi, mNr, mN0, al20, al21, al22, al23, al25, true_or, or_true, and_self, if_true, if_false, mCat_n, mCat_i, mCat_r, mCat_l, mCat_0, Nat.reduceAdd, Nat.reduceLeDiff, Nat.reduceLT, true_and, and_true, Nat.zero_le, bI_01, bI_0, i10, tf0, iI_add, iI_sub, iI_mul, iI_neg, iI_add1, iI_sub1, iI_m1, nca, nc1, ncm1, iI_clJ, iI_cl0, iI_clN, Int.toNat_natCast, mU_n, mU_s, p_min, p_max, p_abs, ni_2, ni_3, ni_4, ni_7, ni_8, ni_9, ni_12, ni_24, ni_97, ni_100, ni_122, ni_200, ni_256, ni_4096, ni_5000, ni_9999, iI_lt, iI_le, iI_eq, iz_eq, iz_lt, iz_le, iz_gt, iz_ge, iy_eq, iy_lt, iy_le, iI_ltN, iI_leN, iI_eqN, if_pos, if_neg, hM.k, hM.r0, hM.a0, pf, nim1, c1, i0, iI_cl0]
    have f2 : Mf (fun b j => (b = m + 1 ∧ j = 0) ∨ (b = m ∧ j = 13)) T (mSI (mSI T m 13 0) (m + 1) 0 (iI ((Fs.length - 1 : Nat) : Int))) := (Mf.rf.sI (Or.inr ⟨rfl, rfl⟩)).sI (Or.inl ⟨rfl, rfl⟩)
    refine lm_drop (Fs := Fs) (p := plN Fs n) (hM.mf f2) hp c2 _ (plN Fs n) _ rfl (by omega) hp Mf.rf (by (simp (disch := omega) only [mSI_I, mSI_J, mSI_P, mSJ_I, mSJ_J, mSJ_P, mSP_I, mSP_J, mSP_P, mU_n, mU_s] <;> first | done | rfl | assumption)) (fun j hj => ?_) (fun T3 h3 f3 => hQ T3 h3 ?_ ((f2.mono (fun b j h => h.elim (fun q => Or.inl (Or.inl q)) Or.inr)).tr (f3.mono (fun b j h => Or.inl h))))
    · have := c3 j hj
      rw [Nat.mul_zero, Nat.zero_add] at this
      have h2 := this.mf f2 (by rintro b k (⟨q1, q2⟩ | ⟨q1, q2, q3⟩) (⟨z1, z2⟩ | ⟨z1, z2⟩) <;> (have := q1.1; omega))
      by_cases e : j < plN Fs n
      · rw [if_pos e]; exact h2
      · rw [if_neg e, if_neg e]; exact h2
    · rw [f3.I (by rintro (q | ⟨q, _⟩ | ⟨q, _⟩); omega; have := q.1; omega; have := q.1; omega)]; (simp (disch := omega) only [mSI_I, mSI_J, mSI_P, mSJ_I, mSJ_J, mSJ_P, mSP_I, mSP_J, mSP_P, mU_n, mU_s] <;> first | done | rfl | assumption)
theorem lm_edi {T0 : mT} {s : Nat} (hM0 : ModK T0 m) (hS0 : SlR T0 m 0 Fs) (hs : 1 ≤ s ∧ s < 3) : ∀ (k i : Nat) (T : mT), Fs.length - i = k → i ≤ Fs.length → Mf (slS m s) T0 T → T.2.1 (m + 1) s = iI Fs.length → (∀ j, j < i → FtM T m (24 * s + j) (fA Fs j)) →
    (∀ T2, SlR T2 m s Fs → Mf (slS m s) T0 T2 → Q (.inl (some (.int (T0.2.1 m 9)))) T2) → XW 129 38 [some (.ref (m)), some (.int (iI ((s : Nat) : Int))), some (.int (iI ((i : Nat) : Int)))] [] T Q := by
  intro k
  have d0 : ∀ b j, slS m 0 b j → ¬ slS m s b j := by
    rintro b j (⟨q1, q2⟩ | ⟨q1, q2, q3⟩ | ⟨q1, q2, q3⟩) (⟨z1, z2⟩ | ⟨z1, z2, z3⟩ | ⟨z1, z2, z3⟩)
    · omega
    · have := z1.1; omega
    · have := z1.1; omega
    · have := q1.1; omega
    · omega
    · have := q1.2; have := z1.1; omega
    · have := q1.1; omega
    · have := q1.1; have := z1.2; omega
    · omega
  induction k with
  | zero =>
    intro i T hk hi hT h0 hc hQ
    have hM := hM0.mf hT
    have hS := hS0.mf hT d0
    have c1 := hS.1
    have : i = Fs.length := by omega
    subst this
    have i0 : mInB 0 3 = true := mInB_Z (by omega) (by omega)
    have e9 : T.2.1 m 9 = T0.2.1 m 9 := hT.I (by rintro (q | ⟨q, _⟩ | ⟨q, _⟩); omega; have := q.1; omega; have := q.1; omega)
    have l24 := hS0.2.1
    rw [e_129_38]
    simp (maxSteps := 4000000) (disch := first | (simp (disch := omega) only [XB_i, XB_n, va_rf_s, va_rf_n, mSI_K, mSI_I, mSI_J, mSI_P, mSI_N, mSJ_K, mSJ_I, mSJ_J, mSJ_P, mSJ_N, mSP_K, mSP_I, mSP_J, mSP_P, mSP_N, mNn, mNi, mNr, mN0, al20, al21, al22, al23, al25, true_or, or_true, and_self, if_true, if_false, mCat_n, mCat_i, mCat_r, mCat_l, mCat_0, Nat.reduceAdd, Nat.reduceLeDiff, Nat.reduceLT, true_and, and_true, Nat.zero_le, bI_01, mInB_J, mInB_Z, mInB_N, hM.k, hM.r0, hM.a0, c1, i0, iI_cl0, e9]; done) | omega | (unfold R32 at *; omega)) only [e_129_39, e_129_39_n, e_129_40, e_129_43, e_129_44, e_129_45, e_129_65, e_129_65_n, e_129_66, e_129_69, XB_i, XB_n, va_rf_s, va_rf_n, mSI_K, mSI_I, mSI_J, mSI_P, mSI_N, mSJ_K, mSJ_I, mSJ_J, mSJ_P, mSJ_N, mSP_K, mSP_I, mSP_J, mSP_P, mSP_N, mNn, mNi, mNr, mN0, al20, al21, al22, al23, al25, true_or, or_true, and_self, if_true, if_false, mCat_n, mCat_i, mCat_r, mCat_l, mCat_0, Nat.reduceAdd, Nat.reduceLeDiff, Nat.reduceLT, true_and, and_true, Nat.zero_le, bI_01, bI_0, i10, tf0, iI_add, iI_sub, iI_mul, iI_neg, iI_add1, iI_sub1, iI_m1, nca, nc1, ncm1, iI_clJ, iI_cl0, iI_clN, Int.toNat_natCast, mU_n, mU_s, p_min, p_max, p_abs, ni_2, ni_3, ni_4, ni_7, ni_8, ni_9, ni_12, ni_24, ni_97, ni_100, ni_122, ni_200, ni_256, ni_4096, ni_5000, ni_9999, iI_lt, iI_le, iI_eq, iz_eq, iz_lt, iz_le, iz_gt, iz_ge, iy_eq, iy_lt, iy_le, iI_ltN, iI_leN, iI_eqN, if_pos, if_neg, hM.k, hM.r0, hM.a0, c1, i0, iI_cl0, e9]
    exact hQ T ⟨h0, hS.2.1, hc⟩ hT
  | succ k ih =>
    intro i T hk hi hT h0 hc hQ
    have hM := hM0.mf hT
    have hS := hS0.mf hT d0
    have c1 := hS.1
    have l24 := hS0.2.1
    have i0 : mInB 0 3 = true := mInB_Z (by omega) (by omega)
    have hF := hS.2.2 i (by omega)
    rw [Nat.mul_zero, Nat.zero_add] at hF
    rw [e_129_38]
    simp (maxSteps := 4000000) (disch := first | (simp (disch := omega) only [XB_i, XB_n, va_rf_s, va_rf_n, mSI_K, mSI_I, mSI_J, mSI_P, mSI_N, mSJ_K, mSJ_I, mSJ_J, mSJ_P, mSJ_N, mSP_K, mSP_I, mSP_J, mSP_P, mSP_N, mNn, mNi, mNr, mN0, al20, al21, al22, al23, al25, true_or, or_true, and_self, if_true, if_false, mCat_n, mCat_i, mCat_r, mCat_l, mCat_0, Nat.reduceAdd, Nat.reduceLeDiff, Nat.reduceLT, true_and, and_true, Nat.zero_le, bI_01, mInB_J, mInB_Z, mInB_N, hM.k, hM.r0, hM.a0, c1, i0, iI_cl0]; done) | omega | (unfold R32 at *; omega)) only [e_129_39, e_129_39_n, e_129_40, e_129_43, e_129_44, e_129_45, e_129_48, e_129_48_n, e_129_49, e_129_50, e_129_52, e_129_53, e_129_54, e_129_55, nx24, XB_i, XB_n, va_rf_s, va_rf_n, mSI_K, mSI_I, mSI_J, mSI_P, mSI_N, mSJ_K, mSJ_I, mSJ_J, mSJ_P, mSJ_N, mSP_K, mSP_I, mSP_J, mSP_P, mSP_N, mNn, mNi, mNr, mN0, al20, al21, al22, al23, al25, true_or, or_true, and_self, if_true, if_false, mCat_n, mCat_i, mCat_r, mCat_l, mCat_0, Nat.reduceAdd, Nat.reduceLeDiff, Nat.reduceLT, true_and, and_true, Nat.zero_le, bI_01, bI_0, i10, tf0, iI_add, iI_sub, iI_mul, iI_neg, iI_add1, iI_sub1, iI_m1, nca, nc1, ncm1, iI_clJ, iI_cl0, iI_clN, Int.toNat_natCast, mU_n, mU_s, p_min, p_max, p_abs, ni_2, ni_3, ni_4, ni_7, ni_8, ni_9, ni_12, ni_24, ni_97, ni_100, ni_122, ni_200, ni_256, ni_4096, ni_5000, ni_9999, iI_lt, iI_le, iI_eq, iz_eq, iz_lt, iz_le, iz_gt, iz_ge, iy_eq, iy_lt, iy_le, iI_ltN, iI_leN, iI_eqN, if_pos, if_neg, hM.k, hM.r0, hM.a0, c1, i0, iI_cl0]
    refine c_129_56 (by simp only [XB_i, XB_n, va_rf_s, va_rf_n, mSI_K, mSI_I, mSI_J, mSI_P, mSI_N, mSJ_K, mSJ_I, mSJ_J, mSJ_P, mSJ_N, mSP_K, mSP_I, mSP_J, mSP_P, mSP_N, mNn, mNi, mNr, mN0, al20, al21, al22, al23, al25, true_or, or_true, and_self, if_true, if_false, mCat_n, mCat_i, mCat_r, mCat_l, mCat_0, Nat.reduceAdd, Nat.reduceLeDiff, Nat.reduceLT, true_and, and_true, Nat.zero_le, bI_01]) (by rw [hM.k]) (m_copyF (g := 24 * s + i) hM hF (by omega) (by omega) (by omega) (fun T2 h2 f2 => ?_))
    simp (maxSteps := 4000000) (disch := first | (simp (disch := omega) only [XB_i, XB_n, va_rf_s, va_rf_n, mSI_K, mSI_I, mSI_J, mSI_P, mSI_N, mSJ_K, mSJ_I, mSJ_J, mSJ_P, mSJ_N, mSP_K, mSP_I, mSP_J, mSP_P, mSP_N, mNn, mNi, mNr, mN0, al20, al21, al22, al23, al25, true_or, or_true, and_self, if_true, if_false, mCat_n, mCat_i, mCat_r, mCat_l, mCat_0, Nat.reduceAdd, Nat.reduceLeDiff, Nat.reduceLT, true_and, and_true, Nat.zero_le, bI_01, mInB_J, mInB_Z, mInB_N]; done) | omega | (unfold R32 at *; omega)) only [e_129_59, e_129_62, XB_i, XB_n, va_rf_s, va_rf_n, mSI_K, mSI_I, mSI_J, mSI_P, mSI_N, mSJ_K, mSJ_I, mSJ_J, mSJ_P, mSJ_N, mSP_K, mSP_I, mSP_J, mSP_P, mSP_N, mNn, mNi, mNr, mN0, al20, al21, al22, al23, al25, true_or, or_true, and_self, if_true, if_false, mCat_n, mCat_i, mCat_r, mCat_l, mCat_0, Nat.reduceAdd, Nat.reduceLeDiff, Nat.reduceLT, true_and, and_true, Nat.zero_le, bI_01, bI_0, i10, tf0, iI_add, iI_sub, iI_mul, iI_neg, iI_add1, iI_sub1, iI_m1, nca, nc1, ncm1, iI_clJ, iI_cl0, iI_clN, Int.toNat_natCast, mU_n, mU_s, p_min, p_max, p_abs, ni_2, ni_3, ni_4, ni_7, ni_8, ni_9, ni_12, ni_24, ni_97, ni_100, ni_122, ni_200, ni_256, ni_4096, ni_5000, ni_9999, iI_lt, iI_le, iI_eq, iz_eq, iz_lt, iz_le, iz_gt, iz_ge, iy_eq, iy_lt, iy_le, iI_ltN, iI_leN, iI_eqN, if_pos, if_neg]
    refine ih (i + 1) T2 (by omega) (by omega) (hT.tr (f2.mono (fun b j q => ftS_sl (by omega) q))) ?_ (fun j hj => ?_) hQ
    · rw [f2.I (by rintro (⟨q1, q2⟩ | ⟨q1, q2, q3⟩) <;> (have := q1.1; omega))]; exact h0
    · by_cases e : j = i
      · rw [e]; exact h2
      · exact (hc j (by omega)).mf f2 (fun b k q => ftS_ne (by omega) q)
theorem m_edition {cl : Nat} (hM : ModK T m) (hS : SlR T m 0 Fs) (hc : T.2.1 m 9 = iI cl) (hcl : cl < 1000000000) (hQ : ∀ T2, SlR T2 m (1 + (cl + 1) % 2) Fs → T2.2.1 m 13 = 0 → T2.2.1 m 9 = iI ((cl + 1 : Nat) : Int) → Mf (fun b j => slS m (1 + (cl + 1) % 2) b j ∨ (b = m ∧ (j = 9 ∨ j = 13))) T T2 → Q (.inl (some (.int (iI ((cl + 1 : Nat) : Int))))) T2) : XW 129 0 [some (.ref (m)), none, none] [] T Q := by
  obtain ⟨c1, c2, c3⟩ := id hS
  have i0 : mInB 0 3 = true := mInB_Z (by omega) (by omega)
  have e : (1 : Int32) + iI (((cl + 1 : Nat) : Int) % 2) = iI ((1 + (cl + 1) % 2 : Nat) : Int) := by rw [iI_1, iI_add]; congr 1
  generalize hs : 1 + (cl + 1) % 2 = s at *
  simp (maxSteps := 4000000) (disch := first | (simp (disch := omega) only [XB_i, XB_n, va_rf_s, va_rf_n, mSI_K, mSI_I, mSI_J, mSI_P, mSI_N, mSJ_K, mSJ_I, mSJ_J, mSJ_P, mSJ_N, mSP_K, mSP_I, mSP_J, mSP_P, mSP_N, mNn, mNi, mNr, mN0, al20, al21, al22, al23, al25, true_or, or_true, and_self, if_true, if_false, mCat_n, mCat_i, mCat_r, mCat_l, mCat_0, Nat.reduceAdd, Nat.reduceLeDiff, Nat.reduceLT, true_and, and_true, Nat.zero_le, bI_01, mInB_J, mInB_Z, mInB_N, hM.k, hM.r0, hM.a0, hc, iI_rem, i2n0, not_false_eq_true, e, c1, i0, iI_cl0]; done) | omega | (unfold R32 at *; omega)) only [e_129_0, e_129_0_n, e_129_1, e_129_2, e_129_5, e_129_5_n, e_129_6, e_129_6_i, e_129_7, e_129_10, e_129_11, e_129_12, e_129_15, e_129_16, e_129_16_n, e_129_17, e_129_20, e_129_21, e_129_22, e_129_23, e_129_24, e_129_24_n, e_129_25, e_129_28, e_129_29, e_129_29_n, e_129_30, e_129_33, e_129_34, e_129_35, e_129_36, e_129_37, XB_i, XB_n, va_rf_s, va_rf_n, mSI_K, mSI_I, mSI_J, mSI_P, mSI_N, mSJ_K, mSJ_I, mSJ_J, mSJ_P, mSJ_N, mSP_K, mSP_I, mSP_J, mSP_P, mSP_N, mNn, mNi, mNr, mN0, al20, al21, al22, al23, al25, true_or, or_true, and_self, if_true, if_false, mCat_n, mCat_i, mCat_r, mCat_l, mCat_0, Nat.reduceAdd, Nat.reduceLeDiff, Nat.reduceLT, true_and, and_true, Nat.zero_le, bI_01, bI_0, i10, tf0, iI_add, iI_sub, iI_mul, iI_neg, iI_add1, iI_sub1, iI_m1, nca, nc1, ncm1, iI_clJ, iI_cl0, iI_clN, Int.toNat_natCast, mU_n, mU_s, p_min, p_max, p_abs, ni_2, ni_3, ni_4, ni_7, ni_8, ni_9, ni_12, ni_24, ni_97, ni_100, ni_122, ni_200, ni_256, ni_4096, ni_5000, ni_9999, iI_lt, iI_le, iI_eq, iz_eq, iz_lt, iz_le, iz_gt, iz_ge, iy_eq, iy_lt, iy_le, iI_ltN, iI_leN, iI_eqN, if_pos, if_neg, hM.k, hM.r0, hM.a0, hc, iI_rem, i2n0, not_false_eq_true, e, c1, i0, iI_cl0]
  have f2 : Mf (fun b j => (b = m + 1 ∧ j = s) ∨ (b = m ∧ (j = 9 ∨ j = 13))) T (mSI (mSI (mSI T m 13 0) m 9 (iI ((cl + 1 : Nat) : Int))) (m + 1) s (iI (Fs.length : Int))) := ((Mf.rf.sI (Or.inr ⟨rfl, Or.inr rfl⟩)).sI (Or.inr ⟨rfl, Or.inl rfl⟩)).sI (Or.inl ⟨rfl, rfl⟩)
  have hS2 := hS.mf f2 (by
    rintro b j (⟨q1, q2⟩ | ⟨q1, q2, q3⟩ | ⟨q1, q2, q3⟩) (⟨z1, z2⟩ | ⟨z1, z2⟩)
    · omega
    · omega
    · have := q1.1; omega
    · have := q1.1; omega
    · have := q1.1; omega
    · have := q1.1; omega)
  refine lm_edi (hM.mf f2) hS2 (by omega) _ 0 _ rfl (by omega) Mf.rf (by (simp (disch := omega) only [mSI_I, mSI_J, mSI_P, mSJ_I, mSJ_J, mSJ_P, mSP_I, mSP_J, mSP_P, mU_n, mU_s] <;> first | done | rfl | assumption)) (fun j hj => by omega) (fun T3 h3 f3 => ?_)
  have nm : ∀ k, ¬ slS m s m k := by rintro k (q | ⟨q, _⟩ | ⟨q, _⟩); omega; have := q.1; omega; have := q.1; omega
  have := hQ T3 h3 (by rw [f3.I (nm 13)]; (simp (disch := omega) only [mSI_I, mSI_J, mSI_P, mSJ_I, mSJ_J, mSJ_P, mSP_I, mSP_J, mSP_P, mU_n, mU_s] <;> first | done | rfl | assumption)) (by rw [f3.I (nm 9)]; (simp (disch := omega) only [mSI_I, mSI_J, mSI_P, mSJ_I, mSJ_J, mSJ_P, mSP_I, mSP_J, mSP_P, mU_n, mU_s] <;> first | done | rfl | assumption)) ((f2.mono (fun b j h => h.elim (fun q => Or.inl (Or.inl q)) Or.inr)).tr (f3.mono (fun b j h => Or.inl h)))
  have e9 : (mSI (mSI (mSI T m 13 0) m 9 (iI ((cl + 1 : Nat) : Int))) (m + 1) s (iI (Fs.length : Int))).2.1 m 9 = iI ((cl + 1 : Nat) : Int) := by (simp (disch := omega) only [mSI_I, mSI_J, mSI_P, mSJ_I, mSJ_J, mSJ_P, mSP_I, mSP_J, mSP_P, mU_n, mU_s] <;> first | done | rfl | assumption)
  rw [e9]
  exact this
end MT
