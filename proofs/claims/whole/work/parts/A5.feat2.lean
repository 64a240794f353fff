/-! the reference: feature -/
section MU
variable {T : mT} {Q : mOut → mT → Prop} {m : Nat} {Fs : List Ft} {cs : List Pt} {n k s l : Int} {w : Int64}
theorem lm_ftl {T0 : mT} {p c : Nat} {g : Int32} (hM0 : ModK T0 m) (hp : p < 24) (hc : c ≤ 24) (hl : cs.length ≤ 12) (hx : ∀ j, j < cs.length → T0.2.1 (m + 10) j = iI (cX cs j)) (hy : ∀ j, j < cs.length → T0.2.1 (m + 11) j = iI (cY cs j)) (h0 : T0.2.1 (m + 1) 0 = iI c) : ∀ (d i : Nat) (T : mT), cs.length - i = d → i ≤ cs.length → Mf (ftS m p) T0 T → (T.2.1 (m + 2) p = iI n ∧ T.2.1 (m + 3) p = iI k ∧ T.2.1 (m + 4) p = iI s ∧ T.2.1 (m + 5) p = iI l ∧ T.2.2.1 (m + 6) p = w ∧ T.2.1 (m + 7) p = iI cs.length) → (∀ j, j < i → T.2.1 (m + 8) (12 * p + j) = iI (cX cs j) ∧ T.2.1 (m + 9) (12 * p + j) = iI (cY cs j)) →
    (∀ T2, FtM T2 m p ((n, k, s, l), w, cs) → Mf (ftS m p) T0 T2 → Q (.inl (some (.int (iI c)))) T2) → XW 127 246 [some (.ref (m)), some (.int (iI (n))), some (.int (iI (k))), some (.int (iI (s))), some (.int (iI (l))), some (.long (w)), none, some (.int (g)), some (.int (iI ((cs.length : Nat) : Int))), some (.int (iI ((p : Nat) : Int))), some (.int (iI ((i : Nat) : Int)))] [] T Q := by
  intro d
  induction d with
  | zero =>
    intro i T hk hi hT h6 hcs hQ
    have hM := hM0.mf hT
    have : i = cs.length := by omega
    subst this
    have c0 : T.2.1 (m + 1) 0 = iI c := by rw [hT.I (by rintro (⟨q, _⟩ | ⟨q, _⟩) <;> (have := q.1; omega))]; exact h0
    have i0 : mInB 0 3 = true := mInB_Z (by omega) (by omega)
    rw [e_127_246]
    simp (maxSteps := 4000000) (disch := first | (simp (disch := omega) only [XB_i, XB_n, va_rf_s, va_rf_n, mSI_K, mSI_I, mSI_J, mSI_P, mSI_N, mSJ_K, mSJ_I, mSJ_J, mSJ_P, mSJ_N, mSP_K, mSP_I, mSP_J, mSP_P, mSP_N, mNn, mNi, mNr, mN0, al20, al21, al22, al23, al25, true_or, or_true, and_self, if_true, if_false, mCat_n, mCat_i, mCat_r, mCat_l, mCat_0, Nat.reduceAdd, Nat.reduceLeDiff, Nat.reduceLT, true_and, and_true, Nat.zero_le, bI_01, mInB_J, mInB_Z, mInB_N, hM.k, hM.r0, hM.a0, c0, i0, iI_cl0]; done) | omega | (unfold R32 at *; omega)) only [e_127_248, e_127_250, e_127_299, e_127_299_n, e_127_300, e_127_303, e_127_304, e_127_305, XB_i, XB_n, va_rf_s, va_rf_n, mSI_K, mSI_I, mSI_J, mSI_P, mSI_N, mSJ_K, mSJ_I, mSJ_J, mSJ_P, mSJ_N, mSP_K, mSP_I, mSP_J, mSP_P, mSP_N, mNn, mNi, mNr, mN0, al20, al21, al22, al23, al25, true_or, or_true, and_self, if_true, if_false, mCat_n, mCat_i, mCat_r, mCat_l, mCat_0, Nat.reduceAdd, Nat.reduceLeDiff, Nat.reduceLT, true_and, and_true, Nat.zero_le, bI_01, bI_0, i10, tf0, iI_add, iI_sub, iI_mul, iI_neg, iI_add1, iI_sub1, iI_m1, nca, nc1, ncm1, iI_clJ, iI_cl0, iI_clN, Int.toNat_natCast, mU_n, mU_s, p_min, p_max, p_abs, ni_2, ni_3, ni_4, ni_7, ni_8, ni_9, ni_12, ni_24, ni_97, ni_100, ni_122, ni_200, ni_256, ni_4096, ni_5000, ni_9999, iI_lt, iI_le, iI_eq, iz_eq, iz_lt, iz_le, iz_gt, iz_ge, iy_eq, iy_lt, iy_le, iI_ltN, iI_leN, iI_eqN, if_pos, if_neg, hM.k, hM.r0, hM.a0, c0, i0, iI_cl0]
    obtain ⟨a1, a2, a3, a4, a5, a6⟩ := h6
    exact hQ T ⟨a1, a2, a3, a4, a5, a6, hl, fun j hj => (hcs j hj).1, fun j hj => (hcs j hj).2⟩ hT
  | succ d ih =>
    intro i T hk hi hT h6 hcs hQ
    have hM := hM0.mf hT
    have x1 : T.2.1 (m + 10) i = iI (cX cs i) := by rw [hT.I (by rintro (⟨q, _⟩ | ⟨q, _⟩) <;> (have := q.2; omega))]; exact hx i (by omega)
    have y1 : T.2.1 (m + 11) i = iI (cY cs i) := by rw [hT.I (by rintro (⟨q, _⟩ | ⟨q, _⟩) <;> (have := q.2; omega))]; exact hy i (by omega)
    rw [e_127_246]
    simp (maxSteps := 4000000) (disch := first | (simp (disch := omega) only [XB_i, XB_n, va_rf_s, va_rf_n, mSI_K, mSI_I, mSI_J, mSI_P, mSI_N, mSJ_K, mSJ_I, mSJ_J, mSJ_P, mSJ_N, mSP_K, mSP_I, mSP_J, mSP_P, mSP_N, mNn, mNi, mNr, mN0, al20, al21, al22, al23, al25, true_or, or_true, and_self, if_true, if_false, mCat_n, mCat_i, mCat_r, mCat_l, mCat_0, Nat.reduceAdd, Nat.reduceLeDiff, Nat.reduceLT, true_and, and_true, Nat.zero_le, bI_01, mInB_J, mInB_Z, mInB_N, hM.k, hM.r7, hM.a7, hM.r8, hM.a8, hM.r10, hM.a10, hM.r11, hM.a11, x1, y1]; done) | omega | (unfold R32 at *; omega)) only [e_127_248, e_127_250, e_127_253, e_127_253_n, e_127_254, e_127_257, e_127_259, e_127_261, e_127_262, e_127_264, e_127_265, e_127_265_n, e_127_266, e_127_269, e_127_271, e_127_272, e_127_273, e_127_273_n, e_127_274, e_127_277, e_127_279, e_127_281, e_127_282, e_127_284, e_127_285, e_127_285_n, e_127_286, e_127_289, e_127_291, e_127_292, e_127_293, e_127_296, nx12, XB_i, XB_n, va_rf_s, va_rf_n, mSI_K, mSI_I, mSI_J, mSI_P, mSI_N, mSJ_K, mSJ_I, mSJ_J, mSJ_P, mSJ_N, mSP_K, mSP_I, mSP_J, mSP_P, mSP_N, mNn, mNi, mNr, mN0, al20, al21, al22, al23, al25, true_or, or_true, and_self, if_true, if_false, mCat_n, mCat_i, mCat_r, mCat_l, mCat_0, Nat.reduceAdd, Nat.reduceLeDiff, Nat.reduceLT, true_and, and_true, Nat.zero_le, bI_01, bI_0, i10, tf0, iI_add, iI_sub, iI_mul, iI_neg, iI_add1, iI_sub1, iI_m1, nca, nc1, ncm1, iI_clJ, iI_cl0, iI_clN, Int.toNat_natCast, mU_n, mU_s, p_min, p_max, p_abs, ni_2, ni_3, ni_4, ni_7, ni_8, ni_9, ni_12, ni_24, ni_97, ni_100, ni_122, ni_200, ni_256, ni_4096, ni_5000, ni_9999, iI_lt, iI_le, iI_eq, iz_eq, iz_lt, iz_le, iz_gt, iz_ge, iy_eq, iy_lt, iy_le, iI_ltN, iI_leN, iI_eqN, if_pos, if_neg, hM.k, hM.r7, hM.a7, hM.r8, hM.a8, hM.r10, hM.a10, hM.r11, hM.a11, x1, y1]
    obtain ⟨a1, a2, a3, a4, a5, a6⟩ := h6
    refine ih (i + 1) _ (by omega) (by omega) ((hT.sI (Or.inr ⟨⟨by omega, by omega⟩, by omega, by omega⟩)).sI (Or.inr ⟨⟨by omega, by omega⟩, by omega, by omega⟩)) ⟨by rw [← a1]; (simp (disch := omega) only [mSI_I, mSI_J, mSI_P, mSJ_I, mSJ_J, mSJ_P, mSP_I, mSP_J, mSP_P, mU_n, mU_s] <;> first | done | rfl | assumption), by rw [← a2]; (simp (disch := omega) only [mSI_I, mSI_J, mSI_P, mSJ_I, mSJ_J, mSJ_P, mSP_I, mSP_J, mSP_P, mU_n, mU_s] <;> first | done | rfl | assumption), by rw [← a3]; (simp (disch := omega) only [mSI_I, mSI_J, mSI_P, mSJ_I, mSJ_J, mSJ_P, mSP_I, mSP_J, mSP_P, mU_n, mU_s] <;> first | done | rfl | assumption), by rw [← a4]; (simp (disch := omega) only [mSI_I, mSI_J, mSI_P, mSJ_I, mSJ_J, mSJ_P, mSP_I, mSP_J, mSP_P, mU_n, mU_s] <;> first | done | rfl | assumption), by rw [← a5]; (simp (disch := omega) only [mSI_I, mSI_J, mSI_P, mSJ_I, mSJ_J, mSJ_P, mSP_I, mSP_J, mSP_P, mU_n, mU_s] <;> first | done | rfl | assumption), by rw [← a6]; (simp (disch := omega) only [mSI_I, mSI_J, mSI_P, mSJ_I, mSJ_J, mSJ_P, mSP_I, mSP_J, mSP_P, mU_n, mU_s] <;> first | done | rfl | assumption)⟩ (fun j hj => ?_) hQ
    by_cases e : j = i
    · subst e
      exact ⟨by (simp (disch := omega) only [mSI_I, mSI_J, mSI_P, mSJ_I, mSJ_J, mSJ_P, mSP_I, mSP_J, mSP_P, mU_n, mU_s] <;> first | done | rfl | assumption), by (simp (disch := omega) only [mSI_I, mSI_J, mSI_P, mSJ_I, mSJ_J, mSJ_P, mSP_I, mSP_J, mSP_P, mU_n, mU_s] <;> first | done | rfl | assumption)⟩
    · obtain ⟨b1, b2⟩ := hcs j (by omega)
      exact ⟨by rw [← b1]; (simp (disch := omega) only [mSI_I, mSI_J, mSI_P, mSJ_I, mSJ_J, mSJ_P, mSP_I, mSP_J, mSP_P, mU_n, mU_s] <;> first | done | rfl | assumption), by rw [← b2]; (simp (disch := omega) only [mSI_I, mSI_J, mSI_P, mSJ_I, mSJ_J, mSJ_P, mSP_I, mSP_J, mSP_P, mU_n, mU_s] <;> first | done | rfl | assumption)⟩
theorem lm_ftail {p c : Nat} {g : Int32} (hM : ModK T m) (hp : p < 24) (hc : c ≤ 24) (hl : cs.length ≤ 12) (hx : ∀ j, j < cs.length → T.2.1 (m + 10) j = iI (cX cs j)) (hy : ∀ j, j < cs.length → T.2.1 (m + 11) j = iI (cY cs j)) (h0 : T.2.1 (m + 1) 0 = iI c) (hQ : ∀ T2, FtM T2 m p ((n, k, s, l), w, cs) → Mf (ftS m p) T T2 → Q (.inl (some (.int (iI c)))) T2) : XW 127 192 [some (.ref (m)), some (.int (iI (n))), some (.int (iI (k))), some (.int (iI (s))), some (.int (iI (l))), some (.long (w)), none, some (.int (g)), some (.int (iI ((cs.length : Nat) : Int))), some (.int (iI ((p : Nat) : Int))), none] [] T Q := by
  simp (maxSteps := 4000000) (disch := first | (simp (disch := omega) only [XB_i, XB_n, va_rf_s, va_rf_n, mSI_K, mSI_I, mSI_J, mSI_P, mSI_N, mSJ_K, mSJ_I, mSJ_J, mSJ_P, mSJ_N, mSP_K, mSP_I, mSP_J, mSP_P, mSP_N, mNn, mNi, mNr, mN0, al20, al21, al22, al23, al25, true_or, or_true, and_self, if_true, if_false, mCat_n, mCat_i, mCat_r, mCat_l, mCat_0, Nat.reduceAdd, Nat.reduceLeDiff, Nat.reduceLT, true_and, and_true, Nat.zero_le, bI_01, mInB_J, mInB_Z, mInB_N, hM.k, hM.r1, hM.a1, hM.r2, hM.a2, hM.r3, hM.a3, hM.r4, hM.a4, hM.r5, hM.a5, hM.r6, hM.a6]; done) | omega | (unfold R32 at *; omega)) only [e_127_192, e_127_192_n, e_127_193, e_127_196, e_127_198, e_127_199, e_127_200, e_127_200_n, e_127_201, e_127_204, e_127_206, e_127_207, e_127_208, e_127_208_n, e_127_209, e_127_212, e_127_214, e_127_215, e_127_216, e_127_216_n, e_127_217, e_127_220, e_127_222, e_127_224, e_127_225, e_127_225_n, e_127_226, e_127_229, e_127_231, e_127_233, e_127_234, e_127_234_n, e_127_235, e_127_238, e_127_240, e_127_242, e_127_243, e_127_244, XB_i, XB_n, va_rf_s, va_rf_n, mSI_K, mSI_I, mSI_J, mSI_P, mSI_N, mSJ_K, mSJ_I, mSJ_J, mSJ_P, mSJ_N, mSP_K, mSP_I, mSP_J, mSP_P, mSP_N, mNn, mNi, mNr, mN0, al20, al21, al22, al23, al25, true_or, or_true, and_self, if_true, if_false, mCat_n, mCat_i, mCat_r, mCat_l, mCat_0, Nat.reduceAdd, Nat.reduceLeDiff, Nat.reduceLT, true_and, and_true, Nat.zero_le, bI_01, bI_0, i10, tf0, iI_add, iI_sub, iI_mul, iI_neg, iI_add1, iI_sub1, iI_m1, nca, nc1, ncm1, iI_clJ, iI_cl0, iI_clN, Int.toNat_natCast, mU_n, mU_s, p_min, p_max, p_abs, ni_2, ni_3, ni_4, ni_7, ni_8, ni_9, ni_12, ni_24, ni_97, ni_100, ni_122, ni_200, ni_256, ni_4096, ni_5000, ni_9999, iI_lt, iI_le, iI_eq, iz_eq, iz_lt, iz_le, iz_gt, iz_ge, iy_eq, iy_lt, iy_le, iI_ltN, iI_leN, iI_eqN, if_pos, if_neg, hM.k, hM.r1, hM.a1, hM.r2, hM.a2, hM.r3, hM.a3, hM.r4, hM.a4, hM.r5, hM.a5, hM.r6, hM.a6]
  refine lm_ftl hM hp hc hl hx hy h0 _ 0 _ rfl (by omega) ?_ ⟨by (simp (disch := omega) only [mSI_I, mSI_J, mSI_P, mSJ_I, mSJ_J, mSJ_P, mSP_I, mSP_J, mSP_P, mU_n, mU_s] <;> first | done | rfl | assumption), by (simp (disch := omega) only [mSI_I, mSI_J, mSI_P, mSJ_I, mSJ_J, mSJ_P, mSP_I, mSP_J, mSP_P, mU_n, mU_s] <;> first | done | rfl | assumption), by (simp (disch := omega) only [mSI_I, mSI_J, mSI_P, mSJ_I, mSJ_J, mSJ_P, mSP_I, mSP_J, mSP_P, mU_n, mU_s] <;> first | done | rfl | assumption), by (simp (disch := omega) only [mSI_I, mSI_J, mSI_P, mSJ_I, mSJ_J, mSJ_P, mSP_I, mSP_J, mSP_P, mU_n, mU_s] <;> first | done | rfl | assumption), by (simp (disch := omega) only [mSI_I, mSI_J, mSI_P, mSJ_I, mSJ_J, mSJ_P, mSP_I, mSP_J, mSP_P, mU_n, mU_s] <;> first | done | rfl | assumption), by (simp (disch := omega) only [mSI_I, mSI_J, mSI_P, mSJ_I, mSJ_J, mSJ_P, mSP_I, mSP_J, mSP_P, mU_n, mU_s] <;> first | done | rfl | assumption)⟩ (fun j hj => by omega) hQ
  exact (((((Mf.rf.sI (Or.inl ⟨⟨by omega, by omega⟩, rfl⟩)).sI (Or.inl ⟨⟨by omega, by omega⟩, rfl⟩)).sI (Or.inl ⟨⟨by omega, by omega⟩, rfl⟩)).sI (Or.inl ⟨⟨by omega, by omega⟩, rfl⟩)).sJ (Or.inl ⟨⟨by omega, by omega⟩, rfl⟩)).sI (Or.inl ⟨⟨by omega, by omega⟩, rfl⟩)
/-- where the features are shifted -/
def shfS (m : Nat) : Nat → Nat → Prop := fun b j => ∃ f, f < 24 ∧ ftS m f b j
theorem lm_shift {T0 : mT} {g : Int32} {len : Nat} (hM0 : ModK T0 m) (ok : esOk Fs) (hn : R32 n) (hl : Fs.length < 24) (hno : ∀ j, j < Fs.length → (fA Fs j).1.1 ≠ n) : ∀ (q : Nat) (T : mT), q ≤ Fs.length → Mf (shfS m) T0 T → (∀ j, j < q → FtM T m j (fA Fs j)) → (∀ j, q < j → j ≤ Fs.length → FtM T m j (fA Fs (j - 1))) → (∀ j, q ≤ j → j < Fs.length → n < (fA Fs j).1.1) →
    (∀ T2, (∀ j, j < plN Fs n → FtM T2 m j (fA Fs j)) → (∀ j, plN Fs n < j → j ≤ Fs.length → FtM T2 m j (fA Fs (j - 1))) → Mf (shfS m) T0 T2 → XW 127 182 [some (.ref (m)), some (.int (iI (n))), some (.int (iI (k))), some (.int (iI (s))), some (.int (iI (l))), some (.long (w)), none, some (.int (g)), some (.int (iI ((len : Nat) : Int))), some (.int (iI ((plN Fs n : Nat) : Int))), none] [] T2 Q) → XW 127 148 [some (.ref (m)), some (.int (iI (n))), some (.int (iI (k))), some (.int (iI (s))), some (.int (iI (l))), some (.long (w)), none, some (.int (g)), some (.int (iI ((len : Nat) : Int))), some (.int (iI ((q : Nat) : Int))), none] [] T Q := by
  obtain ⟨p1, p2⟩ := plN_sp Fs n
  have p3 := plN_le Fs n
  intro q
  induction q with
  | zero =>
    intro T hq hT h1 h2 h3 hQ
    have e : plN Fs n = 0 := by
      rcases Nat.eq_zero_or_pos (plN Fs n) with z | z
      · exact z
      · have a1 := p1 0 z
        have a2 := h3 0 (by omega) (by omega)
        omega
    rw [e] at hQ
    have e0 : iI ((0 : Nat) : Int) = 0 := rfl
    rw [e0] at hQ ⊢
    rw [e_127_148]
    simp (maxSteps := 4000000) (disch := first | (simp (disch := omega) only [XB_i, XB_n, va_rf_s, va_rf_n, mSI_K, mSI_I, mSI_J, mSI_P, mSI_N, mSJ_K, mSJ_I, mSJ_J, mSJ_P, mSJ_N, mSP_K, mSP_I, mSP_J, mSP_P, mSP_N, mNn, mNi, mNr, mN0, al20, al21, al22, al23, al25, true_or, or_true, and_self, if_true, if_false, mCat_n, mCat_i, mCat_r, mCat_l, mCat_0, Nat.reduceAdd, Nat.reduceLeDiff, Nat.reduceLT, true_and, and_true, Nat.zero_le, bI_01, mInB_J, mInB_Z, mInB_N]; done) | omega | (unfold R32 at *; omega)) only [e_127_150, XB_i, XB_n, va_rf_s, va_rf_n, mSI_K, mSI_I, mSI_J, mSI_P, mSI_N, mSJ_K, mSJ_I, mSJ_J, mSJ_P, mSJ_N, mSP_K, mSP_I, mSP_J, mSP_P, mSP_N, mNn, mNi, mNr, mN0, al20, al21, al22, al23, al25, true_or, or_true, and_self, if_true, if_false, mCat_n, mCat_i, mCat_r, mCat_l, mCat_0, Nat.reduceAdd, Nat.reduceLeDiff, Nat.reduceLT, true_and, and_true, Nat.zero_le, bI_01, bI_0, i10, tf0, iI_add, iI_sub, iI_mul, iI_neg, iI_add1, iI_sub1, iI_m1, nca, nc1, ncm1, iI_clJ, iI_cl0, iI_clN, Int.toNat_natCast, mU_n, mU_s, p_min, p_max, p_abs, ni_2, ni_3, ni_4, ni_7, ni_8, ni_9, ni_12, ni_24, ni_97, ni_100, ni_122, ni_200, ni_256, ni_4096, ni_5000, ni_9999, iI_lt, iI_le, iI_eq, iz_eq, iz_lt, iz_le, iz_gt, iz_ge, iy_eq, iy_lt, iy_le, iI_ltN, iI_leN, iI_eqN, if_pos, if_neg]
    exact hQ T (fun j hj => by omega) h2 hT
  | succ q ih =>
    intro T hq hT h1 h2 h3 hQ
    have hM := hM0.mf hT
    have hF := h1 q (by omega)
    have a1 := hF.1
    have bn := (ok.1 q (by omega)).n
    have hne := hno q (by omega)
    rw [e_127_148]
    by_cases z : n < (fA Fs q).1.1
    · simp (maxSteps := 4000000) (disch := first | (simp (disch := omega) only [XB_i, XB_n, va_rf_s, va_rf_n, mSI_K, mSI_I, mSI_J, mSI_P, mSI_N, mSJ_K, mSJ_I, mSJ_J, mSJ_P, mSJ_N, mSP_K, mSP_I, mSP_J, mSP_P, mSP_N, mNn, mNi, mNr, mN0, al20, al21, al22, al23, al25, true_or, or_true, and_self, if_true, if_false, mCat_n, mCat_i, mCat_r, mCat_l, mCat_0, Nat.reduceAdd, Nat.reduceLeDiff, Nat.reduceLT, true_and, and_true, Nat.zero_le, bI_01, mInB_J, mInB_Z, mInB_N, hM.k, hM.r1, hM.a1, a1]; done) | omega | (unfold R32 at *; omega)) only [e_127_150, e_127_153, e_127_153_n, e_127_154, e_127_157, e_127_159, e_127_160, e_127_161, e_127_162, e_127_163, e_127_166, e_127_166_n, e_127_167, e_127_169, e_127_170, e_127_171, Nat.add_sub_cancel, XB_i, XB_n, va_rf_s, va_rf_n, mSI_K, mSI_I, mSI_J, mSI_P, mSI_N, mSJ_K, mSJ_I, mSJ_J, mSJ_P, mSJ_N, mSP_K, mSP_I, mSP_J, mSP_P, mSP_N, mNn, mNi, mNr, mN0, al20, al21, al22, al23, al25, true_or, or_true, and_self, if_true, if_false, mCat_n, mCat_i, mCat_r, mCat_l, mCat_0, Nat.reduceAdd, Nat.reduceLeDiff, Nat.reduceLT, true_and, and_true, Nat.zero_le, bI_01, bI_0, i10, tf0, iI_add, iI_sub, iI_mul, iI_neg, iI_add1, iI_sub1, iI_m1, nca, nc1, ncm1, iI_clJ, iI_cl0, iI_clN, Int.toNat_natCast, mU_n, mU_s, p_min, p_max, p_abs, ni_2, ni_3, ni_4, ni_7, ni_8, ni_9, ni_12, ni_24, ni_97, ni_100, ni_122, ni_200, ni_256, ni_4096, ni_5000, ni_9999, iI_lt, iI_le, iI_eq, iz_eq, iz_lt, iz_le, iz_gt, iz_ge, iy_eq, iy_lt, iy_le, iI_ltN, iI_leN, iI_eqN, if_pos, if_neg, hM.k, hM.r1, hM.a1, a1]
      refine c_127_173 (by simp only [XB_i, XB_n, va_rf_s, va_rf_n, mSI_K, mSI_I, mSI_J, mSI_P, mSI_N, mSJ_K, mSJ_I, mSJ_J, mSJ_P, mSJ_N, mSP_K, mSP_I, mSP_J, mSP_P, mSP_N, mNn, mNi, mNr, mN0, al20, al21, al22, al23, al25, true_or, or_true, and_self, if_true, if_false, mCat_n, mCat_i, mCat_r, mCat_l, mCat_0, Nat.reduceAdd, Nat.reduceLeDiff, Nat.reduceLT, true_and, and_true, Nat.zero_le, bI_01]) (by rw [hM.k]) (m_copyF (f := q) (g := q + 1) hM hF (by omega) (by omega) (by omega) (fun T2 g2 f2 => ?_))
      simp (maxSteps := 4000000) (disch := first | (simp (disch := omega) only [XB_i, XB_n, va_rf_s, va_rf_n, mSI_K, mSI_I, mSI_J, mSI_P, mSI_N, mSJ_K, mSJ_I, mSJ_J, mSJ_P, mSJ_N, mSP_K, mSP_I, mSP_J, mSP_P, mSP_N, mNn, mNi, mNr, mN0, al20, al21, al22, al23, al25, true_or, or_true, and_self, if_true, if_false, mCat_n, mCat_i, mCat_r, mCat_l, mCat_0, Nat.reduceAdd, Nat.reduceLeDiff, Nat.reduceLT, true_and, and_true, Nat.zero_le, bI_01, mInB_J, mInB_Z, mInB_N]; done) | omega | (unfold R32 at *; omega)) only [e_127_176, e_127_179, Nat.add_sub_cancel, XB_i, XB_n, va_rf_s, va_rf_n, mSI_K, mSI_I, mSI_J, mSI_P, mSI_N, mSJ_K, mSJ_I, mSJ_J, mSJ_P, mSJ_N, mSP_K, mSP_I, mSP_J, mSP_P, mSP_N, mNn, mNi, mNr, mN0, al20, al21, al22, al23, al25, true_or, or_true, and_self, if_true, if_false, mCat_n, mCat_i, mCat_r, mCat_l, mCat_0, Nat.reduceAdd, Nat.reduceLeDiff, Nat.reduceLT, true_and, and_true, Nat.zero_le, bI_01, bI_0, i10, tf0, iI_add, iI_sub, iI_mul, iI_neg, iI_add1, iI_sub1, iI_m1, nca, nc1, ncm1, iI_clJ, iI_cl0, iI_clN, Int.toNat_natCast, mU_n, mU_s, p_min, p_max, p_abs, ni_2, ni_3, ni_4, ni_7, ni_8, ni_9, ni_12, ni_24, ni_97, ni_100, ni_122, ni_200, ni_256, ni_4096, ni_5000, ni_9999, iI_lt, iI_le, iI_eq, iz_eq, iz_lt, iz_le, iz_gt, iz_ge, iy_eq, iy_lt, iy_le, iI_ltN, iI_leN, iI_eqN, if_pos, if_neg]
      refine ih T2 (by omega) (hT.tr (f2.mono (fun b j y => ⟨q + 1, by omega, y⟩))) (fun j hj => (h1 j (by omega)).mf f2 (fun b i y => ftS_ne (by omega) y)) (fun j hj hj2 => ?_) (fun j hj hj2 => ?_) hQ
      · by_cases e : j = q + 1
        · rw [e, Nat.add_sub_cancel]; exact g2
        · exact (h2 j (by omega) hj2).mf f2 (fun b i y => ftS_ne (by omega) y)
      · rcases Nat.eq_or_lt_of_le hj with y | y
        · rw [← y]; exact z
        · exact h3 j y hj2
    · have e : plN Fs n = q + 1 := by
        rcases Nat.lt_trichotomy (plN Fs n) (q + 1) with y | y | y
        · have b1 := p2 (by omega)
          by_cases e : plN Fs n = q
          · rw [e] at b1; omega
          · have := ok.2 (plN Fs n) q (by omega) (by omega)
            omega
        · exact y
        · have b1 := p1 (q + 1) y
          have b2 := h3 (q + 1) (by omega) (by omega)
          omega
      rw [e] at hQ
      simp (maxSteps := 4000000) (disch := first | (simp (disch := omega) only [XB_i, XB_n, va_rf_s, va_rf_n, mSI_K, mSI_I, mSI_J, mSI_P, mSI_N, mSJ_K, mSJ_I, mSJ_J, mSJ_P, mSJ_N, mSP_K, mSP_I, mSP_J, mSP_P, mSP_N, mNn, mNi, mNr, mN0, al20, al21, al22, al23, al25, true_or, or_true, and_self, if_true, if_false, mCat_n, mCat_i, mCat_r, mCat_l, mCat_0, Nat.reduceAdd, Nat.reduceLeDiff, Nat.reduceLT, true_and, and_true, Nat.zero_le, bI_01, mInB_J, mInB_Z, mInB_N, hM.k, hM.r1, hM.a1, a1]; done) | omega | (unfold R32 at *; omega)) only [e_127_150, e_127_153, e_127_153_n, e_127_154, e_127_157, e_127_159, e_127_160, e_127_161, e_127_162, e_127_163, Nat.add_sub_cancel, XB_i, XB_n, va_rf_s, va_rf_n, mSI_K, mSI_I, mSI_J, mSI_P, mSI_N, mSJ_K, mSJ_I, mSJ_J, mSJ_P, mSJ_N, mSP_K, mSP_I, mSP_J, mSP_P, mSP_N, mNn, mNi, mNr, mN0, al20, al21, al22, al23, al25, true_or, or_true, and_self, if_true, if_false, mCat_n, mCat_i, mCat_r, mCat_l, mCat_0, Nat.reduceAdd, Nat.reduceLeDiff, Nat.reduceLT, true_and, and_true, Nat.zero_le, bI_01, bI_0, i10, tf0, iI_add, iI_sub, iI_mul, iI_neg, iI_add1, iI_sub1, iI_m1, nca, nc1, ncm1, iI_clJ, iI_cl0, iI_clN, Int.toNat_natCast, mU_n, mU_s, p_min, p_max, p_abs, ni_2, ni_3, ni_4, ni_7, ni_8, ni_9, ni_12, ni_24, ni_97, ni_100, ni_122, ni_200, ni_256, ni_4096, ni_5000, ni_9999, iI_lt, iI_le, iI_eq, iz_eq, iz_lt, iz_le, iz_gt, iz_ge, iy_eq, iy_lt, iy_le, iI_ltN, iI_leN, iI_eqN, if_pos, if_neg, hM.k, hM.r1, hM.a1, a1]
      exact hQ T h1 h2 hT
theorem shf_sl {b j : Nat} (h : shfS m b j) : slS m 0 b j := by
  obtain ⟨f, hf, h⟩ := h
  exact ftS_sl (s := 0) hf (by rw [Nat.mul_zero, Nat.zero_add]; exact h)
def feS (m : Nat) : Nat → Nat → Prop := fun b j => slS m 0 b j ∨ (b = m ∧ (j = 12 ∨ j = 13))
/-- thrown -/
noncomputable def tFe (Fs : List Ft) (F : Ft) : Nat := if sFe F then (if putB Fs F then 0 else 2) else 1
theorem m_feat_end {T0 : mT} {F : Ft} {l7 : Option Value} (hF : F = ((n, k, s, l), w, cs)) (hM0 : ModK T0 m) (hN : NxR T0 m cs) (hS0 : SlR T0 m 0 Fs) (ok : esOk Fs) (hn : R32 n) (hQ : ∀ T2 (v : Int32), (sFe F = true → putB Fs F = true → v = iI ((putL Fs F).length : Int)) → SlR T2 m 0 (if sFe F then putL Fs F else Fs) → NxR T2 m [] → T2.2.1 m 13 = iI (tFe Fs F : Int) → Mf (feS m) T0 T2 → Q (.inl (some (.int v))) T2) (hl7 : l7 = some (.int (bI (sFe F)))) : XW 127 71 [some (.ref (m)), some (.int (iI (n))), some (.int (iI (k))), some (.int (iI (s))), some (.int (iI (l))), some (.long (w)), none, l7, none, none, none] [] T0 Q := by
  subst hl7
  obtain ⟨c1, c2, c3, c4⟩ := id hN
  obtain ⟨d1, d2, d3⟩ := id hS0
  have hM := hM0
  have f1 : Mf (fun b j => b = m ∧ j = 12) T0 (mSI T0 m 12 0) := Mf.rf.sI ⟨rfl, rfl⟩
  have hS1 : SlR (mSI T0 m 12 0) m 0 Fs := hS0.mf f1 (by rintro b j (q | ⟨q, _⟩ | ⟨q, _⟩) z; omega; have := q.1; omega; have := q.1; omega)
  have pf := fun Q => @m_find (mSI T0 m 12 0) Q m 0 Fs n (hM0.mf f1) hS1 (by omega) ok hn
  rw [fiZ_eq ok, show iI ((0 : Nat) : Int) = 0 from rfl] at pf
  have i0 : mInB 0 3 = true := mInB_Z (by omega) (by omega)
  have p3 := plN_le Fs n
  have nFe : ∀ t : Int32, Mf (feS m) T0 (mSI (mSI T0 m 12 0) m 13 t) := fun t => (Mf.rf.sI (Or.inr ⟨rfl, Or.inl rfl⟩)).sI (Or.inr ⟨rfl, Or.inr rfl⟩)
  have fp : ∀ t : Int32, Mf (fun b j => b = m ∧ (j = 12 ∨ j = 13)) T0 (mSI (mSI T0 m 12 0) m 13 t) := fun t => (Mf.rf.sI ⟨rfl, Or.inl rfl⟩).sI ⟨rfl, Or.inr rfl⟩
  have hS2 : ∀ t : Int32, SlR (mSI (mSI T0 m 12 0) m 13 t) m 0 Fs := fun t => hS0.mf (fp t) (by rintro b j (q | ⟨q, _⟩ | ⟨q, _⟩) z; omega; have := q.1; omega; have := q.1; omega)
  have nil : ∀ T2 : mT, T2.2.1 m 12 = 0 → NxR T2 m [] := fun T2 h => ⟨h, by simp, fun j hj => by simp at hj, fun j hj => by simp at hj⟩
  cases qs : sFe F with
  | false =>
    have ht : tFe Fs F = 1 := by unfold tFe; rw [qs]; rfl
    rw [ht, qs] at hQ
    rw [if_neg (by decide)] at hQ
    cases hi : itB Fs (plN Fs n) n with
    | false =>
      rw [hi, if_neg (by decide)] at pf
      simp (maxSteps := 4000000) (disch := first | (simp (disch := omega) only [XB_i, XB_n, va_rf_s, va_rf_n, mSI_K, mSI_I, mSI_J, mSI_P, mSI_N, mSJ_K, mSJ_I, mSJ_J, mSJ_P, mSJ_N, mSP_K, mSP_I, mSP_J, mSP_P, mSP_N, mNn, mNi, mNr, mN0, al20, al21, al22, al23, al25, true_or, or_true, and_self, if_true, if_false, mCat_n, mCat_i, mCat_r, mCat_l, mCat_0, Nat.reduceAdd, Nat.reduceLeDiff, Nat.reduceLT, true_and, and_true, Nat.zero_le, bI_01, mInB_J, mInB_Z, mInB_N, hM.k, hM.r0, hM.a0, c1, pf, bI_f]; done) | omega | (unfold R32 at *; omega)) only [e_127_71, e_127_71_n, e_127_72, e_127_75, e_127_77, e_127_77_n, e_127_78, e_127_79, e_127_82, e_127_82_n, e_127_83, e_127_84, e_127_88, e_127_90, e_127_90_n, e_127_91, e_127_93, e_127_96, e_127_97, e_127_100, e_127_102, e_127_103, e_127_106, e_127_106_n, e_127_107, e_127_110, e_127_111, e_127_112, e_127_114, e_127_117, e_127_118, e_127_121, e_127_122, e_127_125, e_127_125_n, e_127_126, e_127_129, e_127_132, e_127_133, d_127_85, XB_i, XB_n, va_rf_s, va_rf_n, mSI_K, mSI_I, mSI_J, mSI_P, mSI_N, mSJ_K, mSJ_I, mSJ_J, mSJ_P, mSJ_N, mSP_K, mSP_I, mSP_J, mSP_P, mSP_N, mNn, mNi, mNr, mN0, al20, al21, al22, al23, al25, true_or, or_true, and_self, if_true, if_false, mCat_n, mCat_i, mCat_r, mCat_l, mCat_0, Nat.reduceAdd, Nat.reduceLeDiff, Nat.reduceLT, true_and, and_true, Nat.zero_le, bI_01, bI_0, i10, tf0, iI_add, iI_sub, iI_mul, iI_neg, iI_add1, iI_sub1, iI_m1, nca, nc1, ncm1, iI_clJ, iI_cl0, iI_clN, Int.toNat_natCast, mU_n, mU_s, p_min, p_max, p_abs, ni_2, ni_3, ni_4, ni_7, ni_8, ni_9, ni_12, ni_24, ni_97, ni_100, ni_122, ni_200, ni_256, ni_4096, ni_5000, ni_9999, iI_lt, iI_le, iI_eq, iz_eq, iz_lt, iz_le, iz_gt, iz_ge, iy_eq, iy_lt, iy_le, iI_ltN, iI_leN, iI_eqN, if_pos, if_neg, hM.k, hM.r0, hM.a0, c1, pf, bI_f]
      exact hQ _ _ (fun h => absurd h (by decide)) (hS2 1) (nil _ (by (simp (disch := omega) only [mSI_I, mSI_J, mSI_P, mSJ_I, mSJ_J, mSJ_P, mSP_I, mSP_J, mSP_P, mU_n, mU_s] <;> first | done | rfl | assumption))) (by show _ = (1 : Int32); (simp (disch := omega) only [mSI_I, mSI_J, mSI_P, mSJ_I, mSJ_J, mSJ_P, mSP_I, mSP_J, mSP_P, mU_n, mU_s] <;> first | done | rfl | assumption)) (nFe 1)
    | true =>
      rw [hi, if_pos rfl] at pf
      simp (maxSteps := 4000000) (disch := first | (simp (disch := omega) only [XB_i, XB_n, va_rf_s, va_rf_n, mSI_K, mSI_I, mSI_J, mSI_P, mSI_N, mSJ_K, mSJ_I, mSJ_J, mSJ_P, mSJ_N, mSP_K, mSP_I, mSP_J, mSP_P, mSP_N, mNn, mNi, mNr, mN0, al20, al21, al22, al23, al25, true_or, or_true, and_self, if_true, if_false, mCat_n, mCat_i, mCat_r, mCat_l, mCat_0, Nat.reduceAdd, Nat.reduceLeDiff, Nat.reduceLT, true_and, and_true, Nat.zero_le, bI_01, mInB_J, mInB_Z, mInB_N, hM.k, hM.r0, hM.a0, c1, pf, bI_f]; done) | omega | (unfold R32 at *; omega)) only [e_127_71, e_127_71_n, e_127_72, e_127_75, e_127_77, e_127_77_n, e_127_78, e_127_79, e_127_82, e_127_82_n, e_127_83, e_127_84, e_127_88, e_127_90, e_127_90_n, e_127_91, e_127_93, e_127_96, e_127_97, e_127_100, e_127_102, e_127_103, e_127_106, e_127_106_n, e_127_107, e_127_110, e_127_111, e_127_112, e_127_114, e_127_117, e_127_118, e_127_121, e_127_122, e_127_125, e_127_125_n, e_127_126, e_127_129, e_127_132, e_127_133, d_127_85, XB_i, XB_n, va_rf_s, va_rf_n, mSI_K, mSI_I, mSI_J, mSI_P, mSI_N, mSJ_K, mSJ_I, mSJ_J, mSJ_P, mSJ_N, mSP_K, mSP_I, mSP_J, mSP_P, mSP_N, mNn, mNi, mNr, mN0, al20, al21, al22, al23, al25, true_or, or_true, and_self, if_true, if_false, mCat_n, mCat_i, mCat_r, mCat_l, mCat_0, Nat.reduceAdd, Nat.reduceLeDiff, Nat.reduceLT, true_and, and_true, Nat.zero_le, bI_01, bI_0, i10, tf0, iI_add, iI_sub, iI_mul, iI_neg, iI_add1, iI_sub1, iI_m1, nca, nc1, ncm1, iI_clJ, iI_cl0, iI_clN, Int.toNat_natCast, mU_n, mU_s, p_min, p_max, p_abs, ni_2, ni_3, ni_4, ni_7, ni_8, ni_9, ni_12, ni_24, ni_97, ni_100, ni_122, ni_200, ni_256, ni_4096, ni_5000, ni_9999, iI_lt, iI_le, iI_eq, iz_eq, iz_lt, iz_le, iz_gt, iz_ge, iy_eq, iy_lt, iy_le, iI_ltN, iI_leN, iI_eqN, if_pos, if_neg, hM.k, hM.r0, hM.a0, c1, pf, bI_f]
      exact hQ _ _ (fun h => absurd h (by decide)) (hS2 1) (nil _ (by (simp (disch := omega) only [mSI_I, mSI_J, mSI_P, mSJ_I, mSJ_J, mSJ_P, mSP_I, mSP_J, mSP_P, mU_n, mU_s] <;> first | done | rfl | assumption))) (by show _ = (1 : Int32); (simp (disch := omega) only [mSI_I, mSI_J, mSI_P, mSJ_I, mSJ_J, mSJ_P, mSP_I, mSP_J, mSP_P, mU_n, mU_s] <;> first | done | rfl | assumption)) (nFe 1)
  | true =>
    have eP : putB Fs F = (itB Fs (plN Fs n) n || decide (Fs.length < 24)) := by rw [hF]; rfl
    have eL : putL Fs F = if itB Fs (plN Fs n) n then Fs.set (plN Fs n) F else if Fs.length < 24 then insL Fs (plN Fs n) F else Fs := by rw [hF]; rfl
    have x3 : ∀ t : Int32, ∀ j, j < cs.length → (mSI (mSI T0 m 12 0) m 13 t).2.1 (m + 10) j = iI (cX cs j) := fun t j hj => by rw [← c3 j hj]; (simp (disch := omega) only [mSI_I, mSI_J, mSI_P, mSJ_I, mSJ_J, mSJ_P, mSP_I, mSP_J, mSP_P, mU_n, mU_s] <;> first | done | rfl | assumption)
    have x4 : ∀ t : Int32, ∀ j, j < cs.length → (mSI (mSI T0 m 12 0) m 13 t).2.1 (m + 11) j = iI (cY cs j) := fun t j hj => by rw [← c4 j hj]; (simp (disch := omega) only [mSI_I, mSI_J, mSI_P, mSJ_I, mSJ_J, mSJ_P, mSP_I, mSP_J, mSP_P, mU_n, mU_s] <;> first | done | rfl | assumption)
    cases hi : itB Fs (plN Fs n) n with
    | true =>
      have hp : plN Fs n < Fs.length := by unfold itB at hi; simp at hi; exact hi.1
      have ht : tFe Fs F = 0 := by unfold tFe; rw [qs, eP, hi]; rfl
      rw [hi] at eP eL
      rw [if_pos rfl] at eL
      rw [ht, qs, eP, eL] at hQ
      rw [if_pos rfl] at hQ
      rw [hi, if_pos rfl] at pf
      simp (maxSteps := 4000000) (disch := first | (simp (disch := omega) only [XB_i, XB_n, va_rf_s, va_rf_n, mSI_K, mSI_I, mSI_J, mSI_P, mSI_N, mSJ_K, mSJ_I, mSJ_J, mSJ_P, mSJ_N, mSP_K, mSP_I, mSP_J, mSP_P, mSP_N, mNn, mNi, mNr, mN0, al20, al21, al22, al23, al25, true_or, or_true, and_self, if_true, if_false, mCat_n, mCat_i, mCat_r, mCat_l, mCat_0, Nat.reduceAdd, Nat.reduceLeDiff, Nat.reduceLT, true_and, and_true, Nat.zero_le, bI_01, mInB_J, mInB_Z, mInB_N, hM.k, hM.r0, hM.a0, c1, pf, bI_t, nim1]; done) | omega | (unfold R32 at *; omega)) only [e_127_71, e_127_71_n, e_127_72, e_127_75, e_127_77, e_127_77_n, e_127_78, e_127_79, e_127_82, e_127_82_n, e_127_83, e_127_84, e_127_88, e_127_90, e_127_90_n, e_127_91, e_127_93, e_127_96, e_127_97, e_127_100, e_127_102, e_127_103, e_127_106, e_127_106_n, e_127_107, e_127_110, e_127_111, e_127_112, e_127_114, e_127_117, e_127_118, e_127_121, e_127_122, e_127_125, e_127_125_n, e_127_126, e_127_129, e_127_132, e_127_133, e_127_134, e_127_136, e_127_137, d_127_85, XB_i, XB_n, va_rf_s, va_rf_n, mSI_K, mSI_I, mSI_J, mSI_P, mSI_N, mSJ_K, mSJ_I, mSJ_J, mSJ_P, mSJ_N, mSP_K, mSP_I, mSP_J, mSP_P, mSP_N, mNn, mNi, mNr, mN0, al20, al21, al22, al23, al25, true_or, or_true, and_self, if_true, if_false, mCat_n, mCat_i, mCat_r, mCat_l, mCat_0, Nat.reduceAdd, Nat.reduceLeDiff, Nat.reduceLT, true_and, and_true, Nat.zero_le, bI_01, bI_0, i10, tf0, iI_add, iI_sub, iI_mul, iI_neg, iI_add1, iI_sub1, iI_m1, nca, nc1, ncm1, iI_clJ, iI_cl0, iI_clN, Int.toNat_natCast, mU_n, mU_s, p_min, p_max, p_abs, ni_2, ni_3, ni_4, ni_7, ni_8, ni_9, ni_12, ni_24, ni_97, ni_100, ni_122, ni_200, ni_256, ni_4096, ni_5000, ni_9999, iI_lt, iI_le, iI_eq, iz_eq, iz_lt, iz_le, iz_gt, iz_ge, iy_eq, iy_lt, iy_le, iI_ltN, iI_leN, iI_eqN, if_pos, if_neg, hM.k, hM.r0, hM.a0, c1, pf, bI_t, nim1]
      refine lm_ftail (p := plN Fs n) (c := Fs.length) (hM0.mf (fp 0)) (by omega) d2 c2 (x3 0) (x4 0) (hS2 0).1 (fun T2 h2 f2 => ?_)
      have nm : ∀ j, ¬ ftS m (plN Fs n) m j := by rintro j (⟨q, _⟩ | ⟨q, _⟩) <;> (have := q.1; omega)
      refine hQ T2 _ (fun _ _ => by rw [List.length_set]) ⟨?_, by rw [List.length_set]; exact d2, fun j hj => ?_⟩ (nil _ (by rw [f2.I (nm 12)]; (simp (disch := omega) only [mSI_I, mSI_J, mSI_P, mSJ_I, mSJ_J, mSJ_P, mSP_I, mSP_J, mSP_P, mU_n, mU_s] <;> first | done | rfl | assumption))) (by rw [f2.I (nm 13)]; show _ = (0 : Int32); (simp (disch := omega) only [mSI_I, mSI_J, mSI_P, mSJ_I, mSJ_J, mSJ_P, mSP_I, mSP_J, mSP_P, mU_n, mU_s] <;> first | done | rfl | assumption)) ((nFe 0).tr (f2.mono (fun b j q => Or.inl (shf_sl ⟨plN Fs n, by omega, q⟩))))
      · rw [List.length_set, f2.I (by rintro (⟨q, _⟩ | ⟨q, _⟩) <;> (have := q.1; omega))]; exact (hS2 0).1
      · rw [List.length_set] at hj
        rw [fA_set hp, Nat.mul_zero, Nat.zero_add]
        by_cases e : j = plN Fs n
        · rw [if_pos e, e, hF]; exact h2
        · rw [if_neg e]
          have := (hS2 0).2.2 j hj
          rw [Nat.mul_zero, Nat.zero_add] at this
          exact this.mf f2 (fun b i y => ftS_ne e y)
    | false =>
      rw [hi, if_neg (by decide)] at pf
      rw [hi] at eP eL
      rw [if_neg (by decide)] at eL
      by_cases q24 : Fs.length < 24
      · have ht : tFe Fs F = 0 := by unfold tFe; rw [qs, eP, decide_eq_true q24]; rfl
        rw [decide_eq_true q24] at eP
        rw [if_pos q24] at eL
        rw [ht, qs, eP, eL] at hQ
        rw [if_pos rfl] at hQ
        have hno : ∀ j, j < Fs.length → (fA Fs j).1.1 ≠ n := by
          intro j hj e
          obtain ⟨p1, p2⟩ := plN_sp Fs n
          unfold itB at hi
          rcases Nat.lt_trichotomy j (plN Fs n) with y | y | y
          · have := p1 j y; omega
          · rw [← y, decide_eq_true hj, decide_eq_true e] at hi; exact absurd hi (by decide)
          · have a1 := p2 (by omega)
            have a2 := ok.2 (plN Fs n) j y hj
            omega
        simp (maxSteps := 4000000) (disch := first | (simp (disch := omega) only [XB_i, XB_n, va_rf_s, va_rf_n, mSI_K, mSI_I, mSI_J, mSI_P, mSI_N, mSJ_K, mSJ_I, mSJ_J, mSJ_P, mSJ_N, mSP_K, mSP_I, mSP_J, mSP_P, mSP_N, mNn, mNi, mNr, mN0, al20, al21, al22, al23, al25, true_or, or_true, and_self, if_true, if_false, mCat_n, mCat_i, mCat_r, mCat_l, mCat_0, Nat.reduceAdd, Nat.reduceLeDiff, Nat.reduceLT, true_and, and_true, Nat.zero_le, bI_01, mInB_J, mInB_Z, mInB_N, hM.k, hM.r0, hM.a0, c1, pf, bI_t, nim1, i0, iI_cl0, d1]; done) | omega | (unfold R32 at *; omega)) only [e_127_71, e_127_71_n, e_127_72, e_127_75, e_127_77, e_127_77_n, e_127_78, e_127_79, e_127_82, e_127_82_n, e_127_83, e_127_84, e_127_88, e_127_90, e_127_90_n, e_127_91, e_127_93, e_127_96, e_127_97, e_127_100, e_127_102, e_127_103, e_127_106, e_127_106_n, e_127_107, e_127_110, e_127_111, e_127_112, e_127_114, e_127_117, e_127_118, e_127_121, e_127_122, e_127_125, e_127_125_n, e_127_126, e_127_129, e_127_132, e_127_133, e_127_134, e_127_136, e_127_137, e_127_140, e_127_140_n, e_127_141, e_127_144, e_127_145, e_127_146, d_127_85, XB_i, XB_n, va_rf_s, va_rf_n, mSI_K, mSI_I, mSI_J, mSI_P, mSI_N, mSJ_K, mSJ_I, mSJ_J, mSJ_P, mSJ_N, mSP_K, mSP_I, mSP_J, mSP_P, mSP_N, mNn, mNi, mNr, mN0, al20, al21, al22, al23, al25, true_or, or_true, and_self, if_true, if_false, mCat_n, mCat_i, mCat_r, mCat_l, mCat_0, Nat.reduceAdd, Nat.reduceLeDiff, Nat.reduceLT, true_and, and_true, Nat.zero_le, bI_01, bI_0, i10, tf0, iI_add, iI_sub, iI_mul, iI_neg, iI_add1, iI_sub1, iI_m1, nca, nc1, ncm1, iI_clJ, iI_cl0, iI_clN, Int.toNat_natCast, mU_n, mU_s, p_min, p_max, p_abs, ni_2, ni_3, ni_4, ni_7, ni_8, ni_9, ni_12, ni_24, ni_97, ni_100, ni_122, ni_200, ni_256, ni_4096, ni_5000, ni_9999, iI_lt, iI_le, iI_eq, iz_eq, iz_lt, iz_le, iz_gt, iz_ge, iy_eq, iy_lt, iy_le, iI_ltN, iI_leN, iI_eqN, if_pos, if_neg, hM.k, hM.r0, hM.a0, c1, pf, bI_t, nim1, i0, iI_cl0, d1]
        refine lm_shift (Fs := Fs) (hM0.mf (fp 0)) ok hn q24 hno Fs.length _ (Nat.le_refl _) Mf.rf (fun j hj => ?_) (fun j h1 h2 => by omega) (fun j h1 h2 => by omega) (fun T2 g1 g2 f2 => ?_)
        · have := (hS2 0).2.2 j hj
          rw [Nat.mul_zero, Nat.zero_add] at this
          exact this
        · have nm : ∀ b j, b < m + 2 ∨ m + 10 ≤ b → ¬ shfS m b j := by rintro b j hb ⟨f, hf, (⟨q, _⟩ | ⟨q, _⟩)⟩ <;> (have := q.1; have := q.2; omega)
          have hM2 := (hM0.mf (fp 0)).mf f2
          have e1 : T2.2.1 (m + 1) 0 = iI Fs.length := by rw [f2.I (nm _ _ (by omega))]; exact (hS2 0).1
          have hM := hM2
          simp (maxSteps := 4000000) (disch := first | (simp (disch := omega) only [XB_i, XB_n, va_rf_s, va_rf_n, mSI_K, mSI_I, mSI_J, mSI_P, mSI_N, mSJ_K, mSJ_I, mSJ_J, mSJ_P, mSJ_N, mSP_K, mSP_I, mSP_J, mSP_P, mSP_N, mNn, mNi, mNr, mN0, al20, al21, al22, al23, al25, true_or, or_true, and_self, if_true, if_false, mCat_n, mCat_i, mCat_r, mCat_l, mCat_0, Nat.reduceAdd, Nat.reduceLeDiff, Nat.reduceLT, true_and, and_true, Nat.zero_le, bI_01, mInB_J, mInB_Z, mInB_N, hM.k, hM.r0, hM.a0, i0, iI_cl0, e1]; done) | omega | (unfold R32 at *; omega)) only [e_127_182, e_127_182_n, e_127_183, e_127_186, e_127_187, e_127_188, e_127_189, e_127_190, e_127_191, XB_i, XB_n, va_rf_s, va_rf_n, mSI_K, mSI_I, mSI_J, mSI_P, mSI_N, mSJ_K, mSJ_I, mSJ_J, mSJ_P, mSJ_N, mSP_K, mSP_I, mSP_J, mSP_P, mSP_N, mNn, mNi, mNr, mN0, al20, al21, al22, al23, al25, true_or, or_true, and_self, if_true, if_false, mCat_n, mCat_i, mCat_r, mCat_l, mCat_0, Nat.reduceAdd, Nat.reduceLeDiff, Nat.reduceLT, true_and, and_true, Nat.zero_le, bI_01, bI_0, i10, tf0, iI_add, iI_sub, iI_mul, iI_neg, iI_add1, iI_sub1, iI_m1, nca, nc1, ncm1, iI_clJ, iI_cl0, iI_clN, Int.toNat_natCast, mU_n, mU_s, p_min, p_max, p_abs, ni_2, ni_3, ni_4, ni_7, ni_8, ni_9, ni_12, ni_24, ni_97, ni_100, ni_122, ni_200, ni_256, ni_4096, ni_5000, ni_9999, iI_lt, iI_le, iI_eq, iz_eq, iz_lt, iz_le, iz_gt, iz_ge, iy_eq, iy_lt, iy_le, iI_ltN, iI_leN, iI_eqN, if_pos, if_neg, hM.k, hM.r0, hM.a0, i0, iI_cl0, e1]
          have f3 : Mf (fun b j => b = m + 1 ∧ j = 0) T2 (mSI T2 (m + 1) 0 (iI ((Fs.length + 1 : Nat) : Int))) := Mf.rf.sI ⟨rfl, rfl⟩
          have k3 : ∀ f G, FtM T2 m f G → FtM (mSI T2 (m + 1) 0 (iI ((Fs.length + 1 : Nat) : Int))) m f G := fun f G h => h.mf f3 (by rintro b j (⟨q, _⟩ | ⟨q, _⟩) ⟨z, _⟩ <;> (have := q.1; omega))
          refine lm_ftail (p := plN Fs n) (c := Fs.length + 1) (hM2.mf f3) (by omega) (by omega) c2 (fun j hj => ?_) (fun j hj => ?_) (by (simp (disch := omega) only [mSI_I, mSI_J, mSI_P, mSJ_I, mSJ_J, mSJ_P, mSP_I, mSP_J, mSP_P, mU_n, mU_s] <;> first | done | rfl | assumption)) (fun T4 h4 f4 => ?_)
          · rw [f3.I (fun q => by omega), f2.I (nm _ _ (by omega))]; exact x3 0 j hj
          · rw [f3.I (fun q => by omega), f2.I (nm _ _ (by omega))]; exact x4 0 j hj
          · have nf : ∀ b j, b < m + 2 → ¬ ftS m (plN Fs n) b j := by rintro b j hb (⟨q, _⟩ | ⟨q, _⟩) <;> (have := q.1; omega)
            have hL : (insL Fs (plN Fs n) F).length = Fs.length + 1 := insL_len p3
            refine hQ T4 _ (fun _ _ => by rw [hL]) ⟨?_, by rw [hL]; omega, fun j hj => ?_⟩ (nil _ ?_) ?_ ((nFe 0).tr ((f2.mono (fun b j q => Or.inl (shf_sl q))).tr ((f3.mono (fun b j q => Or.inl (Or.inl q))).tr (f4.mono (fun b j q => Or.inl (shf_sl ⟨plN Fs n, by omega, q⟩))))))
            · rw [hL, f4.I (nf _ _ (by omega))]; (simp (disch := omega) only [mSI_I, mSI_J, mSI_P, mSJ_I, mSJ_J, mSJ_P, mSP_I, mSP_J, mSP_P, mU_n, mU_s] <;> first | done | rfl | assumption)
            · rw [hL] at hj
              rw [fA_ins p3, Nat.mul_zero, Nat.zero_add]
              by_cases e : j = plN Fs n
              · rw [if_neg (by omega), if_pos e, e, hF]; exact h4
              · by_cases e2 : j < plN Fs n
                · rw [if_pos e2]
                  exact (k3 _ _ (g1 j e2)).mf f4 (fun b i y => ftS_ne e y)
                · rw [if_neg e2, if_neg e]
                  exact (k3 _ _ (g2 j (by omega) (by omega))).mf f4 (fun b i y => ftS_ne e y)
            · rw [f4.I (nf _ _ (by omega)), f3.I (fun q => by omega), f2.I (nm _ _ (by omega))]; (simp (disch := omega) only [mSI_I, mSI_J, mSI_P, mSJ_I, mSJ_J, mSJ_P, mSP_I, mSP_J, mSP_P, mU_n, mU_s] <;> first | done | rfl | assumption)
            · rw [f4.I (nf _ _ (by omega)), f3.I (fun q => by omega), f2.I (nm _ _ (by omega))]; show _ = (0 : Int32); (simp (disch := omega) only [mSI_I, mSI_J, mSI_P, mSJ_I, mSJ_J, mSJ_P, mSP_I, mSP_J, mSP_P, mU_n, mU_s] <;> first | done | rfl | assumption)
      · have e24 : Fs.length = 24 := by omega
        have ht : tFe Fs F = 2 := by unfold tFe; rw [qs, eP, decide_eq_false q24]; rfl
        rw [decide_eq_false q24] at eP
        rw [if_neg q24] at eL
        rw [ht, qs, eP, eL] at hQ
        rw [if_pos rfl] at hQ
        simp (maxSteps := 4000000) (disch := first | (simp (disch := omega) only [XB_i, XB_n, va_rf_s, va_rf_n, mSI_K, mSI_I, mSI_J, mSI_P, mSI_N, mSJ_K, mSJ_I, mSJ_J, mSJ_P, mSJ_N, mSP_K, mSP_I, mSP_J, mSP_P, mSP_N, mNn, mNi, mNr, mN0, al20, al21, al22, al23, al25, true_or, or_true, and_self, if_true, if_false, mCat_n, mCat_i, mCat_r, mCat_l, mCat_0, Nat.reduceAdd, Nat.reduceLeDiff, Nat.reduceLT, true_and, and_true, Nat.zero_le, bI_01, mInB_J, mInB_Z, mInB_N, hM.k, hM.r0, hM.a0, c1, pf, bI_t, nim1, i0, iI_cl0, d1]; done) | omega | (unfold R32 at *; omega)) only [e_127_71, e_127_71_n, e_127_72, e_127_75, e_127_77, e_127_77_n, e_127_78, e_127_79, e_127_82, e_127_82_n, e_127_83, e_127_84, e_127_88, e_127_90, e_127_90_n, e_127_91, e_127_93, e_127_96, e_127_97, e_127_100, e_127_102, e_127_103, e_127_106, e_127_106_n, e_127_107, e_127_110, e_127_111, e_127_112, e_127_114, e_127_117, e_127_118, e_127_121, e_127_122, e_127_125, e_127_125_n, e_127_126, e_127_129, e_127_132, e_127_133, d_127_85, XB_i, XB_n, va_rf_s, va_rf_n, mSI_K, mSI_I, mSI_J, mSI_P, mSI_N, mSJ_K, mSJ_I, mSJ_J, mSJ_P, mSJ_N, mSP_K, mSP_I, mSP_J, mSP_P, mSP_N, mNn, mNi, mNr, mN0, al20, al21, al22, al23, al25, true_or, or_true, and_self, if_true, if_false, mCat_n, mCat_i, mCat_r, mCat_l, mCat_0, Nat.reduceAdd, Nat.reduceLeDiff, Nat.reduceLT, true_and, and_true, Nat.zero_le, bI_01, bI_0, i10, tf0, iI_add, iI_sub, iI_mul, iI_neg, iI_add1, iI_sub1, iI_m1, nca, nc1, ncm1, iI_clJ, iI_cl0, iI_clN, Int.toNat_natCast, mU_n, mU_s, p_min, p_max, p_abs, ni_2, ni_3, ni_4, ni_7, ni_8, ni_9, ni_12, ni_24, ni_97, ni_100, ni_122, ni_200, ni_256, ni_4096, ni_5000, ni_9999, iI_lt, iI_le, iI_eq, iz_eq, iz_lt, iz_le, iz_gt, iz_ge, iy_eq, iy_lt, iy_le, iI_ltN, iI_leN, iI_eqN, if_pos, if_neg, hM.k, hM.r0, hM.a0, c1, pf, bI_t, nim1, i0, iI_cl0, d1]
        exact hQ _ _ (fun _ h => absurd h (by decide)) (hS2 _) (nil _ (by (simp (disch := omega) only [mSI_I, mSI_J, mSI_P, mSJ_I, mSJ_J, mSJ_P, mSP_I, mSP_J, mSP_P, mU_n, mU_s] <;> first | done | rfl | assumption))) (by (simp (disch := omega) only [mSI_I, mSI_J, mSI_P, mSJ_I, mSJ_J, mSJ_P, mSP_I, mSP_J, mSP_P, mU_n, mU_s] <;> first | done | rfl | assumption)) (nFe _)
end MU
