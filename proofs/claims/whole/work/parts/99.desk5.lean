/-! AtlasDesk: difference, apply, lookUp, near -/
theorem nmR_t (W : Nat) : ∀ m, nmR W m true = true ↔ ∀ i, i < m → isL (wb W i) = true
  | 0 => by simp [nmR]
  | m + 1 => by
    unfold nmR
    have ih := nmR_t W m
    by_cases q : isL (wb W m) = true
    · rw [if_pos q, ih]
      exact ⟨fun h i hi => by rcases Nat.lt_succ_iff_lt_or_eq.mp hi with z | z; exact h i z; rw [z]; exact q, fun h i hi => h i (by omega)⟩
    · rw [if_neg q]
      simp only [Bool.true_or, if_true]
      exact ⟨fun h => absurd h (by decide), fun h => absurd (h m (by omega)) q⟩
theorem wb_top {W m : Nat} (h : W < 2 ^ (8 * (m + 1))) : wb W m = W / 2 ^ (8 * m) := by
  unfold wb
  apply Nat.mod_eq_of_lt
  apply Nat.div_lt_of_lt_mul
  rw [show 8 * (m + 1) = 8 * m + 8 by omega, Nat.pow_add] at h
  exact h
theorem nmR_f (W : Nat) : ∀ m, W < 2 ^ (8 * m) → (nmR W m false = true ↔ ∀ i, i < ltF W m → isL (wb W i) = true)
  | 0, _ => by simp [nmR, ltF]
  | m + 1, h => by
    have wt := wb_top h
    unfold nmR ltF
    by_cases q : W / 2 ^ (8 * m) = 0
    · rw [if_pos q]
      have w0 : wb W m = 0 := by rw [wt, q]
      have hlt : W < 2 ^ (8 * m) := by rcases Nat.div_eq_zero_iff.mp q with e | e; exact absurd e (Nat.ne_of_gt (Nat.two_pow_pos _)); exact e
      rw [w0]
      simp only [isL]
      exact nmR_f W m hlt
    · rw [if_neg q]
      have w0 : wb W m ≠ 0 := by rw [wt]; exact q
      by_cases z : isL (wb W m) = true
      · rw [if_pos z, nmR_t]
        exact ⟨fun h i hi => by rcases Nat.lt_succ_iff_lt_or_eq.mp hi with y | y; exact h i y; rw [y]; exact z, fun h i hi => h i (by omega)⟩
      · rw [if_neg z, if_pos (by simp [w0])]
        exact ⟨fun h => absurd h (by decide), fun h => absurd (h m (by omega)) z⟩
/-- a name is all letters -/
theorem nmB_iff {W : Nat} (h : W < 18446744073709551616) : nmB W = true ↔ ∀ i, i < ltN W → isL (wb W i) = true := nmR_f W 8 (by simpa using h)
theorem bkN_63 {W : Nat} (h : W < 18446744073709551616) (hn : nmB W = true) : bkN W < 9223372036854775808 := by
  have hl := ltN_lt h
  have h8 := ltN_le W
  have hi := (nmB_iff h).mp hn
  unfold bkN
  generalize ltN W = n at *
  cases n with
  | zero => have : W = 0 := by simpa using hl
            subst this; simp
  | succ n =>
    have z := hi n (by omega)
    rw [wb_top hl] at z
    simp only [isL, decide_eq_true_eq] at z
    have hW : W < 123 * 2 ^ (8 * n) := (Nat.div_lt_iff_lt_mul (Nat.two_pow_pos _)).mp (by omega)
    calc W * 2 ^ (8 * (8 - (n + 1))) < 123 * 2 ^ (8 * n) * 2 ^ (8 * (8 - (n + 1))) := Nat.mul_lt_mul_of_pos_right hW (Nat.two_pow_pos _)
      _ = 123 * 2 ^ 56 := by rw [Nat.mul_assoc, ← Nat.pow_add]; congr 2; omega
      _ < 9223372036854775808 := by decide
def olk (pk : Option Pk) (W : Nat) (k : Int) : Int := match pk with
  | none => -1
  | some D => fnZ D.2.2.1 W k
def one (pk : Option Pk) (x y s k : Int) : Int := match pk with
  | none => -1
  | some D => neZ D.2.2.1 x y s k
theorem fnZ_b {Fs : List Ft} (ok : esOk Fs) (W : Nat) (k : Int) : fnZ Fs W k = -1 ∨ (1 ≤ fnZ Fs W k ∧ fnZ Fs W k ≤ 9999) := by
  unfold fnZ
  rcases fndP_spec (fnB Fs W k) Fs.length 0 with ⟨c, h1, h2, h3, h4, h5⟩ | ⟨h1, h2⟩
  · rw [h1]
    exact Or.inr (ok.1 c (by omega)).n
  · rw [h1]
    exact Or.inl rfl
theorem neZ_b {Fs : List Ft} (ok : esOk Fs) (x y s k : Int) : neZ Fs x y s k = -1 ∨ (1 ≤ neZ Fs x y s k ∧ neZ Fs x y s k ≤ 9999) := by
  unfold neZ
  rcases fndP_spec (frB Fs x y s k) Fs.length 0 with ⟨c, h1, h2, h3, h4, h5⟩ | ⟨h1, h2⟩
  · rw [h1]
    exact Or.inr (ok.1 c (by omega)).n
  · rw [h1]
    exact Or.inl rfl
theorem nim1 : (-1 : Int32) = iI (-1) := rfl
section DQ
variable {T : mT} {Q : mOut → mT → Prop} {x cl : Nat} {cs : List Pt} {Fs : List Ft} {kp : Nat → List Ft} {hb : List Nat} {rg : Option Rg} {pk : Option Pk} {df : Option (Pk × Pk)}
theorem dk_difference {n m : Int} (hz : KZ T) (hx : x + 857 ≤ T.2.2.2.2.1) (h : DeskR T x cs Fs kp cl hb rg pk df) (ok : StOk cs Fs kp cl hb rg pk df) (rn : R32 n) (rm : R32 m) (hQ1 : (edF Fs kp cl n = none ∨ edF Fs kp cl m = none) → ∀ T2, DeskR T2 x cs Fs kp cl hb rg pk df → Gr (iX x) T T2 → Q (.inr 2) T2) (hQ2 : ∀ Gs Hs, edF Fs kp cl n = some Gs → edF Fs kp cl m = some Hs → (rg = none ∨ ∃ R, rg = some R ∧ ((flP R Gs).1 = false ∨ (flP R Hs).1 = false)) → ∀ T2, DeskR T2 x cs Fs kp cl hb rg pk df → Gr (iX x) T T2 → Q (.inr 1) T2) (hQ3 : ∀ Gs Hs R, edF Fs kp cl n = some Gs → edF Fs kp cl m = some Hs → rg = some R → (flP R Gs).1 = true → (flP R Hs).1 = true → tsOk (flP R Gs).2 → tsOk (flP R Hs).2 → ∀ T2, DeskR T2 x cs Fs kp cl hb rg pk (some ((n, R, mtL R Gs, (flP R Gs).2), (m, R, mtL R Hs, (flP R Hs).2))) → Gr (iX x) T T2 → Q (.inl (some (.int (iI ((cmP (flP R Gs).2 (flP R Hs).2).length : Nat))))) T2) : XW 103 0 [some (.ref (x)), some (.int (iI (n))), some (.int (iI (m))), none, none, none] [] T Q := by
  have pe := fun Q => @p_edAt T Q x cl cs Fs kp hb rg pk df h ok.2.2.2.1 n rn
  have pf := fun Q => @p_edAt T Q x cl cs Fs kp hb rg pk df h ok.2.2.2.1 m rm
  have hD := h
  have bad1 : (edF Fs kp cl n = none ∨ edF Fs kp cl m = none) → Q (.inr 2) (mNw T 0 0 6) := fun q => hQ1 q _ (hD.th hz hx) (Gr.th Fr.rf hz)
  have hEF := edA_F h (n := n)
  have hEG := edA_F h (n := m)
  obtain ⟨p, q, d, e, hA, hX, hB⟩ := h
  obtain ⟨⟨x0, xt, xp, xk, xr, xh, xg, xp8, xq9, xd, xe⟩, c3, c7, c10, c13⟩ := id hX
  have hAb := hA.b
  rcases hEF with ⟨e1, e2⟩ | ⟨f, Gs, ad, e1, e2, hE, hf⟩
  · rw [e1] at pe
    rcases hEG with ⟨g1, g2⟩ | ⟨g, Hs, bd, g1, g2, hG, hg⟩
    · rw [g1] at pf
      simp (maxSteps := 4000000) (disch := first | (simp (disch := omega) only [XB_i, XB_n, va_rf_s, va_rf_n, mSI_K, mSI_I, mSI_J, mSI_P, mSI_N, mSJ_K, mSJ_I, mSJ_J, mSJ_P, mSJ_N, mSP_K, mSP_I, mSP_J, mSP_P, mSP_N, mNn, mNi, mNr, mN0, al20, al21, al22, al23, al25, true_or, or_true, and_self, if_true, if_false, mCat_n, mCat_i, mCat_r, mCat_l, mCat_0, Nat.reduceAdd, Nat.reduceLeDiff, Nat.reduceLT, true_and, and_true, Nat.zero_le, bI_01, mInB_J, mInB_Z, mInB_N, x0, pe, pf]; done) | omega | (unfold R32 at *; omega)) only [e_103_0, e_103_0_n, e_103_1, e_103_5, e_103_5_n, e_103_6, e_103_6_n, e_103_7, e_103_11, e_103_11_n, e_103_13, e_103_13_n, e_103_14, e_103_14_r, e_103_14_n, e_103_17, e_103_17_n, e_103_19, e_103_19_r, e_103_19_n, e_103_22, d_103_2, d_103_8, XB_i, XB_n, va_rf_s, va_rf_n, mSI_K, mSI_I, mSI_J, mSI_P, mSI_N, mSJ_K, mSJ_I, mSJ_J, mSJ_P, mSJ_N, mSP_K, mSP_I, mSP_J, mSP_P, mSP_N, mNn, mNi, mNr, mN0, al20, al21, al22, al23, al25, true_or, or_true, and_self, if_true, if_false, mCat_n, mCat_i, mCat_r, mCat_l, mCat_0, Nat.reduceAdd, Nat.reduceLeDiff, Nat.reduceLT, true_and, and_true, Nat.zero_le, bI_01, bI_0, i10, tf0, iI_add, iI_sub, iI_mul, iI_neg, iI_add1, iI_sub1, iI_m1, nca, nc1, ncm1, iI_clJ, iI_cl0, iI_clN, Int.toNat_natCast, mU_n, mU_s, p_min, p_max, p_abs, ni_2, ni_3, ni_4, ni_7, ni_8, ni_9, ni_12, ni_24, ni_97, ni_100, ni_122, ni_200, ni_256, ni_4096, ni_5000, ni_9999, iI_lt, iI_le, iI_eq, iz_eq, iz_lt, iz_le, iz_gt, iz_ge, iy_eq, iy_lt, iy_le, iI_ltN, iI_leN, iI_eqN, if_pos, if_neg, x0, pe, pf]
      exact bad1 (Or.inl e2)
    · rw [g1] at pf
      simp (maxSteps := 4000000) (disch := first | (simp (disch := omega) only [XB_i, XB_n, va_rf_s, va_rf_n, mSI_K, mSI_I, mSI_J, mSI_P, mSI_N, mSJ_K, mSJ_I, mSJ_J, mSJ_P, mSJ_N, mSP_K, mSP_I, mSP_J, mSP_P, mSP_N, mNn, mNi, mNr, mN0, al20, al21, al22, al23, al25, true_or, or_true, and_self, if_true, if_false, mCat_n, mCat_i, mCat_r, mCat_l, mCat_0, Nat.reduceAdd, Nat.reduceLeDiff, Nat.reduceLT, true_and, and_true, Nat.zero_le, bI_01, mInB_J, mInB_Z, mInB_N, x0, pe, pf]; done) | omega | (unfold R32 at *; omega)) only [e_103_0, e_103_0_n, e_103_1, e_103_5, e_103_5_n, e_103_6, e_103_6_n, e_103_7, e_103_11, e_103_11_n, e_103_13, e_103_13_n, e_103_14, e_103_14_r, e_103_14_n, e_103_17, e_103_17_n, e_103_19, e_103_19_r, e_103_19_n, e_103_22, d_103_2, d_103_8, XB_i, XB_n, va_rf_s, va_rf_n, mSI_K, mSI_I, mSI_J, mSI_P, mSI_N, mSJ_K, mSJ_I, mSJ_J, mSJ_P, mSJ_N, mSP_K, mSP_I, mSP_J, mSP_P, mSP_N, mNn, mNi, mNr, mN0, al20, al21, al22, al23, al25, true_or, or_true, and_self, if_true, if_false, mCat_n, mCat_i, mCat_r, mCat_l, mCat_0, Nat.reduceAdd, Nat.reduceLeDiff, Nat.reduceLT, true_and, and_true, Nat.zero_le, bI_01, bI_0, i10, tf0, iI_add, iI_sub, iI_mul, iI_neg, iI_add1, iI_sub1, iI_m1, nca, nc1, ncm1, iI_clJ, iI_cl0, iI_clN, Int.toNat_natCast, mU_n, mU_s, p_min, p_max, p_abs, ni_2, ni_3, ni_4, ni_7, ni_8, ni_9, ni_12, ni_24, ni_97, ni_100, ni_122, ni_200, ni_256, ni_4096, ni_5000, ni_9999, iI_lt, iI_le, iI_eq, iz_eq, iz_lt, iz_le, iz_gt, iz_ge, iy_eq, iy_lt, iy_le, iI_ltN, iI_leN, iI_eqN, if_pos, if_neg, x0, pe, pf]
      exact bad1 (Or.inl e2)
  · rw [e1] at pe
    rcases hEG with ⟨g1, g2⟩ | ⟨g, Hs, bd, g1, g2, hG, hg⟩
    · rw [g1] at pf
      simp (maxSteps := 4000000) (disch := first | (simp (disch := omega) only [XB_i, XB_n, va_rf_s, va_rf_n, mSI_K, mSI_I, mSI_J, mSI_P, mSI_N, mSJ_K, mSJ_I, mSJ_J, mSJ_P, mSJ_N, mSP_K, mSP_I, mSP_J, mSP_P, mSP_N, mNn, mNi, mNr, mN0, al20, al21, al22, al23, al25, true_or, or_true, and_self, if_true, if_false, mCat_n, mCat_i, mCat_r, mCat_l, mCat_0, Nat.reduceAdd, Nat.reduceLeDiff, Nat.reduceLT, true_and, and_true, Nat.zero_le, bI_01, mInB_J, mInB_Z, mInB_N, x0, pe, pf]; done) | omega | (unfold R32 at *; omega)) only [e_103_0, e_103_0_n, e_103_1, e_103_5, e_103_5_n, e_103_6, e_103_6_n, e_103_7, e_103_11, e_103_11_n, e_103_13, e_103_13_n, e_103_14, e_103_14_r, e_103_14_n, e_103_17, e_103_17_n, e_103_19, e_103_19_r, e_103_19_n, e_103_22, d_103_2, d_103_8, XB_i, XB_n, va_rf_s, va_rf_n, mSI_K, mSI_I, mSI_J, mSI_P, mSI_N, mSJ_K, mSJ_I, mSJ_J, mSJ_P, mSJ_N, mSP_K, mSP_I, mSP_J, mSP_P, mSP_N, mNn, mNi, mNr, mN0, al20, al21, al22, al23, al25, true_or, or_true, and_self, if_true, if_false, mCat_n, mCat_i, mCat_r, mCat_l, mCat_0, Nat.reduceAdd, Nat.reduceLeDiff, Nat.reduceLT, true_and, and_true, Nat.zero_le, bI_01, bI_0, i10, tf0, iI_add, iI_sub, iI_mul, iI_neg, iI_add1, iI_sub1, iI_m1, nca, nc1, ncm1, iI_clJ, iI_cl0, iI_clN, Int.toNat_natCast, mU_n, mU_s, p_min, p_max, p_abs, ni_2, ni_3, ni_4, ni_7, ni_8, ni_9, ni_12, ni_24, ni_97, ni_100, ni_122, ni_200, ni_256, ni_4096, ni_5000, ni_9999, iI_lt, iI_le, iI_eq, iz_eq, iz_lt, iz_le, iz_gt, iz_ge, iy_eq, iy_lt, iy_le, iI_ltN, iI_leN, iI_eqN, if_pos, if_neg, x0, pe, pf]
      exact bad1 (Or.inr g2)
    · rw [g1] at pf
      have esl := edF_ok ok e2
      have esm := edF_ok ok g2
      cases hrg : rg with
      | none =>
        rw [hrg] at c7
        have c7' : T.2.1 x 7 = 0 := c7
        simp (maxSteps := 4000000) (disch := first | (simp (disch := omega) only [XB_i, XB_n, va_rf_s, va_rf_n, mSI_K, mSI_I, mSI_J, mSI_P, mSI_N, mSJ_K, mSJ_I, mSJ_J, mSJ_P, mSJ_N, mSP_K, mSP_I, mSP_J, mSP_P, mSP_N, mNn, mNi, mNr, mN0, al20, al21, al22, al23, al25, true_or, or_true, and_self, if_true, if_false, mCat_n, mCat_i, mCat_r, mCat_l, mCat_0, Nat.reduceAdd, Nat.reduceLeDiff, Nat.reduceLT, true_and, and_true, Nat.zero_le, bI_01, mInB_J, mInB_Z, mInB_N, x0, pe, pf, c7']; done) | omega | (unfold R32 at *; omega)) only [e_103_0, e_103_0_n, e_103_1, e_103_5, e_103_5_n, e_103_6, e_103_6_n, e_103_7, e_103_11, e_103_11_n, e_103_13, e_103_13_n, e_103_14, e_103_14_r, e_103_14_n, e_103_17, e_103_17_n, e_103_19, e_103_19_r, e_103_19_n, e_103_32, e_103_32_n, e_103_33, e_103_36, e_103_39, e_103_39_n, e_103_40, e_103_43, e_103_43_n, e_103_44, e_103_47, e_103_50, e_103_50_n, e_103_51, e_103_52, e_103_52_n, e_103_53, e_103_59, e_103_62, e_103_62_n, e_103_63, e_103_66, e_103_66_n, e_103_67, e_103_70, e_103_73, e_103_73_n, e_103_75, e_103_76, e_103_76_n, e_103_77, e_103_83, e_103_86, d_103_2, d_103_8, XB_i, XB_n, va_rf_s, va_rf_n, mSI_K, mSI_I, mSI_J, mSI_P, mSI_N, mSJ_K, mSJ_I, mSJ_J, mSJ_P, mSJ_N, mSP_K, mSP_I, mSP_J, mSP_P, mSP_N, mNn, mNi, mNr, mN0, al20, al21, al22, al23, al25, true_or, or_true, and_self, if_true, if_false, mCat_n, mCat_i, mCat_r, mCat_l, mCat_0, Nat.reduceAdd, Nat.reduceLeDiff, Nat.reduceLT, true_and, and_true, Nat.zero_le, bI_01, bI_0, i10, tf0, iI_add, iI_sub, iI_mul, iI_neg, iI_add1, iI_sub1, iI_m1, nca, nc1, ncm1, iI_clJ, iI_cl0, iI_clN, Int.toNat_natCast, mU_n, mU_s, p_min, p_max, p_abs, ni_2, ni_3, ni_4, ni_7, ni_8, ni_9, ni_12, ni_24, ni_97, ni_100, ni_122, ni_200, ni_256, ni_4096, ni_5000, ni_9999, iI_lt, iI_le, iI_eq, iz_eq, iz_lt, iz_le, iz_gt, iz_ge, iy_eq, iy_lt, iy_le, iI_ltN, iI_leN, iI_eqN, if_pos, if_neg, x0, pe, pf, c7']
        exact hQ2 Gs Hs e2 g2 (Or.inl hrg) _ (hD.th hz hx) (Gr.th Fr.rf hz)
      | some R =>
        have c7' : T.2.1 x 7 = 1 := by rw [hrg] at c7; exact c7
        have bR := ok.2.2.2.2.2.1 R hrg
        have hR := hB.2.2.2.2.2.2.2.1.2 R hrg
        obtain ⟨hr, sh, bs, hM, hO⟩ := id hB.2.2.2.2.2.1
        obtain ⟨hdk, ⟨sk, As, hs⟩, ⟨sk2, Bs, hs2⟩⟩ := id hB.2.2.2.2.2.2.2.2.2.2.2
        have k1 := hr.1
        obtain ⟨d1, d2, d3⟩ := id hdk.1
        simp (maxSteps := 4000000) (disch := first | (simp (disch := omega) only [XB_i, XB_n, va_rf_s, va_rf_n, mSI_K, mSI_I, mSI_J, mSI_P, mSI_N, mSJ_K, mSJ_I, mSJ_J, mSJ_P, mSJ_N, mSP_K, mSP_I, mSP_J, mSP_P, mSP_N, mNn, mNi, mNr, mN0, al20, al21, al22, al23, al25, true_or, or_true, and_self, if_true, if_false, mCat_n, mCat_i, mCat_r, mCat_l, mCat_0, Nat.reduceAdd, Nat.reduceLeDiff, Nat.reduceLT, true_and, and_true, Nat.zero_le, bI_01, mInB_J, mInB_Z, mInB_N, x0, pe, pf, c7', xr, xe, xg, d1, d2]; done) | omega | (unfold R32 at *; omega)) only [e_103_0, e_103_0_n, e_103_1, e_103_5, e_103_5_n, e_103_6, e_103_6_n, e_103_7, e_103_11, e_103_11_n, e_103_13, e_103_13_n, e_103_14, e_103_14_r, e_103_14_n, e_103_17, e_103_17_n, e_103_19, e_103_19_r, e_103_19_n, e_103_32, e_103_32_n, e_103_33, e_103_36, e_103_39, e_103_39_n, e_103_40, e_103_43, e_103_43_n, e_103_44, e_103_47, e_103_50, e_103_50_n, e_103_51, e_103_52, e_103_52_n, e_103_53, d_103_2, d_103_8, XB_i, XB_n, va_rf_s, va_rf_n, mSI_K, mSI_I, mSI_J, mSI_P, mSI_N, mSJ_K, mSJ_I, mSJ_J, mSJ_P, mSJ_N, mSP_K, mSP_I, mSP_J, mSP_P, mSP_N, mNn, mNi, mNr, mN0, al20, al21, al22, al23, al25, true_or, or_true, and_self, if_true, if_false, mCat_n, mCat_i, mCat_r, mCat_l, mCat_0, Nat.reduceAdd, Nat.reduceLeDiff, Nat.reduceLT, true_and, and_true, Nat.zero_le, bI_01, bI_0, i10, tf0, iI_add, iI_sub, iI_mul, iI_neg, iI_add1, iI_sub1, iI_m1, nca, nc1, ncm1, iI_clJ, iI_cl0, iI_clN, Int.toNat_natCast, mU_n, mU_s, p_min, p_max, p_abs, ni_2, ni_3, ni_4, ni_7, ni_8, ni_9, ni_12, ni_24, ni_97, ni_100, ni_122, ni_200, ni_256, ni_4096, ni_5000, ni_9999, iI_lt, iI_le, iI_eq, iz_eq, iz_lt, iz_le, iz_gt, iz_ge, iy_eq, iy_lt, iy_le, iI_ltN, iI_leN, iI_eqN, if_pos, if_neg, x0, pe, pf, c7', xr, xe, xg, d1, d2]
        refine c_103_56 (by simp only [XB_i, XB_n, va_rf_s, va_rf_n, mSI_K, mSI_I, mSI_J, mSI_P, mSI_N, mSJ_K, mSJ_I, mSJ_J, mSJ_P, mSJ_N, mSP_K, mSP_I, mSP_J, mSP_P, mSP_N, mNn, mNi, mNr, mN0, al20, al21, al22, al23, al25, true_or, or_true, and_self, if_true, if_false, mCat_n, mCat_i, mCat_r, mCat_l, mCat_0, Nat.reduceAdd, Nat.reduceLeDiff, Nat.reduceLT, true_and, and_true, Nat.zero_le, bI_01]) (by rw [k1]) (ct_fill (p := e + 1) (ed := n) (by unfold apF; omega) hr hE esl.1 hR bR hM hO sk hs (fun T2 bs2 sh2 f2 hM2 hO2 hp2 tk2 => ?_))
        have hX2 := hX.fr f2 (by rintro (z | z | z) <;> (have := z.1; omega))
        have hr2 := hr.fr f2 (by rintro (z | z | z) <;> (have := z.1; omega))
        have f02 : Fr (iX x) T T2 := f2.mono (fun b hb => by rcases hb with z | z | z <;> exact ⟨by have := z.1; omega, by have := z.2; omega⟩)
        have hdk2 := hdk.fr f2 (by rintro (z | z | z) <;> (have := z.1; have := z.2; omega))
        have sk3 := sk2.fr f2 (by rintro (z | z | z) <;> (have := z.1; have := z.2; omega))
        have hs3 := hs2.fr f2 (fun b hb => by have := hb.1; have := hb.2; rintro (z | z | z) <;> (have := z.1; have := z.2; omega))
        have hB2 := hB.re (cs' := cs) (Fs' := Fs) (kp' := kp) (hb' := hb) (rg' := rg) (pk' := pk) (df' := df) f2 (by rintro (z | z | z) <;> (have := z.1; omega)) (Or.inl ⟨fun b hb q => by have := hb.1; have := hb.2; rcases q with q | q | q <;> (have := q.1; have := q.2; omega), rfl⟩) (Or.inl ⟨fun b hb q => by have := hb.1; have := hb.2; rcases q with q | q | q <;> (have := q.1; have := q.2; omega), rfl⟩) (Or.inl ⟨fun b hb q => by have := hb.1; have := hb.2; rcases q with q | q | q <;> (have := q.1; have := q.2; omega), rfl⟩) (Or.inl ⟨fun b hb q => by have := hb.1; have := hb.2; rcases q with q | q | q <;> (have := q.1; have := q.2; omega), rfl⟩) (Or.inr ⟨hr2, sh2, bs2, hM2, hO2⟩) (Or.inl ⟨fun b hb q => by have := hb.1; have := hb.2; rcases q with q | q | q <;> (have := q.1; have := q.2; omega), rfl⟩) (Or.inl ⟨fun b hb q => by have := hb.1; have := hb.2; rcases q with q | q | q <;> (have := q.1; have := q.2; omega), rfl⟩) (Or.inl ⟨fun b hb q => by have := hb.1; have := hb.2; rcases q with q | q | q <;> (have := q.1; have := q.2; omega), rfl⟩) (Or.inl ⟨fun b hb q => by have := hb.1; have := hb.2; rcases q with q | q | q <;> (have := q.1; have := q.2; omega), rfl⟩) (Or.inl ⟨fun b hb q => by have := hb.1; have := hb.2; rcases q with q | q | q <;> (have := q.1; have := q.2; omega), rfl⟩) (Or.inr ⟨hdk2, hp2.sp, ⟨sk3, Bs, hs3⟩⟩)
        have hD2 : DeskR T2 x cs Fs kp cl hb rg pk df := ⟨p, q, d, e, hA, hX2, hB2⟩
        have hG2 := hG.fr f2 (fun b hb => by have := hb.1; have := hb.2; rintro (z | z | z) <;> (have := z.1; have := z.2; omega))
        have hR2 := hR.fr f2 (by rintro (z | z | z) <;> (have := z.1; have := z.2; omega))
        obtain ⟨⟨x0, xt, xp, xk, xr, xh, xg, xp8, xq9, xd, xe⟩, c3, c7, c10, c13⟩ := id hX2
        cases qf : (flP R Gs).1 with
        | false =>
          simp (maxSteps := 4000000) (disch := first | (simp (disch := omega) only [XB_i, XB_n, va_rf_s, va_rf_n, mSI_K, mSI_I, mSI_J, mSI_P, mSI_N, mSJ_K, mSJ_I, mSJ_J, mSJ_P, mSJ_N, mSP_K, mSP_I, mSP_J, mSP_P, mSP_N, mNn, mNi, mNr, mN0, al20, al21, al22, al23, al25, true_or, or_true, and_self, if_true, if_false, mCat_n, mCat_i, mCat_r, mCat_l, mCat_0, Nat.reduceAdd, Nat.reduceLeDiff, Nat.reduceLT, true_and, and_true, Nat.zero_le, bI_01, mInB_J, mInB_Z, mInB_N, bI_f]; done) | omega | (unfold R32 at *; omega)) only [e_103_59, e_103_63, e_103_66, e_103_66_n, e_103_67, e_103_70, e_103_73, e_103_73_n, e_103_75, e_103_76, e_103_76_n, e_103_77, e_103_83, e_103_86, XB_i, XB_n, va_rf_s, va_rf_n, mSI_K, mSI_I, mSI_J, mSI_P, mSI_N, mSJ_K, mSJ_I, mSJ_J, mSJ_P, mSJ_N, mSP_K, mSP_I, mSP_J, mSP_P, mSP_N, mNn, mNi, mNr, mN0, al20, al21, al22, al23, al25, true_or, or_true, and_self, if_true, if_false, mCat_n, mCat_i, mCat_r, mCat_l, mCat_0, Nat.reduceAdd, Nat.reduceLeDiff, Nat.reduceLT, true_and, and_true, Nat.zero_le, bI_01, bI_0, i10, tf0, iI_add, iI_sub, iI_mul, iI_neg, iI_add1, iI_sub1, iI_m1, nca, nc1, ncm1, iI_clJ, iI_cl0, iI_clN, Int.toNat_natCast, mU_n, mU_s, p_min, p_max, p_abs, ni_2, ni_3, ni_4, ni_7, ni_8, ni_9, ni_12, ni_24, ni_97, ni_100, ni_122, ni_200, ni_256, ni_4096, ni_5000, ni_9999, iI_lt, iI_le, iI_eq, iz_eq, iz_lt, iz_le, iz_gt, iz_ge, iy_eq, iy_lt, iy_le, iI_ltN, iI_leN, iI_eqN, if_pos, if_neg, bI_f]
          exact hQ2 Gs Hs e2 g2 (Or.inr ⟨R, hrg, Or.inl qf⟩) _ (hD2.th (fun b hb => by rw [f02.1]; rw [f02.2.1] at hb; exact hz b hb) (by rw [f02.2.1]; exact hx)) (Gr.th f02 hz)
        | true =>
          have k1 := hr2.1
          obtain ⟨d1, d2, d3⟩ := id hdk2.1
          simp (maxSteps := 4000000) (disch := first | (simp (disch := omega) only [XB_i, XB_n, va_rf_s, va_rf_n, mSI_K, mSI_I, mSI_J, mSI_P, mSI_N, mSJ_K, mSJ_I, mSJ_J, mSJ_P, mSJ_N, mSP_K, mSP_I, mSP_J, mSP_P, mSP_N, mNn, mNi, mNr, mN0, al20, al21, al22, al23, al25, true_or, or_true, and_self, if_true, if_false, mCat_n, mCat_i, mCat_r, mCat_l, mCat_0, Nat.reduceAdd, Nat.reduceLeDiff, Nat.reduceLT, true_and, and_true, Nat.zero_le, bI_01, mInB_J, mInB_Z, mInB_N, bI_t, x0, xr, xe, xg, d1, d3]; done) | omega | (unfold R32 at *; omega)) only [e_103_59, e_103_62, e_103_62_n, e_103_63, e_103_66, e_103_66_n, e_103_67, e_103_70, e_103_73, e_103_73_n, e_103_75, e_103_76, e_103_76_n, e_103_77, XB_i, XB_n, va_rf_s, va_rf_n, mSI_K, mSI_I, mSI_J, mSI_P, mSI_N, mSJ_K, mSJ_I, mSJ_J, mSJ_P, mSJ_N, mSP_K, mSP_I, mSP_J, mSP_P, mSP_N, mNn, mNi, mNr, mN0, al20, al21, al22, al23, al25, true_or, or_true, and_self, if_true, if_false, mCat_n, mCat_i, mCat_r, mCat_l, mCat_0, Nat.reduceAdd, Nat.reduceLeDiff, Nat.reduceLT, true_and, and_true, Nat.zero_le, bI_01, bI_0, i10, tf0, iI_add, iI_sub, iI_mul, iI_neg, iI_add1, iI_sub1, iI_m1, nca, nc1, ncm1, iI_clJ, iI_cl0, iI_clN, Int.toNat_natCast, mU_n, mU_s, p_min, p_max, p_abs, ni_2, ni_3, ni_4, ni_7, ni_8, ni_9, ni_12, ni_24, ni_97, ni_100, ni_122, ni_200, ni_256, ni_4096, ni_5000, ni_9999, iI_lt, iI_le, iI_eq, iz_eq, iz_lt, iz_le, iz_gt, iz_ge, iy_eq, iy_lt, iy_le, iI_ltN, iI_leN, iI_eqN, if_pos, if_neg, bI_t, x0, xr, xe, xg, d1, d3]
          refine c_103_80 (by simp only [XB_i, XB_n, va_rf_s, va_rf_n, mSI_K, mSI_I, mSI_J, mSI_P, mSI_N, mSJ_K, mSJ_I, mSJ_J, mSJ_P, mSJ_N, mSP_K, mSP_I, mSP_J, mSP_P, mSP_N, mNn, mNi, mNr, mN0, al20, al21, al22, al23, al25, true_or, or_true, and_self, if_true, if_false, mCat_n, mCat_i, mCat_r, mCat_l, mCat_0, Nat.reduceAdd, Nat.reduceLeDiff, Nat.reduceLT, true_and, and_true, Nat.zero_le, bI_01]) (by rw [k1]) (ct_fill (p := e + 85) (ed := m) (by unfold apF; omega) hr2 hG2 esm.1 hR2 bR hM2 hO2 sk3 hs3 (fun T3 bs3 sh3 f3 hM3 hO3 hp3 tk3 => ?_))
          have hX3 := hX2.fr f3 (by rintro (z | z | z) <;> (have := z.1; omega))
          have hr3 := hr2.fr f3 (by rintro (z | z | z) <;> (have := z.1; omega))
          have f03 : Fr (iX x) T T3 := f02.tr (f3.mono (fun b hb => by rcases hb with z | z | z <;> exact ⟨by have := z.1; omega, by have := z.2; omega⟩))
          have hdk3 := hdk2.fr f3 (by rintro (z | z | z) <;> (have := z.1; have := z.2; omega))
          have hp23 := hp2.fr f3 (fun b hb => by have := hb.1; have := hb.2; rintro (z | z | z) <;> (have := z.1; have := z.2; omega))
          have hB3 := hB2.re (cs' := cs) (Fs' := Fs) (kp' := kp) (hb' := hb) (rg' := rg) (pk' := pk) (df' := df) f3 (by rintro (z | z | z) <;> (have := z.1; omega)) (Or.inl ⟨fun b hb q => by have := hb.1; have := hb.2; rcases q with q | q | q <;> (have := q.1; have := q.2; omega), rfl⟩) (Or.inl ⟨fun b hb q => by have := hb.1; have := hb.2; rcases q with q | q | q <;> (have := q.1; have := q.2; omega), rfl⟩) (Or.inl ⟨fun b hb q => by have := hb.1; have := hb.2; rcases q with q | q | q <;> (have := q.1; have := q.2; omega), rfl⟩) (Or.inl ⟨fun b hb q => by have := hb.1; have := hb.2; rcases q with q | q | q <;> (have := q.1; have := q.2; omega), rfl⟩) (Or.inr ⟨hr3, sh3, bs3, hM3, hO3⟩) (Or.inl ⟨fun b hb q => by have := hb.1; have := hb.2; rcases q with q | q | q <;> (have := q.1; have := q.2; omega), rfl⟩) (Or.inl ⟨fun b hb q => by have := hb.1; have := hb.2; rcases q with q | q | q <;> (have := q.1; have := q.2; omega), rfl⟩) (Or.inl ⟨fun b hb q => by have := hb.1; have := hb.2; rcases q with q | q | q <;> (have := q.1; have := q.2; omega), rfl⟩) (Or.inl ⟨fun b hb q => by have := hb.1; have := hb.2; rcases q with q | q | q <;> (have := q.1; have := q.2; omega), rfl⟩) (Or.inl ⟨fun b hb q => by have := hb.1; have := hb.2; rcases q with q | q | q <;> (have := q.1; have := q.2; omega), rfl⟩) (Or.inr ⟨hdk3, hp23.sp, hp3.sp⟩)
          have hD3 : DeskR T3 x cs Fs kp cl hb rg pk df := ⟨p, q, d, e, hA, hX3, hB3⟩
          obtain ⟨⟨x0, xt, xp, xk, xr, xh, xg, xp8, xq9, xd, xe⟩, c3, c7, c10, c13⟩ := id hX3
          cases qg : (flP R Hs).1 with
          | false =>
            simp (maxSteps := 4000000) (disch := first | (simp (disch := omega) only [XB_i, XB_n, va_rf_s, va_rf_n, mSI_K, mSI_I, mSI_J, mSI_P, mSI_N, mSJ_K, mSJ_I, mSJ_J, mSJ_P, mSJ_N, mSP_K, mSP_I, mSP_J, mSP_P, mSP_N, mNn, mNi, mNr, mN0, al20, al21, al22, al23, al25, true_or, or_true, and_self, if_true, if_false, mCat_n, mCat_i, mCat_r, mCat_l, mCat_0, Nat.reduceAdd, Nat.reduceLeDiff, Nat.reduceLT, true_and, and_true, Nat.zero_le, bI_01, mInB_J, mInB_Z, mInB_N, bI_f]; done) | omega | (unfold R32 at *; omega)) only [e_103_83, e_103_86, XB_i, XB_n, va_rf_s, va_rf_n, mSI_K, mSI_I, mSI_J, mSI_P, mSI_N, mSJ_K, mSJ_I, mSJ_J, mSJ_P, mSJ_N, mSP_K, mSP_I, mSP_J, mSP_P, mSP_N, mNn, mNi, mNr, mN0, al20, al21, al22, al23, al25, true_or, or_true, and_self, if_true, if_false, mCat_n, mCat_i, mCat_r, mCat_l, mCat_0, Nat.reduceAdd, Nat.reduceLeDiff, Nat.reduceLT, true_and, and_true, Nat.zero_le, bI_01, bI_0, i10, tf0, iI_add, iI_sub, iI_mul, iI_neg, iI_add1, iI_sub1, iI_m1, nca, nc1, ncm1, iI_clJ, iI_cl0, iI_clN, Int.toNat_natCast, mU_n, mU_s, p_min, p_max, p_abs, ni_2, ni_3, ni_4, ni_7, ni_8, ni_9, ni_12, ni_24, ni_97, ni_100, ni_122, ni_200, ni_256, ni_4096, ni_5000, ni_9999, iI_lt, iI_le, iI_eq, iz_eq, iz_lt, iz_le, iz_gt, iz_ge, iy_eq, iy_lt, iy_le, iI_ltN, iI_leN, iI_eqN, if_pos, if_neg, bI_f]
            exact hQ2 Gs Hs e2 g2 (Or.inr ⟨R, hrg, Or.inr qg⟩) _ (hD3.th (fun b hb => by rw [f03.1]; rw [f03.2.1] at hb; exact hz b hb) (by rw [f03.2.1]; exact hx)) (Gr.th f03 hz)
          | true =>
            obtain ⟨hKa, ⟨sf, hTa⟩, hNa, _⟩ := id hp23
            obtain ⟨hKb, ⟨sg, hTb⟩, hNb, _⟩ := id hp3
            have d1 := hdk3.1.1
            simp (maxSteps := 4000000) (disch := first | (simp (disch := omega) only [XB_i, XB_n, va_rf_s, va_rf_n, mSI_K, mSI_I, mSI_J, mSI_P, mSI_N, mSJ_K, mSJ_I, mSJ_J, mSJ_P, mSJ_N, mSP_K, mSP_I, mSP_J, mSP_P, mSP_N, mNn, mNi, mNr, mN0, al20, al21, al22, al23, al25, true_or, or_true, and_self, if_true, if_false, mCat_n, mCat_i, mCat_r, mCat_l, mCat_0, Nat.reduceAdd, Nat.reduceLeDiff, Nat.reduceLT, true_and, and_true, Nat.zero_le, bI_01, mInB_J, mInB_Z, mInB_N, bI_t, x0, xe]; done) | omega | (unfold R32 at *; omega)) only [e_103_83, e_103_96, e_103_96_n, e_103_97, XB_i, XB_n, va_rf_s, va_rf_n, mSI_K, mSI_I, mSI_J, mSI_P, mSI_N, mSJ_K, mSJ_I, mSJ_J, mSJ_P, mSJ_N, mSP_K, mSP_I, mSP_J, mSP_P, mSP_N, mNn, mNi, mNr, mN0, al20, al21, al22, al23, al25, true_or, or_true, and_self, if_true, if_false, mCat_n, mCat_i, mCat_r, mCat_l, mCat_0, Nat.reduceAdd, Nat.reduceLeDiff, Nat.reduceLT, true_and, and_true, Nat.zero_le, bI_01, bI_0, i10, tf0, iI_add, iI_sub, iI_mul, iI_neg, iI_add1, iI_sub1, iI_m1, nca, nc1, ncm1, iI_clJ, iI_cl0, iI_clN, Int.toNat_natCast, mU_n, mU_s, p_min, p_max, p_abs, ni_2, ni_3, ni_4, ni_7, ni_8, ni_9, ni_12, ni_24, ni_97, ni_100, ni_122, ni_200, ni_256, ni_4096, ni_5000, ni_9999, iI_lt, iI_le, iI_eq, iz_eq, iz_lt, iz_le, iz_gt, iz_ge, iy_eq, iy_lt, iy_le, iI_ltN, iI_leN, iI_eqN, if_pos, if_neg, bI_t, x0, xe]
            refine c_103_100 (by simp only [XB_i, XB_n, va_rf_s, va_rf_n, mSI_K, mSI_I, mSI_J, mSI_P, mSI_N, mSJ_K, mSJ_I, mSJ_J, mSJ_P, mSJ_N, mSP_K, mSP_I, mSP_J, mSP_P, mSP_N, mNn, mNi, mNr, mN0, al20, al21, al22, al23, al25, true_or, or_true, and_self, if_true, if_false, mCat_n, mCat_i, mCat_r, mCat_l, mCat_0, Nat.reduceAdd, Nat.reduceLeDiff, Nat.reduceLT, true_and, and_true, Nat.zero_le, bI_01]) (by rw [d1]) (ct_cmp hdk3 hKa hTa hNa tk2 hKb hTb hNb tk3 (fun T4 h4 f4 => ?_))
            have hX4 := hX3.fr f4 (by rintro (z | z); omega; have := z.1; omega)
            have hpa := hp23.fr f4 (fun b hb => by have := hb.1; have := hb.2; rintro (z | z); omega; have := z.1; omega)
            have hpb := hp3.fr f4 (fun b hb => by have := hb.1; have := hb.2; rintro (z | z); omega; have := z.1; omega)
            have f4' : Fr (iv e (e + 174)) T3 T4 := f4.mono (fun b hb => by rcases hb with z | z; exact ⟨by omega, by omega⟩; exact ⟨by have := z.1; omega, by have := z.2; omega⟩)
            have hB4 := hB3.re (cs' := cs) (Fs' := Fs) (kp' := kp) (hb' := hb) (rg' := rg) (pk' := pk) (df' := df) f4' (fun z => by have := z.1; omega) (Or.inl ⟨fun b hb q => by have := hb.1; have := hb.2; have := q.1; have := q.2; omega, rfl⟩) (Or.inl ⟨fun b hb q => by have := hb.1; have := hb.2; have := q.1; have := q.2; omega, rfl⟩) (Or.inl ⟨fun b hb q => by have := hb.1; have := hb.2; have := q.1; have := q.2; omega, rfl⟩) (Or.inl ⟨fun b hb q => by have := hb.1; have := hb.2; have := q.1; have := q.2; omega, rfl⟩) (Or.inl ⟨fun b hb q => by have := hb.1; have := hb.2; have := q.1; have := q.2; omega, rfl⟩) (Or.inl ⟨fun b hb q => by have := hb.1; have := hb.2; have := q.1; have := q.2; omega, rfl⟩) (Or.inl ⟨fun b hb q => by have := hb.1; have := hb.2; have := q.1; have := q.2; omega, rfl⟩) (Or.inl ⟨fun b hb q => by have := hb.1; have := hb.2; have := q.1; have := q.2; omega, rfl⟩) (Or.inl ⟨fun b hb q => by have := hb.1; have := hb.2; have := q.1; have := q.2; omega, rfl⟩) (Or.inl ⟨fun b hb q => by have := hb.1; have := hb.2; have := q.1; have := q.2; omega, rfl⟩) (Or.inr ⟨h4.1, hpa.sp, hpb.sp⟩)
            obtain ⟨⟨x0, xt, xp, xk, xr, xh, xg, xp8, xq9, xd, xe⟩, c3, c7, c10, c13⟩ := id hX4
            have u1 := h4.1.1.1
            have u2 := h4.2.1
            simp (maxSteps := 4000000) (disch := first | (simp (disch := omega) only [XB_i, XB_n, va_rf_s, va_rf_n, mSI_K, mSI_I, mSI_J, mSI_P, mSI_N, mSJ_K, mSJ_I, mSJ_J, mSJ_P, mSJ_N, mSP_K, mSP_I, mSP_J, mSP_P, mSP_N, mNn, mNi, mNr, mN0, al20, al21, al22, al23, al25, true_or, or_true, and_self, if_true, if_false, mCat_n, mCat_i, mCat_r, mCat_l, mCat_0, Nat.reduceAdd, Nat.reduceLeDiff, Nat.reduceLT, true_and, and_true, Nat.zero_le, bI_01, mInB_J, mInB_Z, mInB_N, x0, xd, xe, u1, u2]; done) | omega | (unfold R32 at *; omega)) only [e_103_103, e_103_103_n, e_103_104, e_103_107, e_103_107_n, e_103_109, e_103_109_n, e_103_110, e_103_110_n, e_103_111, e_103_114, e_103_117, e_103_117_n, e_103_118, e_103_118_n, e_103_120, e_103_123, e_103_123_n, e_103_124, e_103_125, e_103_128, e_103_128_n, e_103_129, e_103_132, e_103_135, XB_i, XB_n, va_rf_s, va_rf_n, mSI_K, mSI_I, mSI_J, mSI_P, mSI_N, mSJ_K, mSJ_I, mSJ_J, mSJ_P, mSJ_N, mSP_K, mSP_I, mSP_J, mSP_P, mSP_N, mNn, mNi, mNr, mN0, al20, al21, al22, al23, al25, true_or, or_true, and_self, if_true, if_false, mCat_n, mCat_i, mCat_r, mCat_l, mCat_0, Nat.reduceAdd, Nat.reduceLeDiff, Nat.reduceLT, true_and, and_true, Nat.zero_le, bI_01, bI_0, i10, tf0, iI_add, iI_sub, iI_mul, iI_neg, iI_add1, iI_sub1, iI_m1, nca, nc1, ncm1, iI_clJ, iI_cl0, iI_clN, Int.toNat_natCast, mU_n, mU_s, p_min, p_max, p_abs, ni_2, ni_3, ni_4, ni_7, ni_8, ni_9, ni_12, ni_24, ni_97, ni_100, ni_122, ni_200, ni_256, ni_4096, ni_5000, ni_9999, iI_lt, iI_le, iI_eq, iz_eq, iz_lt, iz_le, iz_gt, iz_ge, iy_eq, iy_lt, iy_le, iI_ltN, iI_leN, iI_eqN, if_pos, if_neg, x0, xd, xe, u1, u2]
            have f5 : Fr (fun b => b = x) T4 (mSI (mSP (mSP T4 x 11 (some e)) x 12 (some d)) x 13 1) := Fr.iI (Fr.iP (Fr.sP rfl) rfl) rfl
            have nb : ∀ b, b = x → iX x b := fun b hb => ⟨by omega, by omega⟩
            have nb2 : ∀ b, iv e (e + 174) b → iX x b := fun b hb => ⟨by have := hb.1; omega, by have := hb.2; omega⟩
            obtain ⟨i1, i2, i3, i4, i5, i6, i7, i8, i9, i10, i11, i12⟩ := hB4.fr hA f5 (fun b hb z => by have := hb.1; omega)
            refine hQ3 Gs Hs R e2 g2 hrg qf qg tk2 tk3 _ ⟨p, q, e, d, ?_, ⟨⟨x0, ?_, ?_, ?_, ?_, ?_, ?_, ?_, ?_, ?_, ?_⟩, ?_, ?_, ?_, ?_⟩, ⟨i1, i2, i3, i4, i5, i6, i7, i8, i9, i10, ⟨i12, fun A B e2 => ?_⟩, i11.1⟩⟩ (f03.tr ((f4'.mono nb2).tr (f5.mono nb))).gr
            · exact ⟨hA.1, by have := hA.2; omega⟩
            · rw [← xt]; (simp (disch := omega) only [mSI_I, mSI_J, mSI_P, mSJ_I, mSJ_J, mSJ_P, mSP_I, mSP_J, mSP_P, mU_n, mU_s] <;> first | done | rfl | assumption)
            · rw [← xp]; (simp (disch := omega) only [mSI_I, mSI_J, mSI_P, mSJ_I, mSJ_J, mSJ_P, mSP_I, mSP_J, mSP_P, mU_n, mU_s] <;> first | done | rfl | assumption)
            · rw [← xk]; (simp (disch := omega) only [mSI_I, mSI_J, mSI_P, mSJ_I, mSJ_J, mSJ_P, mSP_I, mSP_J, mSP_P, mU_n, mU_s] <;> first | done | rfl | assumption)
            · rw [← xr]; (simp (disch := omega) only [mSI_I, mSI_J, mSI_P, mSJ_I, mSJ_J, mSJ_P, mSP_I, mSP_J, mSP_P, mU_n, mU_s] <;> first | done | rfl | assumption)
            · rw [← xh]; (simp (disch := omega) only [mSI_I, mSI_J, mSI_P, mSJ_I, mSJ_J, mSJ_P, mSP_I, mSP_J, mSP_P, mU_n, mU_s] <;> first | done | rfl | assumption)
            · rw [← xg]; (simp (disch := omega) only [mSI_I, mSI_J, mSI_P, mSJ_I, mSJ_J, mSJ_P, mSP_I, mSP_J, mSP_P, mU_n, mU_s] <;> first | done | rfl | assumption)
            · rw [← xp8]; (simp (disch := omega) only [mSI_I, mSI_J, mSI_P, mSJ_I, mSJ_J, mSJ_P, mSP_I, mSP_J, mSP_P, mU_n, mU_s] <;> first | done | rfl | assumption)
            · rw [← xq9]; (simp (disch := omega) only [mSI_I, mSI_J, mSI_P, mSJ_I, mSJ_J, mSJ_P, mSP_I, mSP_J, mSP_P, mU_n, mU_s] <;> first | done | rfl | assumption)
            · (simp (disch := omega) only [mSI_I, mSI_J, mSI_P, mSJ_I, mSJ_J, mSJ_P, mSP_I, mSP_J, mSP_P, mU_n, mU_s] <;> first | done | rfl | assumption)
            · (simp (disch := omega) only [mSI_I, mSI_J, mSI_P, mSJ_I, mSJ_J, mSJ_P, mSP_I, mSP_J, mSP_P, mU_n, mU_s] <;> first | done | rfl | assumption)
            · rw [← c3]; (simp (disch := omega) only [mSI_I, mSI_J, mSI_P, mSJ_I, mSJ_J, mSJ_P, mSP_I, mSP_J, mSP_P, mU_n, mU_s] <;> first | done | rfl | assumption)
            · rw [← c7]; (simp (disch := omega) only [mSI_I, mSI_J, mSI_P, mSJ_I, mSJ_J, mSJ_P, mSP_I, mSP_J, mSP_P, mU_n, mU_s] <;> first | done | rfl | assumption)
            · rw [← c10]; (simp (disch := omega) only [mSI_I, mSI_J, mSI_P, mSJ_I, mSJ_J, mSJ_P, mSP_I, mSP_J, mSP_P, mU_n, mU_s] <;> first | done | rfl | assumption)
            · show _ = (1 : Int32); (simp (disch := omega) only [mSI_I, mSI_J, mSI_P, mSJ_I, mSJ_J, mSJ_P, mSP_I, mSP_J, mSP_P, mU_n, mU_s] <;> first | done | rfl | assumption)
            · cases e2
              exact ⟨hpa.fr f5 (fun b hb z => by have := hb.1; omega), hpb.fr f5 (fun b hb z => by have := hb.1; omega), h4.fr f5 (fun b hb z => by rcases hb with y | y; omega; have := y.1; omega)⟩
/-- does the difference fit the pack -/
def apP (pk : Option Pk) (df : Option (Pk × Pk)) : Prop := ∃ D A B, pk = some D ∧ df = some (A, B) ∧ lkP D.2.1 A.2.1 D.2.2.2 A.2.2.2
theorem dk_apply (hz : KZ T) (hx : x + 857 ≤ T.2.2.2.2.1) (h : DeskR T x cs Fs kp cl hb rg pk df) (ok : StOk cs Fs kp cl hb rg pk df) (hQ1 : ¬ apP pk df → ∀ T2, DeskR T2 x cs Fs kp cl hb rg pk df → Gr (iX x) T T2 → Q (.inr 1) T2) (hQ2 : ∀ A B, apP pk df → df = some (A, B) → ∀ T2, DeskR T2 x cs Fs kp cl hb rg (some B) df → Gr (iX x) T T2 → Q (.inl (some (.int (iI (B.2.2.2.length : Nat))))) T2) : XW 105 0 [some (.ref (x))] [] T Q := by
  have hD := h
  have bad : ¬ apP pk df → Q (.inr 1) (mNw T 0 0 6) := fun q => hQ1 q _ (hD.th hz hx) (Gr.th Fr.rf hz)
  obtain ⟨p, q, d, e, hA, hX, hB⟩ := h
  obtain ⟨⟨x0, xt, xp, xk, xr, xh, xg, xp8, xq9, xd, xe⟩, c3, c7, c10, c13⟩ := id hX
  have hAb := hA.b
  cases hpk : pk with
  | none =>
    have c10' : T.2.1 x 10 = 0 := by rw [hpk] at c10; exact c10
    simp (maxSteps := 4000000) (disch := first | (simp (disch := omega) only [XB_i, XB_n, va_rf_s, va_rf_n, mSI_K, mSI_I, mSI_J, mSI_P, mSI_N, mSJ_K, mSJ_I, mSJ_J, mSJ_P, mSJ_N, mSP_K, mSP_I, mSP_J, mSP_P, mSP_N, mNn, mNi, mNr, mN0, al20, al21, al22, al23, al25, true_or, or_true, and_self, if_true, if_false, mCat_n, mCat_i, mCat_r, mCat_l, mCat_0, Nat.reduceAdd, Nat.reduceLeDiff, Nat.reduceLT, true_and, and_true, Nat.zero_le, bI_01, mInB_J, mInB_Z, mInB_N, x0, c10']; done) | omega | (unfold R32 at *; omega)) only [e_105_0, e_105_0_n, e_105_1, e_105_4, e_105_7, e_105_7_n, e_105_8, e_105_11, e_105_14, e_105_14_n, e_105_15, e_105_18, e_105_18_n, e_105_19, e_105_22, e_105_28, e_105_31, XB_i, XB_n, va_rf_s, va_rf_n, mSI_K, mSI_I, mSI_J, mSI_P, mSI_N, mSJ_K, mSJ_I, mSJ_J, mSJ_P, mSJ_N, mSP_K, mSP_I, mSP_J, mSP_P, mSP_N, mNn, mNi, mNr, mN0, al20, al21, al22, al23, al25, true_or, or_true, and_self, if_true, if_false, mCat_n, mCat_i, mCat_r, mCat_l, mCat_0, Nat.reduceAdd, Nat.reduceLeDiff, Nat.reduceLT, true_and, and_true, Nat.zero_le, bI_01, bI_0, i10, tf0, iI_add, iI_sub, iI_mul, iI_neg, iI_add1, iI_sub1, iI_m1, nca, nc1, ncm1, iI_clJ, iI_cl0, iI_clN, Int.toNat_natCast, mU_n, mU_s, p_min, p_max, p_abs, ni_2, ni_3, ni_4, ni_7, ni_8, ni_9, ni_12, ni_24, ni_97, ni_100, ni_122, ni_200, ni_256, ni_4096, ni_5000, ni_9999, iI_lt, iI_le, iI_eq, iz_eq, iz_lt, iz_le, iz_gt, iz_ge, iy_eq, iy_lt, iy_le, iI_ltN, iI_leN, iI_eqN, if_pos, if_neg, x0, c10']
    exact bad (by rintro ⟨D, A, B, z, _⟩; rw [hpk] at z; cases z)
  | some D =>
    have c10' : T.2.1 x 10 = 1 := by rw [hpk] at c10; exact c10
    cases hdf : df with
    | none =>
      have c13' : T.2.1 x 13 = 0 := by rw [hdf] at c13; exact c13
      simp (maxSteps := 4000000) (disch := first | (simp (disch := omega) only [XB_i, XB_n, va_rf_s, va_rf_n, mSI_K, mSI_I, mSI_J, mSI_P, mSI_N, mSJ_K, mSJ_I, mSJ_J, mSJ_P, mSJ_N, mSP_K, mSP_I, mSP_J, mSP_P, mSP_N, mNn, mNi, mNr, mN0, al20, al21, al22, al23, al25, true_or, or_true, and_self, if_true, if_false, mCat_n, mCat_i, mCat_r, mCat_l, mCat_0, Nat.reduceAdd, Nat.reduceLeDiff, Nat.reduceLT, true_and, and_true, Nat.zero_le, bI_01, mInB_J, mInB_Z, mInB_N, x0, c10', c13']; done) | omega | (unfold R32 at *; omega)) only [e_105_0, e_105_0_n, e_105_1, e_105_4, e_105_7, e_105_7_n, e_105_8, e_105_11, e_105_14, e_105_14_n, e_105_15, e_105_18, e_105_18_n, e_105_19, e_105_22, e_105_28, e_105_31, XB_i, XB_n, va_rf_s, va_rf_n, mSI_K, mSI_I, mSI_J, mSI_P, mSI_N, mSJ_K, mSJ_I, mSJ_J, mSJ_P, mSJ_N, mSP_K, mSP_I, mSP_J, mSP_P, mSP_N, mNn, mNi, mNr, mN0, al20, al21, al22, al23, al25, true_or, or_true, and_self, if_true, if_false, mCat_n, mCat_i, mCat_r, mCat_l, mCat_0, Nat.reduceAdd, Nat.reduceLeDiff, Nat.reduceLT, true_and, and_true, Nat.zero_le, bI_01, bI_0, i10, tf0, iI_add, iI_sub, iI_mul, iI_neg, iI_add1, iI_sub1, iI_m1, nca, nc1, ncm1, iI_clJ, iI_cl0, iI_clN, Int.toNat_natCast, mU_n, mU_s, p_min, p_max, p_abs, ni_2, ni_3, ni_4, ni_7, ni_8, ni_9, ni_12, ni_24, ni_97, ni_100, ni_122, ni_200, ni_256, ni_4096, ni_5000, ni_9999, iI_lt, iI_le, iI_eq, iz_eq, iz_lt, iz_le, iz_gt, iz_ge, iy_eq, iy_lt, iy_le, iI_ltN, iI_leN, iI_eqN, if_pos, if_neg, x0, c10', c13']
      exact bad (by rintro ⟨D, A, B, _, z, _⟩; rw [hdf] at z; cases z)
    | some AB =>
      obtain ⟨A, B⟩ := AB
      have c13' : T.2.1 x 13 = 1 := by rw [hdf] at c13; exact c13
      have hP := hB.2.2.2.2.2.2.2.2.1.2 D hpk
      obtain ⟨hPA, hPB, hDf⟩ := hB.2.2.2.2.2.2.2.2.2.2.1.2 A B hdf
      obtain ⟨hK, ⟨sf, hT⟩, hN, _, hRg, _⟩ := id hP
      obtain ⟨hKa, ⟨sg, hTa⟩, hNa, _, hRa, _⟩ := id hPA
      have okD := ok.2.2.2.2.2.2.1 D hpk
      have okA := (ok.2.2.2.2.2.2.2 A B hdf).1
      have k1 := hK.1.1
      have d1 := hDf.1.1.1
      have d2 := hDf.1.1.2.1
      have d3 := hDf.1.1.2.2
      have pl := fun Q => @p_like T Q p (d + 1) _ _ sf sg _ _ hK hT hN okD.2.2.1 hKa hTa hNa okA.2.2.1 hRg hRa okD.1 okA.1
      by_cases ql : lkP D.2.1 A.2.1 D.2.2.2 A.2.2.2
      · rw [bP_t ql] at pl
        simp (maxSteps := 4000000) (disch := first | (simp (disch := omega) only [XB_i, XB_n, va_rf_s, va_rf_n, mSI_K, mSI_I, mSI_J, mSI_P, mSI_N, mSJ_K, mSJ_I, mSJ_J, mSJ_P, mSJ_N, mSP_K, mSP_I, mSP_J, mSP_P, mSP_N, mNn, mNi, mNr, mN0, al20, al21, al22, al23, al25, true_or, or_true, and_self, if_true, if_false, mCat_n, mCat_i, mCat_r, mCat_l, mCat_0, Nat.reduceAdd, Nat.reduceLeDiff, Nat.reduceLT, true_and, and_true, Nat.zero_le, bI_01, mInB_J, mInB_Z, mInB_N, x0, c10', c13', xp8, xd, d1, d2, d3, k1, pl]; done) | omega | (unfold R32 at *; omega)) only [e_105_0, e_105_0_n, e_105_1, e_105_4, e_105_7, e_105_7_n, e_105_8, e_105_11, e_105_14, e_105_14_n, e_105_15, e_105_18, e_105_18_n, e_105_19, e_105_22, e_105_28, e_105_41, e_105_41_n, e_105_42, e_105_45, e_105_45_n, e_105_46, e_105_49, d_105_25, XB_i, XB_n, va_rf_s, va_rf_n, mSI_K, mSI_I, mSI_J, mSI_P, mSI_N, mSJ_K, mSJ_I, mSJ_J, mSJ_P, mSJ_N, mSP_K, mSP_I, mSP_J, mSP_P, mSP_N, mNn, mNi, mNr, mN0, al20, al21, al22, al23, al25, true_or, or_true, and_self, if_true, if_false, mCat_n, mCat_i, mCat_r, mCat_l, mCat_0, Nat.reduceAdd, Nat.reduceLeDiff, Nat.reduceLT, true_and, and_true, Nat.zero_le, bI_01, bI_0, i10, tf0, iI_add, iI_sub, iI_mul, iI_neg, iI_add1, iI_sub1, iI_m1, nca, nc1, ncm1, iI_clJ, iI_cl0, iI_clN, Int.toNat_natCast, mU_n, mU_s, p_min, p_max, p_abs, ni_2, ni_3, ni_4, ni_7, ni_8, ni_9, ni_12, ni_24, ni_97, ni_100, ni_122, ni_200, ni_256, ni_4096, ni_5000, ni_9999, iI_lt, iI_le, iI_eq, iz_eq, iz_lt, iz_le, iz_gt, iz_ge, iy_eq, iy_lt, iy_le, iI_ltN, iI_leN, iI_eqN, if_pos, if_neg, x0, c10', c13', xp8, xd, d1, d2, d3, k1, pl]
        refine c_105_52 (by simp only [XB_i, XB_n, va_rf_s, va_rf_n, mSI_K, mSI_I, mSI_J, mSI_P, mSI_N, mSJ_K, mSJ_I, mSJ_J, mSJ_P, mSJ_N, mSP_K, mSP_I, mSP_J, mSP_P, mSP_N, mNn, mNi, mNr, mN0, al20, al21, al22, al23, al25, true_or, or_true, and_self, if_true, if_false, mCat_n, mCat_i, mCat_r, mCat_l, mCat_0, Nat.reduceAdd, Nat.reduceLeDiff, Nat.reduceLT, true_and, and_true, Nat.zero_le, bI_01]) (by rw [k1]) (ct_pack_copy hK hP.2.2.2.2.2 hPB (by omega) (fun T2 h2 f2 => ?_))
        have hX2 := hX.fr f2 (fun z => by have := z.1; omega)
        obtain ⟨⟨x0, xt, xp, xk, xr, xh, xg, xp8, xq9, xd, xe⟩, c3, c7, c10, c13⟩ := id hX2
        have u1 := h2.1.1.1
        have u2 := h2.2.2.1.1
        simp (maxSteps := 4000000) (disch := first | (simp (disch := omega) only [XB_i, XB_n, va_rf_s, va_rf_n, mSI_K, mSI_I, mSI_J, mSI_P, mSI_N, mSJ_K, mSJ_I, mSJ_J, mSJ_P, mSJ_N, mSP_K, mSP_I, mSP_J, mSP_P, mSP_N, mNn, mNi, mNr, mN0, al20, al21, al22, al23, al25, true_or, or_true, and_self, if_true, if_false, mCat_n, mCat_i, mCat_r, mCat_l, mCat_0, Nat.reduceAdd, Nat.reduceLeDiff, Nat.reduceLT, true_and, and_true, Nat.zero_le, bI_01, mInB_J, mInB_Z, mInB_N, x0, xp8, u1, u2]; done) | omega | (unfold R32 at *; omega)) only [e_105_55, e_105_55_n, e_105_56, e_105_59, e_105_62, XB_i, XB_n, va_rf_s, va_rf_n, mSI_K, mSI_I, mSI_J, mSI_P, mSI_N, mSJ_K, mSJ_I, mSJ_J, mSJ_P, mSJ_N, mSP_K, mSP_I, mSP_J, mSP_P, mSP_N, mNn, mNi, mNr, mN0, al20, al21, al22, al23, al25, true_or, or_true, and_self, if_true, if_false, mCat_n, mCat_i, mCat_r, mCat_l, mCat_0, Nat.reduceAdd, Nat.reduceLeDiff, Nat.reduceLT, true_and, and_true, Nat.zero_le, bI_01, bI_0, i10, tf0, iI_add, iI_sub, iI_mul, iI_neg, iI_add1, iI_sub1, iI_m1, nca, nc1, ncm1, iI_clJ, iI_cl0, iI_clN, Int.toNat_natCast, mU_n, mU_s, p_min, p_max, p_abs, ni_2, ni_3, ni_4, ni_7, ni_8, ni_9, ni_12, ni_24, ni_97, ni_100, ni_122, ni_200, ni_256, ni_4096, ni_5000, ni_9999, iI_lt, iI_le, iI_eq, iz_eq, iz_lt, iz_le, iz_gt, iz_ge, iy_eq, iy_lt, iy_le, iI_ltN, iI_leN, iI_eqN, if_pos, if_neg, x0, xp8, u1, u2]
        refine hQ2 A B ⟨D, A, B, hpk, hdf, ql⟩ hdf T2 ⟨p, q, d, e, hA, ⟨⟨x0, xt, xp, xk, xr, xh, xg, xp8, xq9, xd, xe⟩, c3, c7, ?_, c13⟩, hB.re f2 (fun z => by have := z.1; omega) (Or.inl ⟨fun b hb q => by have := hb.1; have := hb.2; have := q.1; have := q.2; omega, rfl⟩) (Or.inl ⟨fun b hb q => by have := hb.1; have := hb.2; have := q.1; have := q.2; omega, rfl⟩) (Or.inl ⟨fun b hb q => by have := hb.1; have := hb.2; have := q.1; have := q.2; omega, rfl⟩) (Or.inl ⟨fun b hb q => by have := hb.1; have := hb.2; have := q.1; have := q.2; omega, rfl⟩) (Or.inl ⟨fun b hb q => by have := hb.1; have := hb.2; have := q.1; have := q.2; omega, rfl⟩) (Or.inl ⟨fun b hb q => by have := hb.1; have := hb.2; have := q.1; have := q.2; omega, rfl⟩) (Or.inl ⟨fun b hb q => by have := hb.1; have := hb.2; have := q.1; have := q.2; omega, rfl⟩) (Or.inr ⟨h2.sp, fun D2 z => by cases z; exact h2⟩) (Or.inl ⟨fun b hb q => by have := hb.1; have := hb.2; have := q.1; have := q.2; omega, rfl⟩) (Or.inl ⟨fun b hb q => by have := hb.1; have := hb.2; have := q.1; have := q.2; omega, rfl⟩) (Or.inl ⟨fun b hb q => by have := hb.1; have := hb.2; have := q.1; have := q.2; omega, rfl⟩)⟩ (f2.mono (fun b hb => (⟨by have := hb.1; omega, by have := hb.2; omega⟩ : iX x b))).gr
        rw [c10, hpk]
        rfl
      · rw [bP_f ql] at pl
        simp (maxSteps := 4000000) (disch := first | (simp (disch := omega) only [XB_i, XB_n, va_rf_s, va_rf_n, mSI_K, mSI_I, mSI_J, mSI_P, mSI_N, mSJ_K, mSJ_I, mSJ_J, mSJ_P, mSJ_N, mSP_K, mSP_I, mSP_J, mSP_P, mSP_N, mNn, mNi, mNr, mN0, al20, al21, al22, al23, al25, true_or, or_true, and_self, if_true, if_false, mCat_n, mCat_i, mCat_r, mCat_l, mCat_0, Nat.reduceAdd, Nat.reduceLeDiff, Nat.reduceLT, true_and, and_true, Nat.zero_le, bI_01, mInB_J, mInB_Z, mInB_N, x0, c10', c13', xp8, xd, d1, d2, d3, k1, pl]; done) | omega | (unfold R32 at *; omega)) only [e_105_0, e_105_0_n, e_105_1, e_105_4, e_105_7, e_105_7_n, e_105_8, e_105_11, e_105_14, e_105_14_n, e_105_15, e_105_18, e_105_18_n, e_105_19, e_105_22, e_105_28, e_105_31, d_105_25, XB_i, XB_n, va_rf_s, va_rf_n, mSI_K, mSI_I, mSI_J, mSI_P, mSI_N, mSJ_K, mSJ_I, mSJ_J, mSJ_P, mSJ_N, mSP_K, mSP_I, mSP_J, mSP_P, mSP_N, mNn, mNi, mNr, mN0, al20, al21, al22, al23, al25, true_or, or_true, and_self, if_true, if_false, mCat_n, mCat_i, mCat_r, mCat_l, mCat_0, Nat.reduceAdd, Nat.reduceLeDiff, Nat.reduceLT, true_and, and_true, Nat.zero_le, bI_01, bI_0, i10, tf0, iI_add, iI_sub, iI_mul, iI_neg, iI_add1, iI_sub1, iI_m1, nca, nc1, ncm1, iI_clJ, iI_cl0, iI_clN, Int.toNat_natCast, mU_n, mU_s, p_min, p_max, p_abs, ni_2, ni_3, ni_4, ni_7, ni_8, ni_9, ni_12, ni_24, ni_97, ni_100, ni_122, ni_200, ni_256, ni_4096, ni_5000, ni_9999, iI_lt, iI_le, iI_eq, iz_eq, iz_lt, iz_le, iz_gt, iz_ge, iy_eq, iy_lt, iy_le, iI_ltN, iI_leN, iI_eqN, if_pos, if_neg, x0, c10', c13', xp8, xd, d1, d2, d3, k1, pl]
        exact bad (by
          rintro ⟨D', A', B', z1, z2, z3⟩
          rw [hpk] at z1
          rw [hdf] at z2
          cases z1
          cases z2
          exact ql z3)
theorem dk_lookUp {w : Int64} {k : Int} (hz : KZ T) (hx : x + 857 ≤ T.2.2.2.2.1) (h : DeskR T x cs Fs kp cl hb rg pk df) (ok : StOk cs Fs kp cl hb rg pk df) (rk : R32 k) (hQ1 : olk pk (wv w) k = -1 → ∀ T2, DeskR T2 x cs Fs kp cl hb rg pk df → Gr (iX x) T T2 → Q (.inr 3) T2) (hQ2 : olk pk (wv w) k ≠ -1 → ∀ T2, DeskR T2 x cs Fs kp cl hb rg pk df → Gr (iX x) T T2 → Q (.inl (some (.int (iI (olk pk (wv w) k))))) T2) : XW 106 0 [some (.ref (x)), some (.long (w)), none, some (.int (iI (k))), none] [] T Q := by
  have hD := h
  have bad : olk pk (wv w) k = -1 → Q (.inr 3) (mNw T 0 0 6) := fun q => hQ1 q _ (hD.th hz hx) (Gr.th Fr.rf hz)
  obtain ⟨p, q, d, e, hA, hX, hB⟩ := h
  obtain ⟨⟨x0, xt, xp, xk, xr, xh, xg, xp8, xq9, xd, xe⟩, c3, c7, c10, c13⟩ := id hX
  cases hpk : pk with
  | none =>
    have c10' : T.2.1 x 10 = 0 := by rw [hpk] at c10; exact c10
    simp (maxSteps := 4000000) (disch := first | (simp (disch := omega) only [XB_i, XB_n, va_rf_s, va_rf_n, mSI_K, mSI_I, mSI_J, mSI_P, mSI_N, mSJ_K, mSJ_I, mSJ_J, mSJ_P, mSJ_N, mSP_K, mSP_I, mSP_J, mSP_P, mSP_N, mNn, mNi, mNr, mN0, al20, al21, al22, al23, al25, true_or, or_true, and_self, if_true, if_false, mCat_n, mCat_i, mCat_r, mCat_l, mCat_0, Nat.reduceAdd, Nat.reduceLeDiff, Nat.reduceLT, true_and, and_true, Nat.zero_le, bI_01, mInB_J, mInB_Z, mInB_N, x0, c10', nim1]; done) | omega | (unfold R32 at *; omega)) only [e_106_0, e_106_0_n, e_106_1, e_106_4, e_106_7, e_106_7_n, e_106_8, e_106_11, e_106_14, e_106_15, e_106_19, e_106_22, e_106_23, e_106_25, e_106_27, e_106_28, e_106_31, XB_i, XB_n, va_rf_s, va_rf_n, mSI_K, mSI_I, mSI_J, mSI_P, mSI_N, mSJ_K, mSJ_I, mSJ_J, mSJ_P, mSJ_N, mSP_K, mSP_I, mSP_J, mSP_P, mSP_N, mNn, mNi, mNr, mN0, al20, al21, al22, al23, al25, true_or, or_true, and_self, if_true, if_false, mCat_n, mCat_i, mCat_r, mCat_l, mCat_0, Nat.reduceAdd, Nat.reduceLeDiff, Nat.reduceLT, true_and, and_true, Nat.zero_le, bI_01, bI_0, i10, tf0, iI_add, iI_sub, iI_mul, iI_neg, iI_add1, iI_sub1, iI_m1, nca, nc1, ncm1, iI_clJ, iI_cl0, iI_clN, Int.toNat_natCast, mU_n, mU_s, p_min, p_max, p_abs, ni_2, ni_3, ni_4, ni_7, ni_8, ni_9, ni_12, ni_24, ni_97, ni_100, ni_122, ni_200, ni_256, ni_4096, ni_5000, ni_9999, iI_lt, iI_le, iI_eq, iz_eq, iz_lt, iz_le, iz_gt, iz_ge, iy_eq, iy_lt, iy_le, iI_ltN, iI_leN, iI_eqN, if_pos, if_neg, x0, c10', nim1]
    exact bad (by rw [hpk]; rfl)
  | some D =>
    have c10' : T.2.1 x 10 = 1 := by rw [hpk] at c10; exact c10
    obtain ⟨hK, _, _, _, _, ⟨ad, hE⟩⟩ := hB.2.2.2.2.2.2.2.2.1.2 D hpk
    have okD := (ok.2.2.2.2.2.2.1 D hpk).2.1.1
    have k1 := hK.1.1
    have k3 := hK.1.2.2.1
    have e1 := hE.1.1
    have pn := fun Q => @p_named T Q (p + 2) _ _ hE okD (fun j hj => bkN_63 (wv_lt _) (okD.1 j hj).1.2.2.2) w k rk
    have bz := fnZ_b okD (wv w) k
    have eo : olk pk (wv w) k = fnZ D.2.2.1 (wv w) k := by rw [hpk]; rfl
    rw [eo] at hQ2 bad
    by_cases qz : fnZ D.2.2.1 (wv w) k = -1
    · simp (maxSteps := 4000000) (disch := first | (simp (disch := omega) only [XB_i, XB_n, va_rf_s, va_rf_n, mSI_K, mSI_I, mSI_J, mSI_P, mSI_N, mSJ_K, mSJ_I, mSJ_J, mSJ_P, mSJ_N, mSP_K, mSP_I, mSP_J, mSP_P, mSP_N, mNn, mNi, mNr, mN0, al20, al21, al22, al23, al25, true_or, or_true, and_self, if_true, if_false, mCat_n, mCat_i, mCat_r, mCat_l, mCat_0, Nat.reduceAdd, Nat.reduceLeDiff, Nat.reduceLT, true_and, and_true, Nat.zero_le, bI_01, mInB_J, mInB_Z, mInB_N, x0, c10', xp8, k1, k3, e1, pn, nim1]; done) | omega | (unfold R32 at *; omega)) only [e_106_0, e_106_0_n, e_106_1, e_106_4, e_106_7, e_106_7_n, e_106_8, e_106_11, e_106_14, e_106_15, e_106_19, e_106_22, e_106_23, e_106_25, e_106_27, e_106_28, e_106_31, d_106_16, XB_i, XB_n, va_rf_s, va_rf_n, mSI_K, mSI_I, mSI_J, mSI_P, mSI_N, mSJ_K, mSJ_I, mSJ_J, mSJ_P, mSJ_N, mSP_K, mSP_I, mSP_J, mSP_P, mSP_N, mNn, mNi, mNr, mN0, al20, al21, al22, al23, al25, true_or, or_true, and_self, if_true, if_false, mCat_n, mCat_i, mCat_r, mCat_l, mCat_0, Nat.reduceAdd, Nat.reduceLeDiff, Nat.reduceLT, true_and, and_true, Nat.zero_le, bI_01, bI_0, i10, tf0, iI_add, iI_sub, iI_mul, iI_neg, iI_add1, iI_sub1, iI_m1, nca, nc1, ncm1, iI_clJ, iI_cl0, iI_clN, Int.toNat_natCast, mU_n, mU_s, p_min, p_max, p_abs, ni_2, ni_3, ni_4, ni_7, ni_8, ni_9, ni_12, ni_24, ni_97, ni_100, ni_122, ni_200, ni_256, ni_4096, ni_5000, ni_9999, iI_lt, iI_le, iI_eq, iz_eq, iz_lt, iz_le, iz_gt, iz_ge, iy_eq, iy_lt, iy_le, iI_ltN, iI_leN, iI_eqN, if_pos, if_neg, x0, c10', xp8, k1, k3, e1, pn, nim1]
      exact bad qz
    · simp (maxSteps := 4000000) (disch := first | (simp (disch := omega) only [XB_i, XB_n, va_rf_s, va_rf_n, mSI_K, mSI_I, mSI_J, mSI_P, mSI_N, mSJ_K, mSJ_I, mSJ_J, mSJ_P, mSJ_N, mSP_K, mSP_I, mSP_J, mSP_P, mSP_N, mNn, mNi, mNr, mN0, al20, al21, al22, al23, al25, true_or, or_true, and_self, if_true, if_false, mCat_n, mCat_i, mCat_r, mCat_l, mCat_0, Nat.reduceAdd, Nat.reduceLeDiff, Nat.reduceLT, true_and, and_true, Nat.zero_le, bI_01, mInB_J, mInB_Z, mInB_N, x0, c10', xp8, k1, k3, e1, pn, nim1]; done) | omega | (unfold R32 at *; omega)) only [e_106_0, e_106_0_n, e_106_1, e_106_4, e_106_7, e_106_7_n, e_106_8, e_106_11, e_106_14, e_106_15, e_106_19, e_106_22, e_106_23, e_106_25, e_106_27, e_106_28, e_106_41, e_106_43, d_106_16, XB_i, XB_n, va_rf_s, va_rf_n, mSI_K, mSI_I, mSI_J, mSI_P, mSI_N, mSJ_K, mSJ_I, mSJ_J, mSJ_P, mSJ_N, mSP_K, mSP_I, mSP_J, mSP_P, mSP_N, mNn, mNi, mNr, mN0, al20, al21, al22, al23, al25, true_or, or_true, and_self, if_true, if_false, mCat_n, mCat_i, mCat_r, mCat_l, mCat_0, Nat.reduceAdd, Nat.reduceLeDiff, Nat.reduceLT, true_and, and_true, Nat.zero_le, bI_01, bI_0, i10, tf0, iI_add, iI_sub, iI_mul, iI_neg, iI_add1, iI_sub1, iI_m1, nca, nc1, ncm1, iI_clJ, iI_cl0, iI_clN, Int.toNat_natCast, mU_n, mU_s, p_min, p_max, p_abs, ni_2, ni_3, ni_4, ni_7, ni_8, ni_9, ni_12, ni_24, ni_97, ni_100, ni_122, ni_200, ni_256, ni_4096, ni_5000, ni_9999, iI_lt, iI_le, iI_eq, iz_eq, iz_lt, iz_le, iz_gt, iz_ge, iy_eq, iy_lt, iy_le, iI_ltN, iI_leN, iI_eqN, if_pos, if_neg, x0, c10', xp8, k1, k3, e1, pn, nim1]
      exact hQ2 qz T hD Fr.rf.gr
theorem dk_near {a b s k : Int} (hz : KZ T) (hx : x + 857 ≤ T.2.2.2.2.1) (h : DeskR T x cs Fs kp cl hb rg pk df) (ok : StOk cs Fs kp cl hb rg pk df) (ra : R32 a) (rb : R32 b) (rs : R32 s) (rk : R32 k) (hQ1 : one pk a b s k = -1 → ∀ T2, DeskR T2 x cs Fs kp cl hb rg pk df → Gr (iX x) T T2 → Q (.inr 3) T2) (hQ2 : one pk a b s k ≠ -1 → ∀ T2, DeskR T2 x cs Fs kp cl hb rg pk df → Gr (iX x) T T2 → Q (.inl (some (.int (iI (one pk a b s k))))) T2) : XW 107 0 [some (.ref (x)), some (.int (iI (a))), some (.int (iI (b))), some (.int (iI (s))), some (.int (iI (k))), none] [] T Q := by
  have hD := h
  have bad : one pk a b s k = -1 → Q (.inr 3) (mNw T 0 0 6) := fun q => hQ1 q _ (hD.th hz hx) (Gr.th Fr.rf hz)
  obtain ⟨p, q, d, e, hA, hX, hB⟩ := h
  obtain ⟨⟨x0, xt, xp, xk, xr, xh, xg, xp8, xq9, xd, xe⟩, c3, c7, c10, c13⟩ := id hX
  cases hpk : pk with
  | none =>
    have c10' : T.2.1 x 10 = 0 := by rw [hpk] at c10; exact c10
    simp (maxSteps := 4000000) (disch := first | (simp (disch := omega) only [XB_i, XB_n, va_rf_s, va_rf_n, mSI_K, mSI_I, mSI_J, mSI_P, mSI_N, mSJ_K, mSJ_I, mSJ_J, mSJ_P, mSJ_N, mSP_K, mSP_I, mSP_J, mSP_P, mSP_N, mNn, mNi, mNr, mN0, al20, al21, al22, al23, al25, true_or, or_true, and_self, if_true, if_false, mCat_n, mCat_i, mCat_r, mCat_l, mCat_0, Nat.reduceAdd, Nat.reduceLeDiff, Nat.reduceLT, true_and, and_true, Nat.zero_le, bI_01, mInB_J, mInB_Z, mInB_N, x0, c10', nim1]; done) | omega | (unfold R32 at *; omega)) only [e_107_0, e_107_0_n, e_107_1, e_107_4, e_107_7, e_107_7_n, e_107_8, e_107_11, e_107_14, e_107_15, e_107_16, e_107_17, e_107_22, e_107_25, e_107_26, e_107_28, e_107_30, e_107_31, e_107_34, XB_i, XB_n, va_rf_s, va_rf_n, mSI_K, mSI_I, mSI_J, mSI_P, mSI_N, mSJ_K, mSJ_I, mSJ_J, mSJ_P, mSJ_N, mSP_K, mSP_I, mSP_J, mSP_P, mSP_N, mNn, mNi, mNr, mN0, al20, al21, al22, al23, al25, true_or, or_true, and_self, if_true, if_false, mCat_n, mCat_i, mCat_r, mCat_l, mCat_0, Nat.reduceAdd, Nat.reduceLeDiff, Nat.reduceLT, true_and, and_true, Nat.zero_le, bI_01, bI_0, i10, tf0, iI_add, iI_sub, iI_mul, iI_neg, iI_add1, iI_sub1, iI_m1, nca, nc1, ncm1, iI_clJ, iI_cl0, iI_clN, Int.toNat_natCast, mU_n, mU_s, p_min, p_max, p_abs, ni_2, ni_3, ni_4, ni_7, ni_8, ni_9, ni_12, ni_24, ni_97, ni_100, ni_122, ni_200, ni_256, ni_4096, ni_5000, ni_9999, iI_lt, iI_le, iI_eq, iz_eq, iz_lt, iz_le, iz_gt, iz_ge, iy_eq, iy_lt, iy_le, iI_ltN, iI_leN, iI_eqN, if_pos, if_neg, x0, c10', nim1]
    exact bad (by rw [hpk]; rfl)
  | some D =>
    have c10' : T.2.1 x 10 = 1 := by rw [hpk] at c10; exact c10
    obtain ⟨hK, _, _, _, _, ⟨ad, hE⟩⟩ := hB.2.2.2.2.2.2.2.2.1.2 D hpk
    have okD := (ok.2.2.2.2.2.2.1 D hpk).2.1.1
    have k1 := hK.1.1
    have k3 := hK.1.2.2.1
    have e1 := hE.1.1
    have pn := fun Q => @p_near T Q (p + 2) _ _ hE okD a b s k ra rb rs rk
    have bz := neZ_b okD a b s k
    have eo : one pk a b s k = neZ D.2.2.1 a b s k := by rw [hpk]; rfl
    rw [eo] at hQ2 bad
    by_cases qz : neZ D.2.2.1 a b s k = -1
    · simp (maxSteps := 4000000) (disch := first | (simp (disch := omega) only [XB_i, XB_n, va_rf_s, va_rf_n, mSI_K, mSI_I, mSI_J, mSI_P, mSI_N, mSJ_K, mSJ_I, mSJ_J, mSJ_P, mSJ_N, mSP_K, mSP_I, mSP_J, mSP_P, mSP_N, mNn, mNi, mNr, mN0, al20, al21, al22, al23, al25, true_or, or_true, and_self, if_true, if_false, mCat_n, mCat_i, mCat_r, mCat_l, mCat_0, Nat.reduceAdd, Nat.reduceLeDiff, Nat.reduceLT, true_and, and_true, Nat.zero_le, bI_01, mInB_J, mInB_Z, mInB_N, x0, c10', xp8, k1, k3, e1, pn, nim1]; done) | omega | (unfold R32 at *; omega)) only [e_107_0, e_107_0_n, e_107_1, e_107_4, e_107_7, e_107_7_n, e_107_8, e_107_11, e_107_14, e_107_15, e_107_16, e_107_17, e_107_22, e_107_25, e_107_26, e_107_28, e_107_30, e_107_31, e_107_34, d_107_19, XB_i, XB_n, va_rf_s, va_rf_n, mSI_K, mSI_I, mSI_J, mSI_P, mSI_N, mSJ_K, mSJ_I, mSJ_J, mSJ_P, mSJ_N, mSP_K, mSP_I, mSP_J, mSP_P, mSP_N, mNn, mNi, mNr, mN0, al20, al21, al22, al23, al25, true_or, or_true, and_self, if_true, if_false, mCat_n, mCat_i, mCat_r, mCat_l, mCat_0, Nat.reduceAdd, Nat.reduceLeDiff, Nat.reduceLT, true_and, and_true, Nat.zero_le, bI_01, bI_0, i10, tf0, iI_add, iI_sub, iI_mul, iI_neg, iI_add1, iI_sub1, iI_m1, nca, nc1, ncm1, iI_clJ, iI_cl0, iI_clN, Int.toNat_natCast, mU_n, mU_s, p_min, p_max, p_abs, ni_2, ni_3, ni_4, ni_7, ni_8, ni_9, ni_12, ni_24, ni_97, ni_100, ni_122, ni_200, ni_256, ni_4096, ni_5000, ni_9999, iI_lt, iI_le, iI_eq, iz_eq, iz_lt, iz_le, iz_gt, iz_ge, iy_eq, iy_lt, iy_le, iI_ltN, iI_leN, iI_eqN, if_pos, if_neg, x0, c10', xp8, k1, k3, e1, pn, nim1]
      exact bad qz
    · simp (maxSteps := 4000000) (disch := first | (simp (disch := omega) only [XB_i, XB_n, va_rf_s, va_rf_n, mSI_K, mSI_I, mSI_J, mSI_P, mSI_N, mSJ_K, mSJ_I, mSJ_J, mSJ_P, mSJ_N, mSP_K, mSP_I, mSP_J, mSP_P, mSP_N, mNn, mNi, mNr, mN0, al20, al21, al22, al23, al25, true_or, or_true, and_self, if_true, if_false, mCat_n, mCat_i, mCat_r, mCat_l, mCat_0, Nat.reduceAdd, Nat.reduceLeDiff, Nat.reduceLT, true_and, and_true, Nat.zero_le, bI_01, mInB_J, mInB_Z, mInB_N, x0, c10', xp8, k1, k3, e1, pn, nim1]; done) | omega | (unfold R32 at *; omega)) only [e_107_0, e_107_0_n, e_107_1, e_107_4, e_107_7, e_107_7_n, e_107_8, e_107_11, e_107_14, e_107_15, e_107_16, e_107_17, e_107_22, e_107_25, e_107_26, e_107_28, e_107_30, e_107_31, e_107_44, e_107_46, d_107_19, XB_i, XB_n, va_rf_s, va_rf_n, mSI_K, mSI_I, mSI_J, mSI_P, mSI_N, mSJ_K, mSJ_I, mSJ_J, mSJ_P, mSJ_N, mSP_K, mSP_I, mSP_J, mSP_P, mSP_N, mNn, mNi, mNr, mN0, al20, al21, al22, al23, al25, true_or, or_true, and_self, if_true, if_false, mCat_n, mCat_i, mCat_r, mCat_l, mCat_0, Nat.reduceAdd, Nat.reduceLeDiff, Nat.reduceLT, true_and, and_true, Nat.zero_le, bI_01, bI_0, i10, tf0, iI_add, iI_sub, iI_mul, iI_neg, iI_add1, iI_sub1, iI_m1, nca, nc1, ncm1, iI_clJ, iI_cl0, iI_clN, Int.toNat_natCast, mU_n, mU_s, p_min, p_max, p_abs, ni_2, ni_3, ni_4, ni_7, ni_8, ni_9, ni_12, ni_24, ni_97, ni_100, ni_122, ni_200, ni_256, ni_4096, ni_5000, ni_9999, iI_lt, iI_le, iI_eq, iz_eq, iz_lt, iz_le, iz_gt, iz_ge, iy_eq, iy_lt, iy_le, iI_ltN, iI_leN, iI_eqN, if_pos, if_neg, x0, c10', xp8, k1, k3, e1, pn, nim1]
      exact hQ2 qz T hD Fr.rf.gr
end DQ
