/-! the reference: the way of corners in work; farthest -/
def CwR (T : mT) (m : Nat) (cs : List Cn) : Prop := T.2.1 m 43 = iI cs.length ∧ (∀ j, j < cs.length → T.2.1 (m + 34) j = iI (pX cs j)) ∧ (∀ j, j < cs.length → T.2.1 (m + 35) j = iI (pY cs j)) ∧ (∀ j, j < cs.length → T.2.1 (m + 36) j = bI (pG cs j))
def cvS (m : Nat) : Nat → Nat → Prop := fun b j => (b = m ∧ j = 43) ∨ iv (m + 34) (m + 37) b
theorem CwR.mf {S : Nat → Nat → Prop} {T T2 : mT} {m : Nat} {cs : List Cn} (h : CwR T m cs) (hf : Mf S T T2) (hs : ∀ b j, cvS m b j → ¬ S b j) : CwR T2 m cs := ⟨by rw [hf.I (hs _ _ (Or.inl ⟨rfl, rfl⟩))]; exact h.1, fun j hj => by rw [hf.I (hs _ _ (Or.inr ⟨by omega, by omega⟩))]; exact h.2.1 j hj, fun j hj => by rw [hf.I (hs _ _ (Or.inr ⟨by omega, by omega⟩))]; exact h.2.2.1 j hj, fun j hj => by rw [hf.I (hs _ _ (Or.inr ⟨by omega, by omega⟩))]; exact h.2.2.2 j hj⟩
def frQ (cs : List Cn) (a b c : Nat) : Int := if tgB cs a b then frn cs a b c else frn cs a b c * frn cs a b c
theorem nAbs2 (x : Int) : (x.natAbs : Int) * (x.natAbs : Int) = x * x := by
  rw [Int.natAbs_mul_self']
theorem sq_lt {x y : Int} (hx : 0 ≤ x) (hy : 0 ≤ y) : x * x < y * y ↔ x < y := by
  constructor
  · intro h
    apply Int.not_le.mp
    intro z
    exact absurd h (Int.not_lt.mpr (Int.mul_le_mul z z hy hx))
  · intro h
    exact Int.lt_of_le_of_lt (Int.mul_le_mul_of_nonneg_left (Int.le_of_lt h) hx) (Int.mul_lt_mul_of_pos_right h (by omega))
section MF
variable {T : mT} {Q : mOut → mT → Prop} {m : Nat} {cs : List Cn}
theorem frQ_B (hB : wB cs) (a b c : Nat) : 0 ≤ frQ cs a b c ∧ frQ cs a b c ≤ 1600000000000000 := by
  have h := frn_B hB a b c
  unfold frQ
  split
  · omega
  · exact ⟨Int.mul_nonneg h.1 h.1, Int.le_trans (Int.mul_le_mul h.2 h.2 h.1 (by omega)) (by omega)⟩
theorem m_farness {a b c : Nat} (hM : ModK T m) (hC : CwR T m cs) (hB : wB cs) (ha : a < cs.length) (hb : b < cs.length) (hc : c < cs.length) (hl : cs.length ≤ 400) : XW 131 0 [some (.ref (m)), some (.int (iI ((a : Nat) : Int))), some (.int (iI ((b : Nat) : Int))), some (.int (iI ((c : Nat) : Int))), none, none, none, none, none, none, none, none, none, none] [] T Q = Q (.inl (some (.long (lI (frQ cs a b c))))) T := by
  obtain ⟨c1, c2, c3, c4⟩ := id hC
  have a1 := hB a
  have b1 := hB b
  have d1 := hB c
  have xa := c2 a ha
  have xb := c2 b hb
  have xc := c2 c hc
  have ya := c3 a ha
  have yb := c3 b hb
  have yc := c3 c hc
  have e1 : pX cs b - pX cs a = dxF cs a b := rfl
  have e2 : pY cs b - pY cs a = dyF cs a b := rfl
  have e3 : pX cs c - pX cs a = dxF cs a c := rfl
  have e4 : pY cs c - pY cs a = dyF cs a c := rfl
  have r1 : -4095 ≤ dxF cs a b ∧ dxF cs a b ≤ 4095 := by unfold dxF; omega
  have r2 : -4095 ≤ dyF cs a b ∧ dyF cs a b ≤ 4095 := by unfold dyF; omega
  have z1 : (lI (dxF cs a b) = 0) = (dxF cs a b = 0) := lI_eq (b := 0) ⟨by omega, by omega⟩ ⟨by omega, by omega⟩
  have z2 : (lI (dyF cs a b) = 0) = (dyF cs a b = 0) := lI_eq (b := 0) ⟨by omega, by omega⟩ ⟨by omega, by omega⟩
  unfold frQ frn
  by_cases q1 : dxF cs a b = 0
  · by_cases q2 : dyF cs a b = 0
    · have ht : tgB cs a b = true := by unfold tgB; simp [q1, q2]
      rw [ht, if_pos rfl, if_pos rfl]
      simp (maxSteps := 4000000) (disch := first | (simp (disch := omega) only [XB_i, XB_n, va_rf_s, va_rf_n, mSI_K, mSI_I, mSI_J, mSI_P, mSI_N, mSJ_K, mSJ_I, mSJ_J, mSJ_P, mSJ_N, mSP_K, mSP_I, mSP_J, mSP_P, mSP_N, mNn, mNi, mNr, mN0, al20, al21, al22, al23, al25, true_or, or_true, and_self, if_true, if_false, mCat_n, mCat_i, mCat_r, mCat_l, mCat_0, Nat.reduceAdd, Nat.reduceLeDiff, Nat.reduceLT, true_and, and_true, Nat.zero_le, bI_01, mInB_J, mInB_Z, mInB_N, hM.k, hM.r40, hM.a40, hM.r41, hM.a41, xa, xb, xc, ya, yb, yc, e1, e2, e3, e4, i2l_i, lg_z, z1, z2, lI_mul, lI_add]; done) | omega | (unfold R32 at *; omega)) only [e_131_0, e_131_0_n, e_131_1, e_131_4, e_131_5, e_131_6, e_131_6_n, e_131_7, e_131_10, e_131_11, e_131_12, e_131_13, e_131_14, e_131_16, e_131_16_n, e_131_17, e_131_20, e_131_21, e_131_22, e_131_22_n, e_131_23, e_131_26, e_131_27, e_131_28, e_131_29, e_131_30, e_131_32, e_131_32_n, e_131_33, e_131_36, e_131_37, e_131_38, e_131_38_n, e_131_39, e_131_42, e_131_43, e_131_44, e_131_45, e_131_46, e_131_48, e_131_48_n, e_131_49, e_131_52, e_131_53, e_131_54, e_131_54_n, e_131_55, e_131_58, e_131_59, e_131_60, e_131_61, e_131_62, e_131_64, e_131_66, e_131_67, e_131_68, e_131_71, e_131_73, e_131_74, e_131_75, e_131_78, e_131_80, e_131_82, e_131_83, e_131_85, e_131_87, e_131_88, e_131_89, XB_i, XB_n, va_rf_s, va_rf_n, mSI_K, mSI_I, mSI_J, mSI_P, mSI_N, mSJ_K, mSJ_I, mSJ_J, mSJ_P, mSJ_N, mSP_K, mSP_I, mSP_J, mSP_P, mSP_N, mNn, mNi, mNr, mN0, al20, al21, al22, al23, al25, true_or, or_true, and_self, if_true, if_false, mCat_n, mCat_i, mCat_r, mCat_l, mCat_0, Nat.reduceAdd, Nat.reduceLeDiff, Nat.reduceLT, true_and, and_true, Nat.zero_le, bI_01, bI_0, i10, tf0, iI_add, iI_sub, iI_mul, iI_neg, iI_add1, iI_sub1, iI_m1, nca, nc1, ncm1, iI_clJ, iI_cl0, iI_clN, Int.toNat_natCast, mU_n, mU_s, p_min, p_max, p_abs, ni_2, ni_3, ni_4, ni_7, ni_8, ni_9, ni_12, ni_24, ni_97, ni_100, ni_122, ni_200, ni_256, ni_4096, ni_5000, ni_9999, iI_lt, iI_le, iI_eq, iz_eq, iz_lt, iz_le, iz_gt, iz_ge, iy_eq, iy_lt, iy_le, iI_ltN, iI_leN, iI_eqN, if_pos, if_neg, hM.k, hM.r40, hM.a40, hM.r41, hM.a41, xa, xb, xc, ya, yb, yc, e1, e2, e3, e4, i2l_i, lg_z, z1, z2, lI_mul, lI_add]
    · have ht : tgB cs a b = false := by unfold tgB; simp [q2]
      rw [ht, if_neg (by decide), if_neg (by decide), nAbs2]
      simp (maxSteps := 4000000) (disch := first | (simp (disch := omega) only [XB_i, XB_n, va_rf_s, va_rf_n, mSI_K, mSI_I, mSI_J, mSI_P, mSI_N, mSJ_K, mSJ_I, mSJ_J, mSJ_P, mSJ_N, mSP_K, mSP_I, mSP_J, mSP_P, mSP_N, mNn, mNi, mNr, mN0, al20, al21, al22, al23, al25, true_or, or_true, and_self, if_true, if_false, mCat_n, mCat_i, mCat_r, mCat_l, mCat_0, Nat.reduceAdd, Nat.reduceLeDiff, Nat.reduceLT, true_and, and_true, Nat.zero_le, bI_01, mInB_J, mInB_Z, mInB_N, hM.k, hM.r40, hM.a40, hM.r41, hM.a41, xa, xb, xc, ya, yb, yc, e1, e2, e3, e4, i2l_i, lg_z, z1, z2, lI_mul, lI_add, m_cross]; done) | omega | (unfold R32 at *; omega)) only [e_131_0, e_131_0_n, e_131_1, e_131_4, e_131_5, e_131_6, e_131_6_n, e_131_7, e_131_10, e_131_11, e_131_12, e_131_13, e_131_14, e_131_16, e_131_16_n, e_131_17, e_131_20, e_131_21, e_131_22, e_131_22_n, e_131_23, e_131_26, e_131_27, e_131_28, e_131_29, e_131_30, e_131_32, e_131_32_n, e_131_33, e_131_36, e_131_37, e_131_38, e_131_38_n, e_131_39, e_131_42, e_131_43, e_131_44, e_131_45, e_131_46, e_131_48, e_131_48_n, e_131_49, e_131_52, e_131_53, e_131_54, e_131_54_n, e_131_55, e_131_58, e_131_59, e_131_60, e_131_61, e_131_62, e_131_64, e_131_66, e_131_67, e_131_68, e_131_71, e_131_73, e_131_74, e_131_75, e_131_78, e_131_80, e_131_82, e_131_83, e_131_85, e_131_87, e_131_88, e_131_89, e_131_90, e_131_92, e_131_94, e_131_96, e_131_101, e_131_103, e_131_105, e_131_107, e_131_108, d_131_98, XB_i, XB_n, va_rf_s, va_rf_n, mSI_K, mSI_I, mSI_J, mSI_P, mSI_N, mSJ_K, mSJ_I, mSJ_J, mSJ_P, mSJ_N, mSP_K, mSP_I, mSP_J, mSP_P, mSP_N, mNn, mNi, mNr, mN0, al20, al21, al22, al23, al25, true_or, or_true, and_self, if_true, if_false, mCat_n, mCat_i, mCat_r, mCat_l, mCat_0, Nat.reduceAdd, Nat.reduceLeDiff, Nat.reduceLT, true_and, and_true, Nat.zero_le, bI_01, bI_0, i10, tf0, iI_add, iI_sub, iI_mul, iI_neg, iI_add1, iI_sub1, iI_m1, nca, nc1, ncm1, iI_clJ, iI_cl0, iI_clN, Int.toNat_natCast, mU_n, mU_s, p_min, p_max, p_abs, ni_2, ni_3, ni_4, ni_7, ni_8, ni_9, ni_12, ni_24, ni_97, ni_100, ni_122, ni_200, ni_256, ni_4096, ni_5000, ni_9999, iI_lt, iI_le, iI_eq, iz_eq, iz_lt, iz_le, iz_gt, iz_ge, iy_eq, iy_lt, iy_le, iI_ltN, iI_leN, iI_eqN, if_pos, if_neg, hM.k, hM.r40, hM.a40, hM.r41, hM.a41, xa, xb, xc, ya, yb, yc, e1, e2, e3, e4, i2l_i, lg_z, z1, z2, lI_mul, lI_add, m_cross]
  · have ht : tgB cs a b = false := by unfold tgB; simp [q1]
    rw [ht, if_neg (by decide), if_neg (by decide), nAbs2]
    simp (maxSteps := 4000000) (disch := first | (simp (disch := omega) only [XB_i, XB_n, va_rf_s, va_rf_n, mSI_K, mSI_I, mSI_J, mSI_P, mSI_N, mSJ_K, mSJ_I, mSJ_J, mSJ_P, mSJ_N, mSP_K, mSP_I, mSP_J, mSP_P, mSP_N, mNn, mNi, mNr, mN0, al20, al21, al22, al23, al25, true_or, or_true, and_self, if_true, if_false, mCat_n, mCat_i, mCat_r, mCat_l, mCat_0, Nat.reduceAdd, Nat.reduceLeDiff, Nat.reduceLT, true_and, and_true, Nat.zero_le, bI_01, mInB_J, mInB_Z, mInB_N, hM.k, hM.r40, hM.a40, hM.r41, hM.a41, xa, xb, xc, ya, yb, yc, e1, e2, e3, e4, i2l_i, lg_z, z1, lI_mul, lI_add, m_cross]; done) | omega | (unfold R32 at *; omega)) only [e_131_0, e_131_0_n, e_131_1, e_131_4, e_131_5, e_131_6, e_131_6_n, e_131_7, e_131_10, e_131_11, e_131_12, e_131_13, e_131_14, e_131_16, e_131_16_n, e_131_17, e_131_20, e_131_21, e_131_22, e_131_22_n, e_131_23, e_131_26, e_131_27, e_131_28, e_131_29, e_131_30, e_131_32, e_131_32_n, e_131_33, e_131_36, e_131_37, e_131_38, e_131_38_n, e_131_39, e_131_42, e_131_43, e_131_44, e_131_45, e_131_46, e_131_48, e_131_48_n, e_131_49, e_131_52, e_131_53, e_131_54, e_131_54_n, e_131_55, e_131_58, e_131_59, e_131_60, e_131_61, e_131_62, e_131_64, e_131_66, e_131_67, e_131_68, e_131_71, e_131_73, e_131_74, e_131_75, e_131_78, e_131_80, e_131_82, e_131_83, e_131_85, e_131_87, e_131_88, e_131_89, e_131_90, e_131_92, e_131_94, e_131_96, e_131_101, e_131_103, e_131_105, e_131_107, e_131_108, d_131_98, XB_i, XB_n, va_rf_s, va_rf_n, mSI_K, mSI_I, mSI_J, mSI_P, mSI_N, mSJ_K, mSJ_I, mSJ_J, mSJ_P, mSJ_N, mSP_K, mSP_I, mSP_J, mSP_P, mSP_N, mNn, mNi, mNr, mN0, al20, al21, al22, al23, al25, true_or, or_true, and_self, if_true, if_false, mCat_n, mCat_i, mCat_r, mCat_l, mCat_0, Nat.reduceAdd, Nat.reduceLeDiff, Nat.reduceLT, true_and, and_true, Nat.zero_le, bI_01, bI_0, i10, tf0, iI_add, iI_sub, iI_mul, iI_neg, iI_add1, iI_sub1, iI_m1, nca, nc1, ncm1, iI_clJ, iI_cl0, iI_clN, Int.toNat_natCast, mU_n, mU_s, p_min, p_max, p_abs, ni_2, ni_3, ni_4, ni_7, ni_8, ni_9, ni_12, ni_24, ni_97, ni_100, ni_122, ni_200, ni_256, ni_4096, ni_5000, ni_9999, iI_lt, iI_le, iI_eq, iz_eq, iz_lt, iz_le, iz_gt, iz_ge, iy_eq, iy_lt, iy_le, iI_ltN, iI_leN, iI_eqN, if_pos, if_neg, hM.k, hM.r40, hM.a40, hM.r41, hM.a41, xa, xb, xc, ya, yb, yc, e1, e2, e3, e4, i2l_i, lg_z, z1, lI_mul, lI_add, m_cross]
theorem frQ_lt (hB : wB cs) (a b c d : Nat) : (frQ cs a b c < frQ cs a b d) ↔ (frn cs a b c < frn cs a b d) := by
  have h1 := frn_B hB a b c
  have h2 := frn_B hB a b d
  unfold frQ
  split
  · exact Iff.rfl
  · exact sq_lt h1.1 h2.1
theorem lm_far {a b : Nat} (hM : ModK T m) (hC : CwR T m cs) (hB : wB cs) (hab : a < b) (hb : b < cs.length) (hl : cs.length ≤ 400) : ∀ (k c : Nat) (s : Option Nat × Int), b - c = k → c ≤ b → a < c → (s.1 = none → s.2 = -1) → (∀ d, s.1 = some d → s.2 = frn cs a b d ∧ d < b) → XW 132 7 [some (.ref (m)), some (.int (iI ((a : Nat) : Int))), some (.int (iI ((b : Nat) : Int))), some (.int (iI (oN s.1))), some (.int (iI ((c : Nat) : Int))), none, none, none, none, none] [] T Q = Q (.inl (some (.int (iI (oN (finF cs a b (amx (frn cs a b) k c s))))))) T := by
  obtain ⟨c1, c2, c3, c4⟩ := id hC
  intro k
  induction k with
  | zero =>
    intro c s hk hc hac h1 h2
    rw [e_132_7]
    obtain ⟨o, v⟩ := s
    cases o with
    | none =>
      have hv : v = -1 := h1 rfl
      subst hv
      have e : finF cs a b (amx (frn cs a b) 0 c (none, -1)) = none := by
        show finF cs a b (none, -1) = none
        unfold finF
        split <;> rfl
      rw [e]
      show XW _ _ [some (.ref (m)), some (.int (iI ((a : Nat) : Int))), some (.int (iI ((b : Nat) : Int))), some (.int (iI (-1))), some (.int (iI ((c : Nat) : Int))), none, none, none, none, none] _ _ _ = _
      simp (maxSteps := 4000000) (disch := first | (simp (disch := omega) only [XB_i, XB_n, va_rf_s, va_rf_n, mSI_K, mSI_I, mSI_J, mSI_P, mSI_N, mSJ_K, mSJ_I, mSJ_J, mSJ_P, mSJ_N, mSP_K, mSP_I, mSP_J, mSP_P, mSP_N, mNn, mNi, mNr, mN0, al20, al21, al22, al23, al25, true_or, or_true, and_self, if_true, if_false, mCat_n, mCat_i, mCat_r, mCat_l, mCat_0, Nat.reduceAdd, Nat.reduceLeDiff, Nat.reduceLT, true_and, and_true, Nat.zero_le, bI_01, mInB_J, mInB_Z, mInB_N, nim1]; done) | omega | (unfold R32 at *; omega)) only [e_132_9, e_132_10, e_132_46, e_132_47, e_132_48, e_132_51, e_132_52, XB_i, XB_n, va_rf_s, va_rf_n, mSI_K, mSI_I, mSI_J, mSI_P, mSI_N, mSJ_K, mSJ_I, mSJ_J, mSJ_P, mSJ_N, mSP_K, mSP_I, mSP_J, mSP_P, mSP_N, mNn, mNi, mNr, mN0, al20, al21, al22, al23, al25, true_or, or_true, and_self, if_true, if_false, mCat_n, mCat_i, mCat_r, mCat_l, mCat_0, Nat.reduceAdd, Nat.reduceLeDiff, Nat.reduceLT, true_and, and_true, Nat.zero_le, bI_01, bI_0, i10, tf0, iI_add, iI_sub, iI_mul, iI_neg, iI_add1, iI_sub1, iI_m1, nca, nc1, ncm1, iI_clJ, iI_cl0, iI_clN, Int.toNat_natCast, mU_n, mU_s, p_min, p_max, p_abs, ni_2, ni_3, ni_4, ni_7, ni_8, ni_9, ni_12, ni_24, ni_97, ni_100, ni_122, ni_200, ni_256, ni_4096, ni_5000, ni_9999, iI_lt, iI_le, iI_eq, iz_eq, iz_lt, iz_le, iz_gt, iz_ge, iy_eq, iy_lt, iy_le, iI_ltN, iI_leN, iI_eqN, if_pos, if_neg, nim1]
      rfl
    | some d =>
      obtain ⟨hv, hd⟩ := h2 d rfl
      dsimp only at hv
      have e : amx (frn cs a b) 0 c (some d, v) = (some d, v) := rfl
      rw [e]
      show XW _ _ [some (.ref (m)), some (.int (iI ((a : Nat) : Int))), some (.int (iI ((b : Nat) : Int))), some (.int (iI ((d : Nat) : Int))), some (.int (iI ((c : Nat) : Int))), none, none, none, none, none] _ _ _ = _
      have pf := fun Q => @m_farness T Q m cs a b d hM hC hB (by omega) (by omega) (by omega) hl
      have a1 := hB a
      have b1 := hB b
      have xa := c2 a (by omega)
      have xb := c2 b hb
      have ya := c3 a (by omega)
      have yb := c3 b hb
      have e1 : pX cs b - pX cs a = dxF cs a b := rfl
      have e2 : pY cs b - pY cs a = dyF cs a b := rfl
      have r1 : -4095 ≤ dxF cs a b ∧ dxF cs a b ≤ 4095 := by unfold dxF; omega
      have r2 : -4095 ≤ dyF cs a b ∧ dyF cs a b ≤ 4095 := by unfold dyF; omega
      have z1 : (lI (dxF cs a b) = 0) = (dxF cs a b = 0) := lI_eq (b := 0) ⟨by omega, by omega⟩ ⟨by omega, by omega⟩
      have z2 : (lI (dyF cs a b) = 0) = (dyF cs a b = 0) := lI_eq (b := 0) ⟨by omega, by omega⟩ ⟨by omega, by omega⟩
      have fB := frQ_B hB a b d
      have l1 : (1 : Int64) = lI 1 := rfl
      have fin : ∀ w : Int, 0 ≤ w → w ≤ 40000000 → (enB cs a b v = decide (4 * w ≤ frQ cs a b d)) → (lI (frQ cs a b d) < lI (4 * w)) = ¬ (enB cs a b v = true) := by
        intro w h1 h2 h3
        rw [lI_lt (by unfold R64; omega) (by unfold R64; omega), h3]
        apply propext
        rw [decide_eq_true_eq]
        omega
      by_cases q1 : dxF cs a b = 0 ∧ dyF cs a b = 0
      · have ht : tgB cs a b = true := by unfold tgB; exact decide_eq_true q1
        obtain ⟨q1, q2⟩ := q1
        have e4 : enB cs a b v = decide (4 * (1 : Int) ≤ frQ cs a b d) := by unfold enB frQ; rw [ht, if_pos rfl, if_pos rfl, hv]; rfl
        have f1 := fin 1 (by omega) (by omega) e4
        unfold finF
        dsimp only
        cases hen : enB cs a b v with
        | true =>
          rw [hen] at f1
          have f2 : ¬ lI (frQ cs a b d) < lI (4 * 1) := by rw [f1]; simp
          simp (maxSteps := 4000000) (disch := first | (simp (disch := omega) only [XB_i, XB_n, va_rf_s, va_rf_n, mSI_K, mSI_I, mSI_J, mSI_P, mSI_N, mSJ_K, mSJ_I, mSJ_J, mSJ_P, mSJ_N, mSP_K, mSP_I, mSP_J, mSP_P, mSP_N, mNn, mNi, mNr, mN0, al20, al21, al22, al23, al25, true_or, or_true, and_self, if_true, if_false, mCat_n, mCat_i, mCat_r, mCat_l, mCat_0, Nat.reduceAdd, Nat.reduceLeDiff, Nat.reduceLT, true_and, and_true, Nat.zero_le, bI_01, mInB_J, mInB_Z, mInB_N, hM.k, hM.r40, hM.a40, hM.r41, hM.a41, nim1, xa, xb, ya, yb, e1, e2, i2l_i, lg_z, z1, z2, l1, nl_4, lI_mul, pf, lg_l, f2]; done) | omega | (unfold R32 at *; omega)) only [e_132_9, e_132_10, e_132_46, e_132_47, e_132_48, e_132_51, e_132_52, e_132_53, e_132_53_n, e_132_54, e_132_57, e_132_58, e_132_59, e_132_59_n, e_132_60, e_132_63, e_132_64, e_132_65, e_132_66, e_132_67, e_132_69, e_132_69_n, e_132_70, e_132_73, e_132_74, e_132_75, e_132_75_n, e_132_76, e_132_79, e_132_80, e_132_81, e_132_82, e_132_83, e_132_85, e_132_87, e_132_88, e_132_89, e_132_92, e_132_94, e_132_95, e_132_96, e_132_99, e_132_100, e_132_103, e_132_105, e_132_107, e_132_108, e_132_110, e_132_112, e_132_113, e_132_114, e_132_116, e_132_116_n, e_132_117, e_132_118, e_132_119, e_132_123, e_132_126, e_132_128, e_132_129, e_132_130, e_132_133, e_132_134, e_132_137, e_132_138, d_132_120, XB_i, XB_n, va_rf_s, va_rf_n, mSI_K, mSI_I, mSI_J, mSI_P, mSI_N, mSJ_K, mSJ_I, mSJ_J, mSJ_P, mSJ_N, mSP_K, mSP_I, mSP_J, mSP_P, mSP_N, mNn, mNi, mNr, mN0, al20, al21, al22, al23, al25, true_or, or_true, and_self, if_true, if_false, mCat_n, mCat_i, mCat_r, mCat_l, mCat_0, Nat.reduceAdd, Nat.reduceLeDiff, Nat.reduceLT, true_and, and_true, Nat.zero_le, bI_01, bI_0, i10, tf0, iI_add, iI_sub, iI_mul, iI_neg, iI_add1, iI_sub1, iI_m1, nca, nc1, ncm1, iI_clJ, iI_cl0, iI_clN, Int.toNat_natCast, mU_n, mU_s, p_min, p_max, p_abs, ni_2, ni_3, ni_4, ni_7, ni_8, ni_9, ni_12, ni_24, ni_97, ni_100, ni_122, ni_200, ni_256, ni_4096, ni_5000, ni_9999, iI_lt, iI_le, iI_eq, iz_eq, iz_lt, iz_le, iz_gt, iz_ge, iy_eq, iy_lt, iy_le, iI_ltN, iI_leN, iI_eqN, if_pos, if_neg, hM.k, hM.r40, hM.a40, hM.r41, hM.a41, nim1, xa, xb, ya, yb, e1, e2, i2l_i, lg_z, z1, z2, l1, nl_4, lI_mul, pf, lg_l, f2]
          rfl
        | false =>
          rw [hen] at f1
          have f2 : lI (frQ cs a b d) < lI (4 * 1) := by rw [f1]; simp
          simp (maxSteps := 4000000) (disch := first | (simp (disch := omega) only [XB_i, XB_n, va_rf_s, va_rf_n, mSI_K, mSI_I, mSI_J, mSI_P, mSI_N, mSJ_K, mSJ_I, mSJ_J, mSJ_P, mSJ_N, mSP_K, mSP_I, mSP_J, mSP_P, mSP_N, mNn, mNi, mNr, mN0, al20, al21, al22, al23, al25, true_or, or_true, and_self, if_true, if_false, mCat_n, mCat_i, mCat_r, mCat_l, mCat_0, Nat.reduceAdd, Nat.reduceLeDiff, Nat.reduceLT, true_and, and_true, Nat.zero_le, bI_01, mInB_J, mInB_Z, mInB_N, hM.k, hM.r40, hM.a40, hM.r41, hM.a41, nim1, xa, xb, ya, yb, e1, e2, i2l_i, lg_z, z1, z2, l1, nl_4, lI_mul, pf, lg_l, f2]; done) | omega | (unfold R32 at *; omega)) only [e_132_9, e_132_10, e_132_46, e_132_47, e_132_48, e_132_51, e_132_52, e_132_53, e_132_53_n, e_132_54, e_132_57, e_132_58, e_132_59, e_132_59_n, e_132_60, e_132_63, e_132_64, e_132_65, e_132_66, e_132_67, e_132_69, e_132_69_n, e_132_70, e_132_73, e_132_74, e_132_75, e_132_75_n, e_132_76, e_132_79, e_132_80, e_132_81, e_132_82, e_132_83, e_132_85, e_132_87, e_132_88, e_132_89, e_132_92, e_132_94, e_132_95, e_132_96, e_132_99, e_132_100, e_132_103, e_132_105, e_132_107, e_132_108, e_132_110, e_132_112, e_132_113, e_132_114, e_132_116, e_132_116_n, e_132_117, e_132_118, e_132_119, e_132_123, e_132_126, e_132_128, e_132_129, e_132_130, e_132_133, e_132_134, e_132_137, e_132_138, d_132_120, XB_i, XB_n, va_rf_s, va_rf_n, mSI_K, mSI_I, mSI_J, mSI_P, mSI_N, mSJ_K, mSJ_I, mSJ_J, mSJ_P, mSJ_N, mSP_K, mSP_I, mSP_J, mSP_P, mSP_N, mNn, mNi, mNr, mN0, al20, al21, al22, al23, al25, true_or, or_true, and_self, if_true, if_false, mCat_n, mCat_i, mCat_r, mCat_l, mCat_0, Nat.reduceAdd, Nat.reduceLeDiff, Nat.reduceLT, true_and, and_true, Nat.zero_le, bI_01, bI_0, i10, tf0, iI_add, iI_sub, iI_mul, iI_neg, iI_add1, iI_sub1, iI_m1, nca, nc1, ncm1, iI_clJ, iI_cl0, iI_clN, Int.toNat_natCast, mU_n, mU_s, p_min, p_max, p_abs, ni_2, ni_3, ni_4, ni_7, ni_8, ni_9, ni_12, ni_24, ni_97, ni_100, ni_122, ni_200, ni_256, ni_4096, ni_5000, ni_9999, iI_lt, iI_le, iI_eq, iz_eq, iz_lt, iz_le, iz_gt, iz_ge, iy_eq, iy_lt, iy_le, iI_ltN, iI_leN, iI_eqN, if_pos, if_neg, hM.k, hM.r40, hM.a40, hM.r41, hM.a41, nim1, xa, xb, ya, yb, e1, e2, i2l_i, lg_z, z1, z2, l1, nl_4, lI_mul, pf, lg_l, f2]
          rfl
      · have ht : tgB cs a b = false := by unfold tgB; exact decide_eq_false q1
        have w1 : 0 ≤ dxF cs a b * dxF cs a b + dyF cs a b * dyF cs a b ∧ dxF cs a b * dxF cs a b + dyF cs a b * dyF cs a b ≤ 40000000 := by
          have g1 : 0 ≤ dxF cs a b * dxF cs a b := by rw [← nAbs2]; exact Int.mul_nonneg (by omega) (by omega)
          have g2 : 0 ≤ dyF cs a b * dyF cs a b := by rw [← nAbs2]; exact Int.mul_nonneg (by omega) (by omega)
          have g3 : dxF cs a b * dxF cs a b ≤ 4095 * 4095 := by rw [← nAbs2]; exact Int.mul_le_mul (by omega) (by omega) (by omega) (by omega)
          have g4 : dyF cs a b * dyF cs a b ≤ 4095 * 4095 := by rw [← nAbs2]; exact Int.mul_le_mul (by omega) (by omega) (by omega) (by omega)
          omega
        have e4 : enB cs a b v = decide (4 * (dxF cs a b * dxF cs a b + dyF cs a b * dyF cs a b) ≤ frQ cs a b d) := by unfold enB frQ; rw [ht, if_neg (by decide), if_neg (by decide), hv]
        have f1 := fin _ w1.1 w1.2 e4
        unfold finF
        dsimp only
        by_cases q2 : dxF cs a b = 0
        · have q3 : ¬ dyF cs a b = 0 := fun z => q1 ⟨q2, z⟩
          cases hen : enB cs a b v with
          | true =>
            rw [hen] at f1
            have f2 : ¬ lI (frQ cs a b d) < lI (4 * (dxF cs a b * dxF cs a b + dyF cs a b * dyF cs a b)) := by rw [f1]; simp
            simp (maxSteps := 4000000) (disch := first | (simp (disch := omega) only [XB_i, XB_n, va_rf_s, va_rf_n, mSI_K, mSI_I, mSI_J, mSI_P, mSI_N, mSJ_K, mSJ_I, mSJ_J, mSJ_P, mSJ_N, mSP_K, mSP_I, mSP_J, mSP_P, mSP_N, mNn, mNi, mNr, mN0, al20, al21, al22, al23, al25, true_or, or_true, and_self, if_true, if_false, mCat_n, mCat_i, mCat_r, mCat_l, mCat_0, Nat.reduceAdd, Nat.reduceLeDiff, Nat.reduceLT, true_and, and_true, Nat.zero_le, bI_01, mInB_J, mInB_Z, mInB_N, hM.k, hM.r40, hM.a40, hM.r41, hM.a41, nim1, xa, xb, ya, yb, e1, e2, i2l_i, lg_z, z1, z2, nl_4, lI_mul, lI_add, pf, lg_l, f2]; done) | omega | (unfold R32 at *; omega)) only [e_132_9, e_132_10, e_132_46, e_132_47, e_132_48, e_132_51, e_132_52, e_132_53, e_132_53_n, e_132_54, e_132_57, e_132_58, e_132_59, e_132_59_n, e_132_60, e_132_63, e_132_64, e_132_65, e_132_66, e_132_67, e_132_69, e_132_69_n, e_132_70, e_132_73, e_132_74, e_132_75, e_132_75_n, e_132_76, e_132_79, e_132_80, e_132_81, e_132_82, e_132_83, e_132_85, e_132_87, e_132_88, e_132_89, e_132_92, e_132_94, e_132_95, e_132_96, e_132_99, e_132_100, e_132_103, e_132_105, e_132_107, e_132_108, e_132_110, e_132_112, e_132_113, e_132_114, e_132_116, e_132_116_n, e_132_117, e_132_118, e_132_119, e_132_123, e_132_126, e_132_128, e_132_129, e_132_130, e_132_133, e_132_134, e_132_137, e_132_138, d_132_120, XB_i, XB_n, va_rf_s, va_rf_n, mSI_K, mSI_I, mSI_J, mSI_P, mSI_N, mSJ_K, mSJ_I, mSJ_J, mSJ_P, mSJ_N, mSP_K, mSP_I, mSP_J, mSP_P, mSP_N, mNn, mNi, mNr, mN0, al20, al21, al22, al23, al25, true_or, or_true, and_self, if_true, if_false, mCat_n, mCat_i, mCat_r, mCat_l, mCat_0, Nat.reduceAdd, Nat.reduceLeDiff, Nat.reduceLT, true_and, and_true, Nat.zero_le, bI_01, bI_0, i10, tf0, iI_add, iI_sub, iI_mul, iI_neg, iI_add1, iI_sub1, iI_m1, nca, nc1, ncm1, iI_clJ, iI_cl0, iI_clN, Int.toNat_natCast, mU_n, mU_s, p_min, p_max, p_abs, ni_2, ni_3, ni_4, ni_7, ni_8, ni_9, ni_12, ni_24, ni_97, ni_100, ni_122, ni_200, ni_256, ni_4096, ni_5000, ni_9999, iI_lt, iI_le, iI_eq, iz_eq, iz_lt, iz_le, iz_gt, iz_ge, iy_eq, iy_lt, iy_le, iI_ltN, iI_leN, iI_eqN, if_pos, if_neg, hM.k, hM.r40, hM.a40, hM.r41, hM.a41, nim1, xa, xb, ya, yb, e1, e2, i2l_i, lg_z, z1, z2, nl_4, lI_mul, lI_add, pf, lg_l, f2]
            rfl
          | false =>
            rw [hen] at f1
            have f2 : lI (frQ cs a b d) < lI (4 * (dxF cs a b * dxF cs a b + dyF cs a b * dyF cs a b)) := by rw [f1]; simp
            simp (maxSteps := 4000000) (disch := first | (simp (disch := omega) only [XB_i, XB_n, va_rf_s, va_rf_n, mSI_K, mSI_I, mSI_J, mSI_P, mSI_N, mSJ_K, mSJ_I, mSJ_J, mSJ_P, mSJ_N, mSP_K, mSP_I, mSP_J, mSP_P, mSP_N, mNn, mNi, mNr, mN0, al20, al21, al22, al23, al25, true_or, or_true, and_self, if_true, if_false, mCat_n, mCat_i, mCat_r, mCat_l, mCat_0, Nat.reduceAdd, Nat.reduceLeDiff, Nat.reduceLT, true_and, and_true, Nat.zero_le, bI_01, mInB_J, mInB_Z, mInB_N, hM.k, hM.r40, hM.a40, hM.r41, hM.a41, nim1, xa, xb, ya, yb, e1, e2, i2l_i, lg_z, z1, z2, nl_4, lI_mul, lI_add, pf, lg_l, f2]; done) | omega | (unfold R32 at *; omega)) only [e_132_9, e_132_10, e_132_46, e_132_47, e_132_48, e_132_51, e_132_52, e_132_53, e_132_53_n, e_132_54, e_132_57, e_132_58, e_132_59, e_132_59_n, e_132_60, e_132_63, e_132_64, e_132_65, e_132_66, e_132_67, e_132_69, e_132_69_n, e_132_70, e_132_73, e_132_74, e_132_75, e_132_75_n, e_132_76, e_132_79, e_132_80, e_132_81, e_132_82, e_132_83, e_132_85, e_132_87, e_132_88, e_132_89, e_132_92, e_132_94, e_132_95, e_132_96, e_132_99, e_132_100, e_132_103, e_132_105, e_132_107, e_132_108, e_132_110, e_132_112, e_132_113, e_132_114, e_132_116, e_132_116_n, e_132_117, e_132_118, e_132_119, e_132_123, e_132_126, e_132_128, e_132_129, e_132_130, e_132_133, e_132_134, e_132_137, e_132_138, d_132_120, XB_i, XB_n, va_rf_s, va_rf_n, mSI_K, mSI_I, mSI_J, mSI_P, mSI_N, mSJ_K, mSJ_I, mSJ_J, mSJ_P, mSJ_N, mSP_K, mSP_I, mSP_J, mSP_P, mSP_N, mNn, mNi, mNr, mN0, al20, al21, al22, al23, al25, true_or, or_true, and_self, if_true, if_false, mCat_n, mCat_i, mCat_r, mCat_l, mCat_0, Nat.reduceAdd, Nat.reduceLeDiff, Nat.reduceLT, true_and, and_true, Nat.zero_le, bI_01, bI_0, i10, tf0, iI_add, iI_sub, iI_mul, iI_neg, iI_add1, iI_sub1, iI_m1, nca, nc1, ncm1, iI_clJ, iI_cl0, iI_clN, Int.toNat_natCast, mU_n, mU_s, p_min, p_max, p_abs, ni_2, ni_3, ni_4, ni_7, ni_8, ni_9, ni_12, ni_24, ni_97, ni_100, ni_122, ni_200, ni_256, ni_4096, ni_5000, ni_9999, iI_lt, iI_le, iI_eq, iz_eq, iz_lt, iz_le, iz_gt, iz_ge, iy_eq, iy_lt, iy_le, iI_ltN, iI_leN, iI_eqN, if_pos, if_neg, hM.k, hM.r40, hM.a40, hM.r41, hM.a41, nim1, xa, xb, ya, yb, e1, e2, i2l_i, lg_z, z1, z2, nl_4, lI_mul, lI_add, pf, lg_l, f2]
            rfl
        · cases hen : enB cs a b v with
          | true =>
            rw [hen] at f1
            have f2 : ¬ lI (frQ cs a b d) < lI (4 * (dxF cs a b * dxF cs a b + dyF cs a b * dyF cs a b)) := by rw [f1]; simp
            simp (maxSteps := 4000000) (disch := first | (simp (disch := omega) only [XB_i, XB_n, va_rf_s, va_rf_n, mSI_K, mSI_I, mSI_J, mSI_P, mSI_N, mSJ_K, mSJ_I, mSJ_J, mSJ_P, mSJ_N, mSP_K, mSP_I, mSP_J, mSP_P, mSP_N, mNn, mNi, mNr, mN0, al20, al21, al22, al23, al25, true_or, or_true, and_self, if_true, if_false, mCat_n, mCat_i, mCat_r, mCat_l, mCat_0, Nat.reduceAdd, Nat.reduceLeDiff, Nat.reduceLT, true_and, and_true, Nat.zero_le, bI_01, mInB_J, mInB_Z, mInB_N, hM.k, hM.r40, hM.a40, hM.r41, hM.a41, nim1, xa, xb, ya, yb, e1, e2, i2l_i, lg_z, z1, z2, nl_4, lI_mul, lI_add, pf, lg_l, f2]; done) | omega | (unfold R32 at *; omega)) only [e_132_9, e_132_10, e_132_46, e_132_47, e_132_48, e_132_51, e_132_52, e_132_53, e_132_53_n, e_132_54, e_132_57, e_132_58, e_132_59, e_132_59_n, e_132_60, e_132_63, e_132_64, e_132_65, e_132_66, e_132_67, e_132_69, e_132_69_n, e_132_70, e_132_73, e_132_74, e_132_75, e_132_75_n, e_132_76, e_132_79, e_132_80, e_132_81, e_132_82, e_132_83, e_132_85, e_132_87, e_132_88, e_132_89, e_132_92, e_132_94, e_132_95, e_132_96, e_132_99, e_132_100, e_132_103, e_132_105, e_132_107, e_132_108, e_132_110, e_132_112, e_132_113, e_132_114, e_132_116, e_132_116_n, e_132_117, e_132_118, e_132_119, e_132_123, e_132_126, e_132_128, e_132_129, e_132_130, e_132_133, e_132_134, e_132_137, e_132_138, d_132_120, XB_i, XB_n, va_rf_s, va_rf_n, mSI_K, mSI_I, mSI_J, mSI_P, mSI_N, mSJ_K, mSJ_I, mSJ_J, mSJ_P, mSJ_N, mSP_K, mSP_I, mSP_J, mSP_P, mSP_N, mNn, mNi, mNr, mN0, al20, al21, al22, al23, al25, true_or, or_true, and_self, if_true, if_false, mCat_n, mCat_i, mCat_r, mCat_l, mCat_0, Nat.reduceAdd, Nat.reduceLeDiff, Nat.reduceLT, true_and, and_true, Nat.zero_le, bI_01, bI_0, i10, tf0, iI_add, iI_sub, iI_mul, iI_neg, iI_add1, iI_sub1, iI_m1, nca, nc1, ncm1, iI_clJ, iI_cl0, iI_clN, Int.toNat_natCast, mU_n, mU_s, p_min, p_max, p_abs, ni_2, ni_3, ni_4, ni_7, ni_8, ni_9, ni_12, ni_24, ni_97, ni_100, ni_122, ni_200, ni_256, ni_4096, ni_5000, ni_9999, iI_lt, iI_le, iI_eq, iz_eq, iz_lt, iz_le, iz_gt, iz_ge, iy_eq, iy_lt, iy_le, iI_ltN, iI_leN, iI_eqN, if_pos, if_neg, hM.k, hM.r40, hM.a40, hM.r41, hM.a41, nim1, xa, xb, ya, yb, e1, e2, i2l_i, lg_z, z1, z2, nl_4, lI_mul, lI_add, pf, lg_l, f2]
            rfl
          | false =>
            rw [hen] at f1
            have f2 : lI (frQ cs a b d) < lI (4 * (dxF cs a b * dxF cs a b + dyF cs a b * dyF cs a b)) := by rw [f1]; simp
            simp (maxSteps := 4000000) (disch := first | (simp (disch := omega) only [XB_i, XB_n, va_rf_s, va_rf_n, mSI_K, mSI_I, mSI_J, mSI_P, mSI_N, mSJ_K, mSJ_I, mSJ_J, mSJ_P, mSJ_N, mSP_K, mSP_I, mSP_J, mSP_P, mSP_N, mNn, mNi, mNr, mN0, al20, al21, al22, al23, al25, true_or, or_true, and_self, if_true, if_false, mCat_n, mCat_i, mCat_r, mCat_l, mCat_0, Nat.reduceAdd, Nat.reduceLeDiff, Nat.reduceLT, true_and, and_true, Nat.zero_le, bI_01, mInB_J, mInB_Z, mInB_N, hM.k, hM.r40, hM.a40, hM.r41, hM.a41, nim1, xa, xb, ya, yb, e1, e2, i2l_i, lg_z, z1, z2, nl_4, lI_mul, lI_add, pf, lg_l, f2]; done) | omega | (unfold R32 at *; omega)) only [e_132_9, e_132_10, e_132_46, e_132_47, e_132_48, e_132_51, e_132_52, e_132_53, e_132_53_n, e_132_54, e_132_57, e_132_58, e_132_59, e_132_59_n, e_132_60, e_132_63, e_132_64, e_132_65, e_132_66, e_132_67, e_132_69, e_132_69_n, e_132_70, e_132_73, e_132_74, e_132_75, e_132_75_n, e_132_76, e_132_79, e_132_80, e_132_81, e_132_82, e_132_83, e_132_85, e_132_87, e_132_88, e_132_89, e_132_92, e_132_94, e_132_95, e_132_96, e_132_99, e_132_100, e_132_103, e_132_105, e_132_107, e_132_108, e_132_110, e_132_112, e_132_113, e_132_114, e_132_116, e_132_116_n, e_132_117, e_132_118, e_132_119, e_132_123, e_132_126, e_132_128, e_132_129, e_132_130, e_132_133, e_132_134, e_132_137, e_132_138, d_132_120, XB_i, XB_n, va_rf_s, va_rf_n, mSI_K, mSI_I, mSI_J, mSI_P, mSI_N, mSJ_K, mSJ_I, mSJ_J, mSJ_P, mSJ_N, mSP_K, mSP_I, mSP_J, mSP_P, mSP_N, mNn, mNi, mNr, mN0, al20, al21, al22, al23, al25, true_or, or_true, and_self, if_true, if_false, mCat_n, mCat_i, mCat_r, mCat_l, mCat_0, Nat.reduceAdd, Nat.reduceLeDiff, Nat.reduceLT, true_and, and_true, Nat.zero_le, bI_01, bI_0, i10, tf0, iI_add, iI_sub, iI_mul, iI_neg, iI_add1, iI_sub1, iI_m1, nca, nc1, ncm1, iI_clJ, iI_cl0, iI_clN, Int.toNat_natCast, mU_n, mU_s, p_min, p_max, p_abs, ni_2, ni_3, ni_4, ni_7, ni_8, ni_9, ni_12, ni_24, ni_97, ni_100, ni_122, ni_200, ni_256, ni_4096, ni_5000, ni_9999, iI_lt, iI_le, iI_eq, iz_eq, iz_lt, iz_le, iz_gt, iz_ge, iy_eq, iy_lt, iy_le, iI_ltN, iI_leN, iI_eqN, if_pos, if_neg, hM.k, hM.r40, hM.a40, hM.r41, hM.a41, nim1, xa, xb, ya, yb, e1, e2, i2l_i, lg_z, z1, z2, nl_4, lI_mul, lI_add, pf, lg_l, f2]
            rfl
  | succ k ih =>
    intro c s hk hc hac h1 h2
    obtain ⟨o, v⟩ := s
    have fB := frQ_B hB a b c
    have nB := frn_B hB a b c
    have pf := fun Q => @m_farness T Q m cs a b c hM hC hB (by omega) (by omega) (by omega) hl
    have i1 := ih (c + 1) (some c, frn cs a b c) (by omega) (by omega) (by omega) (fun z => absurd z (by simp)) (fun d hd => by cases hd; exact ⟨rfl, by omega⟩)
    have i2 := ih (c + 1) (o, v) (by omega) (by omega) (by omega) h1 h2
    rw [e_132_7]
    unfold amx
    cases o with
    | none =>
      have hv : v = -1 := h1 rfl
      subst hv
      dsimp only at i1 ⊢
      rw [if_pos (by omega), ← i1]
      show XW _ _ [some (.ref (m)), some (.int (iI ((a : Nat) : Int))), some (.int (iI ((b : Nat) : Int))), some (.int (iI (-1))), some (.int (iI ((c : Nat) : Int))), none, none, none, none, none] _ _ _ = XW _ _ [some (.ref (m)), some (.int (iI ((a : Nat) : Int))), some (.int (iI ((b : Nat) : Int))), some (.int (iI ((c : Nat) : Int))), some (.int (iI ((c + 1 : Nat) : Int))), none, none, none, none, none] _ _ _
      simp (maxSteps := 4000000) (disch := first | (simp (disch := omega) only [XB_i, XB_n, va_rf_s, va_rf_n, mSI_K, mSI_I, mSI_J, mSI_P, mSI_N, mSJ_K, mSJ_I, mSJ_J, mSJ_P, mSJ_N, mSP_K, mSP_I, mSP_J, mSP_P, mSP_N, mNn, mNi, mNr, mN0, al20, al21, al22, al23, al25, true_or, or_true, and_self, if_true, if_false, mCat_n, mCat_i, mCat_r, mCat_l, mCat_0, Nat.reduceAdd, Nat.reduceLeDiff, Nat.reduceLT, true_and, and_true, Nat.zero_le, bI_01, mInB_J, mInB_Z, mInB_N, nim1]; done) | omega | (unfold R32 at *; omega)) only [e_132_9, e_132_10, e_132_13, e_132_14, e_132_15, e_132_18, e_132_18_n, e_132_19, e_132_20, e_132_21, e_132_26, e_132_26_n, e_132_27, e_132_28, e_132_29, e_132_33, e_132_34, e_132_37, e_132_39, e_132_40, e_132_43, XB_i, XB_n, va_rf_s, va_rf_n, mSI_K, mSI_I, mSI_J, mSI_P, mSI_N, mSJ_K, mSJ_I, mSJ_J, mSJ_P, mSJ_N, mSP_K, mSP_I, mSP_J, mSP_P, mSP_N, mNn, mNi, mNr, mN0, al20, al21, al22, al23, al25, true_or, or_true, and_self, if_true, if_false, mCat_n, mCat_i, mCat_r, mCat_l, mCat_0, Nat.reduceAdd, Nat.reduceLeDiff, Nat.reduceLT, true_and, and_true, Nat.zero_le, bI_01, bI_0, i10, tf0, iI_add, iI_sub, iI_mul, iI_neg, iI_add1, iI_sub1, iI_m1, nca, nc1, ncm1, iI_clJ, iI_cl0, iI_clN, Int.toNat_natCast, mU_n, mU_s, p_min, p_max, p_abs, ni_2, ni_3, ni_4, ni_7, ni_8, ni_9, ni_12, ni_24, ni_97, ni_100, ni_122, ni_200, ni_256, ni_4096, ni_5000, ni_9999, iI_lt, iI_le, iI_eq, iz_eq, iz_lt, iz_le, iz_gt, iz_ge, iy_eq, iy_lt, iy_le, iI_ltN, iI_leN, iI_eqN, if_pos, if_neg, nim1]
    | some d =>
      obtain ⟨hv, hd⟩ := h2 d rfl
      dsimp only at hv i1 i2 ⊢
      have gB := frQ_B hB a b d
      have pd := fun Q => @m_farness T Q m cs a b d hM hC hB (by omega) (by omega) (by omega) hl
      have el := @lI_le (frQ cs a b c) (frQ cs a b d) (by unfold R64; omega) (by unfold R64; omega)
      have ql := frQ_lt hB a b d c
      rw [hv]
      by_cases q : frn cs a b d < frn cs a b c
      · rw [if_pos q, ← i1]
        have q' := ql.mpr q
        show XW _ _ [some (.ref (m)), some (.int (iI ((a : Nat) : Int))), some (.int (iI ((b : Nat) : Int))), some (.int (iI ((d : Nat) : Int))), some (.int (iI ((c : Nat) : Int))), none, none, none, none, none] _ _ _ = XW _ _ [some (.ref (m)), some (.int (iI ((a : Nat) : Int))), some (.int (iI ((b : Nat) : Int))), some (.int (iI ((c : Nat) : Int))), some (.int (iI ((c + 1 : Nat) : Int))), none, none, none, none, none] _ _ _
        simp (maxSteps := 4000000) (disch := first | (simp (disch := omega) only [XB_i, XB_n, va_rf_s, va_rf_n, mSI_K, mSI_I, mSI_J, mSI_P, mSI_N, mSJ_K, mSJ_I, mSJ_J, mSJ_P, mSJ_N, mSP_K, mSP_I, mSP_J, mSP_P, mSP_N, mNn, mNi, mNr, mN0, al20, al21, al22, al23, al25, true_or, or_true, and_self, if_true, if_false, mCat_n, mCat_i, mCat_r, mCat_l, mCat_0, Nat.reduceAdd, Nat.reduceLeDiff, Nat.reduceLT, true_and, and_true, Nat.zero_le, bI_01, mInB_J, mInB_Z, mInB_N, hM.k, nim1, pf, pd, lg_le, el]; done) | omega | (unfold R32 at *; omega)) only [e_132_9, e_132_10, e_132_13, e_132_14, e_132_15, e_132_18, e_132_18_n, e_132_19, e_132_20, e_132_21, e_132_26, e_132_26_n, e_132_27, e_132_28, e_132_29, e_132_33, e_132_34, e_132_37, e_132_39, e_132_40, e_132_43, d_132_23, d_132_30, XB_i, XB_n, va_rf_s, va_rf_n, mSI_K, mSI_I, mSI_J, mSI_P, mSI_N, mSJ_K, mSJ_I, mSJ_J, mSJ_P, mSJ_N, mSP_K, mSP_I, mSP_J, mSP_P, mSP_N, mNn, mNi, mNr, mN0, al20, al21, al22, al23, al25, true_or, or_true, and_self, if_true, if_false, mCat_n, mCat_i, mCat_r, mCat_l, mCat_0, Nat.reduceAdd, Nat.reduceLeDiff, Nat.reduceLT, true_and, and_true, Nat.zero_le, bI_01, bI_0, i10, tf0, iI_add, iI_sub, iI_mul, iI_neg, iI_add1, iI_sub1, iI_m1, nca, nc1, ncm1, iI_clJ, iI_cl0, iI_clN, Int.toNat_natCast, mU_n, mU_s, p_min, p_max, p_abs, ni_2, ni_3, ni_4, ni_7, ni_8, ni_9, ni_12, ni_24, ni_97, ni_100, ni_122, ni_200, ni_256, ni_4096, ni_5000, ni_9999, iI_lt, iI_le, iI_eq, iz_eq, iz_lt, iz_le, iz_gt, iz_ge, iy_eq, iy_lt, iy_le, iI_ltN, iI_leN, iI_eqN, if_pos, if_neg, hM.k, nim1, pf, pd, lg_le, el]
      · rw [if_neg q, ← hv, ← i2]
        have q' : ¬ frQ cs a b d < frQ cs a b c := fun z => q (ql.mp z)
        show XW _ _ [some (.ref (m)), some (.int (iI ((a : Nat) : Int))), some (.int (iI ((b : Nat) : Int))), some (.int (iI ((d : Nat) : Int))), some (.int (iI ((c : Nat) : Int))), none, none, none, none, none] _ _ _ = XW _ _ [some (.ref (m)), some (.int (iI ((a : Nat) : Int))), some (.int (iI ((b : Nat) : Int))), some (.int (iI ((d : Nat) : Int))), some (.int (iI ((c + 1 : Nat) : Int))), none, none, none, none, none] _ _ _
        simp (maxSteps := 4000000) (disch := first | (simp (disch := omega) only [XB_i, XB_n, va_rf_s, va_rf_n, mSI_K, mSI_I, mSI_J, mSI_P, mSI_N, mSJ_K, mSJ_I, mSJ_J, mSJ_P, mSJ_N, mSP_K, mSP_I, mSP_J, mSP_P, mSP_N, mNn, mNi, mNr, mN0, al20, al21, al22, al23, al25, true_or, or_true, and_self, if_true, if_false, mCat_n, mCat_i, mCat_r, mCat_l, mCat_0, Nat.reduceAdd, Nat.reduceLeDiff, Nat.reduceLT, true_and, and_true, Nat.zero_le, bI_01, mInB_J, mInB_Z, mInB_N, hM.k, nim1, pf, pd, lg_le, el]; done) | omega | (unfold R32 at *; omega)) only [e_132_9, e_132_10, e_132_13, e_132_14, e_132_15, e_132_18, e_132_18_n, e_132_19, e_132_20, e_132_21, e_132_26, e_132_26_n, e_132_27, e_132_28, e_132_29, e_132_33, e_132_34, e_132_37, e_132_39, e_132_40, e_132_43, d_132_23, d_132_30, XB_i, XB_n, va_rf_s, va_rf_n, mSI_K, mSI_I, mSI_J, mSI_P, mSI_N, mSJ_K, mSJ_I, mSJ_J, mSJ_P, mSJ_N, mSP_K, mSP_I, mSP_J, mSP_P, mSP_N, mNn, mNi, mNr, mN0, al20, al21, al22, al23, al25, true_or, or_true, and_self, if_true, if_false, mCat_n, mCat_i, mCat_r, mCat_l, mCat_0, Nat.reduceAdd, Nat.reduceLeDiff, Nat.reduceLT, true_and, and_true, Nat.zero_le, bI_01, bI_0, i10, tf0, iI_add, iI_sub, iI_mul, iI_neg, iI_add1, iI_sub1, iI_m1, nca, nc1, ncm1, iI_clJ, iI_cl0, iI_clN, Int.toNat_natCast, mU_n, mU_s, p_min, p_max, p_abs, ni_2, ni_3, ni_4, ni_7, ni_8, ni_9, ni_12, ni_24, ni_97, ni_100, ni_122, ni_200, ni_256, ni_4096, ni_5000, ni_9999, iI_lt, iI_le, iI_eq, iz_eq, iz_lt, iz_le, iz_gt, iz_ge, iy_eq, iy_lt, iy_le, iI_ltN, iI_leN, iI_eqN, if_pos, if_neg, hM.k, nim1, pf, pd, lg_le, el]
theorem m_far {a b : Nat} (hM : ModK T m) (hC : CwR T m cs) (hB : wB cs) (hab : a < b) (hb : b < cs.length) (hl : cs.length ≤ 400) : XW 132 0 [some (.ref (m)), some (.int (iI ((a : Nat) : Int))), some (.int (iI ((b : Nat) : Int))), none, none, none, none, none, none, none] [] T Q = Q (.inl (some (.int (iI (oN (farC cs a b)))))) T := by
  simp (maxSteps := 4000000) (disch := first | (simp (disch := omega) only [XB_i, XB_n, va_rf_s, va_rf_n, mSI_K, mSI_I, mSI_J, mSI_P, mSI_N, mSJ_K, mSJ_I, mSJ_J, mSJ_P, mSJ_N, mSP_K, mSP_I, mSP_J, mSP_P, mSP_N, mNn, mNi, mNr, mN0, al20, al21, al22, al23, al25, true_or, or_true, and_self, if_true, if_false, mCat_n, mCat_i, mCat_r, mCat_l, mCat_0, Nat.reduceAdd, Nat.reduceLeDiff, Nat.reduceLT, true_and, and_true, Nat.zero_le, bI_01, mInB_J, mInB_Z, mInB_N]; done) | omega | (unfold R32 at *; omega)) only [e_132_0, e_132_1, e_132_2, e_132_3, e_132_4, e_132_5, XB_i, XB_n, va_rf_s, va_rf_n, mSI_K, mSI_I, mSI_J, mSI_P, mSI_N, mSJ_K, mSJ_I, mSJ_J, mSJ_P, mSJ_N, mSP_K, mSP_I, mSP_J, mSP_P, mSP_N, mNn, mNi, mNr, mN0, al20, al21, al22, al23, al25, true_or, or_true, and_self, if_true, if_false, mCat_n, mCat_i, mCat_r, mCat_l, mCat_0, Nat.reduceAdd, Nat.reduceLeDiff, Nat.reduceLT, true_and, and_true, Nat.zero_le, bI_01, bI_0, i10, tf0, iI_add, iI_sub, iI_mul, iI_neg, iI_add1, iI_sub1, iI_m1, nca, nc1, ncm1, iI_clJ, iI_cl0, iI_clN, Int.toNat_natCast, mU_n, mU_s, p_min, p_max, p_abs, ni_2, ni_3, ni_4, ni_7, ni_8, ni_9, ni_12, ni_24, ni_97, ni_100, ni_122, ni_200, ni_256, ni_4096, ni_5000, ni_9999, iI_lt, iI_le, iI_eq, iz_eq, iz_lt, iz_le, iz_gt, iz_ge, iy_eq, iy_lt, iy_le, iI_ltN, iI_leN, iI_eqN, if_pos, if_neg]
  exact lm_far hM hC hB hab hb hl (b - a - 1) (a + 1) (none, -1) (by omega) (by omega) (by omega) (fun _ => rfl) (fun d hd => absurd hd (by simp))
end MF
