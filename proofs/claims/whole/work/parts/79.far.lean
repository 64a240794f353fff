/-! TileMaker: the farthest corner -/
def dC : Cn := (0, 0, false)
def pX (cs : List Cn) (i : Nat) : Int := (cs.getD i dC).1
def pY (cs : List Cn) (i : Nat) : Int := (cs.getD i dC).2.1
def pG (cs : List Cn) (i : Nat) : Bool := (cs.getD i dC).2.2
theorem getD_some {cs : List Cn} {j : Nat} (h : j < cs.length) : cs[j]? = some (cs.getD j dC) := by
  rw [List.getD_eq_getElem?_getD, List.getElem?_eq_getElem h]
  rfl
theorem PathR.x {T : mT} {p r j : Nat} {cs : List Cn} (h : PathR T p r cs) (hj : j < cs.length) : T.2.1 (p + 1) j = iI (pX cs j) := (h.2.2.2 j _ (getD_some hj)).1
theorem PathR.y {T : mT} {p r j : Nat} {cs : List Cn} (h : PathR T p r cs) (hj : j < cs.length) : T.2.1 (p + 2) j = iI (pY cs j) := (h.2.2.2 j _ (getD_some hj)).2.1
theorem PathR.g {T : mT} {p r j : Nat} {cs : List Cn} (h : PathR T p r cs) (hj : j < cs.length) : T.2.1 (p + 3) j = bI (pG cs j) := (h.2.2.2 j _ (getD_some hj)).2.2
/-- as in a zoom's steps -/
def wB (cs : List Cn) : Prop := ∀ j, (0 ≤ pX cs j ∧ pX cs j ≤ 4095) ∧ (0 ≤ pY cs j ∧ pY cs j ≤ 4095)
def dxF (cs : List Cn) (a b : Nat) : Int := pX cs b - pX cs a
def dyF (cs : List Cn) (a b : Nat) : Int := pY cs b - pY cs a
def tgB (cs : List Cn) (a b : Nat) : Bool := decide (dxF cs a b = 0 ∧ dyF cs a b = 0)
def frn (cs : List Cn) (a b c : Nat) : Int := if tgB cs a b then dxF cs a c * dxF cs a c + dyF cs a c * dyF cs a c else ((dxF cs a b * dyF cs a c - dyF cs a b * dxF cs a c).natAbs : Int)
/-- the first greatest -/
def amx (f : Nat → Int) : Nat → Nat → Option Nat × Int → Option Nat × Int
  | 0, _, s => s
  | m + 1, i, s => amx f m (i + 1) (if s.2 < f i then (some i, f i) else s)
def enB (cs : List Cn) (a b : Nat) (m : Int) : Bool := if tgB cs a b then decide (4 ≤ m) else decide (4 * (dxF cs a b * dxF cs a b + dyF cs a b * dyF cs a b) ≤ m * m)
def finF (cs : List Cn) (a b : Nat) (s : Option Nat × Int) : Option Nat := if enB cs a b s.2 then s.1 else none
def farC (cs : List Cn) (a b : Nat) : Option Nat := finF cs a b (amx (frn cs a b) (b - a - 1) (a + 1) (none, -1))
def oN (o : Option Nat) : Int := match o with
  | some c => c
  | none => -1
theorem nl_4 : (4 : Int64) = lI 4 := rfl
theorem frn_B {cs : List Cn} (h : wB cs) (a b c : Nat) : 0 ≤ frn cs a b c ∧ frn cs a b c ≤ 40000000 := by
  have ha := h a
  have hb := h b
  have hc := h c
  unfold frn
  split
  · have h1 := mulB (x := dxF cs a c) (y := dxF cs a c) (b := 4095) (by unfold dxF; omega) (by unfold dxF; omega)
    have h2 := mulB (x := dyF cs a c) (y := dyF cs a c) (b := 4095) (by unfold dyF; omega) (by unfold dyF; omega)
    have h3 : 0 ≤ dxF cs a c * dxF cs a c := by rcases Int.le_total 0 (dxF cs a c) with q | q; exact Int.mul_nonneg q q; exact Int.mul_nonneg_of_nonpos_of_nonpos q q
    have h4 : 0 ≤ dyF cs a c * dyF cs a c := by rcases Int.le_total 0 (dyF cs a c) with q | q; exact Int.mul_nonneg q q; exact Int.mul_nonneg_of_nonpos_of_nonpos q q
    omega
  · have := (prB (a := dxF cs a b) (b := dyF cs a c) (c := dyF cs a b) (d := dxF cs a c) (by unfold dxF; omega) (by unfold dyF; omega) (by unfold dyF; omega) (by unfold dxF; omega)).1
    omega
section FA
variable {T : mT} {Q : mOut → mT → Prop} {p r a b : Nat} {cs : List Cn}
theorem l_far (hp : PathR T p r cs) (hB : wB cs) (ha : a < b) (hb : b < cs.length) : ∀ (m i : Nat) (s : Option Nat × Int) (l10 l11 l12 : Option Value), b - i = m → i ≤ b → -1 ≤ s.2 ∧ s.2 ≤ 40000000 → XW 87 58 [some (.ref (p)), some (.int (iI ((a : Nat) : Int))), some (.int (iI ((b : Nat) : Int))), some (.int (iI (dxF cs a b))), some (.int (iI (dyF cs a b))), some (.int (bI (tgB cs a b))), some (.int (iI (oN s.1))), some (.long (lI s.2)), none, some (.int (iI ((i : Nat) : Int))), l10, l11, l12] [] T Q = Q (.inl (some (.int (iI (oN (finF cs a b (amx (frn cs a b) m i s))))))) T := by
  intro m
  obtain ⟨⟨h1, h2, h3, h4, h5, h6, h7, h8⟩, g1, g2, g3⟩ := id hp
  have px := fun j hj => @PathR.x T p r j cs hp hj
  have py := fun j hj => @PathR.y T p r j cs hp hj
  have ba := hB a
  have bb := hB b
  have dB1 : -4095 ≤ dxF cs a b ∧ dxF cs a b ≤ 4095 := by unfold dxF; omega
  have dB2 : -4095 ≤ dyF cs a b ∧ dyF cs a b ≤ 4095 := by unfold dyF; omega
  induction m with
  | zero =>
    intro i s l10 l11 l12 hm hi hs
    rw [e_87_58]
    show _ = Q (.inl (some (.int (iI (oN (finF cs a b s)))))) T
    have ls := @lI_lt s.2 4 (by unfold R64; omega) (by unfold R64; omega)
    have mm := mulB2 (x := s.2) (y := s.2) (a := 40000000) (b := 40000000) (by omega) (by omega) (by omega) (by omega)
    have m1 := mulB dB1 dB1
    have m2 := mulB dB2 dB2
    have lq := @lI_lt (s.2 * s.2) (4 * (dxF cs a b * dxF cs a b + dyF cs a b * dyF cs a b)) (by unfold R64; omega) (by unfold R64; omega)
    have rr : R32 (dxF cs a b * dxF cs a b + dyF cs a b * dyF cs a b) := by unfold R32; omega
    unfold finF enB
    cases tgB cs a b with
    | true =>
      simp (maxSteps := 4000000) (disch := first | (simp (disch := omega) only [XB_i, XB_n, va_rf_s, va_rf_n, mSI_K, mSI_I, mSI_J, mSI_P, mSI_N, mSJ_K, mSJ_I, mSJ_J, mSJ_P, mSJ_N, mSP_K, mSP_I, mSP_J, mSP_P, mSP_N, mNn, mNi, mNr, mN0, al20, al21, al22, al23, al25, true_or, or_true, and_self, if_true, if_false, mCat_n, mCat_i, mCat_r, mCat_l, mCat_0, Nat.reduceAdd, Nat.reduceLeDiff, Nat.reduceLT, true_and, and_true, Nat.zero_le, bI_01, mInB_J, mInB_Z, mInB_N, bI_t, lg_l, nl_4, ls]; done) | omega | (unfold R32 at *; omega)) only [e_87_0, e_87_0_n, e_87_1, e_87_4, e_87_5, e_87_6, e_87_6_n, e_87_7, e_87_10, e_87_11, e_87_12, e_87_13, e_87_14, e_87_14_n, e_87_15, e_87_18, e_87_19, e_87_20, e_87_20_n, e_87_21, e_87_24, e_87_25, e_87_26, e_87_27, e_87_29, e_87_30, e_87_33, e_87_35, e_87_38, e_87_39, e_87_42, e_87_43, e_87_45, e_87_46, e_87_48, e_87_51, e_87_53, e_87_54, e_87_55, e_87_56, e_87_60, e_87_61, e_87_64, e_87_64_n, e_87_65, e_87_68, e_87_70, e_87_71, e_87_71_n, e_87_72, e_87_75, e_87_76, e_87_77, e_87_78, e_87_80, e_87_80_n, e_87_81, e_87_84, e_87_86, e_87_87, e_87_87_n, e_87_88, e_87_91, e_87_92, e_87_93, e_87_94, e_87_96, e_87_98, e_87_101, e_87_103, e_87_105, e_87_106, e_87_108, e_87_110, e_87_111, e_87_112, e_87_115, e_87_116, e_87_118, e_87_119, e_87_121, e_87_123, e_87_124, e_87_128, e_87_130, e_87_132, e_87_133, e_87_135, e_87_136, e_87_139, e_87_141, e_87_142, e_87_144, e_87_146, e_87_148, e_87_151, e_87_154, e_87_156, e_87_159, e_87_161, e_87_164, e_87_165, e_87_168, e_87_169, e_87_172, e_87_173, e_87_176, e_87_178, e_87_180, e_87_181, e_87_184, e_87_185, e_87_186, e_87_187, e_87_189, e_87_191, e_87_192, e_87_193, e_87_194, e_87_195, e_87_196, e_87_199, e_87_200, e_87_203, e_87_204, e_87_206, e_87_208, e_87_211, e_87_213, e_87_216, e_87_217, XB_i, XB_n, va_rf_s, va_rf_n, mSI_K, mSI_I, mSI_J, mSI_P, mSI_N, mSJ_K, mSJ_I, mSJ_J, mSJ_P, mSJ_N, mSP_K, mSP_I, mSP_J, mSP_P, mSP_N, mNn, mNi, mNr, mN0, al20, al21, al22, al23, al25, true_or, or_true, and_self, if_true, if_false, mCat_n, mCat_i, mCat_r, mCat_l, mCat_0, Nat.reduceAdd, Nat.reduceLeDiff, Nat.reduceLT, true_and, and_true, Nat.zero_le, bI_01, bI_0, i10, tf0, iI_add, iI_sub, iI_mul, iI_neg, iI_add1, iI_sub1, iI_m1, nc1, ncm1, iI_clJ, iI_cl0, iI_clN, Int.toNat_natCast, mU_n, mU_s, p_min, p_max, p_abs, ni_2, ni_3, ni_4, ni_7, ni_8, ni_9, ni_12, ni_24, ni_97, ni_100, ni_122, ni_200, ni_256, ni_4096, ni_5000, ni_9999, iI_lt, iI_le, iI_eq, iz_eq, iz_lt, iz_le, iz_gt, iz_ge, iy_eq, iy_lt, iy_le, iI_ltN, iI_leN, iI_eqN, if_pos, if_neg, bI_t, lg_l, nl_4, ls]
      by_cases q : s.2 < 4
      · simp [q, show ¬ 4 ≤ s.2 by omega]; rfl
      · simp [q, show 4 ≤ s.2 by omega]
    | false =>
      simp (maxSteps := 4000000) (disch := first | (simp (disch := omega) only [XB_i, XB_n, va_rf_s, va_rf_n, mSI_K, mSI_I, mSI_J, mSI_P, mSI_N, mSJ_K, mSJ_I, mSJ_J, mSJ_P, mSJ_N, mSP_K, mSP_I, mSP_J, mSP_P, mSP_N, mNn, mNi, mNr, mN0, al20, al21, al22, al23, al25, true_or, or_true, and_self, if_true, if_false, mCat_n, mCat_i, mCat_r, mCat_l, mCat_0, Nat.reduceAdd, Nat.reduceLeDiff, Nat.reduceLT, true_and, and_true, Nat.zero_le, bI_01, mInB_J, mInB_Z, mInB_N, bI_f, lg_l, nl_4, lI_mul, i2l_i, rr, lq]; done) | omega | (unfold R32 at *; omega)) only [e_87_0, e_87_0_n, e_87_1, e_87_4, e_87_5, e_87_6, e_87_6_n, e_87_7, e_87_10, e_87_11, e_87_12, e_87_13, e_87_14, e_87_14_n, e_87_15, e_87_18, e_87_19, e_87_20, e_87_20_n, e_87_21, e_87_24, e_87_25, e_87_26, e_87_27, e_87_29, e_87_30, e_87_33, e_87_35, e_87_38, e_87_39, e_87_42, e_87_43, e_87_45, e_87_46, e_87_48, e_87_51, e_87_53, e_87_54, e_87_55, e_87_56, e_87_60, e_87_61, e_87_64, e_87_64_n, e_87_65, e_87_68, e_87_70, e_87_71, e_87_71_n, e_87_72, e_87_75, e_87_76, e_87_77, e_87_78, e_87_80, e_87_80_n, e_87_81, e_87_84, e_87_86, e_87_87, e_87_87_n, e_87_88, e_87_91, e_87_92, e_87_93, e_87_94, e_87_96, e_87_98, e_87_101, e_87_103, e_87_105, e_87_106, e_87_108, e_87_110, e_87_111, e_87_112, e_87_115, e_87_116, e_87_118, e_87_119, e_87_121, e_87_123, e_87_124, e_87_128, e_87_130, e_87_132, e_87_133, e_87_135, e_87_136, e_87_139, e_87_141, e_87_142, e_87_144, e_87_146, e_87_148, e_87_151, e_87_154, e_87_156, e_87_159, e_87_161, e_87_164, e_87_165, e_87_168, e_87_169, e_87_172, e_87_173, e_87_176, e_87_178, e_87_180, e_87_181, e_87_184, e_87_185, e_87_186, e_87_187, e_87_189, e_87_191, e_87_192, e_87_193, e_87_194, e_87_195, e_87_196, e_87_199, e_87_200, e_87_203, e_87_204, e_87_206, e_87_208, e_87_211, e_87_213, e_87_216, e_87_217, XB_i, XB_n, va_rf_s, va_rf_n, mSI_K, mSI_I, mSI_J, mSI_P, mSI_N, mSJ_K, mSJ_I, mSJ_J, mSJ_P, mSJ_N, mSP_K, mSP_I, mSP_J, mSP_P, mSP_N, mNn, mNi, mNr, mN0, al20, al21, al22, al23, al25, true_or, or_true, and_self, if_true, if_false, mCat_n, mCat_i, mCat_r, mCat_l, mCat_0, Nat.reduceAdd, Nat.reduceLeDiff, Nat.reduceLT, true_and, and_true, Nat.zero_le, bI_01, bI_0, i10, tf0, iI_add, iI_sub, iI_mul, iI_neg, iI_add1, iI_sub1, iI_m1, nc1, ncm1, iI_clJ, iI_cl0, iI_clN, Int.toNat_natCast, mU_n, mU_s, p_min, p_max, p_abs, ni_2, ni_3, ni_4, ni_7, ni_8, ni_9, ni_12, ni_24, ni_97, ni_100, ni_122, ni_200, ni_256, ni_4096, ni_5000, ni_9999, iI_lt, iI_le, iI_eq, iz_eq, iz_lt, iz_le, iz_gt, iz_ge, iy_eq, iy_lt, iy_le, iI_ltN, iI_leN, iI_eqN, if_pos, if_neg, bI_f, lg_l, nl_4, lI_mul, i2l_i, rr, lq]
      by_cases q : s.2 * s.2 < 4 * (dxF cs a b * dxF cs a b + dyF cs a b * dyF cs a b)
      · simp [q, show ¬ 4 * (dxF cs a b * dxF cs a b + dyF cs a b * dyF cs a b) ≤ s.2 * s.2 by omega]; rfl
      · simp [q, show 4 * (dxF cs a b * dxF cs a b + dyF cs a b * dyF cs a b) ≤ s.2 * s.2 by omega]
  | succ m ih =>
    intro i s l10 l11 l12 hm hi hs
    have bi := hB i
    have fB := frn_B hB a b i
    have e1 : pX cs i - pX cs a = dxF cs a i := rfl
    have e2 : pY cs i - pY cs a = dyF cs a i := rfl
    have dB3 : -4095 ≤ dxF cs a i ∧ dxF cs a i ≤ 4095 := by unfold dxF; omega
    have dB4 : -4095 ≤ dyF cs a i ∧ dyF cs a i ≤ 4095 := by unfold dyF; omega
    have rc : R32 (dxF cs a b * dyF cs a i - dyF cs a b * dxF cs a i) := by
      have := (prB dB1 dB4 dB2 dB3).1
      unfold R32
      omega
    have rf : R32 (frn cs a b i) := by unfold R32; omega
    have lq := @lI_le (frn cs a b i) s.2 (by unfold R64; omega) (by unfold R64; omega)
    have i1 := ih (i + 1) (some i, frn cs a b i) (some (.int (iI (dxF cs a i)))) (some (.int (iI (dyF cs a i)))) (some (.int (iI (frn cs a b i)))) (by omega) (by omega) (by dsimp only; omega)
    have i2 := ih (i + 1) s (some (.int (iI (dxF cs a i)))) (some (.int (iI (dyF cs a i)))) (some (.int (iI (frn cs a b i)))) (by omega) (by omega) hs
    have run : XW 87 130 [some (.ref (p)), some (.int (iI ((a : Nat) : Int))), some (.int (iI ((b : Nat) : Int))), some (.int (iI (dxF cs a b))), some (.int (iI (dyF cs a b))), some (.int (bI (tgB cs a b))), some (.int (iI (oN s.1))), some (.long (lI s.2)), none, some (.int (iI ((i : Nat) : Int))), some (.int (iI (dxF cs a i))), some (.int (iI (dyF cs a i))), some (.int (iI (frn cs a b i)))] [] T Q = Q (.inl (some (.int (iI (oN (finF cs a b (amx (frn cs a b) (m + 1) i s))))))) T := by
      unfold amx
      simp (maxSteps := 4000000) (disch := first | (simp (disch := omega) only [XB_i, XB_n, va_rf_s, va_rf_n, mSI_K, mSI_I, mSI_J, mSI_P, mSI_N, mSJ_K, mSJ_I, mSJ_J, mSJ_P, mSJ_N, mSP_K, mSP_I, mSP_J, mSP_P, mSP_N, mNn, mNi, mNr, mN0, al20, al21, al22, al23, al25, true_or, or_true, and_self, if_true, if_false, mCat_n, mCat_i, mCat_r, mCat_l, mCat_0, Nat.reduceAdd, Nat.reduceLeDiff, Nat.reduceLT, true_and, and_true, Nat.zero_le, bI_01, mInB_J, mInB_Z, mInB_N, i2l_i, rf, lg_le, lq]; done) | omega | (unfold R32 at *; omega)) only [e_87_130, e_87_132, e_87_133, e_87_135, e_87_136, e_87_139, e_87_141, e_87_142, e_87_144, e_87_146, e_87_148, e_87_151, XB_i, XB_n, va_rf_s, va_rf_n, mSI_K, mSI_I, mSI_J, mSI_P, mSI_N, mSJ_K, mSJ_I, mSJ_J, mSJ_P, mSJ_N, mSP_K, mSP_I, mSP_J, mSP_P, mSP_N, mNn, mNi, mNr, mN0, al20, al21, al22, al23, al25, true_or, or_true, and_self, if_true, if_false, mCat_n, mCat_i, mCat_r, mCat_l, mCat_0, Nat.reduceAdd, Nat.reduceLeDiff, Nat.reduceLT, true_and, and_true, Nat.zero_le, bI_01, bI_0, i10, tf0, iI_add, iI_sub, iI_mul, iI_neg, iI_add1, iI_sub1, iI_m1, nc1, ncm1, iI_clJ, iI_cl0, iI_clN, Int.toNat_natCast, mU_n, mU_s, p_min, p_max, p_abs, ni_2, ni_3, ni_4, ni_7, ni_8, ni_9, ni_12, ni_24, ni_97, ni_100, ni_122, ni_200, ni_256, ni_4096, ni_5000, ni_9999, iI_lt, iI_le, iI_eq, iz_eq, iz_lt, iz_le, iz_gt, iz_ge, iy_eq, iy_lt, iy_le, iI_ltN, iI_leN, iI_eqN, if_pos, if_neg, i2l_i, rf, lg_le, lq]
      by_cases q : frn cs a b i ≤ s.2
      · rw [if_pos q, i2, if_neg (by omega)]
      · rw [if_neg q, if_pos (by omega)]
        exact i1
    rw [e_87_58, ← run]
    cases ht : tgB cs a b with
    | true =>
      have ef : dxF cs a i * dxF cs a i + dyF cs a i * dyF cs a i = frn cs a b i := by unfold frn; rw [ht]; rfl
      simp (maxSteps := 4000000) (disch := first | (simp (disch := omega) only [XB_i, XB_n, va_rf_s, va_rf_n, mSI_K, mSI_I, mSI_J, mSI_P, mSI_N, mSJ_K, mSJ_I, mSJ_J, mSJ_P, mSJ_N, mSP_K, mSP_I, mSP_J, mSP_P, mSP_N, mNn, mNi, mNr, mN0, al20, al21, al22, al23, al25, true_or, or_true, and_self, if_true, if_false, mCat_n, mCat_i, mCat_r, mCat_l, mCat_0, Nat.reduceAdd, Nat.reduceLeDiff, Nat.reduceLT, true_and, and_true, Nat.zero_le, bI_01, mInB_J, mInB_Z, mInB_N, h1, h2, h3, h5, h6, px, py, e1, e2, ef, bI_t]; done) | omega | (unfold R32 at *; omega)) only [e_87_60, e_87_61, e_87_64, e_87_64_n, e_87_65, e_87_68, e_87_70, e_87_71, e_87_71_n, e_87_72, e_87_75, e_87_76, e_87_77, e_87_78, e_87_80, e_87_80_n, e_87_81, e_87_84, e_87_86, e_87_87, e_87_87_n, e_87_88, e_87_91, e_87_92, e_87_93, e_87_94, e_87_96, e_87_98, e_87_101, e_87_103, e_87_105, e_87_106, e_87_108, e_87_110, e_87_111, e_87_112, e_87_115, e_87_116, e_87_118, e_87_119, e_87_121, e_87_123, e_87_124, e_87_128, XB_i, XB_n, va_rf_s, va_rf_n, mSI_K, mSI_I, mSI_J, mSI_P, mSI_N, mSJ_K, mSJ_I, mSJ_J, mSJ_P, mSJ_N, mSP_K, mSP_I, mSP_J, mSP_P, mSP_N, mNn, mNi, mNr, mN0, al20, al21, al22, al23, al25, true_or, or_true, and_self, if_true, if_false, mCat_n, mCat_i, mCat_r, mCat_l, mCat_0, Nat.reduceAdd, Nat.reduceLeDiff, Nat.reduceLT, true_and, and_true, Nat.zero_le, bI_01, bI_0, i10, tf0, iI_add, iI_sub, iI_mul, iI_neg, iI_add1, iI_sub1, iI_m1, nc1, ncm1, iI_clJ, iI_cl0, iI_clN, Int.toNat_natCast, mU_n, mU_s, p_min, p_max, p_abs, ni_2, ni_3, ni_4, ni_7, ni_8, ni_9, ni_12, ni_24, ni_97, ni_100, ni_122, ni_200, ni_256, ni_4096, ni_5000, ni_9999, iI_lt, iI_le, iI_eq, iz_eq, iz_lt, iz_le, iz_gt, iz_ge, iy_eq, iy_lt, iy_le, iI_ltN, iI_leN, iI_eqN, if_pos, if_neg, h1, h2, h3, h5, h6, px, py, e1, e2, ef, bI_t]
    | false =>
      have ef : ((dxF cs a b * dyF cs a i - dyF cs a b * dxF cs a i).natAbs : Int) = frn cs a b i := by unfold frn; rw [ht]; rfl
      simp (maxSteps := 4000000) (disch := first | (simp (disch := omega) only [XB_i, XB_n, va_rf_s, va_rf_n, mSI_K, mSI_I, mSI_J, mSI_P, mSI_N, mSJ_K, mSJ_I, mSJ_J, mSJ_P, mSJ_N, mSP_K, mSP_I, mSP_J, mSP_P, mSP_N, mNn, mNi, mNr, mN0, al20, al21, al22, al23, al25, true_or, or_true, and_self, if_true, if_false, mCat_n, mCat_i, mCat_r, mCat_l, mCat_0, Nat.reduceAdd, Nat.reduceLeDiff, Nat.reduceLT, true_and, and_true, Nat.zero_le, bI_01, mInB_J, mInB_Z, mInB_N, h1, h2, h3, h5, h6, px, py, e1, e2, rc, ef, bI_f]; done) | omega | (unfold R32 at *; omega)) only [e_87_60, e_87_61, e_87_64, e_87_64_n, e_87_65, e_87_68, e_87_70, e_87_71, e_87_71_n, e_87_72, e_87_75, e_87_76, e_87_77, e_87_78, e_87_80, e_87_80_n, e_87_81, e_87_84, e_87_86, e_87_87, e_87_87_n, e_87_88, e_87_91, e_87_92, e_87_93, e_87_94, e_87_96, e_87_98, e_87_101, e_87_103, e_87_105, e_87_106, e_87_108, e_87_110, e_87_111, e_87_112, e_87_115, e_87_116, e_87_118, e_87_119, e_87_121, e_87_123, e_87_124, e_87_128, d_87_125, XB_i, XB_n, va_rf_s, va_rf_n, mSI_K, mSI_I, mSI_J, mSI_P, mSI_N, mSJ_K, mSJ_I, mSJ_J, mSJ_P, mSJ_N, mSP_K, mSP_I, mSP_J, mSP_P, mSP_N, mNn, mNi, mNr, mN0, al20, al21, al22, al23, al25, true_or, or_true, and_self, if_true, if_false, mCat_n, mCat_i, mCat_r, mCat_l, mCat_0, Nat.reduceAdd, Nat.reduceLeDiff, Nat.reduceLT, true_and, and_true, Nat.zero_le, bI_01, bI_0, i10, tf0, iI_add, iI_sub, iI_mul, iI_neg, iI_add1, iI_sub1, iI_m1, nc1, ncm1, iI_clJ, iI_cl0, iI_clN, Int.toNat_natCast, mU_n, mU_s, p_min, p_max, p_abs, ni_2, ni_3, ni_4, ni_7, ni_8, ni_9, ni_12, ni_24, ni_97, ni_100, ni_122, ni_200, ni_256, ni_4096, ni_5000, ni_9999, iI_lt, iI_le, iI_eq, iz_eq, iz_lt, iz_le, iz_gt, iz_ge, iy_eq, iy_lt, iy_le, iI_ltN, iI_leN, iI_eqN, if_pos, if_neg, h1, h2, h3, h5, h6, px, py, e1, e2, rc, ef, bI_f]
theorem p_far2 (hp : PathR T p r cs) (hB : wB cs) (ha : a < b) (hb : b < cs.length) : XW 87 0 [some (.ref (p)), some (.int (iI ((a : Nat) : Int))), some (.int (iI ((b : Nat) : Int))), none, none, none, none, none, none, none, none, none, none] [] T Q = Q (.inl (some (.int (iI (oN (farC cs a b)))))) T := by
  obtain ⟨⟨h1, h2, h3, h4, h5, h6, h7, h8⟩, g1, g2, g3⟩ := id hp
  have px := fun j hj => @PathR.x T p r j cs hp hj
  have py := fun j hj => @PathR.y T p r j cs hp hj
  have ba := hB a
  have bb := hB b
  have e1 : pX cs b - pX cs a = dxF cs a b := rfl
  have e2 : pY cs b - pY cs a = dyF cs a b := rfl
  have dB1 : -4095 ≤ dxF cs a b ∧ dxF cs a b ≤ 4095 := by unfold dxF; omega
  have dB2 : -4095 ≤ dyF cs a b ∧ dyF cs a b ≤ 4095 := by unfold dyF; omega
  have fin := @l_far T Q p r a b cs hp hB ha hb (b - a - 1) (a + 1) (none, -1) none none none (by omega) (by omega) (by dsimp only; omega)
  refine Eq.trans ?_ fin
  by_cases q1 : dxF cs a b = 0
  · by_cases q2 : dyF cs a b = 0
    · have ht : tgB cs a b = true := by unfold tgB; simp [q1, q2]
      rw [ht]
      simp (maxSteps := 4000000) (disch := first | (simp (disch := omega) only [XB_i, XB_n, va_rf_s, va_rf_n, mSI_K, mSI_I, mSI_J, mSI_P, mSI_N, mSJ_K, mSJ_I, mSJ_J, mSJ_P, mSJ_N, mSP_K, mSP_I, mSP_J, mSP_P, mSP_N, mNn, mNi, mNr, mN0, al20, al21, al22, al23, al25, true_or, or_true, and_self, if_true, if_false, mCat_n, mCat_i, mCat_r, mCat_l, mCat_0, Nat.reduceAdd, Nat.reduceLeDiff, Nat.reduceLT, true_and, and_true, Nat.zero_le, bI_01, mInB_J, mInB_Z, mInB_N, h1, h2, h3, h5, h6, px, py, e1, e2]; done) | omega | (unfold R32 at *; omega)) only [e_87_0, e_87_0_n, e_87_1, e_87_4, e_87_5, e_87_6, e_87_6_n, e_87_7, e_87_10, e_87_11, e_87_12, e_87_13, e_87_14, e_87_14_n, e_87_15, e_87_18, e_87_19, e_87_20, e_87_20_n, e_87_21, e_87_24, e_87_25, e_87_26, e_87_27, e_87_29, e_87_30, e_87_33, e_87_35, e_87_38, e_87_39, e_87_42, e_87_43, e_87_45, e_87_46, e_87_48, e_87_51, e_87_53, e_87_54, e_87_55, e_87_56, XB_i, XB_n, va_rf_s, va_rf_n, mSI_K, mSI_I, mSI_J, mSI_P, mSI_N, mSJ_K, mSJ_I, mSJ_J, mSJ_P, mSJ_N, mSP_K, mSP_I, mSP_J, mSP_P, mSP_N, mNn, mNi, mNr, mN0, al20, al21, al22, al23, al25, true_or, or_true, and_self, if_true, if_false, mCat_n, mCat_i, mCat_r, mCat_l, mCat_0, Nat.reduceAdd, Nat.reduceLeDiff, Nat.reduceLT, true_and, and_true, Nat.zero_le, bI_01, bI_0, i10, tf0, iI_add, iI_sub, iI_mul, iI_neg, iI_add1, iI_sub1, iI_m1, nc1, ncm1, iI_clJ, iI_cl0, iI_clN, Int.toNat_natCast, mU_n, mU_s, p_min, p_max, p_abs, ni_2, ni_3, ni_4, ni_7, ni_8, ni_9, ni_12, ni_24, ni_97, ni_100, ni_122, ni_200, ni_256, ni_4096, ni_5000, ni_9999, iI_lt, iI_le, iI_eq, iz_eq, iz_lt, iz_le, iz_gt, iz_ge, iy_eq, iy_lt, iy_le, iI_ltN, iI_leN, iI_eqN, if_pos, if_neg, h1, h2, h3, h5, h6, px, py, e1, e2]
      rfl
    · have ht : tgB cs a b = false := by unfold tgB; simp [q2]
      rw [ht]
      simp (maxSteps := 4000000) (disch := first | (simp (disch := omega) only [XB_i, XB_n, va_rf_s, va_rf_n, mSI_K, mSI_I, mSI_J, mSI_P, mSI_N, mSJ_K, mSJ_I, mSJ_J, mSJ_P, mSJ_N, mSP_K, mSP_I, mSP_J, mSP_P, mSP_N, mNn, mNi, mNr, mN0, al20, al21, al22, al23, al25, true_or, or_true, and_self, if_true, if_false, mCat_n, mCat_i, mCat_r, mCat_l, mCat_0, Nat.reduceAdd, Nat.reduceLeDiff, Nat.reduceLT, true_and, and_true, Nat.zero_le, bI_01, mInB_J, mInB_Z, mInB_N, h1, h2, h3, h5, h6, px, py, e1, e2]; done) | omega | (unfold R32 at *; omega)) only [e_87_0, e_87_0_n, e_87_1, e_87_4, e_87_5, e_87_6, e_87_6_n, e_87_7, e_87_10, e_87_11, e_87_12, e_87_13, e_87_14, e_87_14_n, e_87_15, e_87_18, e_87_19, e_87_20, e_87_20_n, e_87_21, e_87_24, e_87_25, e_87_26, e_87_27, e_87_29, e_87_30, e_87_33, e_87_35, e_87_38, e_87_39, e_87_42, e_87_43, e_87_45, e_87_46, e_87_48, e_87_51, e_87_53, e_87_54, e_87_55, e_87_56, XB_i, XB_n, va_rf_s, va_rf_n, mSI_K, mSI_I, mSI_J, mSI_P, mSI_N, mSJ_K, mSJ_I, mSJ_J, mSJ_P, mSJ_N, mSP_K, mSP_I, mSP_J, mSP_P, mSP_N, mNn, mNi, mNr, mN0, al20, al21, al22, al23, al25, true_or, or_true, and_self, if_true, if_false, mCat_n, mCat_i, mCat_r, mCat_l, mCat_0, Nat.reduceAdd, Nat.reduceLeDiff, Nat.reduceLT, true_and, and_true, Nat.zero_le, bI_01, bI_0, i10, tf0, iI_add, iI_sub, iI_mul, iI_neg, iI_add1, iI_sub1, iI_m1, nc1, ncm1, iI_clJ, iI_cl0, iI_clN, Int.toNat_natCast, mU_n, mU_s, p_min, p_max, p_abs, ni_2, ni_3, ni_4, ni_7, ni_8, ni_9, ni_12, ni_24, ni_97, ni_100, ni_122, ni_200, ni_256, ni_4096, ni_5000, ni_9999, iI_lt, iI_le, iI_eq, iz_eq, iz_lt, iz_le, iz_gt, iz_ge, iy_eq, iy_lt, iy_le, iI_ltN, iI_leN, iI_eqN, if_pos, if_neg, h1, h2, h3, h5, h6, px, py, e1, e2]
      rfl
  · have ht : tgB cs a b = false := by unfold tgB; simp [q1]
    rw [ht]
    simp (maxSteps := 4000000) (disch := first | (simp (disch := omega) only [XB_i, XB_n, va_rf_s, va_rf_n, mSI_K, mSI_I, mSI_J, mSI_P, mSI_N, mSJ_K, mSJ_I, mSJ_J, mSJ_P, mSJ_N, mSP_K, mSP_I, mSP_J, mSP_P, mSP_N, mNn, mNi, mNr, mN0, al20, al21, al22, al23, al25, true_or, or_true, and_self, if_true, if_false, mCat_n, mCat_i, mCat_r, mCat_l, mCat_0, Nat.reduceAdd, Nat.reduceLeDiff, Nat.reduceLT, true_and, and_true, Nat.zero_le, bI_01, mInB_J, mInB_Z, mInB_N, h1, h2, h3, h5, h6, px, py, e1, e2]; done) | omega | (unfold R32 at *; omega)) only [e_87_0, e_87_0_n, e_87_1, e_87_4, e_87_5, e_87_6, e_87_6_n, e_87_7, e_87_10, e_87_11, e_87_12, e_87_13, e_87_14, e_87_14_n, e_87_15, e_87_18, e_87_19, e_87_20, e_87_20_n, e_87_21, e_87_24, e_87_25, e_87_26, e_87_27, e_87_29, e_87_30, e_87_33, e_87_35, e_87_38, e_87_39, e_87_42, e_87_43, e_87_45, e_87_46, e_87_48, e_87_51, e_87_53, e_87_54, e_87_55, e_87_56, XB_i, XB_n, va_rf_s, va_rf_n, mSI_K, mSI_I, mSI_J, mSI_P, mSI_N, mSJ_K, mSJ_I, mSJ_J, mSJ_P, mSJ_N, mSP_K, mSP_I, mSP_J, mSP_P, mSP_N, mNn, mNi, mNr, mN0, al20, al21, al22, al23, al25, true_or, or_true, and_self, if_true, if_false, mCat_n, mCat_i, mCat_r, mCat_l, mCat_0, Nat.reduceAdd, Nat.reduceLeDiff, Nat.reduceLT, true_and, and_true, Nat.zero_le, bI_01, bI_0, i10, tf0, iI_add, iI_sub, iI_mul, iI_neg, iI_add1, iI_sub1, iI_m1, nc1, ncm1, iI_clJ, iI_cl0, iI_clN, Int.toNat_natCast, mU_n, mU_s, p_min, p_max, p_abs, ni_2, ni_3, ni_4, ni_7, ni_8, ni_9, ni_12, ni_24, ni_97, ni_100, ni_122, ni_200, ni_256, ni_4096, ni_5000, ni_9999, iI_lt, iI_le, iI_eq, iz_eq, iz_lt, iz_le, iz_gt, iz_ge, iy_eq, iy_lt, iy_le, iI_ltN, iI_leN, iI_eqN, if_pos, if_neg, h1, h2, h3, h5, h6, px, py, e1, e2]
    rfl
end FA
