/-! the reference: ahead -/
theorem a1_key : ∀ v : Fin 16, iI (v.val : Int) &&& 1 = iI ((v.val % 2 : Nat) : Int) := by decide +kernel
theorem bits4 {b0 b1 b2 b3 : Nat} (h0 : b0 < 2) (h1 : b1 < 2) (h2 : b2 < 2) (h3 : b3 < 2) : (b0 + 2 * b1 + 4 * b2 + 8 * b3) % 2 = b0 ∧ (b0 + 2 * b1 + 4 * b2 + 8 * b3) / 2 % 2 = b1 ∧ (b0 + 2 * b1 + 4 * b2 + 8 * b3) / 4 % 2 = b2 ∧ (b0 + 2 * b1 + 4 * b2 + 8 * b3) / 8 % 2 = b3 ∧ (b0 + 2 * b1 + 4 * b2 + 8 * b3) / 16 % 2 = 0 := by
  have e0 : b0 = 0 ∨ b0 = 1 := by omega
  have e1 : b1 = 0 ∨ b1 = 1 := by omega
  have e2 : b2 = 0 ∨ b2 = 1 := by omega
  have e3 : b3 = 0 ∨ b3 = 1 := by omega
  rcases e0 with e | e <;> subst e <;> rcases e1 with e | e <;> subst e <;> rcases e2 with e | e <;> subst e <;> rcases e3 with e | e <;> subst e <;> decide
theorem eB_bit {c k : Nat} (hc : c < 256) (hk : k < 5) : eB c / 2 ^ k % 2 = c / 4 ^ k % 2 := by
  have : k = 0 ∨ k = 1 ∨ k = 2 ∨ k = 3 ∨ k = 4 := by omega
  obtain ⟨h0, h1, h2, h3, h4⟩ := bits4 (Nat.mod_lt c (show 0 < 2 by omega)) (Nat.mod_lt (c / 4) (show 0 < 2 by omega)) (Nat.mod_lt (c / 16) (show 0 < 2 by omega)) (Nat.mod_lt (c / 64) (show 0 < 2 by omega))
  unfold eB
  rcases this with h | h | h | h | h <;> subst h
  · simp only [Nat.pow_zero, Nat.div_one]; exact h0
  · exact h1
  · exact h2
  · exact h3
  · show _ / 16 % 2 = c / 256 % 2
    rw [h4, Nat.div_eq_of_lt hc]
theorem bit_k {c k : Nat} (hc : c < 256) (hk : k < 5) : (iI ((eB c : Nat) : Int) >>> (iI (k : Int) &&& 31)) &&& 1 = iI ((c / 4 ^ k % 2 : Nat) : Int) := by
  have e := eB_le c
  rw [iI_shr ⟨by omega, by omega⟩ (by omega) (by omega), Int.toNat_natCast]
  have e2 : ((eB c : Nat) : Int) / 2 ^ k = ((eB c / 2 ^ k : Nat) : Int) := by norm_cast
  have hl : eB c / 2 ^ k < 16 := Nat.lt_of_le_of_lt (Nat.div_le_self _ _) (by omega)
  rw [e2, a1_key ⟨eB c / 2 ^ k, hl⟩]
  dsimp only
  rw [eB_bit hc hk]
theorem dg {c k : Nat} : (c / 2 / 4 ^ k % 2) * 2 + c / 4 ^ k % 2 = c / 4 ^ k % 4 := by
  have : c / 2 / 4 ^ k = c / 4 ^ k / 2 := by rw [Nat.div_div_eq_div_mul, Nat.div_div_eq_div_mul, Nat.mul_comm]
  rw [this]
  omega
/-- a tile's place is its zoom's and its code's -/
def teP (t : Te) : Prop := ∃ z c : Nat, z < 5 ∧ c < 4 ^ z ∧ t.1 = ((((4 ^ z - 1) / 3 + c : Nat) : Int), (z : Int), ((eB c : Nat) : Int), ((eB (c / 2) : Nat) : Int))
theorem eB_inj {c d : Nat} (hc : c < 256) (hd : d < 256) (h1 : eB c = eB d) (h2 : eB (c / 2) = eB (d / 2)) : c = d := by
  have k : ∀ k, k < 5 → c / 4 ^ k % 4 = d / 4 ^ k % 4 := by
    intro k hk
    rw [← dg, ← dg, ← eB_bit hc hk, ← eB_bit hd hk, ← eB_bit (show c / 2 < 256 by omega) hk, ← eB_bit (show d / 2 < 256 by omega) hk, h1, h2]
  have k0 := k 0 (by omega)
  have k1 := k 1 (by omega)
  have k2 := k 2 (by omega)
  have k3 := k 3 (by omega)
  simp only [Nat.reducePow, Nat.div_one] at k0 k1 k2 k3
  omega
theorem p4_5 {z w : Nat} (hw : w < 5) (h : z < w) : (4 ^ z - 1) / 3 + 4 ^ z ≤ (4 ^ w - 1) / 3 := by
  have hw' : w = 0 ∨ w = 1 ∨ w = 2 ∨ w = 3 ∨ w = 4 := by omega
  have hz' : z = 0 ∨ z = 1 ∨ z = 2 ∨ z = 3 := by omega
  rcases hw' with e | e | e | e | e <;> subst e <;> rcases hz' with e | e | e | e <;> subst e <;> first | omega | decide
theorem teP_lt {z w c d : Nat} (hz : z < 5) (hw : w < 5) (hc : c < 4 ^ z) (hd : d < 4 ^ w) : ((4 ^ z - 1) / 3 + c < (4 ^ w - 1) / 3 + d) ↔ (z < w ∨ (z = w ∧ c < d)) := by
  rcases Nat.lt_trichotomy z w with q | q | q
  · have := p4_5 hw q
    exact ⟨fun _ => Or.inl q, fun _ => by omega⟩
  · subst q
    exact ⟨fun h => Or.inr ⟨rfl, by omega⟩, fun h => by omega⟩
  · have := p4_5 hz q
    exact ⟨fun h => by omega, fun h => by omega⟩
theorem teP_pl {s t : Te} (hs : teP s) (ht : teP t) : s.1.2 = t.1.2 ↔ s.1.1 = t.1.1 := by
  obtain ⟨z, c, hz, hc, es⟩ := hs
  obtain ⟨w, d, hw, hd, et⟩ := ht
  rw [es, et]
  have b1 := (p43 ⟨z, hz⟩).2.2
  have b2 := (p43 ⟨w, hw⟩).2.2
  dsimp only at b1 b2
  constructor
  · intro h
    simp only [Prod.mk.injEq] at h
    obtain ⟨h1, h2, h3⟩ := h
    have e1 : z = w := by omega
    have : c = d := eB_inj (by omega) (by omega) (by omega) (by omega)
    rw [e1, this]
  · intro h
    dsimp only at h
    have l1 := teP_lt hz hw hc hd
    have l2 := teP_lt hw hz hd hc
    have e1 : z = w := by
      rcases Nat.lt_trichotomy z w with q | q | q
      · have := l1.mpr (Or.inl q); omega
      · exact q
      · have := l2.mpr (Or.inl q); omega
    subst e1
    have : c = d := by omega
    rw [this]
section AH
variable {T : mT} {Q : mOut → mT → Prop} {m p q a b : Nat} {ts us : List Te} {sf sg : Nat → Nat}
theorem lm_ah {c d : Nat} (hM : ModK T m) (hp : p < 5) (hq : q < 5) (ha : a < 100) (hb : b < 100) (hc : c < 256) (hd : d < 256) (x1 : T.2.1 (m + 18) (100 * p + a) = iI ((eB c : Nat) : Int)) (y1 : T.2.1 (m + 19) (100 * p + a) = iI ((eB (c / 2) : Nat) : Int)) (x2 : T.2.1 (m + 18) (100 * q + b) = iI ((eB d : Nat) : Int)) (y2 : T.2.1 (m + 19) (100 * q + b) = iI ((eB (d / 2) : Nat) : Int)) : ∀ (n : Nat) (z : Int) (l8 l9 : Option Value), z = (n : Int) - 1 → n ≤ 5 → c / 4 ^ n = d / 4 ^ n → XW 169 60 [some (.ref (m)), some (.int (iI ((p : Nat) : Int))), some (.int (iI ((a : Nat) : Int))), some (.int (iI ((q : Nat) : Int))), some (.int (iI ((b : Nat) : Int))), some (.int (iI ((100 * p + a : Nat) : Int))), some (.int (iI ((100 * q + b : Nat) : Int))), some (.int (iI (z))), l8, l9] [] T Q = Q (.inl (some (.int (bI (decide (c < d)))))) T := by
  intro n
  induction n with
  | zero =>
    intro z l8 l9 hz hn he
    rw [Nat.pow_zero, Nat.div_one, Nat.div_one] at he
    rw [e_169_60, decide_eq_false (by omega)]
    simp (maxSteps := 4000000) (disch := first | (simp (disch := omega) only [XB_i, XB_n, va_rf_s, va_rf_n, mSI_K, mSI_I, mSI_J, mSI_P, mSI_N, mSJ_K, mSJ_I, mSJ_J, mSJ_P, mSJ_N, mSP_K, mSP_I, mSP_J, mSP_P, mSP_N, mNn, mNi, mNr, mN0, al20, al21, al22, al23, al25, true_or, or_true, and_self, if_true, if_false, mCat_n, mCat_i, mCat_r, mCat_l, mCat_0, Nat.reduceAdd, Nat.reduceLeDiff, Nat.reduceLT, true_and, and_true, Nat.zero_le, bI_01, mInB_J, mInB_Z, mInB_N]; done) | omega | (unfold R32 at *; omega)) only [e_169_62, e_169_149, e_169_150, XB_i, XB_n, va_rf_s, va_rf_n, mSI_K, mSI_I, mSI_J, mSI_P, mSI_N, mSJ_K, mSJ_I, mSJ_J, mSJ_P, mSJ_N, mSP_K, mSP_I, mSP_J, mSP_P, mSP_N, mNn, mNi, mNr, mN0, al20, al21, al22, al23, al25, true_or, or_true, and_self, if_true, if_false, mCat_n, mCat_i, mCat_r, mCat_l, mCat_0, Nat.reduceAdd, Nat.reduceLeDiff, Nat.reduceLT, true_and, and_true, Nat.zero_le, bI_01, bI_0, i10, tf0, iI_add, iI_sub, iI_mul, iI_neg, iI_add1, iI_sub1, iI_m1, nca, nc1, ncm1, iI_clJ, iI_cl0, iI_clN, Int.toNat_natCast, mU_n, mU_s, p_min, p_max, p_abs, ni_2, ni_3, ni_4, ni_7, ni_8, ni_9, ni_12, ni_24, ni_97, ni_100, ni_122, ni_200, ni_256, ni_4096, ni_5000, ni_9999, iI_lt, iI_le, iI_eq, iz_eq, iz_lt, iz_le, iz_gt, iz_ge, iy_eq, iy_lt, iy_le, iI_ltN, iI_leN, iI_eqN, if_pos, if_neg]
    rfl
  | succ n ih =>
    intro z l8 l9 hz hn he
    have hz' : z = (n : Int) := by omega
    subst hz'
    have k1 := bit_k hc (show n < 5 by omega)
    have k2 := bit_k (show c / 2 < 256 by omega) (show n < 5 by omega)
    have k3 := bit_k hd (show n < 5 by omega)
    have k4 := bit_k (show d / 2 < 256 by omega) (show n < 5 by omega)
    have g1 : ((c / 2 / 4 ^ n % 2 : Nat) : Int) * 2 + ((c / 4 ^ n % 2 : Nat) : Int) = ((c / 4 ^ n % 4 : Nat) : Int) := by have := dg (c := c) (k := n); omega
    have g2 : ((d / 2 / 4 ^ n % 2 : Nat) : Int) * 2 + ((d / 4 ^ n % 2 : Nat) : Int) = ((d / 4 ^ n % 4 : Nat) : Int) := by have := dg (c := d) (k := n); omega
    have e4 : c / 4 ^ n / 4 = d / 4 ^ n / 4 := by rw [Nat.div_div_eq_div_mul, Nat.div_div_eq_div_mul, ← Nat.pow_succ]; exact he
    have i1 := fun h l8 l9 => ih ((n : Int) - 1) l8 l9 rfl (by omega) h
    have hlt : c / 4 ^ n < d / 4 ^ n → c < d := fun h => by
      apply Nat.not_le.mp
      intro z
      have := Nat.div_le_div_right (c := 4 ^ n) z
      omega
    have hgt : d / 4 ^ n < c / 4 ^ n → ¬ c < d := fun h z => by
      have := Nat.div_le_div_right (c := 4 ^ n) (Nat.le_of_lt z)
      omega
    generalize c / 2 / 4 ^ n % 2 = v1 at *
    generalize c / 4 ^ n % 2 = v2 at *
    generalize d / 2 / 4 ^ n % 2 = v3 at *
    generalize d / 4 ^ n % 2 = v4 at *
    generalize c / 4 ^ n = A at *
    generalize d / 4 ^ n = B at *
    have e1 : (((A % 4 : Nat) : Int) = ((B % 4 : Nat) : Int)) ↔ A = B := by omega
    rw [e_169_60]
    by_cases q1 : A % 4 = B % 4
    · have i2 := i1 (by omega)
      rw [← i2 (some (.int (iI ((A % 4 : Nat) : Int)))) (some (.int (iI ((B % 4 : Nat) : Int))))]
      simp (maxSteps := 4000000) (disch := first | (simp (disch := omega) only [XB_i, XB_n, va_rf_s, va_rf_n, mSI_K, mSI_I, mSI_J, mSI_P, mSI_N, mSJ_K, mSJ_I, mSJ_J, mSJ_P, mSJ_N, mSP_K, mSP_I, mSP_J, mSP_P, mSP_N, mNn, mNi, mNr, mN0, al20, al21, al22, al23, al25, true_or, or_true, and_self, if_true, if_false, mCat_n, mCat_i, mCat_r, mCat_l, mCat_0, Nat.reduceAdd, Nat.reduceLeDiff, Nat.reduceLT, true_and, and_true, Nat.zero_le, bI_01, mInB_J, mInB_Z, mInB_N, hM.k, hM.r22, hM.a22, hM.r23, hM.a23, x1, y1, x2, y2, k1, k2, k3, k4, g1, g2, q1]; done) | omega | (unfold R32 at *; omega)) only [e_169_62, e_169_65, e_169_65_n, e_169_66, e_169_69, e_169_71, e_169_72, e_169_74, e_169_75, e_169_76, e_169_77, e_169_78, e_169_79, e_169_79_n, e_169_80, e_169_83, e_169_85, e_169_86, e_169_88, e_169_89, e_169_90, e_169_91, e_169_92, e_169_94, e_169_94_n, e_169_95, e_169_98, e_169_100, e_169_101, e_169_103, e_169_104, e_169_105, e_169_106, e_169_107, e_169_108, e_169_108_n, e_169_109, e_169_112, e_169_114, e_169_115, e_169_117, e_169_118, e_169_119, e_169_120, e_169_121, e_169_123, e_169_125, e_169_127, e_169_130, e_169_132, e_169_134, e_169_137, e_169_138, e_169_141, e_169_142, e_169_143, e_169_146, XB_i, XB_n, va_rf_s, va_rf_n, mSI_K, mSI_I, mSI_J, mSI_P, mSI_N, mSJ_K, mSJ_I, mSJ_J, mSJ_P, mSJ_N, mSP_K, mSP_I, mSP_J, mSP_P, mSP_N, mNn, mNi, mNr, mN0, al20, al21, al22, al23, al25, true_or, or_true, and_self, if_true, if_false, mCat_n, mCat_i, mCat_r, mCat_l, mCat_0, Nat.reduceAdd, Nat.reduceLeDiff, Nat.reduceLT, true_and, and_true, Nat.zero_le, bI_01, bI_0, i10, tf0, iI_add, iI_sub, iI_mul, iI_neg, iI_add1, iI_sub1, iI_m1, nca, nc1, ncm1, iI_clJ, iI_cl0, iI_clN, Int.toNat_natCast, mU_n, mU_s, p_min, p_max, p_abs, ni_2, ni_3, ni_4, ni_7, ni_8, ni_9, ni_12, ni_24, ni_97, ni_100, ni_122, ni_200, ni_256, ni_4096, ni_5000, ni_9999, iI_lt, iI_le, iI_eq, iz_eq, iz_lt, iz_le, iz_gt, iz_ge, iy_eq, iy_lt, iy_le, iI_ltN, iI_leN, iI_eqN, if_pos, if_neg, hM.k, hM.r22, hM.a22, hM.r23, hM.a23, x1, y1, x2, y2, k1, k2, k3, k4, g1, g2, q1]
    · by_cases q2 : A < B
      · rw [decide_eq_true (hlt q2)]
        have q3 : A % 4 < B % 4 := by omega
        simp (maxSteps := 4000000) (disch := first | (simp (disch := omega) only [XB_i, XB_n, va_rf_s, va_rf_n, mSI_K, mSI_I, mSI_J, mSI_P, mSI_N, mSJ_K, mSJ_I, mSJ_J, mSJ_P, mSJ_N, mSP_K, mSP_I, mSP_J, mSP_P, mSP_N, mNn, mNi, mNr, mN0, al20, al21, al22, al23, al25, true_or, or_true, and_self, if_true, if_false, mCat_n, mCat_i, mCat_r, mCat_l, mCat_0, Nat.reduceAdd, Nat.reduceLeDiff, Nat.reduceLT, true_and, and_true, Nat.zero_le, bI_01, mInB_J, mInB_Z, mInB_N, hM.k, hM.r22, hM.a22, hM.r23, hM.a23, x1, y1, x2, y2, k1, k2, k3, k4, g1, g2]; done) | omega | (unfold R32 at *; omega)) only [e_169_62, e_169_65, e_169_65_n, e_169_66, e_169_69, e_169_71, e_169_72, e_169_74, e_169_75, e_169_76, e_169_77, e_169_78, e_169_79, e_169_79_n, e_169_80, e_169_83, e_169_85, e_169_86, e_169_88, e_169_89, e_169_90, e_169_91, e_169_92, e_169_94, e_169_94_n, e_169_95, e_169_98, e_169_100, e_169_101, e_169_103, e_169_104, e_169_105, e_169_106, e_169_107, e_169_108, e_169_108_n, e_169_109, e_169_112, e_169_114, e_169_115, e_169_117, e_169_118, e_169_119, e_169_120, e_169_121, e_169_123, e_169_125, e_169_127, e_169_130, e_169_132, e_169_134, e_169_137, e_169_138, e_169_141, e_169_142, XB_i, XB_n, va_rf_s, va_rf_n, mSI_K, mSI_I, mSI_J, mSI_P, mSI_N, mSJ_K, mSJ_I, mSJ_J, mSJ_P, mSJ_N, mSP_K, mSP_I, mSP_J, mSP_P, mSP_N, mNn, mNi, mNr, mN0, al20, al21, al22, al23, al25, true_or, or_true, and_self, if_true, if_false, mCat_n, mCat_i, mCat_r, mCat_l, mCat_0, Nat.reduceAdd, Nat.reduceLeDiff, Nat.reduceLT, true_and, and_true, Nat.zero_le, bI_01, bI_0, i10, tf0, iI_add, iI_sub, iI_mul, iI_neg, iI_add1, iI_sub1, iI_m1, nca, nc1, ncm1, iI_clJ, iI_cl0, iI_clN, Int.toNat_natCast, mU_n, mU_s, p_min, p_max, p_abs, ni_2, ni_3, ni_4, ni_7, ni_8, ni_9, ni_12, ni_24, ni_97, ni_100, ni_122, ni_200, ni_256, ni_4096, ni_5000, ni_9999, iI_lt, iI_le, iI_eq, iz_eq, iz_lt, iz_le, iz_gt, iz_ge, iy_eq, iy_lt, iy_le, iI_ltN, iI_leN, iI_eqN, if_pos, if_neg, hM.k, hM.r22, hM.a22, hM.r23, hM.a23, x1, y1, x2, y2, k1, k2, k3, k4, g1, g2]
        rfl
      · rw [decide_eq_false (hgt (by omega))]
        have q3 : ¬ A % 4 < B % 4 := by omega
        simp (maxSteps := 4000000) (disch := first | (simp (disch := omega) only [XB_i, XB_n, va_rf_s, va_rf_n, mSI_K, mSI_I, mSI_J, mSI_P, mSI_N, mSJ_K, mSJ_I, mSJ_J, mSJ_P, mSJ_N, mSP_K, mSP_I, mSP_J, mSP_P, mSP_N, mNn, mNi, mNr, mN0, al20, al21, al22, al23, al25, true_or, or_true, and_self, if_true, if_false, mCat_n, mCat_i, mCat_r, mCat_l, mCat_0, Nat.reduceAdd, Nat.reduceLeDiff, Nat.reduceLT, true_and, and_true, Nat.zero_le, bI_01, mInB_J, mInB_Z, mInB_N, hM.k, hM.r22, hM.a22, hM.r23, hM.a23, x1, y1, x2, y2, k1, k2, k3, k4, g1, g2]; done) | omega | (unfold R32 at *; omega)) only [e_169_62, e_169_65, e_169_65_n, e_169_66, e_169_69, e_169_71, e_169_72, e_169_74, e_169_75, e_169_76, e_169_77, e_169_78, e_169_79, e_169_79_n, e_169_80, e_169_83, e_169_85, e_169_86, e_169_88, e_169_89, e_169_90, e_169_91, e_169_92, e_169_94, e_169_94_n, e_169_95, e_169_98, e_169_100, e_169_101, e_169_103, e_169_104, e_169_105, e_169_106, e_169_107, e_169_108, e_169_108_n, e_169_109, e_169_112, e_169_114, e_169_115, e_169_117, e_169_118, e_169_119, e_169_120, e_169_121, e_169_123, e_169_125, e_169_127, e_169_130, e_169_132, e_169_134, e_169_137, e_169_138, e_169_141, e_169_142, XB_i, XB_n, va_rf_s, va_rf_n, mSI_K, mSI_I, mSI_J, mSI_P, mSI_N, mSJ_K, mSJ_I, mSJ_J, mSJ_P, mSJ_N, mSP_K, mSP_I, mSP_J, mSP_P, mSP_N, mNn, mNi, mNr, mN0, al20, al21, al22, al23, al25, true_or, or_true, and_self, if_true, if_false, mCat_n, mCat_i, mCat_r, mCat_l, mCat_0, Nat.reduceAdd, Nat.reduceLeDiff, Nat.reduceLT, true_and, and_true, Nat.zero_le, bI_01, bI_0, i10, tf0, iI_add, iI_sub, iI_mul, iI_neg, iI_add1, iI_sub1, iI_m1, nca, nc1, ncm1, iI_clJ, iI_cl0, iI_clN, Int.toNat_natCast, mU_n, mU_s, p_min, p_max, p_abs, ni_2, ni_3, ni_4, ni_7, ni_8, ni_9, ni_12, ni_24, ni_97, ni_100, ni_122, ni_200, ni_256, ni_4096, ni_5000, ni_9999, iI_lt, iI_le, iI_eq, iz_eq, iz_lt, iz_le, iz_gt, iz_ge, iy_eq, iy_lt, iy_le, iI_ltN, iI_leN, iI_eqN, if_pos, if_neg, hM.k, hM.r22, hM.a22, hM.r23, hM.a23, x1, y1, x2, y2, k1, k2, k3, k4, g1, g2]
        rfl
theorem m_ahead (hM : ModK T m) (hT : TiM T m p ts sf) (hN : TnM T m p ts) (hT2 : TiM T m q us sg) (hN2 : TnM T m q us) (hp : p < 5) (hq : q < 5) (ha : a < ts.length) (hb : b < us.length) (h1 : teP (tE ts a)) (h2 : teP (tE us b)) : XW 169 0 [some (.ref (m)), some (.int (iI ((p : Nat) : Int))), some (.int (iI ((a : Nat) : Int))), some (.int (iI ((q : Nat) : Int))), some (.int (iI ((b : Nat) : Int))), none, none, none, none, none] [] T Q = Q (.inl (some (.int (bI (decide ((tE ts a).1.1 < (tE us b).1.1)))))) T := by
  obtain ⟨t1, t2, t3, _⟩ := id hT
  obtain ⟨u1, u2, u3, _⟩ := id hT2
  have n2 := hN.2.1
  have v2 := hN2.2.1
  obtain ⟨z, c, hz, hc, es⟩ := h1
  obtain ⟨w, d, hw, hd, et⟩ := h2
  have x0 := t1 a ha
  have x1 := t2 a ha
  have x2 := t3 a ha
  have y0 := u1 b hb
  have y1 := u2 b hb
  have y2 := u3 b hb
  rw [es] at x0 x1 x2 ⊢
  rw [et] at y0 y1 y2 ⊢
  dsimp only at *
  have b1 := (p43 ⟨z, hz⟩).2.2
  have b2 := (p43 ⟨w, hw⟩).2.2
  dsimp only at b1 b2
  have lt := teP_lt hz hw hc hd
  have e : decide ((((4 ^ z - 1) / 3 + c : Nat) : Int) < (((4 ^ w - 1) / 3 + d : Nat) : Int)) = decide (z < w ∨ (z = w ∧ c < d)) := by
    apply decide_eq_decide.mpr
    rw [← lt]
    omega
  rw [e]
  by_cases q1 : z = w
  · subst q1
    have ed : decide (z < z ∨ (z = z ∧ c < d)) = decide (c < d) := by apply decide_eq_decide.mpr; omega
    have la := lm_ah (Q := Q) hM hp hq (by omega) (by omega) (by omega) (by omega) x1 x2 y1 y2 5 4 none none rfl (by omega) (by rw [Nat.div_eq_of_lt (by omega), Nat.div_eq_of_lt (by omega)])
    rw [ed, ← la]
    simp (maxSteps := 4000000) (disch := first | (simp (disch := omega) only [XB_i, XB_n, va_rf_s, va_rf_n, mSI_K, mSI_I, mSI_J, mSI_P, mSI_N, mSJ_K, mSJ_I, mSJ_J, mSJ_P, mSJ_N, mSP_K, mSP_I, mSP_J, mSP_P, mSP_N, mNn, mNi, mNr, mN0, al20, al21, al22, al23, al25, true_or, or_true, and_self, if_true, if_false, mCat_n, mCat_i, mCat_r, mCat_l, mCat_0, Nat.reduceAdd, Nat.reduceLeDiff, Nat.reduceLT, true_and, and_true, Nat.zero_le, bI_01, mInB_J, mInB_Z, mInB_N, hM.k, hM.r21, hM.a21, x0, y0]; done) | omega | (unfold R32 at *; omega)) only [e_169_0, e_169_2, e_169_3, e_169_4, e_169_5, e_169_6, e_169_8, e_169_10, e_169_11, e_169_12, e_169_14, e_169_15, e_169_17, e_169_17_n, e_169_18, e_169_21, e_169_23, e_169_24, e_169_24_n, e_169_25, e_169_28, e_169_30, e_169_31, e_169_34, e_169_34_n, e_169_35, e_169_38, e_169_40, e_169_41, e_169_41_n, e_169_42, e_169_45, e_169_47, e_169_48, e_169_51, e_169_52, e_169_55, e_169_56, e_169_57, e_169_58, nx100, XB_i, XB_n, va_rf_s, va_rf_n, mSI_K, mSI_I, mSI_J, mSI_P, mSI_N, mSJ_K, mSJ_I, mSJ_J, mSJ_P, mSJ_N, mSP_K, mSP_I, mSP_J, mSP_P, mSP_N, mNn, mNi, mNr, mN0, al20, al21, al22, al23, al25, true_or, or_true, and_self, if_true, if_false, mCat_n, mCat_i, mCat_r, mCat_l, mCat_0, Nat.reduceAdd, Nat.reduceLeDiff, Nat.reduceLT, true_and, and_true, Nat.zero_le, bI_01, bI_0, i10, tf0, iI_add, iI_sub, iI_mul, iI_neg, iI_add1, iI_sub1, iI_m1, nca, nc1, ncm1, iI_clJ, iI_cl0, iI_clN, Int.toNat_natCast, mU_n, mU_s, p_min, p_max, p_abs, ni_2, ni_3, ni_4, ni_7, ni_8, ni_9, ni_12, ni_24, ni_97, ni_100, ni_122, ni_200, ni_256, ni_4096, ni_5000, ni_9999, iI_lt, iI_le, iI_eq, iz_eq, iz_lt, iz_le, iz_gt, iz_ge, iy_eq, iy_lt, iy_le, iI_ltN, iI_leN, iI_eqN, if_pos, if_neg, hM.k, hM.r21, hM.a21, x0, y0]
  · by_cases q2 : z < w
    · rw [decide_eq_true (Or.inl q2)]
      simp (maxSteps := 4000000) (disch := first | (simp (disch := omega) only [XB_i, XB_n, va_rf_s, va_rf_n, mSI_K, mSI_I, mSI_J, mSI_P, mSI_N, mSJ_K, mSJ_I, mSJ_J, mSJ_P, mSJ_N, mSP_K, mSP_I, mSP_J, mSP_P, mSP_N, mNn, mNi, mNr, mN0, al20, al21, al22, al23, al25, true_or, or_true, and_self, if_true, if_false, mCat_n, mCat_i, mCat_r, mCat_l, mCat_0, Nat.reduceAdd, Nat.reduceLeDiff, Nat.reduceLT, true_and, and_true, Nat.zero_le, bI_01, mInB_J, mInB_Z, mInB_N, hM.k, hM.r21, hM.a21, x0, y0]; done) | omega | (unfold R32 at *; omega)) only [e_169_0, e_169_2, e_169_3, e_169_4, e_169_5, e_169_6, e_169_8, e_169_10, e_169_11, e_169_12, e_169_14, e_169_15, e_169_17, e_169_17_n, e_169_18, e_169_21, e_169_23, e_169_24, e_169_24_n, e_169_25, e_169_28, e_169_30, e_169_31, e_169_34, e_169_34_n, e_169_35, e_169_38, e_169_40, e_169_41, e_169_41_n, e_169_42, e_169_45, e_169_47, e_169_48, e_169_51, e_169_52, e_169_55, e_169_56, nx100, XB_i, XB_n, va_rf_s, va_rf_n, mSI_K, mSI_I, mSI_J, mSI_P, mSI_N, mSJ_K, mSJ_I, mSJ_J, mSJ_P, mSJ_N, mSP_K, mSP_I, mSP_J, mSP_P, mSP_N, mNn, mNi, mNr, mN0, al20, al21, al22, al23, al25, true_or, or_true, and_self, if_true, if_false, mCat_n, mCat_i, mCat_r, mCat_l, mCat_0, Nat.reduceAdd, Nat.reduceLeDiff, Nat.reduceLT, true_and, and_true, Nat.zero_le, bI_01, bI_0, i10, tf0, iI_add, iI_sub, iI_mul, iI_neg, iI_add1, iI_sub1, iI_m1, nca, nc1, ncm1, iI_clJ, iI_cl0, iI_clN, Int.toNat_natCast, mU_n, mU_s, p_min, p_max, p_abs, ni_2, ni_3, ni_4, ni_7, ni_8, ni_9, ni_12, ni_24, ni_97, ni_100, ni_122, ni_200, ni_256, ni_4096, ni_5000, ni_9999, iI_lt, iI_le, iI_eq, iz_eq, iz_lt, iz_le, iz_gt, iz_ge, iy_eq, iy_lt, iy_le, iI_ltN, iI_leN, iI_eqN, if_pos, if_neg, hM.k, hM.r21, hM.a21, x0, y0]
      rfl
    · rw [decide_eq_false (by omega)]
      simp (maxSteps := 4000000) (disch := first | (simp (disch := omega) only [XB_i, XB_n, va_rf_s, va_rf_n, mSI_K, mSI_I, mSI_J, mSI_P, mSI_N, mSJ_K, mSJ_I, mSJ_J, mSJ_P, mSJ_N, mSP_K, mSP_I, mSP_J, mSP_P, mSP_N, mNn, mNi, mNr, mN0, al20, al21, al22, al23, al25, true_or, or_true, and_self, if_true, if_false, mCat_n, mCat_i, mCat_r, mCat_l, mCat_0, Nat.reduceAdd, Nat.reduceLeDiff, Nat.reduceLT, true_and, and_true, Nat.zero_le, bI_01, mInB_J, mInB_Z, mInB_N, hM.k, hM.r21, hM.a21, x0, y0]; done) | omega | (unfold R32 at *; omega)) only [e_169_0, e_169_2, e_169_3, e_169_4, e_169_5, e_169_6, e_169_8, e_169_10, e_169_11, e_169_12, e_169_14, e_169_15, e_169_17, e_169_17_n, e_169_18, e_169_21, e_169_23, e_169_24, e_169_24_n, e_169_25, e_169_28, e_169_30, e_169_31, e_169_34, e_169_34_n, e_169_35, e_169_38, e_169_40, e_169_41, e_169_41_n, e_169_42, e_169_45, e_169_47, e_169_48, e_169_51, e_169_52, e_169_55, e_169_56, nx100, XB_i, XB_n, va_rf_s, va_rf_n, mSI_K, mSI_I, mSI_J, mSI_P, mSI_N, mSJ_K, mSJ_I, mSJ_J, mSJ_P, mSJ_N, mSP_K, mSP_I, mSP_J, mSP_P, mSP_N, mNn, mNi, mNr, mN0, al20, al21, al22, al23, al25, true_or, or_true, and_self, if_true, if_false, mCat_n, mCat_i, mCat_r, mCat_l, mCat_0, Nat.reduceAdd, Nat.reduceLeDiff, Nat.reduceLT, true_and, and_true, Nat.zero_le, bI_01, bI_0, i10, tf0, iI_add, iI_sub, iI_mul, iI_neg, iI_add1, iI_sub1, iI_m1, nca, nc1, ncm1, iI_clJ, iI_cl0, iI_clN, Int.toNat_natCast, mU_n, mU_s, p_min, p_max, p_abs, ni_2, ni_3, ni_4, ni_7, ni_8, ni_9, ni_12, ni_24, ni_97, ni_100, ni_122, ni_200, ni_256, ni_4096, ni_5000, ni_9999, iI_lt, iI_le, iI_eq, iz_eq, iz_lt, iz_le, iz_gt, iz_ge, iy_eq, iy_lt, iy_le, iI_ltN, iI_leN, iI_eqN, if_pos, if_neg, hM.k, hM.r21, hM.a21, x0, y0]
      rfl
end AH
