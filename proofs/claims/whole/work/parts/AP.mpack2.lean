/-! the reference: makePack -/
def esT (x n b : Int32) : Int32 := n ||| ((x >>> ((2 * b + 1) &&& 31) &&& 1) <<< (b &&& 31))
def itS (x : Int32) : Nat → Int32
  | 0 => 0
  | b + 1 => esS x (itS x b) (iI (b : Int))
def itT (x : Int32) : Nat → Int32
  | 0 => 0
  | b + 1 => esT x (itT x b) (iI (b : Int))
theorem it_key : ∀ z : Fin 5, ∀ c : Fin 256, c.val < 4 ^ z.val → itS (iI (c.val : Int)) z.val = iI ((eB c.val : Nat) : Int) ∧ itT (iI (c.val : Int)) z.val = iI ((eB (c.val / 2) : Nat) : Int) := by decide +kernel
theorem flI_f (R : Rg) (Gs : List Ft) (z : Nat) (ts : List Te) : ∀ n c, flI R Gs z n c (false, ts) = (false, ts)
  | 0, _ => rfl
  | _ + 1, _ => rfl
theorem flO_f (R : Rg) (Gs : List Ft) : ∀ n z (ts : List Te), (flO R Gs n z (false, ts)).1 = false
  | 0, _, _ => rfl
  | n + 1, z, ts => by
    show (flO R Gs n (z + 1) (flI R Gs z (4 ^ z) 0 (false, ts))).1 = false
    rw [flI_f]
    exact flO_f R Gs n (z + 1) ts
def mpS (m p : Nat) : Nat → Nat → Prop := fun b j => mtS m b j ∨ tiS m p b j
theorem RgM.mf {S : Nat → Nat → Prop} {T T2 : mT} {m : Nat} {R : Rg} (h : RgM T m R) (hf : Mf S T T2) (hs : ∀ j, ¬ S (m + 12) j) : RgM T2 m R := by
  obtain ⟨a0, a1, a2, a3, a4⟩ := h
  exact ⟨by rw [hf.I (hs 0)]; exact a0, by rw [hf.I (hs 1)]; exact a1, by rw [hf.I (hs 2)]; exact a2, by rw [hf.I (hs 3)]; exact a3, by rw [hf.I (hs 4)]; exact a4⟩
section MQ
variable {T : mT} {Q : mOut → mT → Prop} {m p s : Nat} {Gs : List Ft} {R : Rg} {ed : Int}
theorem lm_bits {z : Nat} {x : Int32} (hz : z < 5) : ∀ (n b : Nat), z - b = n → b ≤ z → XW 160 97 [some (.ref (m)), some (.int (iI ((p : Nat) : Int))), some (.int (iI (ed))), some (.int (iI ((s : Nat) : Int))), some (.int (iI ((z : Nat) : Int))), some (.int (x)), some (.int (itS x b)), some (.int (itT x b)), some (.int (iI ((b : Nat) : Int)))] [] T Q = XW 160 146 [some (.ref (m)), some (.int (iI ((p : Nat) : Int))), some (.int (iI (ed))), some (.int (iI ((s : Nat) : Int))), some (.int (iI ((z : Nat) : Int))), some (.int (x)), some (.int (itS x z)), some (.int (itT x z)), some (.int (iI ((z : Nat) : Int)))] [] T Q := by
  intro n
  induction n with
  | zero =>
    intro b hn hb
    have : b = z := by omega
    subst this
    have h1 : (iI (b : Int) ≤ iI (b : Int)) = True := by simp
    rw [e_160_97]
    simp only [e_160_99, e_160_101, XB_i, XB_n, va_rf_s, va_rf_n, mSI_K, mSI_I, mSI_J, mSI_P, mSI_N, mSJ_K, mSJ_I, mSJ_J, mSJ_P, mSJ_N, mSP_K, mSP_I, mSP_J, mSP_P, mSP_N, mNn, mNi, mNr, mN0, al20, al21, al22, al23, al25, true_or, or_true, and_self, if_true, if_false, mCat_n, mCat_i, mCat_r, mCat_l, mCat_0, Nat.reduceAdd, Nat.reduceLeDiff, Nat.reduceLT, true_and, and_true, Nat.zero_le, bI_01, h1]
  | succ n ih =>
    intro b hn hb
    have i1 := ih (b + 1) (by omega) (by omega)
    have h1 : (iI (z : Int) ≤ iI (b : Int)) = False := by rw [iI_leN (by omega) (by omega)]; simp; omega
    have h2 : iI (b : Int) + 1 = iI ((b + 1 : Nat) : Int) := iI_1N b
    rw [← i1, e_160_97]
    simp only [e_160_99, e_160_101, e_160_104, e_160_106, e_160_108, e_160_109, e_160_111, e_160_112, e_160_113, e_160_114, e_160_115, e_160_117, e_160_118, e_160_119, e_160_121, e_160_123, e_160_125, e_160_126, e_160_128, e_160_129, e_160_130, e_160_131, e_160_132, e_160_133, e_160_134, e_160_136, e_160_137, e_160_138, e_160_140, e_160_143, XB_i, XB_n, va_rf_s, va_rf_n, mSI_K, mSI_I, mSI_J, mSI_P, mSI_N, mSJ_K, mSJ_I, mSJ_J, mSJ_P, mSJ_N, mSP_K, mSP_I, mSP_J, mSP_P, mSP_N, mNn, mNi, mNr, mN0, al20, al21, al22, al23, al25, true_or, or_true, and_self, if_true, if_false, mCat_n, mCat_i, mCat_r, mCat_l, mCat_0, Nat.reduceAdd, Nat.reduceLeDiff, Nat.reduceLT, true_and, and_true, Nat.zero_le, bI_01, h1, h2]
    rfl
theorem lm_mpI {T0 : mT} {z : Nat} (hM0 : ModK T0 m) (hS0 : SlR T0 m s Gs) (hs : s < 3) (hp : p < 5) (ok : esOk Gs) (l12 : ∀ j, j < Gs.length → (fA Gs j).2.2.length ≤ 12) (hR0 : RgM T0 m R) (bR : rgO R) (hz : z < 5) : ∀ (n c : Nat) (T : mT) (ts : List Te) (l6 l7 l8 : Option Value), 4 ^ z - c = n → c ≤ 4 ^ z → Mf (mpS m p) T0 T → (∃ sf, TiM T m p ts sf) → TnM T m p ts → tsOk ts →
    ((flI R Gs z n c (true, ts)).1 = false → ∀ T2, Mf (mpS m p) T0 T2 → Q (.inl (some (.int 0))) T2) →
    (∀ T2 ts2 l5 l6 l7 l8, flI R Gs z n c (true, ts) = (true, ts2) → Mf (mpS m p) T0 T2 → (∃ sf, TiM T2 m p ts2 sf) → TnM T2 m p ts2 → tsOk ts2 → XW 160 232 [some (.ref (m)), some (.int (iI ((p : Nat) : Int))), some (.int (iI (ed))), some (.int (iI ((s : Nat) : Int))), some (.int (iI ((z : Nat) : Int))), l5, l6, l7, l8] [] T2 Q) → XW 160 77 [some (.ref (m)), some (.int (iI ((p : Nat) : Int))), some (.int (iI (ed))), some (.int (iI ((s : Nat) : Int))), some (.int (iI ((z : Nat) : Int))), some (.int (iI ((c : Nat) : Int))), l6, l7, l8] [] T Q := by
  obtain ⟨p1, p2, p3⟩ := p43 ⟨z, hz⟩
  dsimp only at p1 p2 p3
  have p4 := p4_key ⟨z, hz⟩
  dsimp only at p4
  obtain ⟨b0, b1, b2, b3, b4⟩ := rgO_B bR
  intro n
  induction n with
  | zero =>
    intro c T ts l6 l7 l8 hn hc hT hTi hTn tk hQ0 hQ1
    have hc : c = 4 ^ z := by omega
    rw [e_160_77]
    simp (maxSteps := 4000000) (disch := first | (simp (disch := omega) only [XB_i, XB_n, va_rf_s, va_rf_n, mSI_K, mSI_I, mSI_J, mSI_P, mSI_N, mSJ_K, mSJ_I, mSJ_J, mSJ_P, mSJ_N, mSP_K, mSP_I, mSP_J, mSP_P, mSP_N, mNn, mNi, mNr, mN0, al20, al21, al22, al23, al25, true_or, or_true, and_self, if_true, if_false, mCat_n, mCat_i, mCat_r, mCat_l, mCat_0, Nat.reduceAdd, Nat.reduceLeDiff, Nat.reduceLT, true_and, and_true, Nat.zero_le, bI_01, mInB_J, mInB_Z, mInB_N, p4]; done) | omega | (unfold R32 at *; omega)) only [e_160_79, e_160_80, e_160_81, e_160_83, e_160_84, e_160_85, XB_i, XB_n, va_rf_s, va_rf_n, mSI_K, mSI_I, mSI_J, mSI_P, mSI_N, mSJ_K, mSJ_I, mSJ_J, mSJ_P, mSJ_N, mSP_K, mSP_I, mSP_J, mSP_P, mSP_N, mNn, mNi, mNr, mN0, al20, al21, al22, al23, al25, true_or, or_true, and_self, if_true, if_false, mCat_n, mCat_i, mCat_r, mCat_l, mCat_0, Nat.reduceAdd, Nat.reduceLeDiff, Nat.reduceLT, true_and, and_true, Nat.zero_le, bI_01, bI_0, i10, tf0, iI_add, iI_sub, iI_mul, iI_neg, iI_add1, iI_sub1, iI_m1, nca, nc1, ncm1, iI_clJ, iI_cl0, iI_clN, Int.toNat_natCast, mU_n, mU_s, p_min, p_max, p_abs, ni_2, ni_3, ni_4, ni_7, ni_8, ni_9, ni_12, ni_24, ni_97, ni_100, ni_122, ni_200, ni_256, ni_4096, ni_5000, ni_9999, iI_lt, iI_le, iI_eq, iz_eq, iz_lt, iz_le, iz_gt, iz_ge, iy_eq, iy_lt, iy_le, iI_ltN, iI_leN, iI_eqN, if_pos, if_neg, p4]
    exact hQ1 T ts _ _ _ _ rfl hT hTi hTn tk
  | succ n ih =>
    intro c T ts l6 l7 l8 hn hc hT hTi hTn tk hQ0 hQ1
    have hM := hM0.mf hT
    have hS := hS0.mf hT (fun b j q1 q2 => by simp only [slS, mpS, mtS, rdS, wkS, cvS, wtS, ouS, tiS, iv] at q1 q2; omega)
    have hRT := hR0.mf hT (fun j q2 => by simp only [mpS, mtS, rdS, wkS, cvS, wtS, ouS, tiS, iv] at q2; omega)
    obtain ⟨r0, r1, r2, r3, r4⟩ := id hRT
    have x1 := eB_le c
    have x2 := eB_le (c / 2)
    obtain ⟨k1, k2⟩ := it_key ⟨z, hz⟩ ⟨c, by omega⟩ (by dsimp only; omega)
    dsimp only at k1 k2
    have lb := fun Q => @lm_bits T Q m p s ed z (iI (c : Int)) hz z 0 (by omega) (by omega)
    rw [k1, k2] at lb
    have e0 : iI ((0 : Nat) : Int) = 0 := rfl
    have z0 : itS (iI (c : Int)) 0 = 0 := rfl
    have z1 : itT (iI (c : Int)) 0 = 0 := rfl
    rw [e0, z0, z1] at lb
    have i0 : mInB 0 5 = true := mInB_Z (by omega) (by omega)
    have i1 : mInB 1 5 = true := mInB_N (j := 1) (by omega) (by omega)
    have j1 : (1 : Int32).toNatClampNeg = 1 := rfl
    have t2 : (2 : Int).toNat = 2 := rfl
    have t3 : (3 : Int).toNat = 3 := rfl
    have pX := fun Q => @m_inRegion T Q m (z : Int) (eB c : Int) R.1 R.2.2.1 (by omega) (by omega) b0 b2
    have pY := fun Q => @m_inRegion T Q m (z : Int) (eB (c / 2) : Int) R.2.1 R.2.2.2.1 (by omega) (by omega) b1 b3
    have hfl : flI R Gs z (n + 1) c (true, ts) = flI R Gs z n (c + 1) (flC R Gs z c ts) := rfl
    have go : ∀ (T2 : mT) (ts2 : List Te) (l6 l7 l8 : Option Value), (true, ts2) = flC R Gs z c ts → Mf (mpS m p) T0 T2 → (∃ sf, TiM T2 m p ts2 sf) → TnM T2 m p ts2 → tsOk ts2 → XW 160 226 [some (.ref (m)), some (.int (iI ((p : Nat) : Int))), some (.int (iI (ed))), some (.int (iI ((s : Nat) : Int))), some (.int (iI ((z : Nat) : Int))), some (.int (iI ((c : Nat) : Int))), l6, l7, l8] [] T2 Q := by
      intro T2 ts2 l6 l7 l8 hfc hT2 hTi2 hTn2 tk2
      simp (maxSteps := 4000000) (disch := first | (simp (disch := omega) only [XB_i, XB_n, va_rf_s, va_rf_n, mSI_K, mSI_I, mSI_J, mSI_P, mSI_N, mSJ_K, mSJ_I, mSJ_J, mSJ_P, mSJ_N, mSP_K, mSP_I, mSP_J, mSP_P, mSP_N, mNn, mNi, mNr, mN0, al20, al21, al22, al23, al25, true_or, or_true, and_self, if_true, if_false, mCat_n, mCat_i, mCat_r, mCat_l, mCat_0, Nat.reduceAdd, Nat.reduceLeDiff, Nat.reduceLT, true_and, and_true, Nat.zero_le, bI_01, mInB_J, mInB_Z, mInB_N]; done) | omega | (unfold R32 at *; omega)) only [e_160_226, e_160_229, XB_i, XB_n, va_rf_s, va_rf_n, mSI_K, mSI_I, mSI_J, mSI_P, mSI_N, mSJ_K, mSJ_I, mSJ_J, mSJ_P, mSJ_N, mSP_K, mSP_I, mSP_J, mSP_P, mSP_N, mNn, mNi, mNr, mN0, al20, al21, al22, al23, al25, true_or, or_true, and_self, if_true, if_false, mCat_n, mCat_i, mCat_r, mCat_l, mCat_0, Nat.reduceAdd, Nat.reduceLeDiff, Nat.reduceLT, true_and, and_true, Nat.zero_le, bI_01, bI_0, i10, tf0, iI_add, iI_sub, iI_mul, iI_neg, iI_add1, iI_sub1, iI_m1, nca, nc1, ncm1, iI_clJ, iI_cl0, iI_clN, Int.toNat_natCast, mU_n, mU_s, p_min, p_max, p_abs, ni_2, ni_3, ni_4, ni_7, ni_8, ni_9, ni_12, ni_24, ni_97, ni_100, ni_122, ni_200, ni_256, ni_4096, ni_5000, ni_9999, iI_lt, iI_le, iI_eq, iz_eq, iz_lt, iz_le, iz_gt, iz_ge, iy_eq, iy_lt, iy_le, iI_ltN, iI_leN, iI_eqN, if_pos, if_neg]
      exact ih (c + 1) T2 ts2 l6 l7 l8 (by omega) (by omega) hT2 hTi2 hTn2 tk2 (by rw [hfl, ← hfc] at hQ0; exact hQ0) (by rw [hfl, ← hfc] at hQ1; exact hQ1)
    have hts : htP R z (eB c) (eB (c / 2)) ↔ (R.1 / 2 ^ (12 - (z : Int)).toNat ≤ (eB c : Int) ∧ (eB c : Int) ≤ R.2.2.1 / 2 ^ (12 - (z : Int)).toNat) ∧ (R.2.1 / 2 ^ (12 - (z : Int)).toNat ≤ (eB (c / 2) : Int) ∧ (eB (c / 2) : Int) ≤ R.2.2.2.1 / 2 ^ (12 - (z : Int)).toNat) := by unfold htP; exact ⟨fun h => ⟨⟨h.1, h.2.1⟩, h.2.2.1, h.2.2.2⟩, fun h => ⟨h.1.1, h.1.2, h.2.1, h.2.2⟩⟩
    have dand : ∀ (a b c d : Int), (decide (a ≤ b) && decide (c ≤ d)) = decide (a ≤ b ∧ c ≤ d) := fun a b c d => by simp
    rw [dand] at pX pY
    -- to 146
    have to146 : XW 160 79 [some (.ref (m)), some (.int (iI ((p : Nat) : Int))), some (.int (iI (ed))), some (.int (iI ((s : Nat) : Int))), some (.int (iI ((z : Nat) : Int))), some (.int (iI ((c : Nat) : Int))), l6, l7, l8] [.int (iI (c : Int))] T Q = XW 160 146 [some (.ref (m)), some (.int (iI ((p : Nat) : Int))), some (.int (iI (ed))), some (.int (iI ((s : Nat) : Int))), some (.int (iI ((z : Nat) : Int))), some (.int (iI ((c : Nat) : Int))), some (.int (iI ((eB c : Nat) : Int))), some (.int (iI ((eB (c / 2) : Nat) : Int))), some (.int (iI ((z : Nat) : Int)))] [] T Q := by
      simp (maxSteps := 4000000) (disch := first | (simp (disch := omega) only [XB_i, XB_n, va_rf_s, va_rf_n, mSI_K, mSI_I, mSI_J, mSI_P, mSI_N, mSJ_K, mSJ_I, mSJ_J, mSJ_P, mSJ_N, mSP_K, mSP_I, mSP_J, mSP_P, mSP_N, mNn, mNi, mNr, mN0, al20, al21, al22, al23, al25, true_or, or_true, and_self, if_true, if_false, mCat_n, mCat_i, mCat_r, mCat_l, mCat_0, Nat.reduceAdd, Nat.reduceLeDiff, Nat.reduceLT, true_and, and_true, Nat.zero_le, bI_01, mInB_J, mInB_Z, mInB_N, p4, lb]; done) | omega | (unfold R32 at *; omega)) only [e_160_79, e_160_80, e_160_81, e_160_83, e_160_84, e_160_85, e_160_88, e_160_89, e_160_91, e_160_92, e_160_94, e_160_95, XB_i, XB_n, va_rf_s, va_rf_n, mSI_K, mSI_I, mSI_J, mSI_P, mSI_N, mSJ_K, mSJ_I, mSJ_J, mSJ_P, mSJ_N, mSP_K, mSP_I, mSP_J, mSP_P, mSP_N, mNn, mNi, mNr, mN0, al20, al21, al22, al23, al25, true_or, or_true, and_self, if_true, if_false, mCat_n, mCat_i, mCat_r, mCat_l, mCat_0, Nat.reduceAdd, Nat.reduceLeDiff, Nat.reduceLT, true_and, and_true, Nat.zero_le, bI_01, bI_0, i10, tf0, iI_add, iI_sub, iI_mul, iI_neg, iI_add1, iI_sub1, iI_m1, nca, nc1, ncm1, iI_clJ, iI_cl0, iI_clN, Int.toNat_natCast, mU_n, mU_s, p_min, p_max, p_abs, ni_2, ni_3, ni_4, ni_7, ni_8, ni_9, ni_12, ni_24, ni_97, ni_100, ni_122, ni_200, ni_256, ni_4096, ni_5000, ni_9999, iI_lt, iI_le, iI_eq, iz_eq, iz_lt, iz_le, iz_gt, iz_ge, iy_eq, iy_lt, iy_le, iI_ltN, iI_leN, iI_eqN, if_pos, if_neg, p4, lb]
    rw [e_160_77, to146]
    by_cases qx : R.1 / 2 ^ (12 - (z : Int)).toNat ≤ (eB c : Int) ∧ (eB c : Int) ≤ R.2.2.1 / 2 ^ (12 - (z : Int)).toNat
    · rw [decide_eq_true qx] at pX
      by_cases qy : R.2.1 / 2 ^ (12 - (z : Int)).toNat ≤ (eB (c / 2) : Int) ∧ (eB (c / 2) : Int) ≤ R.2.2.2.1 / 2 ^ (12 - (z : Int)).toNat
      · rw [decide_eq_true qy] at pY
        have qh : dB (htP R z (eB c) (eB (c / 2))) = true := dB_t (hts.mpr ⟨qx, qy⟩)
        simp (maxSteps := 4000000) (disch := first | (simp (disch := omega) only [XB_i, XB_n, va_rf_s, va_rf_n, mSI_K, mSI_I, mSI_J, mSI_P, mSI_N, mSJ_K, mSJ_I, mSJ_J, mSJ_P, mSJ_N, mSP_K, mSP_I, mSP_J, mSP_P, mSP_N, mNn, mNi, mNr, mN0, al20, al21, al22, al23, al25, true_or, or_true, and_self, if_true, if_false, mCat_n, mCat_i, mCat_r, mCat_l, mCat_0, Nat.reduceAdd, Nat.reduceLeDiff, Nat.reduceLT, true_and, and_true, Nat.zero_le, bI_01, mInB_J, mInB_Z, mInB_N, hM.k, hM.r14, hM.a14, i0, i1, j1, t2, t3, iI_cl0, r0, r1, r2, r3, pX, pY, bI_t]; done) | omega | (unfold R32 at *; omega)) only [e_160_146, e_160_146_n, e_160_147, e_160_149, e_160_151, e_160_151_n, e_160_152, e_160_155, e_160_156, e_160_157, e_160_157_n, e_160_158, e_160_161, e_160_162, e_160_166, e_160_169, e_160_169_n, e_160_170, e_160_172, e_160_174, e_160_174_n, e_160_175, e_160_178, e_160_179, e_160_180, e_160_180_n, e_160_181, e_160_184, e_160_185, e_160_189, e_160_192, e_160_192_n, e_160_193, e_160_194, e_160_196, e_160_198, d_160_163, d_160_186, XB_i, XB_n, va_rf_s, va_rf_n, mSI_K, mSI_I, mSI_J, mSI_P, mSI_N, mSJ_K, mSJ_I, mSJ_J, mSJ_P, mSJ_N, mSP_K, mSP_I, mSP_J, mSP_P, mSP_N, mNn, mNi, mNr, mN0, al20, al21, al22, al23, al25, true_or, or_true, and_self, if_true, if_false, mCat_n, mCat_i, mCat_r, mCat_l, mCat_0, Nat.reduceAdd, Nat.reduceLeDiff, Nat.reduceLT, true_and, and_true, Nat.zero_le, bI_01, bI_0, i10, tf0, iI_add, iI_sub, iI_mul, iI_neg, iI_add1, iI_sub1, iI_m1, nca, nc1, ncm1, iI_clJ, iI_cl0, iI_clN, Int.toNat_natCast, mU_n, mU_s, p_min, p_max, p_abs, ni_2, ni_3, ni_4, ni_7, ni_8, ni_9, ni_12, ni_24, ni_97, ni_100, ni_122, ni_200, ni_256, ni_4096, ni_5000, ni_9999, iI_lt, iI_le, iI_eq, iz_eq, iz_lt, iz_le, iz_gt, iz_ge, iy_eq, iy_lt, iy_le, iI_ltN, iI_leN, iI_eqN, if_pos, if_neg, hM.k, hM.r14, hM.a14, i0, i1, j1, t2, t3, iI_cl0, r0, r1, r2, r3, pX, pY, bI_t]
        refine c_160_200 (by simp only [XB_i, XB_n, va_rf_s, va_rf_n, mSI_K, mSI_I, mSI_J, mSI_P, mSI_N, mSJ_K, mSJ_I, mSJ_J, mSJ_P, mSJ_N, mSP_K, mSP_I, mSP_J, mSP_P, mSP_N, mNn, mNi, mNr, mN0, al20, al21, al22, al23, al25, true_or, or_true, and_self, if_true, if_false, mCat_n, mCat_i, mCat_r, mCat_l, mCat_0, Nat.reduceAdd, Nat.reduceLeDiff, Nat.reduceLT, true_and, and_true, Nat.zero_le, bI_01]) (by rw [hM.k]) (m_makeTile hM hS hs ok (by omega) (by omega) (by omega) (fun T2 h2 hl2 f2 => ?_))
        have hT2 : Mf (mpS m p) T0 T2 := hT.tr (f2.mono (fun b j q => Or.inl q))
        have hM2 := hM0.mf hT2
        have dj : ∀ b j, pkS m p b j → ¬ mtS m b j := (fun b j q1 q2 => by (try simp only [nxS, slS, haS, pkS, mtS, rdS, wkS, cvS, wtS, ouS, stS, smS, feS, ftS, iv] at q1 q2); omega)
        obtain ⟨sf, hti⟩ := hTi
        have hTi2 := hti.mf hTn.2.1 hTn.2.2.2 f2 dj
        have hTn2 := hTn.mf f2 dj
        have o1 := h2.1
        have k2' := hM2.k
        have bb := tileB_b (z := z) (Fs := Gs) (tx := eB c) (ty := eB (c / 2)) (by omega) (by omega) (fun j hj => ⟨ok.1 j hj, l12 j hj⟩)
        generalize hbs : tileB z Gs (eB c) (eB (c / 2)) = B at *
        by_cases qn : B = []
        · have qn' : B.length = 0 := by rw [qn]; rfl
          simp (maxSteps := 4000000) (disch := first | (simp (disch := omega) only [XB_i, XB_n, va_rf_s, va_rf_n, mSI_K, mSI_I, mSI_J, mSI_P, mSI_N, mSJ_K, mSJ_I, mSJ_J, mSJ_P, mSJ_N, mSP_K, mSP_I, mSP_J, mSP_P, mSP_N, mNn, mNi, mNr, mN0, al20, al21, al22, al23, al25, true_or, or_true, and_self, if_true, if_false, mCat_n, mCat_i, mCat_r, mCat_l, mCat_0, Nat.reduceAdd, Nat.reduceLeDiff, Nat.reduceLT, true_and, and_true, Nat.zero_le, bI_01, mInB_J, mInB_Z, mInB_N, k2', o1, qn']; done) | omega | (unfold R32 at *; omega)) only [e_160_203, e_160_203_n, e_160_204, e_160_207, XB_i, XB_n, va_rf_s, va_rf_n, mSI_K, mSI_I, mSI_J, mSI_P, mSI_N, mSJ_K, mSJ_I, mSJ_J, mSJ_P, mSJ_N, mSP_K, mSP_I, mSP_J, mSP_P, mSP_N, mNn, mNi, mNr, mN0, al20, al21, al22, al23, al25, true_or, or_true, and_self, if_true, if_false, mCat_n, mCat_i, mCat_r, mCat_l, mCat_0, Nat.reduceAdd, Nat.reduceLeDiff, Nat.reduceLT, true_and, and_true, Nat.zero_le, bI_01, bI_0, i10, tf0, iI_add, iI_sub, iI_mul, iI_neg, iI_add1, iI_sub1, iI_m1, nca, nc1, ncm1, iI_clJ, iI_cl0, iI_clN, Int.toNat_natCast, mU_n, mU_s, p_min, p_max, p_abs, ni_2, ni_3, ni_4, ni_7, ni_8, ni_9, ni_12, ni_24, ni_97, ni_100, ni_122, ni_200, ni_256, ni_4096, ni_5000, ni_9999, iI_lt, iI_le, iI_eq, iz_eq, iz_lt, iz_le, iz_gt, iz_ge, iy_eq, iy_lt, iy_le, iI_ltN, iI_leN, iI_eqN, if_pos, if_neg, k2', o1, qn']
          exact go T2 ts _ _ _ (by unfold flC; rw [qh, hbs, if_pos rfl, if_pos qn]) hT2 ⟨sf, hTi2⟩ hTn2 tk
        · have qn' : 0 < B.length := List.length_pos_iff.mpr qn
          simp (maxSteps := 4000000) (disch := first | (simp (disch := omega) only [XB_i, XB_n, va_rf_s, va_rf_n, mSI_K, mSI_I, mSI_J, mSI_P, mSI_N, mSJ_K, mSJ_I, mSJ_J, mSJ_P, mSJ_N, mSP_K, mSP_I, mSP_J, mSP_P, mSP_N, mNn, mNi, mNr, mN0, al20, al21, al22, al23, al25, true_or, or_true, and_self, if_true, if_false, mCat_n, mCat_i, mCat_r, mCat_l, mCat_0, Nat.reduceAdd, Nat.reduceLeDiff, Nat.reduceLT, true_and, and_true, Nat.zero_le, bI_01, mInB_J, mInB_Z, mInB_N, k2', o1]; done) | omega | (unfold R32 at *; omega)) only [e_160_203, e_160_203_n, e_160_204, e_160_207, e_160_210, e_160_210_n, e_160_211, e_160_212, e_160_214, e_160_216, XB_i, XB_n, va_rf_s, va_rf_n, mSI_K, mSI_I, mSI_J, mSI_P, mSI_N, mSJ_K, mSJ_I, mSJ_J, mSJ_P, mSJ_N, mSP_K, mSP_I, mSP_J, mSP_P, mSP_N, mNn, mNi, mNr, mN0, al20, al21, al22, al23, al25, true_or, or_true, and_self, if_true, if_false, mCat_n, mCat_i, mCat_r, mCat_l, mCat_0, Nat.reduceAdd, Nat.reduceLeDiff, Nat.reduceLT, true_and, and_true, Nat.zero_le, bI_01, bI_0, i10, tf0, iI_add, iI_sub, iI_mul, iI_neg, iI_add1, iI_sub1, iI_m1, nca, nc1, ncm1, iI_clJ, iI_cl0, iI_clN, Int.toNat_natCast, mU_n, mU_s, p_min, p_max, p_abs, ni_2, ni_3, ni_4, ni_7, ni_8, ni_9, ni_12, ni_24, ni_97, ni_100, ni_122, ni_200, ni_256, ni_4096, ni_5000, ni_9999, iI_lt, iI_le, iI_eq, iz_eq, iz_lt, iz_le, iz_gt, iz_ge, iy_eq, iy_lt, iy_le, iI_ltN, iI_leN, iI_eqN, if_pos, if_neg, k2', o1]
          refine c_160_218 (by simp only [XB_i, XB_n, va_rf_s, va_rf_n, mSI_K, mSI_I, mSI_J, mSI_P, mSI_N, mSJ_K, mSJ_I, mSJ_J, mSJ_P, mSJ_N, mSP_K, mSP_I, mSP_J, mSP_P, mSP_N, mNn, mNi, mNr, mN0, al20, al21, al22, al23, al25, true_or, or_true, and_self, if_true, if_false, mCat_n, mCat_i, mCat_r, mCat_l, mCat_0, Nat.reduceAdd, Nat.reduceLeDiff, Nat.reduceLT, true_and, and_true, Nat.zero_le, bI_01]) (by rw [k2']) (m_addTile (t := ((((4 ^ z - 1) / 3 + c : Nat) : Int), (z : Int), (eB c : Int), (eB (c / 2) : Int))) hM2 hTi2 hTn2 tk hp h2 hl2 bb (fun qa T3 h3 h4 f3 => ?_) (fun qa => ?_))
          · simp (maxSteps := 4000000) (disch := first | (simp (disch := omega) only [XB_i, XB_n, va_rf_s, va_rf_n, mSI_K, mSI_I, mSI_J, mSI_P, mSI_N, mSJ_K, mSJ_I, mSJ_J, mSJ_P, mSJ_N, mSP_K, mSP_I, mSP_J, mSP_P, mSP_N, mNn, mNi, mNr, mN0, al20, al21, al22, al23, al25, true_or, or_true, and_self, if_true, if_false, mCat_n, mCat_i, mCat_r, mCat_l, mCat_0, Nat.reduceAdd, Nat.reduceLeDiff, Nat.reduceLT, true_and, and_true, Nat.zero_le, bI_01, mInB_J, mInB_Z, mInB_N]; done) | omega | (unfold R32 at *; omega)) only [e_160_221, XB_i, XB_n, va_rf_s, va_rf_n, mSI_K, mSI_I, mSI_J, mSI_P, mSI_N, mSJ_K, mSJ_I, mSJ_J, mSJ_P, mSJ_N, mSP_K, mSP_I, mSP_J, mSP_P, mSP_N, mNn, mNi, mNr, mN0, al20, al21, al22, al23, al25, true_or, or_true, and_self, if_true, if_false, mCat_n, mCat_i, mCat_r, mCat_l, mCat_0, Nat.reduceAdd, Nat.reduceLeDiff, Nat.reduceLT, true_and, and_true, Nat.zero_le, bI_01, bI_0, i10, tf0, iI_add, iI_sub, iI_mul, iI_neg, iI_add1, iI_sub1, iI_m1, nca, nc1, ncm1, iI_clJ, iI_cl0, iI_clN, Int.toNat_natCast, mU_n, mU_s, p_min, p_max, p_abs, ni_2, ni_3, ni_4, ni_7, ni_8, ni_9, ni_12, ni_24, ni_97, ni_100, ni_122, ni_200, ni_256, ni_4096, ni_5000, ni_9999, iI_lt, iI_le, iI_eq, iz_eq, iz_lt, iz_le, iz_gt, iz_ge, iy_eq, iy_lt, iy_le, iI_ltN, iI_leN, iI_eqN, if_pos, if_neg]
            refine go T3 _ _ _ _ ?_ (hT2.tr (f3.mono (fun b j q => Or.inr q))) h3 h4 (tsOk_app tk ⟨by dsimp only; omega, by dsimp only; omega, by dsimp only; omega, by dsimp only; omega, hl2, bb⟩)
            unfold flC
            rw [qh, hbs, if_pos rfl, if_neg qn, qa, if_pos rfl]
          · simp (maxSteps := 4000000) (disch := first | (simp (disch := omega) only [XB_i, XB_n, va_rf_s, va_rf_n, mSI_K, mSI_I, mSI_J, mSI_P, mSI_N, mSJ_K, mSJ_I, mSJ_J, mSJ_P, mSJ_N, mSP_K, mSP_I, mSP_J, mSP_P, mSP_N, mNn, mNi, mNr, mN0, al20, al21, al22, al23, al25, true_or, or_true, and_self, if_true, if_false, mCat_n, mCat_i, mCat_r, mCat_l, mCat_0, Nat.reduceAdd, Nat.reduceLeDiff, Nat.reduceLT, true_and, and_true, Nat.zero_le, bI_01, mInB_J, mInB_Z, mInB_N]; done) | omega | (unfold R32 at *; omega)) only [e_160_221, e_160_224, e_160_225, XB_i, XB_n, va_rf_s, va_rf_n, mSI_K, mSI_I, mSI_J, mSI_P, mSI_N, mSJ_K, mSJ_I, mSJ_J, mSJ_P, mSJ_N, mSP_K, mSP_I, mSP_J, mSP_P, mSP_N, mNn, mNi, mNr, mN0, al20, al21, al22, al23, al25, true_or, or_true, and_self, if_true, if_false, mCat_n, mCat_i, mCat_r, mCat_l, mCat_0, Nat.reduceAdd, Nat.reduceLeDiff, Nat.reduceLT, true_and, and_true, Nat.zero_le, bI_01, bI_0, i10, tf0, iI_add, iI_sub, iI_mul, iI_neg, iI_add1, iI_sub1, iI_m1, nca, nc1, ncm1, iI_clJ, iI_cl0, iI_clN, Int.toNat_natCast, mU_n, mU_s, p_min, p_max, p_abs, ni_2, ni_3, ni_4, ni_7, ni_8, ni_9, ni_12, ni_24, ni_97, ni_100, ni_122, ni_200, ni_256, ni_4096, ni_5000, ni_9999, iI_lt, iI_le, iI_eq, iz_eq, iz_lt, iz_le, iz_gt, iz_ge, iy_eq, iy_lt, iy_le, iI_ltN, iI_leN, iI_eqN, if_pos, if_neg]
            refine hQ0 ?_ T2 hT2
            rw [hfl]
            have : flC R Gs z c ts = (false, ts) := by
              unfold flC
              rw [qh, hbs, if_pos rfl, if_neg qn, qa, if_neg (by decide)]
            rw [this, flI_f]
      · rw [decide_eq_false qy] at pY
        simp (maxSteps := 4000000) (disch := first | (simp (disch := omega) only [XB_i, XB_n, va_rf_s, va_rf_n, mSI_K, mSI_I, mSI_J, mSI_P, mSI_N, mSJ_K, mSJ_I, mSJ_J, mSJ_P, mSJ_N, mSP_K, mSP_I, mSP_J, mSP_P, mSP_N, mNn, mNi, mNr, mN0, al20, al21, al22, al23, al25, true_or, or_true, and_self, if_true, if_false, mCat_n, mCat_i, mCat_r, mCat_l, mCat_0, Nat.reduceAdd, Nat.reduceLeDiff, Nat.reduceLT, true_and, and_true, Nat.zero_le, bI_01, mInB_J, mInB_Z, mInB_N, hM.k, hM.r14, hM.a14, i0, i1, j1, t2, t3, iI_cl0, r0, r1, r2, r3, pX, pY, bI_t, bI_f]; done) | omega | (unfold R32 at *; omega)) only [e_160_146, e_160_146_n, e_160_147, e_160_149, e_160_151, e_160_151_n, e_160_152, e_160_155, e_160_156, e_160_157, e_160_157_n, e_160_158, e_160_161, e_160_162, e_160_166, e_160_169, e_160_169_n, e_160_170, e_160_172, e_160_174, e_160_174_n, e_160_175, e_160_178, e_160_179, e_160_180, e_160_180_n, e_160_181, e_160_184, e_160_185, e_160_189, d_160_163, d_160_186, XB_i, XB_n, va_rf_s, va_rf_n, mSI_K, mSI_I, mSI_J, mSI_P, mSI_N, mSJ_K, mSJ_I, mSJ_J, mSJ_P, mSJ_N, mSP_K, mSP_I, mSP_J, mSP_P, mSP_N, mNn, mNi, mNr, mN0, al20, al21, al22, al23, al25, true_or, or_true, and_self, if_true, if_false, mCat_n, mCat_i, mCat_r, mCat_l, mCat_0, Nat.reduceAdd, Nat.reduceLeDiff, Nat.reduceLT, true_and, and_true, Nat.zero_le, bI_01, bI_0, i10, tf0, iI_add, iI_sub, iI_mul, iI_neg, iI_add1, iI_sub1, iI_m1, nca, nc1, ncm1, iI_clJ, iI_cl0, iI_clN, Int.toNat_natCast, mU_n, mU_s, p_min, p_max, p_abs, ni_2, ni_3, ni_4, ni_7, ni_8, ni_9, ni_12, ni_24, ni_97, ni_100, ni_122, ni_200, ni_256, ni_4096, ni_5000, ni_9999, iI_lt, iI_le, iI_eq, iz_eq, iz_lt, iz_le, iz_gt, iz_ge, iy_eq, iy_lt, iy_le, iI_ltN, iI_leN, iI_eqN, if_pos, if_neg, hM.k, hM.r14, hM.a14, i0, i1, j1, t2, t3, iI_cl0, r0, r1, r2, r3, pX, pY, bI_t, bI_f]
        exact go T ts _ _ _ (by unfold flC; rw [dB_f (fun h => qy (hts.mp h).2)]; rfl) hT hTi hTn tk
    · rw [decide_eq_false qx] at pX
      simp (maxSteps := 4000000) (disch := first | (simp (disch := omega) only [XB_i, XB_n, va_rf_s, va_rf_n, mSI_K, mSI_I, mSI_J, mSI_P, mSI_N, mSJ_K, mSJ_I, mSJ_J, mSJ_P, mSJ_N, mSP_K, mSP_I, mSP_J, mSP_P, mSP_N, mNn, mNi, mNr, mN0, al20, al21, al22, al23, al25, true_or, or_true, and_self, if_true, if_false, mCat_n, mCat_i, mCat_r, mCat_l, mCat_0, Nat.reduceAdd, Nat.reduceLeDiff, Nat.reduceLT, true_and, and_true, Nat.zero_le, bI_01, mInB_J, mInB_Z, mInB_N, hM.k, hM.r14, hM.a14, i0, i1, j1, t2, t3, iI_cl0, r0, r1, r2, r3, pX, bI_f]; done) | omega | (unfold R32 at *; omega)) only [e_160_146, e_160_146_n, e_160_147, e_160_149, e_160_151, e_160_151_n, e_160_152, e_160_155, e_160_156, e_160_157, e_160_157_n, e_160_158, e_160_161, e_160_162, e_160_166, d_160_163, XB_i, XB_n, va_rf_s, va_rf_n, mSI_K, mSI_I, mSI_J, mSI_P, mSI_N, mSJ_K, mSJ_I, mSJ_J, mSJ_P, mSJ_N, mSP_K, mSP_I, mSP_J, mSP_P, mSP_N, mNn, mNi, mNr, mN0, al20, al21, al22, al23, al25, true_or, or_true, and_self, if_true, if_false, mCat_n, mCat_i, mCat_r, mCat_l, mCat_0, Nat.reduceAdd, Nat.reduceLeDiff, Nat.reduceLT, true_and, and_true, Nat.zero_le, bI_01, bI_0, i10, tf0, iI_add, iI_sub, iI_mul, iI_neg, iI_add1, iI_sub1, iI_m1, nca, nc1, ncm1, iI_clJ, iI_cl0, iI_clN, Int.toNat_natCast, mU_n, mU_s, p_min, p_max, p_abs, ni_2, ni_3, ni_4, ni_7, ni_8, ni_9, ni_12, ni_24, ni_97, ni_100, ni_122, ni_200, ni_256, ni_4096, ni_5000, ni_9999, iI_lt, iI_le, iI_eq, iz_eq, iz_lt, iz_le, iz_gt, iz_ge, iy_eq, iy_lt, iy_le, iI_ltN, iI_leN, iI_eqN, if_pos, if_neg, hM.k, hM.r14, hM.a14, i0, i1, j1, t2, t3, iI_cl0, r0, r1, r2, r3, pX, bI_f]
      exact go T ts _ _ _ (by unfold flC; rw [dB_f (fun h => qx (hts.mp h).1)]; rfl) hT hTi hTn tk
theorem lm_mpO {T0 : mT} {Z : Nat} (hM0 : ModK T0 m) (hS0 : SlR T0 m s Gs) (hs : s < 3) (hp : p < 5) (ok : esOk Gs) (l12 : ∀ j, j < Gs.length → (fA Gs j).2.2.length ≤ 12) (hR0 : RgM T0 m R) (bR : rgO R) (hZ : R.2.2.2.2 = (Z : Int)) : ∀ (n z : Nat) (T : mT) (ts : List Te) (l5 l6 l7 l8 : Option Value), Z + 1 - z = n → z ≤ Z + 1 → Mf (mpS m p) T0 T → (∃ sf, TiM T m p ts sf) → TnM T m p ts → tsOk ts →
    ((flO R Gs n z (true, ts)).1 = false → ∀ T2, Mf (mpS m p) T0 T2 → Q (.inl (some (.int 0))) T2) →
    (∀ T2 ts2 l4 l5 l6 l7 l8, flO R Gs n z (true, ts) = (true, ts2) → Mf (mpS m p) T0 T2 → (∃ sf, TiM T2 m p ts2 sf) → TnM T2 m p ts2 → tsOk ts2 → XW 160 238 [some (.ref (m)), some (.int (iI ((p : Nat) : Int))), some (.int (iI (ed))), some (.int (iI ((s : Nat) : Int))), l4, l5, l6, l7, l8] [] T2 Q) → XW 160 63 [some (.ref (m)), some (.int (iI ((p : Nat) : Int))), some (.int (iI (ed))), some (.int (iI ((s : Nat) : Int))), some (.int (iI ((z : Nat) : Int))), l5, l6, l7, l8] [] T Q := by
  have bz := (rgO_B bR).2.2.2.2
  intro n
  induction n with
  | zero =>
    intro z T ts l5 l6 l7 l8 hn hz hT hTi hTn tk hQ0 hQ1
    have hM := hM0.mf hT
    have hRT := hR0.mf hT (fun j q2 => by simp only [mpS, mtS, rdS, wkS, cvS, wtS, ouS, tiS, iv] at q2; omega)
    have r4 := hRT.2.2.2.2
    rw [hZ] at r4
    have t4 : (4 : Int).toNat = 4 := rfl
    rw [e_160_63]
    simp (maxSteps := 4000000) (disch := first | (simp (disch := omega) only [XB_i, XB_n, va_rf_s, va_rf_n, mSI_K, mSI_I, mSI_J, mSI_P, mSI_N, mSJ_K, mSJ_I, mSJ_J, mSJ_P, mSJ_N, mSP_K, mSP_I, mSP_J, mSP_P, mSP_N, mNn, mNi, mNr, mN0, al20, al21, al22, al23, al25, true_or, or_true, and_self, if_true, if_false, mCat_n, mCat_i, mCat_r, mCat_l, mCat_0, Nat.reduceAdd, Nat.reduceLeDiff, Nat.reduceLT, true_and, and_true, Nat.zero_le, bI_01, mInB_J, mInB_Z, mInB_N, hM.k, hM.r14, hM.a14, t4, r4]; done) | omega | (unfold R32 at *; omega)) only [e_160_65, e_160_65_n, e_160_66, e_160_69, e_160_70, e_160_71, XB_i, XB_n, va_rf_s, va_rf_n, mSI_K, mSI_I, mSI_J, mSI_P, mSI_N, mSJ_K, mSJ_I, mSJ_J, mSJ_P, mSJ_N, mSP_K, mSP_I, mSP_J, mSP_P, mSP_N, mNn, mNi, mNr, mN0, al20, al21, al22, al23, al25, true_or, or_true, and_self, if_true, if_false, mCat_n, mCat_i, mCat_r, mCat_l, mCat_0, Nat.reduceAdd, Nat.reduceLeDiff, Nat.reduceLT, true_and, and_true, Nat.zero_le, bI_01, bI_0, i10, tf0, iI_add, iI_sub, iI_mul, iI_neg, iI_add1, iI_sub1, iI_m1, nca, nc1, ncm1, iI_clJ, iI_cl0, iI_clN, Int.toNat_natCast, mU_n, mU_s, p_min, p_max, p_abs, ni_2, ni_3, ni_4, ni_7, ni_8, ni_9, ni_12, ni_24, ni_97, ni_100, ni_122, ni_200, ni_256, ni_4096, ni_5000, ni_9999, iI_lt, iI_le, iI_eq, iz_eq, iz_lt, iz_le, iz_gt, iz_ge, iy_eq, iy_lt, iy_le, iI_ltN, iI_leN, iI_eqN, if_pos, if_neg, hM.k, hM.r14, hM.a14, t4, r4]
    exact hQ1 T ts _ _ _ _ _ rfl hT hTi hTn tk
  | succ n ih =>
    intro z T ts l5 l6 l7 l8 hn hz hT hTi hTn tk hQ0 hQ1
    have hM := hM0.mf hT
    have hRT := hR0.mf hT (fun j q2 => by simp only [mpS, mtS, rdS, wkS, cvS, wtS, ouS, tiS, iv] at q2; omega)
    have r4 := hRT.2.2.2.2
    rw [hZ] at r4
    have t4 : (4 : Int).toNat = 4 := rfl
    have hfo : flO R Gs (n + 1) z (true, ts) = flO R Gs n (z + 1) (flI R Gs z (4 ^ z) 0 (true, ts)) := rfl
    rw [e_160_63]
    simp (maxSteps := 4000000) (disch := first | (simp (disch := omega) only [XB_i, XB_n, va_rf_s, va_rf_n, mSI_K, mSI_I, mSI_J, mSI_P, mSI_N, mSJ_K, mSJ_I, mSJ_J, mSJ_P, mSJ_N, mSP_K, mSP_I, mSP_J, mSP_P, mSP_N, mNn, mNi, mNr, mN0, al20, al21, al22, al23, al25, true_or, or_true, and_self, if_true, if_false, mCat_n, mCat_i, mCat_r, mCat_l, mCat_0, Nat.reduceAdd, Nat.reduceLeDiff, Nat.reduceLT, true_and, and_true, Nat.zero_le, bI_01, mInB_J, mInB_Z, mInB_N, hM.k, hM.r14, hM.a14, t4, r4]; done) | omega | (unfold R32 at *; omega)) only [e_160_65, e_160_65_n, e_160_66, e_160_69, e_160_70, e_160_71, e_160_74, e_160_75, XB_i, XB_n, va_rf_s, va_rf_n, mSI_K, mSI_I, mSI_J, mSI_P, mSI_N, mSJ_K, mSJ_I, mSJ_J, mSJ_P, mSJ_N, mSP_K, mSP_I, mSP_J, mSP_P, mSP_N, mNn, mNi, mNr, mN0, al20, al21, al22, al23, al25, true_or, or_true, and_self, if_true, if_false, mCat_n, mCat_i, mCat_r, mCat_l, mCat_0, Nat.reduceAdd, Nat.reduceLeDiff, Nat.reduceLT, true_and, and_true, Nat.zero_le, bI_01, bI_0, i10, tf0, iI_add, iI_sub, iI_mul, iI_neg, iI_add1, iI_sub1, iI_m1, nca, nc1, ncm1, iI_clJ, iI_cl0, iI_clN, Int.toNat_natCast, mU_n, mU_s, p_min, p_max, p_abs, ni_2, ni_3, ni_4, ni_7, ni_8, ni_9, ni_12, ni_24, ni_97, ni_100, ni_122, ni_200, ni_256, ni_4096, ni_5000, ni_9999, iI_lt, iI_le, iI_eq, iz_eq, iz_lt, iz_le, iz_gt, iz_ge, iy_eq, iy_lt, iy_le, iI_ltN, iI_leN, iI_eqN, if_pos, if_neg, hM.k, hM.r14, hM.a14, t4, r4]
    refine lm_mpI hM0 hS0 hs hp ok l12 hR0 bR (by omega) (4 ^ z) 0 T ts l6 l7 l8 rfl (Nat.zero_le _) hT hTi hTn tk (fun hf T2 f2 => ?_) (fun T2 ts2 l5 l6 l7 l8 hf f2 h2 h3 h4 => ?_)
    · refine hQ0 ?_ T2 f2
      rw [hfo]
      generalize flI R Gs z (4 ^ z) 0 (true, ts) = w at *
      obtain ⟨w1, w2⟩ := w
      dsimp only at hf
      subst hf
      exact flO_f R Gs n (z + 1) w2
    · simp (maxSteps := 4000000) (disch := first | (simp (disch := omega) only [XB_i, XB_n, va_rf_s, va_rf_n, mSI_K, mSI_I, mSI_J, mSI_P, mSI_N, mSJ_K, mSJ_I, mSJ_J, mSJ_P, mSJ_N, mSP_K, mSP_I, mSP_J, mSP_P, mSP_N, mNn, mNi, mNr, mN0, al20, al21, al22, al23, al25, true_or, or_true, and_self, if_true, if_false, mCat_n, mCat_i, mCat_r, mCat_l, mCat_0, Nat.reduceAdd, Nat.reduceLeDiff, Nat.reduceLT, true_and, and_true, Nat.zero_le, bI_01, mInB_J, mInB_Z, mInB_N]; done) | omega | (unfold R32 at *; omega)) only [e_160_232, e_160_235, XB_i, XB_n, va_rf_s, va_rf_n, mSI_K, mSI_I, mSI_J, mSI_P, mSI_N, mSJ_K, mSJ_I, mSJ_J, mSJ_P, mSJ_N, mSP_K, mSP_I, mSP_J, mSP_P, mSP_N, mNn, mNi, mNr, mN0, al20, al21, al22, al23, al25, true_or, or_true, and_self, if_true, if_false, mCat_n, mCat_i, mCat_r, mCat_l, mCat_0, Nat.reduceAdd, Nat.reduceLeDiff, Nat.reduceLT, true_and, and_true, Nat.zero_le, bI_01, bI_0, i10, tf0, iI_add, iI_sub, iI_mul, iI_neg, iI_add1, iI_sub1, iI_m1, nca, nc1, ncm1, iI_clJ, iI_cl0, iI_clN, Int.toNat_natCast, mU_n, mU_s, p_min, p_max, p_abs, ni_2, ni_3, ni_4, ni_7, ni_8, ni_9, ni_12, ni_24, ni_97, ni_100, ni_122, ni_200, ni_256, ni_4096, ni_5000, ni_9999, iI_lt, iI_le, iI_eq, iz_eq, iz_lt, iz_le, iz_gt, iz_ge, iy_eq, iy_lt, iy_le, iI_ltN, iI_leN, iI_eqN, if_pos, if_neg]
      rw [hfo, hf] at hQ0 hQ1
      exact ih (z + 1) T2 ts2 l5 l6 l7 l8 (by omega) (by omega) f2 h2 h3 h4 hQ0 hQ1
end MQ
