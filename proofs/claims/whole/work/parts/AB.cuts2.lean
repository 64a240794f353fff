/-! the reference: cutLine, cutRing -/
theorem gC_cons {cs : List Cn} {c : Cn} {r : List Cn} {i : Nat} (h : cs.drop i = c :: r) : gC cs i = c := by
  obtain ⟨hi, p1, p2, p3, _⟩ := drop_cons h
  have e1 : (gC cs i).1 = c.1 := p1
  have e2 : (gC cs i).2.1 = c.2.1 := p2
  have e3 : (gC cs i).2.2 = c.2.2 := p3
  exact Prod.ext e1 (Prod.ext e2 e3)
theorem gC_B {cs : List Cn} (h : ∀ c ∈ cs, cB c) (k : Nat) : cB (gC cs k) := by
  unfold gC
  rw [List.getD_eq_getElem?_getD]
  cases hg : cs[k]? with
  | none => exact ⟨⟨by decide, by decide⟩, ⟨by decide, by decide⟩⟩
  | some c => exact h c (List.mem_of_getElem? hg)
section MX
variable {T : mT} {Q : mOut → mT → Prop} {m w : Nat} {b : Int} {cs : List Cn}
/-- what is written, from the corners rest on -/
def finL (w : Nat) (b : Int) (rest o : List Cn) : List Cn := match rest with
  | [] => o
  | c :: r => cutL (decide (w < 2)) (decide (w % 2 = 0)) b false (some c) r (cut2 (decide (w < 2)) (decide (w % 2 = 0)) b false c o)
theorem lm_line {T0 : mT} (hM0 : ModK T0 m) (hC0 : CwR T0 m cs) (hl : cs.length ≤ 199) (hw : w < 4) (hb : -8192 ≤ b ∧ b ≤ 8192) (hB : ∀ c ∈ cs, cB c) : ∀ (rest : List Cn) (i : Nat) (T : mT) (o : List Cn) (op : Bool) (l5 : Option Value), cs.drop i = rest → i ≤ cs.length → Mf (wtS m) T0 T → WrR T m o → o.length ≤ 2 * i → (∀ c r, rest = c :: r → c.2.2 = false → op = iW w b c) →
    (∀ T2 l3 l5, WrR T2 m (finL w b rest o) → (finL w b rest o).length ≤ 2 * cs.length → Mf (wtS m) T0 T2 → XW 142 151 [some (.ref (m)), some (.int (iI ((w : Nat) : Int))), some (.int (iI (b))), l3, some (.int (iI ((cs.length : Nat) : Int))), l5] [] T2 Q) → XW 142 10 [some (.ref (m)), some (.int (iI ((w : Nat) : Int))), some (.int (iI (b))), some (.int (bI op)), some (.int (iI ((i : Nat) : Int))), l5] [] T Q := by
  have rb : R32 b := ⟨by omega, by omega⟩
  intro rest
  induction rest with
  | nil =>
    intro i T o op l5 hd hi hT hW ho hop hQ
    have hM := hM0.mf hT
    have c1 := (hC0.mf hT (fun b j h => cv_wt h)).1
    have : i = cs.length := by
      have := List.drop_eq_nil_iff.mp hd
      omega
    subst this
    rw [e_142_10]
    simp (maxSteps := 4000000) (disch := first | (simp (disch := omega) only [XB_i, XB_n, va_rf_s, va_rf_n, mSI_K, mSI_I, mSI_J, mSI_P, mSI_N, mSJ_K, mSJ_I, mSJ_J, mSJ_P, mSJ_N, mSP_K, mSP_I, mSP_J, mSP_P, mSP_N, mNn, mNi, mNr, mN0, al20, al21, al22, al23, al25, true_or, or_true, and_self, if_true, if_false, mCat_n, mCat_i, mCat_r, mCat_l, mCat_0, Nat.reduceAdd, Nat.reduceLeDiff, Nat.reduceLT, true_and, and_true, Nat.zero_le, bI_01, mInB_J, mInB_Z, mInB_N, hM.k, c1]; done) | omega | (unfold R32 at *; omega)) only [e_142_12, e_142_12_n, e_142_13, e_142_16, XB_i, XB_n, va_rf_s, va_rf_n, mSI_K, mSI_I, mSI_J, mSI_P, mSI_N, mSJ_K, mSJ_I, mSJ_J, mSJ_P, mSJ_N, mSP_K, mSP_I, mSP_J, mSP_P, mSP_N, mNn, mNi, mNr, mN0, al20, al21, al22, al23, al25, true_or, or_true, and_self, if_true, if_false, mCat_n, mCat_i, mCat_r, mCat_l, mCat_0, Nat.reduceAdd, Nat.reduceLeDiff, Nat.reduceLT, true_and, and_true, Nat.zero_le, bI_01, bI_0, i10, tf0, iI_add, iI_sub, iI_mul, iI_neg, iI_add1, iI_sub1, iI_m1, nca, nc1, ncm1, iI_clJ, iI_cl0, iI_clN, Int.toNat_natCast, mU_n, mU_s, p_min, p_max, p_abs, ni_2, ni_3, ni_4, ni_7, ni_8, ni_9, ni_12, ni_24, ni_97, ni_100, ni_122, ni_200, ni_256, ni_4096, ni_5000, ni_9999, iI_lt, iI_le, iI_eq, iz_eq, iz_lt, iz_le, iz_gt, iz_ge, iy_eq, iy_lt, iy_le, iI_ltN, iI_leN, iI_eqN, if_pos, if_neg, hM.k, c1]
    exact hQ T _ _ hW ho hT
  | cons c rest ih =>
    intro i T o op l5 hd hi hT hW ho hop hQ
    have hM := hM0.mf hT
    obtain ⟨hil, p1, p2, p3, p4⟩ := drop_cons hd
    have eg := gC_cons hd
    have hC := hC0.mf hT (fun b j h => cv_wt h)
    obtain ⟨c1, c2, c3, c4⟩ := id hC
    have x1 := c2 i hil
    have y1 := c3 i hil
    have g1 := c4 i hil
    obtain ⟨bx, bY⟩ := gC_B hB i
    have pin := fun Q => @m_inside T Q m cs i w b hM hC hil (by omega) hw rb ⟨by have : (gC cs i).1 = pX cs i := rfl; omega, by have : (gC cs i).1 = pX cs i := rfl; omega⟩ ⟨by have : (gC cs i).2.1 = pY cs i := rfl; omega, by have : (gC cs i).2.1 = pY cs i := rfl; omega⟩
    rw [eg] at pin
    rw [p1] at x1
    rw [p2] at y1
    rw [p3] at g1
    -- from 75 on, with c written
    have tail : ∀ (T1 : mT) (o2 : List Cn) (op2 : Bool), o2 = cut2 (decide (w < 2)) (decide (w % 2 = 0)) b false c o → op2 = iW w b c → Mf (wtS m) T0 T1 → WrR T1 m o2 → o2.length ≤ 2 * i + 1 → XW 142 75 [some (.ref (m)), some (.int (iI ((w : Nat) : Int))), some (.int (iI (b))), some (.int (bI op2)), some (.int (iI ((i : Nat) : Int))), some (.int (bI (iW w b c)))] [] T1 Q := by
      intro T1 o2 op2 ho2 hop2 hT1 hW1 hl1
      have hM1 := hM0.mf hT1
      have hC1 := hC0.mf hT1 (fun b j h => cv_wt h)
      obtain ⟨d1, d2, d3, d4⟩ := id hC1
      have kM := hM1.k
      have r42 := hM1.r42
      have a42 := hM1.a42
      have fe : finL w b (c :: rest) o = cutL (decide (w < 2)) (decide (w % 2 = 0)) b false (some c) rest o2 := by rw [ho2]; rfl
      cases rest with
      | nil =>
        have hlast : i + 1 = cs.length := by have := List.drop_eq_nil_iff.mp p4; omega
        simp (maxSteps := 4000000) (disch := first | (simp (disch := omega) only [XB_i, XB_n, va_rf_s, va_rf_n, mSI_K, mSI_I, mSI_J, mSI_P, mSI_N, mSJ_K, mSJ_I, mSJ_J, mSJ_P, mSJ_N, mSP_K, mSP_I, mSP_J, mSP_P, mSP_N, mNn, mNi, mNr, mN0, al20, al21, al22, al23, al25, true_or, or_true, and_self, if_true, if_false, mCat_n, mCat_i, mCat_r, mCat_l, mCat_0, Nat.reduceAdd, Nat.reduceLeDiff, Nat.reduceLT, true_and, and_true, Nat.zero_le, bI_01, mInB_J, mInB_Z, mInB_N, kM, d1]; done) | omega | (unfold R32 at *; omega)) only [e_142_75, e_142_77, e_142_78, e_142_79, e_142_79_n, e_142_80, e_142_83, e_142_145, e_142_148, XB_i, XB_n, va_rf_s, va_rf_n, mSI_K, mSI_I, mSI_J, mSI_P, mSI_N, mSJ_K, mSJ_I, mSJ_J, mSJ_P, mSJ_N, mSP_K, mSP_I, mSP_J, mSP_P, mSP_N, mNn, mNi, mNr, mN0, al20, al21, al22, al23, al25, true_or, or_true, and_self, if_true, if_false, mCat_n, mCat_i, mCat_r, mCat_l, mCat_0, Nat.reduceAdd, Nat.reduceLeDiff, Nat.reduceLT, true_and, and_true, Nat.zero_le, bI_01, bI_0, i10, tf0, iI_add, iI_sub, iI_mul, iI_neg, iI_add1, iI_sub1, iI_m1, nca, nc1, ncm1, iI_clJ, iI_cl0, iI_clN, Int.toNat_natCast, mU_n, mU_s, p_min, p_max, p_abs, ni_2, ni_3, ni_4, ni_7, ni_8, ni_9, ni_12, ni_24, ni_97, ni_100, ni_122, ni_200, ni_256, ni_4096, ni_5000, ni_9999, iI_lt, iI_le, iI_eq, iz_eq, iz_lt, iz_le, iz_gt, iz_ge, iy_eq, iy_lt, iy_le, iI_ltN, iI_leN, iI_eqN, if_pos, if_neg, kM, d1]
        have := ih (i + 1) T1 o2 op2 (some (.int (bI (iW w b c)))) p4 (by omega) hT1 hW1 (by omega) (fun c' r' h => by cases h) (fun T2 l3 l5 h2 hl2 f2 => hQ T2 l3 l5 (by rw [fe]; exact h2) (by rw [fe]; exact hl2) f2)
        exact this
      | cons e r =>
        obtain ⟨hil2, q1, q2, q3, q4⟩ := drop_cons p4
        have eg2 := gC_cons p4
        have g2 := d4 (i + 1) hil2
        rw [q3] at g2
        have nxt' : ∀ (T2 : mT) (o3 : List Cn) (op3 : Bool) (l5 : Option Value), o3 = cut1 (decide (w < 2)) (decide (w % 2 = 0)) b false (some c) e o2 → (e.2.2 = false → op3 = iW w b e) → Mf (wtS m) T0 T2 → WrR T2 m o3 → o3.length ≤ 2 * (i + 1) → XW 142 10 [some (.ref (m)), some (.int (iI ((w : Nat) : Int))), some (.int (iI (b))), some (.int (bI op3)), some (.int (iI ((i + 1 : Nat) : Int))), l5] [] T2 Q := by
          intro T2 o3 op3 l5 ho3 hop3 hT2 hW2 hl2
          refine ih (i + 1) T2 o3 op3 l5 p4 (by omega) hT2 hW2 hl2 (fun c' r' h => by cases h; exact hop3) (fun T3 l3 l5 h3 hl3 f3 => hQ T3 l3 l5 ?_ ?_ f3)
          · rw [fe]; rw [ho3] at h3; exact h3
          · rw [fe]; rw [ho3] at hl3; exact hl3
        cases hg : e.2.2 with
        | true =>
          rw [hg] at g2
          simp (maxSteps := 4000000) (disch := first | (simp (disch := omega) only [XB_i, XB_n, va_rf_s, va_rf_n, mSI_K, mSI_I, mSI_J, mSI_P, mSI_N, mSJ_K, mSJ_I, mSJ_J, mSJ_P, mSJ_N, mSP_K, mSP_I, mSP_J, mSP_P, mSP_N, mNn, mNi, mNr, mN0, al20, al21, al22, al23, al25, true_or, or_true, and_self, if_true, if_false, mCat_n, mCat_i, mCat_r, mCat_l, mCat_0, Nat.reduceAdd, Nat.reduceLeDiff, Nat.reduceLT, true_and, and_true, Nat.zero_le, bI_01, mInB_J, mInB_Z, mInB_N, kM, r42, a42, d1, g2, bI_t]; done) | omega | (unfold R32 at *; omega)) only [e_142_75, e_142_77, e_142_78, e_142_79, e_142_79_n, e_142_80, e_142_83, e_142_86, e_142_86_n, e_142_87, e_142_90, e_142_92, e_142_93, e_142_94, e_142_95, e_142_145, e_142_148, XB_i, XB_n, va_rf_s, va_rf_n, mSI_K, mSI_I, mSI_J, mSI_P, mSI_N, mSJ_K, mSJ_I, mSJ_J, mSJ_P, mSJ_N, mSP_K, mSP_I, mSP_J, mSP_P, mSP_N, mNn, mNi, mNr, mN0, al20, al21, al22, al23, al25, true_or, or_true, and_self, if_true, if_false, mCat_n, mCat_i, mCat_r, mCat_l, mCat_0, Nat.reduceAdd, Nat.reduceLeDiff, Nat.reduceLT, true_and, and_true, Nat.zero_le, bI_01, bI_0, i10, tf0, iI_add, iI_sub, iI_mul, iI_neg, iI_add1, iI_sub1, iI_m1, nca, nc1, ncm1, iI_clJ, iI_cl0, iI_clN, Int.toNat_natCast, mU_n, mU_s, p_min, p_max, p_abs, ni_2, ni_3, ni_4, ni_7, ni_8, ni_9, ni_12, ni_24, ni_97, ni_100, ni_122, ni_200, ni_256, ni_4096, ni_5000, ni_9999, iI_lt, iI_le, iI_eq, iz_eq, iz_lt, iz_le, iz_gt, iz_ge, iy_eq, iy_lt, iy_le, iI_ltN, iI_leN, iI_eqN, if_pos, if_neg, kM, r42, a42, d1, g2, bI_t]
          exact nxt' T1 o2 op2 _ (by unfold cut1; rw [hg]; rfl) (fun z => by rw [hg] at z; exact absurd z (by decide)) hT1 hW1 (by omega)
        | false =>
          rw [hg] at g2
          obtain ⟨ex, ey⟩ := gC_B hB (i + 1)
          have pin2 := fun Q => @m_inside T1 Q m cs (i + 1) w b hM1 hC1 hil2 (by omega) hw rb ⟨by have : (gC cs (i + 1)).1 = pX cs (i + 1) := rfl; omega, by have : (gC cs (i + 1)).1 = pX cs (i + 1) := rfl; omega⟩ ⟨by have : (gC cs (i + 1)).2.1 = pY cs (i + 1) := rfl; omega, by have : (gC cs (i + 1)).2.1 = pY cs (i + 1) := rfl; omega⟩
          rw [eg2] at pin2
          by_cases qq : iW w b c = iW w b e
          · rw [← qq] at pin2
            simp (maxSteps := 4000000) (disch := first | (simp (disch := omega) only [XB_i, XB_n, va_rf_s, va_rf_n, mSI_K, mSI_I, mSI_J, mSI_P, mSI_N, mSJ_K, mSJ_I, mSJ_J, mSJ_P, mSJ_N, mSP_K, mSP_I, mSP_J, mSP_P, mSP_N, mNn, mNi, mNr, mN0, al20, al21, al22, al23, al25, true_or, or_true, and_self, if_true, if_false, mCat_n, mCat_i, mCat_r, mCat_l, mCat_0, Nat.reduceAdd, Nat.reduceLeDiff, Nat.reduceLT, true_and, and_true, Nat.zero_le, bI_01, mInB_J, mInB_Z, mInB_N, kM, r42, a42, d1, g2, bI_f, pin2]; done) | omega | (unfold R32 at *; omega)) only [e_142_75, e_142_77, e_142_78, e_142_79, e_142_79_n, e_142_80, e_142_83, e_142_86, e_142_86_n, e_142_87, e_142_90, e_142_92, e_142_93, e_142_94, e_142_95, e_142_98, e_142_100, e_142_100_n, e_142_101, e_142_103, e_142_104, e_142_105, e_142_106, e_142_110, e_142_145, e_142_148, d_142_107, XB_i, XB_n, va_rf_s, va_rf_n, mSI_K, mSI_I, mSI_J, mSI_P, mSI_N, mSJ_K, mSJ_I, mSJ_J, mSJ_P, mSJ_N, mSP_K, mSP_I, mSP_J, mSP_P, mSP_N, mNn, mNi, mNr, mN0, al20, al21, al22, al23, al25, true_or, or_true, and_self, if_true, if_false, mCat_n, mCat_i, mCat_r, mCat_l, mCat_0, Nat.reduceAdd, Nat.reduceLeDiff, Nat.reduceLT, true_and, and_true, Nat.zero_le, bI_01, bI_0, i10, tf0, iI_add, iI_sub, iI_mul, iI_neg, iI_add1, iI_sub1, iI_m1, nca, nc1, ncm1, iI_clJ, iI_cl0, iI_clN, Int.toNat_natCast, mU_n, mU_s, p_min, p_max, p_abs, ni_2, ni_3, ni_4, ni_7, ni_8, ni_9, ni_12, ni_24, ni_97, ni_100, ni_122, ni_200, ni_256, ni_4096, ni_5000, ni_9999, iI_lt, iI_le, iI_eq, iz_eq, iz_lt, iz_le, iz_gt, iz_ge, iy_eq, iy_lt, iy_le, iI_ltN, iI_leN, iI_eqN, if_pos, if_neg, kM, r42, a42, d1, g2, bI_f, pin2]
            refine nxt' T1 o2 op2 _ ?_ (fun _ => by rw [hop2, qq]) hT1 hW1 (by omega)
            unfold cut1
            rw [hg]
            unfold iW at qq
            dsimp only
            rw [qq]
            simp
          · have cne : (insC (decide (w < 2)) (decide (w % 2 = 0)) b e != insC (decide (w < 2)) (decide (w % 2 = 0)) b c) = true := by
              rw [bne_iff_ne]; exact fun z => qq z.symm
            have xne : iW w b (gC cs i) ≠ iW w b (gC cs (i + 1)) := by rw [eg, eg2]; exact qq
            have bne' : (bI (iW w b c) = bI (iW w b e)) = False := by
              cases h1 : iW w b c <;> cases h2 : iW w b e <;> simp [bI]
              · exact qq (by rw [h1, h2])
              · exact qq (by rw [h1, h2])
            subst hop2
            have ec1 : cut1 (decide (w < 2)) (decide (w % 2 = 0)) b false (some c) e o2 = o2 ++ [bordC (decide (w < 2)) b (gC cs i) (gC cs (i + 1)) (!iW w b c)] := by
              unfold cut1
              rw [hg]
              dsimp only
              rw [cne, eg, eg2]
              simp only [Bool.not_false, Bool.and_self, if_true, Bool.false_eq_true, if_false]
              have : insC (decide (w < 2)) (decide (w % 2 = 0)) b e = !iW w b c := by
                unfold iW at qq ⊢
                cases h1 : insC (decide (w < 2)) (decide (w % 2 = 0)) b c <;> cases h2 : insC (decide (w < 2)) (decide (w % 2 = 0)) b e <;> simp_all
              rw [this]
            have opn : iW w b e = !iW w b c := by
              cases h1 : iW w b c <;> cases h2 : iW w b e <;> simp_all
            cases hin : iW w b c with
            | true =>
              rw [hin] at ec1 bne' opn
              rw [bI_t] at bne'
              simp (maxSteps := 4000000) (disch := first | (simp (disch := omega) only [XB_i, XB_n, va_rf_s, va_rf_n, mSI_K, mSI_I, mSI_J, mSI_P, mSI_N, mSJ_K, mSJ_I, mSJ_J, mSJ_P, mSJ_N, mSP_K, mSP_I, mSP_J, mSP_P, mSP_N, mNn, mNi, mNr, mN0, al20, al21, al22, al23, al25, true_or, or_true, and_self, if_true, if_false, mCat_n, mCat_i, mCat_r, mCat_l, mCat_0, Nat.reduceAdd, Nat.reduceLeDiff, Nat.reduceLT, true_and, and_true, Nat.zero_le, bI_01, mInB_J, mInB_Z, mInB_N, kM, r42, a42, d1, g2, bI_f, bI_t, pin2, bne']; done) | omega | (unfold R32 at *; omega)) only [e_142_75, e_142_77, e_142_78, e_142_79, e_142_79_n, e_142_80, e_142_83, e_142_86, e_142_86_n, e_142_87, e_142_90, e_142_92, e_142_93, e_142_94, e_142_95, e_142_98, e_142_100, e_142_100_n, e_142_101, e_142_103, e_142_104, e_142_105, e_142_106, e_142_110, e_142_113, e_142_113_n, e_142_114, e_142_116, e_142_118, e_142_119, e_142_120, e_142_121, e_142_122, e_142_123, e_142_126, e_142_127, e_142_130, d_142_107, XB_i, XB_n, va_rf_s, va_rf_n, mSI_K, mSI_I, mSI_J, mSI_P, mSI_N, mSJ_K, mSJ_I, mSJ_J, mSJ_P, mSJ_N, mSP_K, mSP_I, mSP_J, mSP_P, mSP_N, mNn, mNi, mNr, mN0, al20, al21, al22, al23, al25, true_or, or_true, and_self, if_true, if_false, mCat_n, mCat_i, mCat_r, mCat_l, mCat_0, Nat.reduceAdd, Nat.reduceLeDiff, Nat.reduceLT, true_and, and_true, Nat.zero_le, bI_01, bI_0, i10, tf0, iI_add, iI_sub, iI_mul, iI_neg, iI_add1, iI_sub1, iI_m1, nca, nc1, ncm1, iI_clJ, iI_cl0, iI_clN, Int.toNat_natCast, mU_n, mU_s, p_min, p_max, p_abs, ni_2, ni_3, ni_4, ni_7, ni_8, ni_9, ni_12, ni_24, ni_97, ni_100, ni_122, ni_200, ni_256, ni_4096, ni_5000, ni_9999, iI_lt, iI_le, iI_eq, iz_eq, iz_lt, iz_le, iz_gt, iz_ge, iy_eq, iy_lt, iy_le, iI_ltN, iI_leN, iI_eqN, if_pos, if_neg, kM, r42, a42, d1, g2, bI_f, bI_t, pin2, bne']
              refine c_142_131 (by simp only [XB_i, XB_n, va_rf_s, va_rf_n, mSI_K, mSI_I, mSI_J, mSI_P, mSI_N, mSJ_K, mSJ_I, mSJ_J, mSJ_P, mSJ_N, mSP_K, mSP_I, mSP_J, mSP_P, mSP_N, mNn, mNi, mNr, mN0, al20, al21, al22, al23, al25, true_or, or_true, and_self, if_true, if_false, mCat_n, mCat_i, mCat_r, mCat_l, mCat_0, Nat.reduceAdd, Nat.reduceLeDiff, Nat.reduceLT, true_and, and_true, Nat.zero_le, bI_01]) (by rw [kM]) (m_border (g := false) hM1 hC1 hW1 (by omega) hil hil2 (by omega) hw hb (gC_B hB) xne (fun T2 h2 f2 => ?_))
              simp (maxSteps := 4000000) (disch := first | (simp (disch := omega) only [XB_i, XB_n, va_rf_s, va_rf_n, mSI_K, mSI_I, mSI_J, mSI_P, mSI_N, mSJ_K, mSJ_I, mSJ_J, mSJ_P, mSJ_N, mSP_K, mSP_I, mSP_J, mSP_P, mSP_N, mNn, mNi, mNr, mN0, al20, al21, al22, al23, al25, true_or, or_true, and_self, if_true, if_false, mCat_n, mCat_i, mCat_r, mCat_l, mCat_0, Nat.reduceAdd, Nat.reduceLeDiff, Nat.reduceLT, true_and, and_true, Nat.zero_le, bI_01, mInB_J, mInB_Z, mInB_N]; done) | omega | (unfold R32 at *; omega)) only [e_142_134, e_142_136, e_142_139, e_142_140, e_142_143, e_142_144, e_142_145, e_142_148, XB_i, XB_n, va_rf_s, va_rf_n, mSI_K, mSI_I, mSI_J, mSI_P, mSI_N, mSJ_K, mSJ_I, mSJ_J, mSJ_P, mSJ_N, mSP_K, mSP_I, mSP_J, mSP_P, mSP_N, mNn, mNi, mNr, mN0, al20, al21, al22, al23, al25, true_or, or_true, and_self, if_true, if_false, mCat_n, mCat_i, mCat_r, mCat_l, mCat_0, Nat.reduceAdd, Nat.reduceLeDiff, Nat.reduceLT, true_and, and_true, Nat.zero_le, bI_01, bI_0, i10, tf0, iI_add, iI_sub, iI_mul, iI_neg, iI_add1, iI_sub1, iI_m1, nca, nc1, ncm1, iI_clJ, iI_cl0, iI_clN, Int.toNat_natCast, mU_n, mU_s, p_min, p_max, p_abs, ni_2, ni_3, ni_4, ni_7, ni_8, ni_9, ni_12, ni_24, ni_97, ni_100, ni_122, ni_200, ni_256, ni_4096, ni_5000, ni_9999, iI_lt, iI_le, iI_eq, iz_eq, iz_lt, iz_le, iz_gt, iz_ge, iy_eq, iy_lt, iy_le, iI_ltN, iI_leN, iI_eqN, if_pos, if_neg]
              exact nxt' T2 _ false _ ec1.symm (fun _ => by rw [opn]; rfl) (hT1.tr f2) h2 (by rw [List.length_append]; simp; omega)
            | false =>
              rw [hin] at ec1 bne' opn
              rw [bI_f] at bne'
              simp (maxSteps := 4000000) (disch := first | (simp (disch := omega) only [XB_i, XB_n, va_rf_s, va_rf_n, mSI_K, mSI_I, mSI_J, mSI_P, mSI_N, mSJ_K, mSJ_I, mSJ_J, mSJ_P, mSJ_N, mSP_K, mSP_I, mSP_J, mSP_P, mSP_N, mNn, mNi, mNr, mN0, al20, al21, al22, al23, al25, true_or, or_true, and_self, if_true, if_false, mCat_n, mCat_i, mCat_r, mCat_l, mCat_0, Nat.reduceAdd, Nat.reduceLeDiff, Nat.reduceLT, true_and, and_true, Nat.zero_le, bI_01, mInB_J, mInB_Z, mInB_N, kM, r42, a42, d1, g2, bI_f, bI_t, pin2, bne']; done) | omega | (unfold R32 at *; omega)) only [e_142_75, e_142_77, e_142_78, e_142_79, e_142_79_n, e_142_80, e_142_83, e_142_86, e_142_86_n, e_142_87, e_142_90, e_142_92, e_142_93, e_142_94, e_142_95, e_142_98, e_142_100, e_142_100_n, e_142_101, e_142_103, e_142_104, e_142_105, e_142_106, e_142_110, e_142_113, e_142_113_n, e_142_114, e_142_116, e_142_118, e_142_119, e_142_120, e_142_121, e_142_122, e_142_123, e_142_126, e_142_127, e_142_130, d_142_107, XB_i, XB_n, va_rf_s, va_rf_n, mSI_K, mSI_I, mSI_J, mSI_P, mSI_N, mSJ_K, mSJ_I, mSJ_J, mSJ_P, mSJ_N, mSP_K, mSP_I, mSP_J, mSP_P, mSP_N, mNn, mNi, mNr, mN0, al20, al21, al22, al23, al25, true_or, or_true, and_self, if_true, if_false, mCat_n, mCat_i, mCat_r, mCat_l, mCat_0, Nat.reduceAdd, Nat.reduceLeDiff, Nat.reduceLT, true_and, and_true, Nat.zero_le, bI_01, bI_0, i10, tf0, iI_add, iI_sub, iI_mul, iI_neg, iI_add1, iI_sub1, iI_m1, nca, nc1, ncm1, iI_clJ, iI_cl0, iI_clN, Int.toNat_natCast, mU_n, mU_s, p_min, p_max, p_abs, ni_2, ni_3, ni_4, ni_7, ni_8, ni_9, ni_12, ni_24, ni_97, ni_100, ni_122, ni_200, ni_256, ni_4096, ni_5000, ni_9999, iI_lt, iI_le, iI_eq, iz_eq, iz_lt, iz_le, iz_gt, iz_ge, iy_eq, iy_lt, iy_le, iI_ltN, iI_leN, iI_eqN, if_pos, if_neg, kM, r42, a42, d1, g2, bI_f, bI_t, pin2, bne']
              refine c_142_131 (by simp only [XB_i, XB_n, va_rf_s, va_rf_n, mSI_K, mSI_I, mSI_J, mSI_P, mSI_N, mSJ_K, mSJ_I, mSJ_J, mSJ_P, mSJ_N, mSP_K, mSP_I, mSP_J, mSP_P, mSP_N, mNn, mNi, mNr, mN0, al20, al21, al22, al23, al25, true_or, or_true, and_self, if_true, if_false, mCat_n, mCat_i, mCat_r, mCat_l, mCat_0, Nat.reduceAdd, Nat.reduceLeDiff, Nat.reduceLT, true_and, and_true, Nat.zero_le, bI_01]) (by rw [kM]) (m_border (g := true) hM1 hC1 hW1 (by omega) hil hil2 (by omega) hw hb (gC_B hB) xne (fun T2 h2 f2 => ?_))
              simp (maxSteps := 4000000) (disch := first | (simp (disch := omega) only [XB_i, XB_n, va_rf_s, va_rf_n, mSI_K, mSI_I, mSI_J, mSI_P, mSI_N, mSJ_K, mSJ_I, mSJ_J, mSJ_P, mSJ_N, mSP_K, mSP_I, mSP_J, mSP_P, mSP_N, mNn, mNi, mNr, mN0, al20, al21, al22, al23, al25, true_or, or_true, and_self, if_true, if_false, mCat_n, mCat_i, mCat_r, mCat_l, mCat_0, Nat.reduceAdd, Nat.reduceLeDiff, Nat.reduceLT, true_and, and_true, Nat.zero_le, bI_01, mInB_J, mInB_Z, mInB_N]; done) | omega | (unfold R32 at *; omega)) only [e_142_134, e_142_136, e_142_139, e_142_140, e_142_143, e_142_144, e_142_145, e_142_148, XB_i, XB_n, va_rf_s, va_rf_n, mSI_K, mSI_I, mSI_J, mSI_P, mSI_N, mSJ_K, mSJ_I, mSJ_J, mSJ_P, mSJ_N, mSP_K, mSP_I, mSP_J, mSP_P, mSP_N, mNn, mNi, mNr, mN0, al20, al21, al22, al23, al25, true_or, or_true, and_self, if_true, if_false, mCat_n, mCat_i, mCat_r, mCat_l, mCat_0, Nat.reduceAdd, Nat.reduceLeDiff, Nat.reduceLT, true_and, and_true, Nat.zero_le, bI_01, bI_0, i10, tf0, iI_add, iI_sub, iI_mul, iI_neg, iI_add1, iI_sub1, iI_m1, nca, nc1, ncm1, iI_clJ, iI_cl0, iI_clN, Int.toNat_natCast, mU_n, mU_s, p_min, p_max, p_abs, ni_2, ni_3, ni_4, ni_7, ni_8, ni_9, ni_12, ni_24, ni_97, ni_100, ni_122, ni_200, ni_256, ni_4096, ni_5000, ni_9999, iI_lt, iI_le, iI_eq, iz_eq, iz_lt, iz_le, iz_gt, iz_ge, iy_eq, iy_lt, iy_le, iI_ltN, iI_leN, iI_eqN, if_pos, if_neg]
              exact nxt' T2 _ true _ ec1.symm (fun _ => by rw [opn]; rfl) (hT1.tr f2) h2 (by rw [List.length_append]; simp; omega)
    have ec2t : iW w b c = true → cut2 (decide (w < 2)) (decide (w % 2 = 0)) b false c o = o ++ [c] := by
      intro z
      unfold iW at z
      unfold cut2
      rw [z]
      rfl
    have ec2f : iW w b c = false → cut2 (decide (w < 2)) (decide (w % 2 = 0)) b false c o = o := by
      intro z
      unfold iW at z
      unfold cut2
      rw [z]
      rfl
    rw [e_142_10]
    cases hin : iW w b c with
    | false =>
      rw [hin] at pin tail
      have t := tail T o false (ec2f hin).symm rfl hT hW (by omega)
      cases hg : c.2.2 with
      | true =>
        rw [hg] at g1
        simp (maxSteps := 4000000) (disch := first | (simp (disch := omega) only [XB_i, XB_n, va_rf_s, va_rf_n, mSI_K, mSI_I, mSI_J, mSI_P, mSI_N, mSJ_K, mSJ_I, mSJ_J, mSJ_P, mSJ_N, mSP_K, mSP_I, mSP_J, mSP_P, mSP_N, mNn, mNi, mNr, mN0, al20, al21, al22, al23, al25, true_or, or_true, and_self, if_true, if_false, mCat_n, mCat_i, mCat_r, mCat_l, mCat_0, Nat.reduceAdd, Nat.reduceLeDiff, Nat.reduceLT, true_and, and_true, Nat.zero_le, bI_01, mInB_J, mInB_Z, mInB_N, hM.k, hM.r42, hM.a42, c1, pin, g1, bI_t, bI_f]; done) | omega | (unfold R32 at *; omega)) only [e_142_12, e_142_12_n, e_142_13, e_142_16, e_142_19, e_142_19_n, e_142_20, e_142_22, e_142_23, e_142_27, e_142_29, e_142_29_n, e_142_30, e_142_33, e_142_35, e_142_36, e_142_39, e_142_40, e_142_41, e_142_43, d_142_24, XB_i, XB_n, va_rf_s, va_rf_n, mSI_K, mSI_I, mSI_J, mSI_P, mSI_N, mSJ_K, mSJ_I, mSJ_J, mSJ_P, mSJ_N, mSP_K, mSP_I, mSP_J, mSP_P, mSP_N, mNn, mNi, mNr, mN0, al20, al21, al22, al23, al25, true_or, or_true, and_self, if_true, if_false, mCat_n, mCat_i, mCat_r, mCat_l, mCat_0, Nat.reduceAdd, Nat.reduceLeDiff, Nat.reduceLT, true_and, and_true, Nat.zero_le, bI_01, bI_0, i10, tf0, iI_add, iI_sub, iI_mul, iI_neg, iI_add1, iI_sub1, iI_m1, nca, nc1, ncm1, iI_clJ, iI_cl0, iI_clN, Int.toNat_natCast, mU_n, mU_s, p_min, p_max, p_abs, ni_2, ni_3, ni_4, ni_7, ni_8, ni_9, ni_12, ni_24, ni_97, ni_100, ni_122, ni_200, ni_256, ni_4096, ni_5000, ni_9999, iI_lt, iI_le, iI_eq, iz_eq, iz_lt, iz_le, iz_gt, iz_ge, iy_eq, iy_lt, iy_le, iI_ltN, iI_leN, iI_eqN, if_pos, if_neg, hM.k, hM.r42, hM.a42, c1, pin, g1, bI_t, bI_f]
        exact t
      | false =>
        rw [hg] at g1
        have := hop c rest rfl hg
        rw [hin] at this
        subst this
        simp (maxSteps := 4000000) (disch := first | (simp (disch := omega) only [XB_i, XB_n, va_rf_s, va_rf_n, mSI_K, mSI_I, mSI_J, mSI_P, mSI_N, mSJ_K, mSJ_I, mSJ_J, mSJ_P, mSJ_N, mSP_K, mSP_I, mSP_J, mSP_P, mSP_N, mNn, mNi, mNr, mN0, al20, al21, al22, al23, al25, true_or, or_true, and_self, if_true, if_false, mCat_n, mCat_i, mCat_r, mCat_l, mCat_0, Nat.reduceAdd, Nat.reduceLeDiff, Nat.reduceLT, true_and, and_true, Nat.zero_le, bI_01, mInB_J, mInB_Z, mInB_N, hM.k, hM.r42, hM.a42, c1, pin, g1, bI_t, bI_f]; done) | omega | (unfold R32 at *; omega)) only [e_142_12, e_142_12_n, e_142_13, e_142_16, e_142_19, e_142_19_n, e_142_20, e_142_22, e_142_23, e_142_27, e_142_29, e_142_29_n, e_142_30, e_142_33, e_142_35, e_142_36, e_142_39, e_142_40, e_142_41, e_142_43, d_142_24, XB_i, XB_n, va_rf_s, va_rf_n, mSI_K, mSI_I, mSI_J, mSI_P, mSI_N, mSJ_K, mSJ_I, mSJ_J, mSJ_P, mSJ_N, mSP_K, mSP_I, mSP_J, mSP_P, mSP_N, mNn, mNi, mNr, mN0, al20, al21, al22, al23, al25, true_or, or_true, and_self, if_true, if_false, mCat_n, mCat_i, mCat_r, mCat_l, mCat_0, Nat.reduceAdd, Nat.reduceLeDiff, Nat.reduceLT, true_and, and_true, Nat.zero_le, bI_01, bI_0, i10, tf0, iI_add, iI_sub, iI_mul, iI_neg, iI_add1, iI_sub1, iI_m1, nca, nc1, ncm1, iI_clJ, iI_cl0, iI_clN, Int.toNat_natCast, mU_n, mU_s, p_min, p_max, p_abs, ni_2, ni_3, ni_4, ni_7, ni_8, ni_9, ni_12, ni_24, ni_97, ni_100, ni_122, ni_200, ni_256, ni_4096, ni_5000, ni_9999, iI_lt, iI_le, iI_eq, iz_eq, iz_lt, iz_le, iz_gt, iz_ge, iy_eq, iy_lt, iy_le, iI_ltN, iI_leN, iI_eqN, if_pos, if_neg, hM.k, hM.r42, hM.a42, c1, pin, g1, bI_t, bI_f]
        exact t
    | true =>
      rw [hin] at pin tail
      have t := fun T1 => tail T1 (o ++ [c]) true (ec2t hin).symm rfl
      cases hg : c.2.2 with
      | true =>
        rw [hg] at g1
        simp (maxSteps := 4000000) (disch := first | (simp (disch := omega) only [XB_i, XB_n, va_rf_s, va_rf_n, mSI_K, mSI_I, mSI_J, mSI_P, mSI_N, mSJ_K, mSJ_I, mSJ_J, mSJ_P, mSJ_N, mSP_K, mSP_I, mSP_J, mSP_P, mSP_N, mNn, mNi, mNr, mN0, al20, al21, al22, al23, al25, true_or, or_true, and_self, if_true, if_false, mCat_n, mCat_i, mCat_r, mCat_l, mCat_0, Nat.reduceAdd, Nat.reduceLeDiff, Nat.reduceLT, true_and, and_true, Nat.zero_le, bI_01, mInB_J, mInB_Z, mInB_N, hM.k, hM.r40, hM.a40, hM.r41, hM.a41, hM.r42, hM.a42, c1, pin, g1, x1, y1, bI_t, bI_f]; done) | omega | (unfold R32 at *; omega)) only [e_142_12, e_142_12_n, e_142_13, e_142_16, e_142_19, e_142_19_n, e_142_20, e_142_22, e_142_23, e_142_27, e_142_29, e_142_29_n, e_142_30, e_142_33, e_142_35, e_142_36, e_142_39, e_142_40, e_142_41, e_142_43, e_142_46, e_142_46_n, e_142_47, e_142_47_n, e_142_48, e_142_51, e_142_53, e_142_54, e_142_54_n, e_142_55, e_142_58, e_142_60, e_142_61, e_142_62, e_142_65, e_142_66, e_142_69, d_142_24, XB_i, XB_n, va_rf_s, va_rf_n, mSI_K, mSI_I, mSI_J, mSI_P, mSI_N, mSJ_K, mSJ_I, mSJ_J, mSJ_P, mSJ_N, mSP_K, mSP_I, mSP_J, mSP_P, mSP_N, mNn, mNi, mNr, mN0, al20, al21, al22, al23, al25, true_or, or_true, and_self, if_true, if_false, mCat_n, mCat_i, mCat_r, mCat_l, mCat_0, Nat.reduceAdd, Nat.reduceLeDiff, Nat.reduceLT, true_and, and_true, Nat.zero_le, bI_01, bI_0, i10, tf0, iI_add, iI_sub, iI_mul, iI_neg, iI_add1, iI_sub1, iI_m1, nca, nc1, ncm1, iI_clJ, iI_cl0, iI_clN, Int.toNat_natCast, mU_n, mU_s, p_min, p_max, p_abs, ni_2, ni_3, ni_4, ni_7, ni_8, ni_9, ni_12, ni_24, ni_97, ni_100, ni_122, ni_200, ni_256, ni_4096, ni_5000, ni_9999, iI_lt, iI_le, iI_eq, iz_eq, iz_lt, iz_le, iz_gt, iz_ge, iy_eq, iy_lt, iy_le, iI_ltN, iI_leN, iI_eqN, if_pos, if_neg, hM.k, hM.r40, hM.a40, hM.r41, hM.a41, hM.r42, hM.a42, c1, pin, g1, x1, y1, bI_t, bI_f]
        have e1 : (1 : Int32) = bI c.2.2 := by rw [hg]; rfl
        have := c_142_70 (lv := [some (.ref (m)), some (.int (iI ((w : Nat) : Int))), some (.int (iI (b))), some (.int (0)), some (.int (iI ((i : Nat) : Int))), some (.int (1))]) (st := []) (Q := Q) (by simp only [XB_i, XB_n, va_rf_s, va_rf_n, mSI_K, mSI_I, mSI_J, mSI_P, mSI_N, mSJ_K, mSJ_I, mSJ_J, mSJ_P, mSJ_N, mSP_K, mSP_I, mSP_J, mSP_P, mSP_N, mNn, mNi, mNr, mN0, al20, al21, al22, al23, al25, true_or, or_true, and_self, if_true, if_false, mCat_n, mCat_i, mCat_r, mCat_l, mCat_0, Nat.reduceAdd, Nat.reduceLeDiff, Nat.reduceLT, true_and, and_true, Nat.zero_le, bI_01]) (by rw [hM.k]) (m_put (c := c) hM hW (by omega) (fun T2 h2 f2 => ?_))
        · rw [← e1] at this
          exact this
        · simp (maxSteps := 4000000) (disch := first | (simp (disch := omega) only [XB_i, XB_n, va_rf_s, va_rf_n, mSI_K, mSI_I, mSI_J, mSI_P, mSI_N, mSJ_K, mSJ_I, mSJ_J, mSJ_P, mSJ_N, mSP_K, mSP_I, mSP_J, mSP_P, mSP_N, mNn, mNi, mNr, mN0, al20, al21, al22, al23, al25, true_or, or_true, and_self, if_true, if_false, mCat_n, mCat_i, mCat_r, mCat_l, mCat_0, Nat.reduceAdd, Nat.reduceLeDiff, Nat.reduceLT, true_and, and_true, Nat.zero_le, bI_01, mInB_J, mInB_Z, mInB_N]; done) | omega | (unfold R32 at *; omega)) only [e_142_73, e_142_74, XB_i, XB_n, va_rf_s, va_rf_n, mSI_K, mSI_I, mSI_J, mSI_P, mSI_N, mSJ_K, mSJ_I, mSJ_J, mSJ_P, mSJ_N, mSP_K, mSP_I, mSP_J, mSP_P, mSP_N, mNn, mNi, mNr, mN0, al20, al21, al22, al23, al25, true_or, or_true, and_self, if_true, if_false, mCat_n, mCat_i, mCat_r, mCat_l, mCat_0, Nat.reduceAdd, Nat.reduceLeDiff, Nat.reduceLT, true_and, and_true, Nat.zero_le, bI_01, bI_0, i10, tf0, iI_add, iI_sub, iI_mul, iI_neg, iI_add1, iI_sub1, iI_m1, nca, nc1, ncm1, iI_clJ, iI_cl0, iI_clN, Int.toNat_natCast, mU_n, mU_s, p_min, p_max, p_abs, ni_2, ni_3, ni_4, ni_7, ni_8, ni_9, ni_12, ni_24, ni_97, ni_100, ni_122, ni_200, ni_256, ni_4096, ni_5000, ni_9999, iI_lt, iI_le, iI_eq, iz_eq, iz_lt, iz_le, iz_gt, iz_ge, iy_eq, iy_lt, iy_le, iI_ltN, iI_leN, iI_eqN, if_pos, if_neg]
          exact t T2 (hT.tr f2) h2 (by rw [List.length_append]; simp; omega)
      | false =>
        rw [hg] at g1
        have := hop c rest rfl hg
        rw [hin] at this
        subst this
        simp (maxSteps := 4000000) (disch := first | (simp (disch := omega) only [XB_i, XB_n, va_rf_s, va_rf_n, mSI_K, mSI_I, mSI_J, mSI_P, mSI_N, mSJ_K, mSJ_I, mSJ_J, mSJ_P, mSJ_N, mSP_K, mSP_I, mSP_J, mSP_P, mSP_N, mNn, mNi, mNr, mN0, al20, al21, al22, al23, al25, true_or, or_true, and_self, if_true, if_false, mCat_n, mCat_i, mCat_r, mCat_l, mCat_0, Nat.reduceAdd, Nat.reduceLeDiff, Nat.reduceLT, true_and, and_true, Nat.zero_le, bI_01, mInB_J, mInB_Z, mInB_N, hM.k, hM.r40, hM.a40, hM.r41, hM.a41, hM.r42, hM.a42, c1, pin, g1, x1, y1, bI_t, bI_f]; done) | omega | (unfold R32 at *; omega)) only [e_142_12, e_142_12_n, e_142_13, e_142_16, e_142_19, e_142_19_n, e_142_20, e_142_22, e_142_23, e_142_27, e_142_29, e_142_29_n, e_142_30, e_142_33, e_142_35, e_142_36, e_142_39, e_142_40, e_142_41, e_142_43, e_142_46, e_142_46_n, e_142_47, e_142_47_n, e_142_48, e_142_51, e_142_53, e_142_54, e_142_54_n, e_142_55, e_142_58, e_142_60, e_142_61, e_142_62, e_142_65, e_142_66, e_142_69, d_142_24, XB_i, XB_n, va_rf_s, va_rf_n, mSI_K, mSI_I, mSI_J, mSI_P, mSI_N, mSJ_K, mSJ_I, mSJ_J, mSJ_P, mSJ_N, mSP_K, mSP_I, mSP_J, mSP_P, mSP_N, mNn, mNi, mNr, mN0, al20, al21, al22, al23, al25, true_or, or_true, and_self, if_true, if_false, mCat_n, mCat_i, mCat_r, mCat_l, mCat_0, Nat.reduceAdd, Nat.reduceLeDiff, Nat.reduceLT, true_and, and_true, Nat.zero_le, bI_01, bI_0, i10, tf0, iI_add, iI_sub, iI_mul, iI_neg, iI_add1, iI_sub1, iI_m1, nca, nc1, ncm1, iI_clJ, iI_cl0, iI_clN, Int.toNat_natCast, mU_n, mU_s, p_min, p_max, p_abs, ni_2, ni_3, ni_4, ni_7, ni_8, ni_9, ni_12, ni_24, ni_97, ni_100, ni_122, ni_200, ni_256, ni_4096, ni_5000, ni_9999, iI_lt, iI_le, iI_eq, iz_eq, iz_lt, iz_le, iz_gt, iz_ge, iy_eq, iy_lt, iy_le, iI_ltN, iI_leN, iI_eqN, if_pos, if_neg, hM.k, hM.r40, hM.a40, hM.r41, hM.a41, hM.r42, hM.a42, c1, pin, g1, x1, y1, bI_t, bI_f]
        have e1 : (0 : Int32) = bI c.2.2 := by rw [hg]; rfl
        have := c_142_70 (lv := [some (.ref (m)), some (.int (iI ((w : Nat) : Int))), some (.int (iI (b))), some (.int (1)), some (.int (iI ((i : Nat) : Int))), some (.int (1))]) (st := []) (Q := Q) (by simp only [XB_i, XB_n, va_rf_s, va_rf_n, mSI_K, mSI_I, mSI_J, mSI_P, mSI_N, mSJ_K, mSJ_I, mSJ_J, mSJ_P, mSJ_N, mSP_K, mSP_I, mSP_J, mSP_P, mSP_N, mNn, mNi, mNr, mN0, al20, al21, al22, al23, al25, true_or, or_true, and_self, if_true, if_false, mCat_n, mCat_i, mCat_r, mCat_l, mCat_0, Nat.reduceAdd, Nat.reduceLeDiff, Nat.reduceLT, true_and, and_true, Nat.zero_le, bI_01]) (by rw [hM.k]) (m_put (c := c) hM hW (by omega) (fun T2 h2 f2 => ?_))
        · rw [← e1] at this
          exact this
        · simp (maxSteps := 4000000) (disch := first | (simp (disch := omega) only [XB_i, XB_n, va_rf_s, va_rf_n, mSI_K, mSI_I, mSI_J, mSI_P, mSI_N, mSJ_K, mSJ_I, mSJ_J, mSJ_P, mSJ_N, mSP_K, mSP_I, mSP_J, mSP_P, mSP_N, mNn, mNi, mNr, mN0, al20, al21, al22, al23, al25, true_or, or_true, and_self, if_true, if_false, mCat_n, mCat_i, mCat_r, mCat_l, mCat_0, Nat.reduceAdd, Nat.reduceLeDiff, Nat.reduceLT, true_and, and_true, Nat.zero_le, bI_01, mInB_J, mInB_Z, mInB_N]; done) | omega | (unfold R32 at *; omega)) only [e_142_73, e_142_74, XB_i, XB_n, va_rf_s, va_rf_n, mSI_K, mSI_I, mSI_J, mSI_P, mSI_N, mSJ_K, mSJ_I, mSJ_J, mSJ_P, mSJ_N, mSP_K, mSP_I, mSP_J, mSP_P, mSP_N, mNn, mNi, mNr, mN0, al20, al21, al22, al23, al25, true_or, or_true, and_self, if_true, if_false, mCat_n, mCat_i, mCat_r, mCat_l, mCat_0, Nat.reduceAdd, Nat.reduceLeDiff, Nat.reduceLT, true_and, and_true, Nat.zero_le, bI_01, bI_0, i10, tf0, iI_add, iI_sub, iI_mul, iI_neg, iI_add1, iI_sub1, iI_m1, nca, nc1, ncm1, iI_clJ, iI_cl0, iI_clN, Int.toNat_natCast, mU_n, mU_s, p_min, p_max, p_abs, ni_2, ni_3, ni_4, ni_7, ni_8, ni_9, ni_12, ni_24, ni_97, ni_100, ni_122, ni_200, ni_256, ni_4096, ni_5000, ni_9999, iI_lt, iI_le, iI_eq, iz_eq, iz_lt, iz_le, iz_gt, iz_ge, iy_eq, iy_lt, iy_le, iI_ltN, iI_leN, iI_eqN, if_pos, if_neg]
          exact t T2 (hT.tr f2) h2 (by rw [List.length_append]; simp; omega)
end MX
