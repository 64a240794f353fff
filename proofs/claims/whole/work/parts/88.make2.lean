/-! TileMaker.make -/
def mkF (z : Int) (Fs : List Ft) (left top : Int) : Nat → Nat → Int → List Nat → List Nat
  | 0, _, _, bs => bs
  | n + 1, i, bf, bs => if cutT (fA Fs i).1.2.1.toNat left top (shE z Fs i) = [] then mkF z Fs left top n (i + 1) bf bs else mkF z Fs left top n (i + 1) (fA Fs i).1.1 (bs ++ wrB ((fA Fs i).1.1 - bf).toNat (fA Fs i).1.2.1.toNat (fA Fs i).1.2.2.1.toNat left top (cutT (fA Fs i).1.2.1.toNat left top (shE z Fs i)))
/-- a tile's bytes -/
def tileB (z : Int) (Fs : List Ft) (tx ty : Int) : List Nat := mkF z Fs (256 * tx) (256 * ty) Fs.length 0 0 []
def mkS (m o : Nat) : Nat → Prop := fun b => cuS m b ∨ iv o (o + 2) b
theorem tidyS_nil (k : Nat) : tidyS k [] = [] := List.eq_nil_of_length_eq_zero (by have := (tidyS_subl k []).length_le; simpa using this)
theorem cutT_nil (k : Nat) (left top : Int) : cutT k left top [] = [] := by unfold cutT; rw [cutN_nil, tidyS_nil]
section MM
variable {T : mT} {Q : mOut → mT → Prop} {m e o : Nat} {z left top : Int} {ad : Nat → Nat} {Fs : List Ft} {sh : Nat → List Cn}
theorem l_make {T0 : mT} {tx ty : Int32} (hE : EdA T0 e ad Fs) (ok : esOk Fs) (hl : 0 ≤ left ∧ left ≤ 3840) (ht : 0 ≤ top ∧ top ≤ 3840) (dis : e + 74 ≤ m ∨ m + 108 ≤ e) (do1 : o + 2 ≤ m ∨ m + 108 ≤ o) (do2 : o + 2 ≤ e ∨ e + 74 ≤ o) : ∀ (k i : Nat) (T : mT) (bf : Int) (bs : List Nat) (l8 : Option Value), Fs.length - i = k → i ≤ Fs.length → Fr (mkS m o) T0 T → PrR T m e z Fs sh → OctR T o bs → bs.length ≤ 245 * i → (0 ≤ bf ∧ ∀ j, i ≤ j → j < Fs.length → bf < (fA Fs j).1.1) →
    (∀ T2, PrR T2 m e z Fs sh → OctR T2 o (mkF z Fs left top k i bf bs) → Fr (mkS m o) T0 T2 → Q (.inl none) T2) → XW 88 33 [some (.ref (m)), some (.int (tx)), some (.int (ty)), some (.ref (o)), some (.int (iI (left))), some (.int (iI (top))), some (.int (iI (bf))), some (.int (iI ((i : Nat) : Int))), l8] [] T Q := by
  intro k
  induction k with
  | zero =>
    intro i T bf bs l8 hk hi hf hP ho hlen hbf hQ
    have hET : EdA T e ad Fs := hE.fr hf (fun b hb q => by
      have := hb.1; have := hb.2
      rcases q with (q | q) | q
      · omega
      · have := q.1; have := q.2; omega
      · have := q.1; have := q.2; omega)
    obtain ⟨⟨e1, e2, e3, e4, e5⟩, e6, e7, e8, e9⟩ := id hET
    have m1 := hP.1.1.1
    have h0 := hP.2.1
    have : i = Fs.length := by omega
    subst this
    rw [e_88_33]
    simp (maxSteps := 4000000) (disch := first | (simp (disch := omega) only [XB_i, XB_n, va_rf_s, va_rf_n, mSI_K, mSI_I, mSI_J, mSI_P, mSI_N, mSJ_K, mSJ_I, mSJ_J, mSJ_P, mSJ_N, mSP_K, mSP_I, mSP_J, mSP_P, mSP_N, mNn, mNi, mNr, mN0, al20, al21, al22, al23, al25, true_or, or_true, and_self, if_true, if_false, mCat_n, mCat_i, mCat_r, mCat_l, mCat_0, Nat.reduceAdd, Nat.reduceLeDiff, Nat.reduceLT, true_and, and_true, Nat.zero_le, bI_01, mInB_J, mInB_Z, mInB_N, m1, h0, e1, e7]; done) | omega | (unfold R32 at *; omega)) only [e_88_35, e_88_35_n, e_88_36, e_88_39, e_88_42, e_88_149, XB_i, XB_n, va_rf_s, va_rf_n, mSI_K, mSI_I, mSI_J, mSI_P, mSI_N, mSJ_K, mSJ_I, mSJ_J, mSJ_P, mSJ_N, mSP_K, mSP_I, mSP_J, mSP_P, mSP_N, mNn, mNi, mNr, mN0, al20, al21, al22, al23, al25, true_or, or_true, and_self, if_true, if_false, mCat_n, mCat_i, mCat_r, mCat_l, mCat_0, Nat.reduceAdd, Nat.reduceLeDiff, Nat.reduceLT, true_and, and_true, Nat.zero_le, bI_01, bI_0, i10, tf0, iI_add, iI_sub, iI_mul, iI_neg, iI_add1, iI_sub1, iI_m1, nc1, ncm1, iI_clJ, iI_cl0, iI_clN, Int.toNat_natCast, mU_n, mU_s, p_min, p_max, p_abs, ni_2, ni_3, ni_4, ni_7, ni_8, ni_9, ni_12, ni_24, ni_97, ni_100, ni_122, ni_200, ni_256, ni_4096, ni_5000, ni_9999, iI_lt, iI_le, iI_eq, iz_eq, iz_lt, iz_le, iz_gt, iz_ge, iy_eq, iy_lt, iy_le, iI_ltN, iI_leN, iI_eqN, if_pos, if_neg, m1, h0, e1, e7]
    exact hQ T hP ho hf
  | succ k ih =>
    intro i T bf bs l8 hk hi hf hP ho hlen hbf hQ
    have ff : ∀ T1, Fr (mkS m o) T0 T1 → EdA T1 e ad Fs := fun T1 f1 => hE.fr f1 (fun b hb q => by
      have := hb.1; have := hb.2
      rcases q with (q | q) | q
      · omega
      · have := q.1; have := q.2; omega
      · have := q.1; have := q.2; omega)
    have hET := ff T hf
    obtain ⟨⟨e1, e2, e3, e4, e5⟩, e6, e7, e8, e9⟩ := id hET
    obtain ⟨hM, h0, hsh⟩ := id hP
    obtain ⟨m1, m2, m3, m4, m5, m6, m7, m8⟩ := id hM.1
    have hp := hM.2.1 i (by omega)
    obtain ⟨sE, sB⟩ := hsh i (by omega)
    have p1 := hp.1.1
    have pc := hp.2.1
    have pl := hp.2.2.1
    have fo := ok.1 i (by omega)
    have hF := e9 i (by omega)
    have g1 := hF.1.1
    have gk := hF.2.1.2.1
    have gn := hF.2.1.1
    have bn := fo.n
    have bK := fo.k
    have bS := fo.s
    have hbi := hbf.2 i (Nat.le_refl i) (by omega)
    obtain ⟨kk, hkk⟩ : ∃ kk : Nat, (fA Fs i).1.2.1 = (kk : Int) := ⟨(fA Fs i).1.2.1.toNat, by omega⟩
    obtain ⟨ss, hss⟩ : ∃ ss : Nat, (fA Fs i).1.2.2.1 = (ss : Int) := ⟨(fA Fs i).1.2.2.1.toNat, by omega⟩
    have aK := e6.1 i (by omega)
    have hF12 : (fA Fs i).2.2.length ≤ 12 := hF.2.2.2.1
    have mkE : cutT kk left top (sh i) = [] → mkF z Fs left top (k + 1) i bf bs = mkF z Fs left top k (i + 1) bf bs := by
      intro q
      rw [sE] at q
      show (if cutT (fA Fs i).1.2.1.toNat left top (shE z Fs i) = [] then _ else _) = _
      rw [hkk, Int.toNat_natCast, if_pos q]
    have nx : ∀ (T1 : mT) (l8 : Option Value), cutT kk left top (sh i) = [] → Fr (mkS m o) T0 T1 → PrR T1 m e z Fs sh → OctR T1 o bs → XW 88 33 [some (.ref (m)), some (.int (tx)), some (.int (ty)), some (.ref (o)), some (.int (iI (left))), some (.int (iI (top))), some (.int (iI (bf))), some (.int (iI ((i + 1 : Nat) : Int))), l8] [] T1 Q := by
      intro T1 l8 q f1 P1 o1
      exact ih (i + 1) T1 bf bs l8 (by omega) (by omega) f1 P1 o1 (by omega) ⟨hbf.1, fun j h1 h2 => hbf.2 j (by omega) h2⟩ (fun T2 h2 h3 f2 => hQ T2 h2 (by rw [mkE q]; exact h3) f2)
    rw [e_88_33]
    by_cases q0 : sh i = []
    · have q0' : (sh i).length = 0 := by rw [q0]; rfl
      simp (maxSteps := 4000000) (disch := first | (simp (disch := omega) only [XB_i, XB_n, va_rf_s, va_rf_n, mSI_K, mSI_I, mSI_J, mSI_P, mSI_N, mSJ_K, mSJ_I, mSJ_J, mSJ_P, mSJ_N, mSP_K, mSP_I, mSP_J, mSP_P, mSP_N, mNn, mNi, mNr, mN0, al20, al21, al22, al23, al25, true_or, or_true, and_self, if_true, if_false, mCat_n, mCat_i, mCat_r, mCat_l, mCat_0, Nat.reduceAdd, Nat.reduceLeDiff, Nat.reduceLT, true_and, and_true, Nat.zero_le, bI_01, mInB_J, mInB_Z, mInB_N, m1, m2, m3, m4, h0, e1, e2, e3, e4, e7, p1, pc, q0']; done) | omega | (unfold R32 at *; omega)) only [e_88_35, e_88_35_n, e_88_36, e_88_39, e_88_42, e_88_45, e_88_45_n, e_88_46, e_88_49, e_88_52, e_88_54, e_88_55, e_88_55_n, e_88_57, e_88_57_n, e_88_58, e_88_61, e_88_63, e_88_64, e_88_67, e_88_143, e_88_146, XB_i, XB_n, va_rf_s, va_rf_n, mSI_K, mSI_I, mSI_J, mSI_P, mSI_N, mSJ_K, mSJ_I, mSJ_J, mSJ_P, mSJ_N, mSP_K, mSP_I, mSP_J, mSP_P, mSP_N, mNn, mNi, mNr, mN0, al20, al21, al22, al23, al25, true_or, or_true, and_self, if_true, if_false, mCat_n, mCat_i, mCat_r, mCat_l, mCat_0, Nat.reduceAdd, Nat.reduceLeDiff, Nat.reduceLT, true_and, and_true, Nat.zero_le, bI_01, bI_0, i10, tf0, iI_add, iI_sub, iI_mul, iI_neg, iI_add1, iI_sub1, iI_m1, nc1, ncm1, iI_clJ, iI_cl0, iI_clN, Int.toNat_natCast, mU_n, mU_s, p_min, p_max, p_abs, ni_2, ni_3, ni_4, ni_7, ni_8, ni_9, ni_12, ni_24, ni_97, ni_100, ni_122, ni_200, ni_256, ni_4096, ni_5000, ni_9999, iI_lt, iI_le, iI_eq, iz_eq, iz_lt, iz_le, iz_gt, iz_ge, iy_eq, iy_lt, iy_le, iI_ltN, iI_leN, iI_eqN, if_pos, if_neg, m1, m2, m3, m4, h0, e1, e2, e3, e4, e7, p1, pc, q0']
      exact nx T _ (by rw [q0]; exact cutT_nil _ _ _) hf hP ho
    · have q0' : 0 < (sh i).length := List.length_pos_iff.mpr q0
      have hsp : sh i = shpC z (fA Fs i) := by
        rw [sE]
        unfold shE
        split
        · rfl
        · rename_i hz; exfalso; apply q0; rw [sE]; unfold shE; rw [if_neg hz]
      have hW : ∀ c ∈ sh i, inW c := by rw [hsp]; exact shpC_W fo.b z
      have hl12 : (sh i).length ≤ 12 := by rw [hsp]; exact shpC_len fo hF12 z
      have hx := sB q0
      simp (maxSteps := 4000000) (disch := first | (simp (disch := omega) only [XB_i, XB_n, va_rf_s, va_rf_n, mSI_K, mSI_I, mSI_J, mSI_P, mSI_N, mSJ_K, mSJ_I, mSJ_J, mSJ_P, mSJ_N, mSP_K, mSP_I, mSP_J, mSP_P, mSP_N, mNn, mNi, mNr, mN0, al20, al21, al22, al23, al25, true_or, or_true, and_self, if_true, if_false, mCat_n, mCat_i, mCat_r, mCat_l, mCat_0, Nat.reduceAdd, Nat.reduceLeDiff, Nat.reduceLT, true_and, and_true, Nat.zero_le, bI_01, mInB_J, mInB_Z, mInB_N, m1, m2, m3, m4, h0, e1, e2, e3, e4, e7, p1, pc]; done) | omega | (unfold R32 at *; omega)) only [e_88_35, e_88_35_n, e_88_36, e_88_39, e_88_42, e_88_45, e_88_45_n, e_88_46, e_88_49, e_88_52, e_88_54, e_88_55, e_88_55_n, e_88_57, e_88_57_n, e_88_58, e_88_61, e_88_63, e_88_64, e_88_67, e_88_70, e_88_70_n, e_88_71, e_88_74, e_88_76, e_88_77, e_88_79, XB_i, XB_n, va_rf_s, va_rf_n, mSI_K, mSI_I, mSI_J, mSI_P, mSI_N, mSJ_K, mSJ_I, mSJ_J, mSJ_P, mSJ_N, mSP_K, mSP_I, mSP_J, mSP_P, mSP_N, mNn, mNi, mNr, mN0, al20, al21, al22, al23, al25, true_or, or_true, and_self, if_true, if_false, mCat_n, mCat_i, mCat_r, mCat_l, mCat_0, Nat.reduceAdd, Nat.reduceLeDiff, Nat.reduceLT, true_and, and_true, Nat.zero_le, bI_01, bI_0, i10, tf0, iI_add, iI_sub, iI_mul, iI_neg, iI_add1, iI_sub1, iI_m1, nc1, ncm1, iI_clJ, iI_cl0, iI_clN, Int.toNat_natCast, mU_n, mU_s, p_min, p_max, p_abs, ni_2, ni_3, ni_4, ni_7, ni_8, ni_9, ni_12, ni_24, ni_97, ni_100, ni_122, ni_200, ni_256, ni_4096, ni_5000, ni_9999, iI_lt, iI_le, iI_eq, iz_eq, iz_lt, iz_le, iz_gt, iz_ge, iy_eq, iy_lt, iy_le, iI_ltN, iI_leN, iI_eqN, if_pos, if_neg, m1, m2, m3, m4, h0, e1, e2, e3, e4, e7, p1, pc]
      refine c_88_81 (by simp only [XB_i, XB_n, va_rf_s, va_rf_n, mSI_K, mSI_I, mSI_J, mSI_P, mSI_N, mSJ_K, mSJ_I, mSJ_J, mSJ_P, mSJ_N, mSP_K, mSP_I, mSP_J, mSP_P, mSP_N, mNn, mNi, mNr, mN0, al20, al21, al22, al23, al25, true_or, or_true, and_self, if_true, if_false, mCat_n, mCat_i, mCat_r, mCat_l, mCat_0, Nat.reduceAdd, Nat.reduceLeDiff, Nat.reduceLT, true_and, and_true, Nat.zero_le, bI_01]) (by rw [p1]) (ct_path_misses p1 hx (bxL_B (fun c hc => (hW c hc).b)) (by omega) (by omega) ?_)
      cases hmi : missB (bxL (sh i)) left top with
      | true =>
        simp (maxSteps := 4000000) (disch := first | (simp (disch := omega) only [XB_i, XB_n, va_rf_s, va_rf_n, mSI_K, mSI_I, mSI_J, mSI_P, mSI_N, mSJ_K, mSJ_I, mSJ_J, mSJ_P, mSJ_N, mSP_K, mSP_I, mSP_J, mSP_P, mSP_N, mNn, mNi, mNr, mN0, al20, al21, al22, al23, al25, true_or, or_true, and_self, if_true, if_false, mCat_n, mCat_i, mCat_r, mCat_l, mCat_0, Nat.reduceAdd, Nat.reduceLeDiff, Nat.reduceLT, true_and, and_true, Nat.zero_le, bI_01, mInB_J, mInB_Z, mInB_N, bI_t]; done) | omega | (unfold R32 at *; omega)) only [e_88_84, e_88_143, e_88_146, XB_i, XB_n, va_rf_s, va_rf_n, mSI_K, mSI_I, mSI_J, mSI_P, mSI_N, mSJ_K, mSJ_I, mSJ_J, mSJ_P, mSJ_N, mSP_K, mSP_I, mSP_J, mSP_P, mSP_N, mNn, mNi, mNr, mN0, al20, al21, al22, al23, al25, true_or, or_true, and_self, if_true, if_false, mCat_n, mCat_i, mCat_r, mCat_l, mCat_0, Nat.reduceAdd, Nat.reduceLeDiff, Nat.reduceLT, true_and, and_true, Nat.zero_le, bI_01, bI_0, i10, tf0, iI_add, iI_sub, iI_mul, iI_neg, iI_add1, iI_sub1, iI_m1, nc1, ncm1, iI_clJ, iI_cl0, iI_clN, Int.toNat_natCast, mU_n, mU_s, p_min, p_max, p_abs, ni_2, ni_3, ni_4, ni_7, ni_8, ni_9, ni_12, ni_24, ni_97, ni_100, ni_122, ni_200, ni_256, ni_4096, ni_5000, ni_9999, iI_lt, iI_le, iI_eq, iz_eq, iz_lt, iz_le, iz_gt, iz_ge, iy_eq, iy_lt, iy_le, iI_ltN, iI_leN, iI_eqN, if_pos, if_neg, bI_t]
        exact nx T _ (miss_nil hmi) hf hP ho
      | false =>
        simp (maxSteps := 4000000) (disch := first | (simp (disch := omega) only [XB_i, XB_n, va_rf_s, va_rf_n, mSI_K, mSI_I, mSI_J, mSI_P, mSI_N, mSJ_K, mSJ_I, mSJ_J, mSJ_P, mSJ_N, mSP_K, mSP_I, mSP_J, mSP_P, mSP_N, mNn, mNi, mNr, mN0, al20, al21, al22, al23, al25, true_or, or_true, and_self, if_true, if_false, mCat_n, mCat_i, mCat_r, mCat_l, mCat_0, Nat.reduceAdd, Nat.reduceLeDiff, Nat.reduceLT, true_and, and_true, Nat.zero_le, bI_01, mInB_J, mInB_Z, mInB_N, bI_f, m1, m2, m3, m4, g1, gk, hkk]; done) | omega | (unfold R32 at *; omega)) only [e_88_84, e_88_87, e_88_87_n, e_88_88, e_88_88_n, e_88_89, e_88_92, e_88_94, e_88_95, e_88_95_n, e_88_97, e_88_100, e_88_102, XB_i, XB_n, va_rf_s, va_rf_n, mSI_K, mSI_I, mSI_J, mSI_P, mSI_N, mSJ_K, mSJ_I, mSJ_J, mSJ_P, mSJ_N, mSP_K, mSP_I, mSP_J, mSP_P, mSP_N, mNn, mNi, mNr, mN0, al20, al21, al22, al23, al25, true_or, or_true, and_self, if_true, if_false, mCat_n, mCat_i, mCat_r, mCat_l, mCat_0, Nat.reduceAdd, Nat.reduceLeDiff, Nat.reduceLT, true_and, and_true, Nat.zero_le, bI_01, bI_0, i10, tf0, iI_add, iI_sub, iI_mul, iI_neg, iI_add1, iI_sub1, iI_m1, nc1, ncm1, iI_clJ, iI_cl0, iI_clN, Int.toNat_natCast, mU_n, mU_s, p_min, p_max, p_abs, ni_2, ni_3, ni_4, ni_7, ni_8, ni_9, ni_12, ni_24, ni_97, ni_100, ni_122, ni_200, ni_256, ni_4096, ni_5000, ni_9999, iI_lt, iI_le, iI_eq, iz_eq, iz_lt, iz_le, iz_gt, iz_ge, iy_eq, iy_lt, iy_le, iI_ltN, iI_leN, iI_eqN, if_pos, if_neg, bI_f, m1, m2, m3, m4, g1, gk, hkk]
        refine c_88_104 (by simp only [XB_i, XB_n, va_rf_s, va_rf_n, mSI_K, mSI_I, mSI_J, mSI_P, mSI_N, mSJ_K, mSJ_I, mSJ_J, mSJ_P, mSJ_N, mSP_K, mSP_I, mSP_J, mSP_P, mSP_N, mNn, mNi, mNr, mN0, al20, al21, al22, al23, al25, true_or, or_true, and_self, if_true, if_false, mCat_n, mCat_i, mCat_r, mCat_l, mCat_0, Nat.reduceAdd, Nat.reduceLeDiff, Nat.reduceLT, true_and, and_true, Nat.zero_le, bI_01]) (by rw [m1]) (ct_cutT (sh := sh) hM hl ht (by omega) (by omega) rfl hl12 hW (fun T2 c M2 hc c5 pc2 e02 f2 => ?_))
        have f02 : Fr (mkS m o) T0 T2 := hf.tr (f2.mono (fun b hb => Or.inl hb))
        have m1' := M2.1.1
        have P2 : PrR T2 m e z Fs sh := by
          refine ⟨M2, by rw [e02]; exact h0, fun j hj => ⟨(hsh j hj).1, fun hne => ((hsh j hj).2 hne).fr f2 ?_⟩⟩
          rintro (q | q)
          · omega
          · have := q.2; omega
        have ho2 : OctR T2 o bs := ho.fr f2 (fun b hb q => by
          have := hb.1; have := hb.2
          rcases q with q | q
          · omega
          · have := q.1; have := q.2; omega)
        have q1 := pc2.1.1
        have q3 := pc2.2.1
        have q4 := pc2.2.2.1
        by_cases qc : cutT kk left top (sh i) = []
        · have qc' : (cutT kk left top (sh i)).length = 0 := by rw [qc]; rfl
          simp (maxSteps := 4000000) (disch := first | (simp (disch := omega) only [XB_i, XB_n, va_rf_s, va_rf_n, mSI_K, mSI_I, mSI_J, mSI_P, mSI_N, mSJ_K, mSJ_I, mSJ_J, mSJ_P, mSJ_N, mSP_K, mSP_I, mSP_J, mSP_P, mSP_N, mNn, mNi, mNr, mN0, al20, al21, al22, al23, al25, true_or, or_true, and_self, if_true, if_false, mCat_n, mCat_i, mCat_r, mCat_l, mCat_0, Nat.reduceAdd, Nat.reduceLeDiff, Nat.reduceLT, true_and, and_true, Nat.zero_le, bI_01, mInB_J, mInB_Z, mInB_N, m1', c5, q1, q3, qc']; done) | omega | (unfold R32 at *; omega)) only [e_88_107, e_88_107_n, e_88_108, e_88_111, e_88_114, e_88_143, e_88_146, XB_i, XB_n, va_rf_s, va_rf_n, mSI_K, mSI_I, mSI_J, mSI_P, mSI_N, mSJ_K, mSJ_I, mSJ_J, mSJ_P, mSJ_N, mSP_K, mSP_I, mSP_J, mSP_P, mSP_N, mNn, mNi, mNr, mN0, al20, al21, al22, al23, al25, true_or, or_true, and_self, if_true, if_false, mCat_n, mCat_i, mCat_r, mCat_l, mCat_0, Nat.reduceAdd, Nat.reduceLeDiff, Nat.reduceLT, true_and, and_true, Nat.zero_le, bI_01, bI_0, i10, tf0, iI_add, iI_sub, iI_mul, iI_neg, iI_add1, iI_sub1, iI_m1, nc1, ncm1, iI_clJ, iI_cl0, iI_clN, Int.toNat_natCast, mU_n, mU_s, p_min, p_max, p_abs, ni_2, ni_3, ni_4, ni_7, ni_8, ni_9, ni_12, ni_24, ni_97, ni_100, ni_122, ni_200, ni_256, ni_4096, ni_5000, ni_9999, iI_lt, iI_le, iI_eq, iz_eq, iz_lt, iz_le, iz_gt, iz_ge, iy_eq, iy_lt, iy_le, iI_ltN, iI_leN, iI_eqN, if_pos, if_neg, m1', c5, q1, q3, qc']
          exact nx T2 _ qc f02 P2 ho2
        · have qc' : 0 < (cutT kk left top (sh i)).length := List.length_pos_iff.mpr qc
          have hF2 := (ff T2 f02).2.2.2.2 i (by omega)
          have g1 := hF2.1.1
          have gn := hF2.2.1.1
          obtain ⟨st, hst⟩ : ∃ st : Nat, (fA Fs i).1.1 - bf = (st : Int) := ⟨((fA Fs i).1.1 - bf).toNat, by omega⟩
          obtain ⟨w1, w2, w3⟩ := cutT_all fo hF12 (z := z) hl ht hkk rfl
          rw [← hsp] at w1 w2 w3
          have wl := wrB_len fo hF12 (z := z) hl ht (s := ss) (step := st) hkk (by omega)
          rw [← hsp] at wl
          simp (maxSteps := 4000000) (disch := first | (simp (disch := omega) only [XB_i, XB_n, va_rf_s, va_rf_n, mSI_K, mSI_I, mSI_J, mSI_P, mSI_N, mSJ_K, mSJ_I, mSJ_J, mSJ_P, mSJ_N, mSP_K, mSP_I, mSP_J, mSP_P, mSP_N, mNn, mNi, mNr, mN0, al20, al21, al22, al23, al25, true_or, or_true, and_self, if_true, if_false, mCat_n, mCat_i, mCat_r, mCat_l, mCat_0, Nat.reduceAdd, Nat.reduceLeDiff, Nat.reduceLT, true_and, and_true, Nat.zero_le, bI_01, mInB_J, mInB_Z, mInB_N, m1', c5, q1, q3, g1, gn, hst]; done) | omega | (unfold R32 at *; omega)) only [e_88_107, e_88_107_n, e_88_108, e_88_111, e_88_114, e_88_117, e_88_117_n, e_88_118, e_88_118_n, e_88_120, e_88_120_n, e_88_122, e_88_125, e_88_127, e_88_128, e_88_130, e_88_132, e_88_132_n, XB_i, XB_n, va_rf_s, va_rf_n, mSI_K, mSI_I, mSI_J, mSI_P, mSI_N, mSJ_K, mSJ_I, mSJ_J, mSJ_P, mSJ_N, mSP_K, mSP_I, mSP_J, mSP_P, mSP_N, mNn, mNi, mNr, mN0, al20, al21, al22, al23, al25, true_or, or_true, and_self, if_true, if_false, mCat_n, mCat_i, mCat_r, mCat_l, mCat_0, Nat.reduceAdd, Nat.reduceLeDiff, Nat.reduceLT, true_and, and_true, Nat.zero_le, bI_01, bI_0, i10, tf0, iI_add, iI_sub, iI_mul, iI_neg, iI_add1, iI_sub1, iI_m1, nc1, ncm1, iI_clJ, iI_cl0, iI_clN, Int.toNat_natCast, mU_n, mU_s, p_min, p_max, p_abs, ni_2, ni_3, ni_4, ni_7, ni_8, ni_9, ni_12, ni_24, ni_97, ni_100, ni_122, ni_200, ni_256, ni_4096, ni_5000, ni_9999, iI_lt, iI_le, iI_eq, iz_eq, iz_lt, iz_le, iz_gt, iz_ge, iy_eq, iy_lt, iy_le, iI_ltN, iI_leN, iI_eqN, if_pos, if_neg, m1', c5, q1, q3, g1, gn, hst]
          refine c_88_133 (by simp only [XB_i, XB_n, va_rf_s, va_rf_n, mSI_K, mSI_I, mSI_J, mSI_P, mSI_N, mSJ_K, mSJ_I, mSJ_J, mSJ_P, mSJ_N, mSP_K, mSP_I, mSP_J, mSP_P, mSP_N, mNn, mNi, mNr, mN0, al20, al21, al22, al23, al25, true_or, or_true, and_self, if_true, if_false, mCat_n, mCat_i, mCat_r, mCat_l, mCat_0, Nat.reduceAdd, Nat.reduceLeDiff, Nat.reduceLT, true_and, and_true, Nat.zero_le, bI_01]) (by rw [m1']) (ct_write (step := st) m1' c5 pc2 w3 hl ht hF2 hkk hss (by omega) (by omega) (by omega) (by omega) (by omega) ho2 (by omega) (fun T3 h3 f3 => ?_))
          have f03 : Fr (mkS m o) T0 T3 := f02.tr (f3.mono (fun b hb => Or.inr hb))
          have hF3 := (ff T3 f03).2.2.2.2 i (by omega)
          have g1 := hF3.1.1
          have gn := hF3.2.1.1
          simp (maxSteps := 4000000) (disch := first | (simp (disch := omega) only [XB_i, XB_n, va_rf_s, va_rf_n, mSI_K, mSI_I, mSI_J, mSI_P, mSI_N, mSJ_K, mSJ_I, mSJ_J, mSJ_P, mSJ_N, mSP_K, mSP_I, mSP_J, mSP_P, mSP_N, mNn, mNi, mNr, mN0, al20, al21, al22, al23, al25, true_or, or_true, and_self, if_true, if_false, mCat_n, mCat_i, mCat_r, mCat_l, mCat_0, Nat.reduceAdd, Nat.reduceLeDiff, Nat.reduceLT, true_and, and_true, Nat.zero_le, bI_01, mInB_J, mInB_Z, mInB_N, g1, gn]; done) | omega | (unfold R32 at *; omega)) only [e_88_136, e_88_136_n, e_88_138, e_88_141, e_88_143, e_88_146, XB_i, XB_n, va_rf_s, va_rf_n, mSI_K, mSI_I, mSI_J, mSI_P, mSI_N, mSJ_K, mSJ_I, mSJ_J, mSJ_P, mSJ_N, mSP_K, mSP_I, mSP_J, mSP_P, mSP_N, mNn, mNi, mNr, mN0, al20, al21, al22, al23, al25, true_or, or_true, and_self, if_true, if_false, mCat_n, mCat_i, mCat_r, mCat_l, mCat_0, Nat.reduceAdd, Nat.reduceLeDiff, Nat.reduceLT, true_and, and_true, Nat.zero_le, bI_01, bI_0, i10, tf0, iI_add, iI_sub, iI_mul, iI_neg, iI_add1, iI_sub1, iI_m1, nc1, ncm1, iI_clJ, iI_cl0, iI_clN, Int.toNat_natCast, mU_n, mU_s, p_min, p_max, p_abs, ni_2, ni_3, ni_4, ni_7, ni_8, ni_9, ni_12, ni_24, ni_97, ni_100, ni_122, ni_200, ni_256, ni_4096, ni_5000, ni_9999, iI_lt, iI_le, iI_eq, iz_eq, iz_lt, iz_le, iz_gt, iz_ge, iy_eq, iy_lt, iy_le, iI_ltN, iI_leN, iI_eqN, if_pos, if_neg, g1, gn]
          have no : ∀ b, iv m (m + 108) b → ¬ iv o (o + 2) b := fun b hb q => by have := hb.1; have := hb.2; have := q.1; have := q.2; omega
          refine ih (i + 1) T3 (fA Fs i).1.1 _ _ (by omega) (by omega) f03 ⟨M2.fr f3 no, by rw [f3.P (no m ⟨by omega, by omega⟩)]; exact P2.2.1, fun j hj => ⟨(hsh j hj).1, fun hne => ((P2.2.2 j hj).2 hne).fr f3 (no _ ⟨by omega, by omega⟩)⟩⟩ h3 (by rw [List.length_append]; omega) ⟨by omega, fun j h1 h2 => ok.2 i j (by omega) h2⟩ (fun T4 h4 o4 f4 => hQ T4 h4 ?_ f4)
          have : mkF z Fs left top (k + 1) i bf bs = mkF z Fs left top k (i + 1) (fA Fs i).1.1 (bs ++ wrB st kk ss left top (cutT kk left top (sh i))) := by
            rw [sE] at qc ⊢
            show (if cutT (fA Fs i).1.2.1.toNat left top (shE z Fs i) = [] then _ else _) = _
            rw [hkk, hss, hst, Int.toNat_natCast, Int.toNat_natCast, Int.toNat_natCast, if_neg qc]
          rw [this]
          exact o4
theorem ct_make {tx ty : Int} (hP : PrR T m e z Fs sh) (hE : EdA T e ad Fs) (ok : esOk Fs) (hx : 0 ≤ tx ∧ tx ≤ 15) (hy : 0 ≤ ty ∧ ty ≤ 15) (dis : e + 74 ≤ m ∨ m + 108 ≤ e) (do1 : o + 2 ≤ m ∨ m + 108 ≤ o) (do2 : o + 2 ≤ e ∨ e + 74 ≤ o) {bs : List Nat} (ho : OctR T o bs) (hQ : ∀ T2, PrR T2 m e z Fs sh → OctR T2 o (tileB z Fs tx ty) → Fr (mkS m o) T T2 → Q (.inl none) T2) : XW 88 0 [some (.ref (m)), some (.int (iI (tx))), some (.int (iI (ty))), some (.ref (o)), none, none, none, none, none] [] T Q := by
  have m1 := hP.1.1.1
  have h0 := hP.2.1
  have o1 := ho.1
  have no : ∀ b, iv m (m + 108) b → ¬ iv o (o + 2) b := fun b hb q => by have := hb.1; have := hb.2; have := q.1; have := q.2; omega
  have f1 : Fr (iv o (o + 2)) T (mSI T o 1 0) := Fr.sI ⟨by omega, by omega⟩
  simp (maxSteps := 4000000) (disch := first | (simp (disch := omega) only [XB_i, XB_n, va_rf_s, va_rf_n, mSI_K, mSI_I, mSI_J, mSI_P, mSI_N, mSJ_K, mSJ_I, mSJ_J, mSJ_P, mSJ_N, mSP_K, mSP_I, mSP_J, mSP_P, mSP_N, mNn, mNi, mNr, mN0, al20, al21, al22, al23, al25, true_or, or_true, and_self, if_true, if_false, mCat_n, mCat_i, mCat_r, mCat_l, mCat_0, Nat.reduceAdd, Nat.reduceLeDiff, Nat.reduceLT, true_and, and_true, Nat.zero_le, bI_01, mInB_J, mInB_Z, mInB_N, m1, o1, h0]; done) | omega | (unfold R32 at *; omega)) only [e_88_0, e_88_3, e_88_4, e_88_5, e_88_7, e_88_10, e_88_11, e_88_12, e_88_14, e_88_15, e_88_17, e_88_17_n, e_88_18, e_88_19, e_88_22, e_88_22_n, e_88_23, e_88_26, e_88_26_r, e_88_26_n, e_88_29, e_88_30, e_88_31, XB_i, XB_n, va_rf_s, va_rf_n, mSI_K, mSI_I, mSI_J, mSI_P, mSI_N, mSJ_K, mSJ_I, mSJ_J, mSJ_P, mSJ_N, mSP_K, mSP_I, mSP_J, mSP_P, mSP_N, mNn, mNi, mNr, mN0, al20, al21, al22, al23, al25, true_or, or_true, and_self, if_true, if_false, mCat_n, mCat_i, mCat_r, mCat_l, mCat_0, Nat.reduceAdd, Nat.reduceLeDiff, Nat.reduceLT, true_and, and_true, Nat.zero_le, bI_01, bI_0, i10, tf0, iI_add, iI_sub, iI_mul, iI_neg, iI_add1, iI_sub1, iI_m1, nc1, ncm1, iI_clJ, iI_cl0, iI_clN, Int.toNat_natCast, mU_n, mU_s, p_min, p_max, p_abs, ni_2, ni_3, ni_4, ni_7, ni_8, ni_9, ni_12, ni_24, ni_97, ni_100, ni_122, ni_200, ni_256, ni_4096, ni_5000, ni_9999, iI_lt, iI_le, iI_eq, iz_eq, iz_lt, iz_le, iz_gt, iz_ge, iy_eq, iy_lt, iy_le, iI_ltN, iI_leN, iI_eqN, if_pos, if_neg, m1, o1, h0]
  refine l_make (z := z) (sh := sh) hE ok (by omega) (by omega) dis do1 do2 _ 0 _ 0 [] none rfl (by omega) (f1.mono (fun b hb => Or.inr hb)) ⟨hP.1.fr f1 no, by rw [f1.P (no m ⟨by omega, by omega⟩)]; exact h0, fun j hj => ⟨(hP.2.2 j hj).1, fun hne => ((hP.2.2 j hj).2 hne).fr f1 (no _ ⟨by have := (ok.1 j hj).n; omega, by have := hE.2.2.2.1; omega⟩)⟩⟩ ⟨o1, ho.2.1, ho.2.2.1, by (simp (disch := omega) only [mSI_I, mSI_J, mSI_P, mSJ_I, mSJ_J, mSJ_P, mSP_I, mSP_J, mSP_P, mU_n, mU_s] <;> first | done | rfl | assumption), by simp, fun j x hx => by simp at hx⟩ (by simp) ⟨by omega, fun j _ hj => by have := (ok.1 j hj).n; omega⟩ hQ
end MM
