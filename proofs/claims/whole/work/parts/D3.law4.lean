/-! the law: its loop, and from its entry on -/
theorem and15 (z : Int32) : z &&& 15 = iI ((z.toUInt32.toNat % 16 : Nat) : Int) := by
  have h : (z &&& 15).toUInt32 = (iI ((z.toUInt32.toNat % 16 : Nat) : Int)).toUInt32 := by
    apply UInt32.toNat_inj.mp
    rw [iI_bv _ (by omega)]
    show (z.toUInt32 &&& 15).toNat = _
    rw [UInt32.toNat_and]
    show z.toUInt32.toNat &&& 15 = _
    rw [show (15 : Nat) = 2 ^ 4 - 1 from rfl, Nat.and_two_pow_sub_one_eq_mod]
  have := congrArg UInt32.toInt32 h
  simpa using this
section LOOP
variable {Q : mOut → mT → Prop} {sc N x m o n0 u0 : Nat}
theorem lw_loop (g : Geo sc x m o) (hN2 : N ≤ 3584) (hQ : ∀ T2, T2.2.2.2.2.1 ≤ n0 + N / 7 → T2.2.2.2.2.2 ≤ u0 + 6 * (N / 7) → Q (.inl (some (.int 1))) T2) : ∀ (n c : Nat) (T : mT) (l5 l6 : Option Value), c + n = N / 7 → Wd T sc N x m o c n0 u0 → XW 193 23 [some (.ref (sc)), some (.ref (x)), some (.ref (m)), some (.ref (o)), some (.int (iI ((7 * c : Nat) : Int))), l5, l6] [] T Q := by
  intro n
  induction n with
  | zero =>
    intro c T l5 l6 hc hW
    obtain ⟨cs, Fs, kp, cl, hb, rg, pk, df, hD, hM, hI, hcl, hR⟩ := id hW
    have ks := hR.2.1
    have b1 := hR.2.2.2.2.1
    have b2 := hR.2.2.2.2.2
    have hc' : c = N / 7 := by omega
    rw [hc'] at b1 b2
    have i11 : ((1 : Int32) = 0 ∨ (1 : Int32) = 1) = True := eq_true (Or.inr rfl)
    rw [e_193_23]
    simp (maxSteps := 4000000) (disch := first | (simp (disch := omega) only [XB_i, XB_n, va_rf_s, va_rf_n, mSI_K, mSI_I, mSI_J, mSI_P, mSI_N, mSJ_K, mSJ_I, mSJ_J, mSJ_P, mSJ_N, mSP_K, mSP_I, mSP_J, mSP_P, mSP_N, mNn, mNi, mNr, mN0, al20, al21, al22, al23, al25, true_or, or_true, and_self, if_true, if_false, mCat_n, mCat_i, mCat_r, mCat_l, mCat_0, Nat.reduceAdd, Nat.reduceLeDiff, Nat.reduceLT, true_and, and_true, Nat.zero_le, bI_01, mInB_J, mInB_Z, mInB_N, ks, nI_i, i11]; done) | omega | (unfold R32 at *; omega)) only [e_193_25, e_193_25_n, e_193_26, e_193_27, e_193_29, e_193_30, e_193_1048, e_193_1049, XB_i, XB_n, va_rf_s, va_rf_n, mSI_K, mSI_I, mSI_J, mSI_P, mSI_N, mSJ_K, mSJ_I, mSJ_J, mSJ_P, mSJ_N, mSP_K, mSP_I, mSP_J, mSP_P, mSP_N, mNn, mNi, mNr, mN0, al20, al21, al22, al23, al25, true_or, or_true, and_self, if_true, if_false, mCat_n, mCat_i, mCat_r, mCat_l, mCat_0, Nat.reduceAdd, Nat.reduceLeDiff, Nat.reduceLT, true_and, and_true, Nat.zero_le, bI_01, bI_0, i10, tf0, iI_add, iI_sub, iI_mul, iI_neg, iI_add1, iI_sub1, iI_m1, nca, nc1, ncm1, iI_clJ, iI_cl0, iI_clN, Int.toNat_natCast, mU_n, mU_s, p_min, p_max, p_abs, ni_2, ni_3, ni_4, ni_7, ni_8, ni_9, ni_12, ni_24, ni_97, ni_100, ni_122, ni_200, ni_256, ni_4096, ni_5000, ni_9999, iI_lt, iI_le, iI_eq, iz_eq, iz_lt, iz_le, iz_gt, iz_ge, iy_eq, iy_lt, iy_le, iI_ltN, iI_leN, iI_eqN, if_pos, if_neg, ks, nI_i, i11]
    exact hQ T b1 b2
  | succ n ih =>
    intro c T l5 l6 hc hW
    obtain ⟨cs, Fs, kp, cl, hb, rg, pk, df, hD, hM, hI, hcl, hR⟩ := id hW
    have ks := hR.2.1
    have hstep : ∀ T2 l5 l6, Wd T2 sc N x m o (c + 1) n0 u0 → XW 193 1042 [some (.ref (sc)), some (.ref (x)), some (.ref (m)), some (.ref (o)), some (.int (iI ((7 * c : Nat) : Int))), l5, l6] [] T2 Q := by
      intro T2 l5 l6 hW2
      have e7 : iI ((7 * c : Nat) : Int) + 7 = iI ((7 * (c + 1) : Nat) : Int) := by
        rw [ni_7, iI_add]
        exact congrArg iI (by omega)
      rw [e_193_1042 (by simp only [XB_i, XB_n, va_rf_s, va_rf_n, mSI_K, mSI_I, mSI_J, mSI_P, mSI_N, mSJ_K, mSJ_I, mSJ_J, mSJ_P, mSJ_N, mSP_K, mSP_I, mSP_J, mSP_P, mSP_N, mNn, mNi, mNr, mN0, al20, al21, al22, al23, al25, true_or, or_true, and_self, if_true, if_false, mCat_n, mCat_i, mCat_r, mCat_l, mCat_0, Nat.reduceAdd, Nat.reduceLeDiff, Nat.reduceLT, true_and, and_true, Nat.zero_le, bI_01]), e7, e_193_1045]
      exact ih (c + 1) T2 l5 l6 (by omega) hW2
    have hn7 : 7 * c + 7 ≤ N := by omega
    rw [e_193_23]
    simp (maxSteps := 4000000) (disch := first | (simp (disch := omega) only [XB_i, XB_n, va_rf_s, va_rf_n, mSI_K, mSI_I, mSI_J, mSI_P, mSI_N, mSJ_K, mSJ_I, mSJ_J, mSJ_P, mSJ_N, mSP_K, mSP_I, mSP_J, mSP_P, mSP_N, mNn, mNi, mNr, mN0, al20, al21, al22, al23, al25, true_or, or_true, and_self, if_true, if_false, mCat_n, mCat_i, mCat_r, mCat_l, mCat_0, Nat.reduceAdd, Nat.reduceLeDiff, Nat.reduceLT, true_and, and_true, Nat.zero_le, bI_01, mInB_J, mInB_Z, mInB_N, ks, nI_i]; done) | omega | (unfold R32 at *; omega)) only [e_193_25, e_193_25_n, e_193_26, e_193_27, e_193_29, e_193_30, e_193_33, e_193_33_n, e_193_34, e_193_36, XB_i, XB_n, va_rf_s, va_rf_n, mSI_K, mSI_I, mSI_J, mSI_P, mSI_N, mSJ_K, mSJ_I, mSJ_J, mSJ_P, mSJ_N, mSP_K, mSP_I, mSP_J, mSP_P, mSP_N, mNn, mNi, mNr, mN0, al20, al21, al22, al23, al25, true_or, or_true, and_self, if_true, if_false, mCat_n, mCat_i, mCat_r, mCat_l, mCat_0, Nat.reduceAdd, Nat.reduceLeDiff, Nat.reduceLT, true_and, and_true, Nat.zero_le, bI_01, bI_0, i10, tf0, iI_add, iI_sub, iI_mul, iI_neg, iI_add1, iI_sub1, iI_m1, nca, nc1, ncm1, iI_clJ, iI_cl0, iI_clN, Int.toNat_natCast, mU_n, mU_s, p_min, p_max, p_abs, ni_2, ni_3, ni_4, ni_7, ni_8, ni_9, ni_12, ni_24, ni_97, ni_100, ni_122, ni_200, ni_256, ni_4096, ni_5000, ni_9999, iI_lt, iI_le, iI_eq, iz_eq, iz_lt, iz_le, iz_gt, iz_ge, iy_eq, iy_lt, iy_le, iI_ltN, iI_leN, iI_eqN, if_pos, if_neg, ks, nI_i]
    generalize T.2.1 sc (7 * c) = w
    rw [e_193_37, e_193_39, e_193_40, and15]
    have hk : w.toUInt32.toNat % 16 < 16 := Nat.mod_lt _ (by omega)
    generalize w.toUInt32.toNat % 16 = k at hk
    rw [iI_toInt (by unfold R32; omega)]
    have h16 : k = 0 ∨ k = 1 ∨ k = 2 ∨ k = 3 ∨ k = 4 ∨ k = 5 ∨ k = 6 ∨ k = 7 ∨ k = 8 ∨ k = 9 ∨ k = 10 ∨ k = 11 ∨ k = 12 ∨ k = 13 ∨ k = 14 ∨ k = 15 := by omega
    rcases h16 with rfl | rfl | rfl | rfl | rfl | rfl | rfl | rfl | rfl | rfl | rfl | rfl | rfl | rfl | rfl | rfl
    · exact lw_corner g hW hn7 hN2 hstep l5 l6
    · exact lw_feature g hW hn7 hN2 hstep l5 l6
    · exact lw_drop g hW hn7 hN2 hstep l5 l6
    · exact lw_edition g hW hn7 hN2 hstep l5 l6
    · exact lw_tile g hW hn7 hN2 hstep l5 l6
    · exact lw_octet g hW hn7 hN2 hstep l5 l6
    · exact lw_region g hW hn7 hN2 hstep l5 l6
    · exact lw_extract g hW hn7 hN2 hstep l5 l6
    · exact lw_packed g hW hn7 hN2 hstep l5 l6
    · exact lw_take g hW hn7 hN2 hstep l5 l6
    · exact lw_pack g hW hn7 hN2 hstep l5 l6
    · exact lw_difference g hW hn7 hN2 hstep l5 l6
    · exact lw_differs g hW hn7 hN2 hstep l5 l6
    · exact lw_apply g hW hn7 hN2 hstep l5 l6
    · exact lw_lookUp g hW hn7 hN2 hstep l5 l6
    · exact lw_near g hW hn7 hN2 hstep l5 l6
/-- from the entry on -/
theorem lw_all {T : mT} (hz : KZ T) (hs : T.1 sc = (30, N)) (hsc : sc < T.2.2.2.2.1) (hN2 : N ≤ 3584) (hQ : ∀ T2, T2.2.2.2.2.1 ≤ T.2.2.2.2.1 + 2000 → T2.2.2.2.2.2 ≤ T.2.2.2.2.2 + 200000 → Q (.inl (some (.int 1))) T2) : XW 193 0 [some (.ref (sc)), none, none, none, none, none, none] [] T Q := by
  rw [e_193_0, e_193_3]
  refine c_193_4 (by simp only [XB_i, XB_n, va_rf_s, va_rf_n, mSI_K, mSI_I, mSI_J, mSI_P, mSI_N, mSJ_K, mSJ_I, mSJ_J, mSJ_P, mSJ_N, mSP_K, mSP_I, mSP_J, mSP_P, mSP_N, mNn, mNi, mNr, mN0, al20, al21, al22, al23, al25, true_or, or_true, and_self, if_true, if_false, mCat_n, mCat_i, mCat_r, mCat_l, mCat_0, Nat.reduceAdd, Nat.reduceLeDiff, Nat.reduceLT, true_and, and_true, Nat.zero_le, bI_01]) (ni_X10 (Fz.nw rfl hz) (fun T2 hM hD => ?_))
  obtain ⟨m1, m2, m3, m4, m5, m6⟩ := hM
  have e0 : (mNw T 11 0 14).2.2.2.2.2 = T.2.2.2.2.2 + 14 := rfl
  have hs2 : T2.1 sc = (30, N) := ((m6 sc hsc).1).trans (((Ag.nw hsc).1).trans hs)
  generalize hx : T.2.2.2.2.1 = X at *
  simp only [XB_n, Nat.reduceAdd]
  rw [e_193_7 (by simp only [XB_i, XB_n, va_rf_s, va_rf_n, mSI_K, mSI_I, mSI_J, mSI_P, mSI_N, mSJ_K, mSJ_I, mSJ_J, mSJ_P, mSJ_N, mSP_K, mSP_I, mSP_J, mSP_P, mSP_N, mNn, mNi, mNr, mN0, al20, al21, al22, al23, al25, true_or, or_true, and_self, if_true, if_false, mCat_n, mCat_i, mCat_r, mCat_l, mCat_0, Nat.reduceAdd, Nat.reduceLeDiff, Nat.reduceLT, true_and, and_true, Nat.zero_le, bI_01]), e_193_8, e_193_11, m1]
  refine c_193_12 (by simp only [XB_i, XB_n, va_rf_s, va_rf_n, mSI_K, mSI_I, mSI_J, mSI_P, mSI_N, mSJ_K, mSJ_I, mSJ_J, mSJ_P, mSJ_N, mSP_K, mSP_I, mSP_J, mSP_P, mSP_N, mNn, mNi, mNr, mN0, al20, al21, al22, al23, al25, true_or, or_true, and_self, if_true, if_false, mCat_n, mCat_i, mCat_r, mCat_l, mCat_0, Nat.reduceAdd, Nat.reduceLeDiff, Nat.reduceLT, true_and, and_true, Nat.zero_le, bI_01]) (ni_X11 (Fz.nw m1 m3) (fun T3 hM3 hR => ?_))
  obtain ⟨p1, p2, p3, p4, p5, p6⟩ := hM3
  have e1 : (mNw T2 12 0 51).2.2.2.2.2 = T2.2.2.2.2.2 + 51 := rfl
  have ag3 : ∀ b, b < X + 857 → Ag T2 T3 b := fun b hb => (Ag.nw (by omega)).tr (p6 b hb)
  have hs3 : T3.1 sc = (30, N) := ((ag3 sc (by omega)).1).trans hs2
  simp only [XB_n, Nat.reduceAdd]
  rw [e_193_15 (by simp only [XB_i, XB_n, va_rf_s, va_rf_n, mSI_K, mSI_I, mSI_J, mSI_P, mSI_N, mSJ_K, mSJ_I, mSJ_J, mSJ_P, mSJ_N, mSP_K, mSP_I, mSP_J, mSP_P, mSP_N, mNn, mNi, mNr, mN0, al20, al21, al22, al23, al25, true_or, or_true, and_self, if_true, if_false, mCat_n, mCat_i, mCat_r, mCat_l, mCat_0, Nat.reduceAdd, Nat.reduceLeDiff, Nat.reduceLT, true_and, and_true, Nat.zero_le, bI_01]), e_193_16, e_193_17 cd_1, cn_1, e_193_19 (by simp only [XB_i, XB_n, va_rf_s, va_rf_n, mSI_K, mSI_I, mSI_J, mSI_P, mSI_N, mSJ_K, mSJ_I, mSJ_J, mSJ_P, mSJ_N, mSP_K, mSP_I, mSP_J, mSP_P, mSP_N, mNn, mNi, mNr, mN0, al20, al21, al22, al23, al25, true_or, or_true, and_self, if_true, if_false, mCat_n, mCat_i, mCat_r, mCat_l, mCat_0, Nat.reduceAdd, Nat.reduceLeDiff, Nat.reduceLT, true_and, and_true, Nat.zero_le, bI_01]), e_193_20, e_193_21 (by simp only [XB_i, XB_n, va_rf_s, va_rf_n, mSI_K, mSI_I, mSI_J, mSI_P, mSI_N, mSJ_K, mSJ_I, mSJ_J, mSJ_P, mSJ_N, mSP_K, mSP_I, mSP_J, mSP_P, mSP_N, mNn, mNi, mNr, mN0, al20, al21, al22, al23, al25, true_or, or_true, and_self, if_true, if_false, mCat_n, mCat_i, mCat_r, mCat_l, mCat_0, Nat.reduceAdd, Nat.reduceLeDiff, Nat.reduceLT, true_and, and_true, Nat.zero_le, bI_01]), p1]
  have ag4 : ∀ b, b < X + 857 + 41 → Ag T3 (mNw T3 22 1 1) b := fun b hb => Ag.nw (by omega)
  have hK4 : KZ (mNw T3 22 1 1) := p3.nw _ _ _
  have ho4 : (mNw T3 22 1 1).1 (X + 857 + 41) = (22, 1) := by
    show va_up T3.1 T3.2.2.2.2.1 (22, 1) (X + 857 + 41) = (22, 1)
    rw [p1, va_up_s]
  have hs4 : (mNw T3 22 1 1).1 sc = (30, N) := ((ag4 sc (by omega)).1).trans hs3
  have n4 : (mNw T3 22 1 1).2.2.2.2.1 = X + 857 + 41 + 1 := by show T3.2.2.2.2.1 + 1 = _; rw [p1]
  have u4 : (mNw T3 22 1 1).2.2.2.2.2 = T3.2.2.2.2.2 + 1 := rfl
  have hD4 : DeskR (mNw T3 22 1 1) X [] [] (fun _ => []) 0 [] none none none := hD _ (fun b hb => (ag3 b (by have := hb.2; omega)).tr (ag4 b (by have := hb.2; omega)))
  have hR4 : ModR (mNw T3 22 1 1) (X + 857) [] [] (fun _ => []) 0 [] none none none := hR _ (fun b hb => ag4 b (by have := hb.2; omega))
  generalize mNw T3 22 1 1 = T4 at *
  have hWd : Wd T4 sc N X (X + 857) (X + 857 + 41) 0 (X + 857 + 41 + 1) T4.2.2.2.2.2 := ⟨_, _, _, _, _, _, _, _, hD4, hR4, Inv.zero, Nat.le_refl _, hK4, hs4, ho4, by omega, by omega, by omega⟩
  exact lw_loop (sc := sc) (x := X) (m := X + 857) (o := X + 857 + 41) ⟨by omega, by omega, by omega⟩ hN2 (fun T5 h1 h2 => hQ T5 (by omega) (by omega)) (N / 7) 0 T4 none none (by omega) hWd
end LOOP
