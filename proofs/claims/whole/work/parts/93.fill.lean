/-! Packer.fill -/
noncomputable def flC (R : Rg) (Fs : List Ft) (z c : Nat) (ts : List Te) : Bool × List Te := if dB (htP R z (eB c) (eB (c / 2))) then (if tileB z Fs (eB c) (eB (c / 2)) = [] then (true, ts) else (addB ts (tileB z Fs (eB c) (eB (c / 2))), if addB ts (tileB z Fs (eB c) (eB (c / 2))) then ts ++ [(((((4 ^ z - 1) / 3 + c : Nat) : Int), (z : Int), (eB c : Int), (eB (c / 2) : Int)), tileB z Fs (eB c) (eB (c / 2)))] else ts)) else (true, ts)
noncomputable def flI (R : Rg) (Fs : List Ft) (z : Nat) : Nat → Nat → Bool × List Te → Bool × List Te
  | 0, _, s => s
  | n + 1, c, s => if s.1 then flI R Fs z n (c + 1) (flC R Fs z c s.2) else s
noncomputable def flO (R : Rg) (Fs : List Ft) : Nat → Nat → Bool × List Te → Bool × List Te
  | 0, _, s => s
  | n + 1, z, s => flO R Fs n (z + 1) (flI R Fs z (4 ^ z) 0 s)
/-- does the pack fit; its tiles -/
noncomputable def flP (R : Rg) (Fs : List Ft) : Bool × List Te := flO R Fs (R.2.2.2.2.toNat + 1) 0 (true, [])
def flS (p m o : Nat) : Nat → Prop := fun b => iv p (p + 84) b ∨ iv m (m + 108) b ∨ iv o (o + 2) b
def PkrR (T : mT) (k m o : Nat) : Prop := T.1 k = (6, 0) ∧ T.2.2.2.1 k 0 = some m ∧ T.2.2.2.1 k 1 = some o
theorem PkrR.fr {S : Nat → Prop} {T T2 : mT} {k m o : Nat} (h : PkrR T k m o) (hf : Fr S T T2) (hs : ¬ S k) : PkrR T2 k m o := by
  unfold PkrR
  rw [hf.K, hf.P hs]
  exact h
/-- what lies apart -/
def apF (k p m o e r : Nat) : Prop := (k < p ∨ p + 84 ≤ k) ∧ (k < m ∨ m + 108 ≤ k) ∧ (k < o ∨ o + 2 ≤ k) ∧ (m + 108 ≤ p ∨ p + 84 ≤ m) ∧ (o + 2 ≤ p ∨ p + 84 ≤ o) ∧ (o + 2 ≤ m ∨ m + 108 ≤ o) ∧ (e + 74 ≤ p ∨ p + 84 ≤ e) ∧ (e + 74 ≤ m ∨ m + 108 ≤ e) ∧ (o + 2 ≤ e ∨ e + 74 ≤ o) ∧ (r < p ∨ p + 84 ≤ r) ∧ (r < m ∨ m + 108 ≤ r) ∧ (r < o ∨ o + 2 ≤ r)
theorem p43 : ∀ z : Fin 5, (4 ^ z.val - 1) / 3 + 4 ^ z.val = (4 ^ (z.val + 1) - 1) / 3 ∧ (4 ^ z.val - 1) / 3 + 4 ^ z.val ≤ 341 ∧ 4 ^ z.val ≤ 256 := by decide
theorem tsOk_app {ts : List Te} {t : Te} (h : tsOk ts) (ht : teOk t) : tsOk (ts ++ [t]) := by
  intro k hk
  simp only [List.length_append, List.length_cons, List.length_nil] at hk
  by_cases e : k = ts.length
  · rw [e, tE_end]; exact ht
  · rw [tE_app (by omega)]; exact h k (by omega)
theorem EdA.c12 {T : mT} {e : Nat} {ad : Nat → Nat} {Fs : List Ft} (h : EdA T e ad Fs) : ∀ j, j < Fs.length → (fA Fs j).2.2.length ≤ 12 := fun j hj => (h.2.2.2.2 j hj).2.2.2.1
section FI
variable {T : mT} {Q : mOut → mT → Prop} {k p m o e r : Nat} {ad : Nat → Nat} {R : Rg} {Fs Gs : List Ft} {ed : Int}
theorem l_fillI {T0 : mT} {z : Nat} {sh : Nat → List Cn} (ap : apF k p m o e r) (hk0 : PkrR T0 k m o) (hE : EdA T0 e ad Fs) (ok : esOk Fs) (hR : RegR T0 r R) (bR : RgB R) (hz : z < 5) : ∀ (n c : Nat) (T : mT) (f : Bool) (pl : Nat) (ts : List Te) (bs : List Nat) (l9 l10 : Option Value), 4 ^ z - c = n → c ≤ 4 ^ z → Fr (flS p m o) T0 T → PrR T m e z Fs sh → OctR T o bs → PackR T p (ed, R, Gs, ts) → tsOk ts → pl ≤ (4 ^ z - 1) / 3 + c → (f = true → pl = (4 ^ z - 1) / 3 + c) →
    (∀ (T2 : mT) (f2 : Bool) (pl2 : Nat) (ts2 : List Te) (bs2 : List Nat) (l8 l9 l10 : Option Value), (f2, ts2) = flI R Fs z n c (f, ts) → Fr (flS p m o) T0 T2 → PrR T2 m e z Fs sh → OctR T2 o bs2 → PackR T2 p (ed, R, Gs, ts2) → tsOk ts2 → pl2 ≤ (4 ^ (z + 1) - 1) / 3 → (f2 = true → pl2 = (4 ^ (z + 1) - 1) / 3) → XW 54 145 [some (.ref (k)), some (.ref (p)), some (.ref (e)), some (.int (iI (ed))), some (.ref (r)), some (.int (bI f2)), some (.int (iI ((pl2 : Nat) : Int))), some (.int (iI ((z : Nat) : Int))), l8, l9, l10] [] T2 Q) → XW 54 39 [some (.ref (k)), some (.ref (p)), some (.ref (e)), some (.int (iI (ed))), some (.ref (r)), some (.int (bI f)), some (.int (iI ((pl : Nat) : Int))), some (.int (iI ((z : Nat) : Int))), some (.int (iI ((c : Nat) : Int))), l9, l10] [] T Q := by
  intro n
  obtain ⟨a1, a2, a3, a4, a5, a6, a7, a8, a9, a10, a11, a12⟩ := ap
  obtain ⟨p1, p2, p3⟩ := p43 ⟨z, hz⟩
  dsimp only at p1 p2 p3
  have p4 := p4_key ⟨z, hz⟩
  dsimp only at p4
  have nk : ¬ flS p m o k := by rintro (q | q | q) <;> (have := q.1; have := q.2; omega)
  have nr : ¬ flS p m o r := by rintro (q | q | q) <;> (have := q.1; have := q.2; omega)
  have ne : ∀ b, iv e (e + 74) b → ¬ flS p m o b := by rintro b hb (q | q | q) <;> (have := hb.1; have := hb.2; have := q.1; have := q.2; omega)
  induction n with
  | zero =>
    intro c T f pl ts bs l9 l10 hn hc hf hP ho hp tk hpl hpt hQ
    have hc : c = 4 ^ z := by omega
    rw [e_54_39]
    simp (maxSteps := 4000000) (disch := first | (simp (disch := omega) only [XB_i, XB_n, va_rf_s, va_rf_n, mSI_K, mSI_I, mSI_J, mSI_P, mSI_N, mSJ_K, mSJ_I, mSJ_J, mSJ_P, mSJ_N, mSP_K, mSP_I, mSP_J, mSP_P, mSP_N, mNn, mNi, mNr, mN0, al20, al21, al22, al23, al25, true_or, or_true, and_self, if_true, if_false, mCat_n, mCat_i, mCat_r, mCat_l, mCat_0, Nat.reduceAdd, Nat.reduceLeDiff, Nat.reduceLT, true_and, and_true, Nat.zero_le, bI_01, mInB_J, mInB_Z, mInB_N, p4]; done) | omega | (unfold R32 at *; omega)) only [e_54_41, e_54_42, e_54_43, e_54_45, e_54_46, e_54_47, XB_i, XB_n, va_rf_s, va_rf_n, mSI_K, mSI_I, mSI_J, mSI_P, mSI_N, mSJ_K, mSJ_I, mSJ_J, mSJ_P, mSJ_N, mSP_K, mSP_I, mSP_J, mSP_P, mSP_N, mNn, mNi, mNr, mN0, al20, al21, al22, al23, al25, true_or, or_true, and_self, if_true, if_false, mCat_n, mCat_i, mCat_r, mCat_l, mCat_0, Nat.reduceAdd, Nat.reduceLeDiff, Nat.reduceLT, true_and, and_true, Nat.zero_le, bI_01, bI_0, i10, tf0, iI_add, iI_sub, iI_mul, iI_neg, iI_add1, iI_sub1, iI_m1, nca, nc1, ncm1, iI_clJ, iI_cl0, iI_clN, Int.toNat_natCast, mU_n, mU_s, p_min, p_max, p_abs, ni_2, ni_3, ni_4, ni_7, ni_8, ni_9, ni_12, ni_24, ni_97, ni_100, ni_122, ni_200, ni_256, ni_4096, ni_5000, ni_9999, iI_lt, iI_le, iI_eq, iz_eq, iz_lt, iz_le, iz_gt, iz_ge, iy_eq, iy_lt, iy_le, iI_ltN, iI_leN, iI_eqN, if_pos, if_neg, p4]
    exact hQ T f pl ts bs _ _ _ rfl hf hP ho hp tk (by omega) (fun h => by have := hpt h; omega)
  | succ n ih =>
    intro c T f pl ts bs l9 l10 hn hc hf hP ho hp tk hpl hpt hQ
    rw [e_54_39]
    cases f with
    | false =>
      simp (maxSteps := 4000000) (disch := first | (simp (disch := omega) only [XB_i, XB_n, va_rf_s, va_rf_n, mSI_K, mSI_I, mSI_J, mSI_P, mSI_N, mSJ_K, mSJ_I, mSJ_J, mSJ_P, mSJ_N, mSP_K, mSP_I, mSP_J, mSP_P, mSP_N, mNn, mNi, mNr, mN0, al20, al21, al22, al23, al25, true_or, or_true, and_self, if_true, if_false, mCat_n, mCat_i, mCat_r, mCat_l, mCat_0, Nat.reduceAdd, Nat.reduceLeDiff, Nat.reduceLT, true_and, and_true, Nat.zero_le, bI_01, mInB_J, mInB_Z, mInB_N, p4, bI_f]; done) | omega | (unfold R32 at *; omega)) only [e_54_41, e_54_42, e_54_43, e_54_45, e_54_46, e_54_47, e_54_50, e_54_52, XB_i, XB_n, va_rf_s, va_rf_n, mSI_K, mSI_I, mSI_J, mSI_P, mSI_N, mSJ_K, mSJ_I, mSJ_J, mSJ_P, mSJ_N, mSP_K, mSP_I, mSP_J, mSP_P, mSP_N, mNn, mNi, mNr, mN0, al20, al21, al22, al23, al25, true_or, or_true, and_self, if_true, if_false, mCat_n, mCat_i, mCat_r, mCat_l, mCat_0, Nat.reduceAdd, Nat.reduceLeDiff, Nat.reduceLT, true_and, and_true, Nat.zero_le, bI_01, bI_0, i10, tf0, iI_add, iI_sub, iI_mul, iI_neg, iI_add1, iI_sub1, iI_m1, nca, nc1, ncm1, iI_clJ, iI_cl0, iI_clN, Int.toNat_natCast, mU_n, mU_s, p_min, p_max, p_abs, ni_2, ni_3, ni_4, ni_7, ni_8, ni_9, ni_12, ni_24, ni_97, ni_100, ni_122, ni_200, ni_256, ni_4096, ni_5000, ni_9999, iI_lt, iI_le, iI_eq, iz_eq, iz_lt, iz_le, iz_gt, iz_ge, iy_eq, iy_lt, iy_le, iI_ltN, iI_leN, iI_eqN, if_pos, if_neg, p4, bI_f]
      exact hQ T false pl ts bs _ _ _ rfl hf hP ho hp tk (by omega) (fun h => absurd h (by decide))
    | true =>
      have hpl' := hpt rfl
      have x1 := eB_le c
      have x2 := eB_le (c / 2)
      have hK := hk0.fr hf nk
      obtain ⟨k1, k2, k3⟩ := id hK
      have hRT := hR.fr hf nr
      have g1 := hRT.1
      have s1 := sh1_key ⟨c, by omega⟩
      dsimp only at s1
      have e1 := fun Q => @p_esb T Q c (by omega)
      have e2 := fun Q => @p_esb T Q (c / 2) (by omega)
      have e3 := fun Q => @p_hasTile T Q r R hRT bR (z : Int) (eB c : Int) (eB (c / 2) : Int) (by omega) (by omega) (by omega)
      have go : ∀ (T2 : mT) (f2 : Bool) (ts2 : List Te) (bs2 : List Nat), (f2, ts2) = flC R Fs z c ts → Fr (flS p m o) T0 T2 → PrR T2 m e z Fs sh → OctR T2 o bs2 → PackR T2 p (ed, R, Gs, ts2) → tsOk ts2 → XW 54 39 [some (.ref (k)), some (.ref (p)), some (.ref (e)), some (.int (iI (ed))), some (.ref (r)), some (.int (bI f2)), some (.int (iI ((pl + 1 : Nat) : Int))), some (.int (iI ((z : Nat) : Int))), some (.int (iI ((c + 1 : Nat) : Int))), some (.int (iI ((eB c : Nat) : Int))), some (.int (iI ((eB (c / 2) : Nat) : Int)))] [] T2 Q := by
        intro T2 f2 ts2 bs2 hfl hf2 hP2 ho2 hp2 tk2
        refine ih (c + 1) T2 f2 (pl + 1) ts2 bs2 _ _ (by omega) (by omega) hf2 hP2 ho2 hp2 tk2 (by omega) (fun _ => by omega) ?_
        intro T3 f3 pl3 ts3 bs3 l8 l9 l10 hfl3
        refine hQ T3 f3 pl3 ts3 bs3 l8 l9 l10 ?_
        rw [hfl3, hfl]
        rfl
      cases qh : dB (htP R z (eB c) (eB (c / 2))) with
      | false =>
        have e3' := fun Q => e3 Q
        unfold bP at e3'
        rw [qh] at e3'
        simp (maxSteps := 4000000) (disch := first | (simp (disch := omega) only [XB_i, XB_n, va_rf_s, va_rf_n, mSI_K, mSI_I, mSI_J, mSI_P, mSI_N, mSJ_K, mSJ_I, mSJ_J, mSJ_P, mSJ_N, mSP_K, mSP_I, mSP_J, mSP_P, mSP_N, mNn, mNi, mNr, mN0, al20, al21, al22, al23, al25, true_or, or_true, and_self, if_true, if_false, mCat_n, mCat_i, mCat_r, mCat_l, mCat_0, Nat.reduceAdd, Nat.reduceLeDiff, Nat.reduceLT, true_and, and_true, Nat.zero_le, bI_01, mInB_J, mInB_Z, mInB_N, p4, bI_t, bI_f, s1, e1, e2, e3', g1]; done) | omega | (unfold R32 at *; omega)) only [e_54_41, e_54_42, e_54_43, e_54_45, e_54_46, e_54_47, e_54_50, e_54_52, e_54_55, e_54_60, e_54_62, e_54_64, e_54_65, e_54_69, e_54_71, e_54_71_n, e_54_73, e_54_75, e_54_77, e_54_82, e_54_136, e_54_139, e_54_142, d_54_57, d_54_66, d_54_79, XB_i, XB_n, va_rf_s, va_rf_n, mSI_K, mSI_I, mSI_J, mSI_P, mSI_N, mSJ_K, mSJ_I, mSJ_J, mSJ_P, mSJ_N, mSP_K, mSP_I, mSP_J, mSP_P, mSP_N, mNn, mNi, mNr, mN0, al20, al21, al22, al23, al25, true_or, or_true, and_self, if_true, if_false, mCat_n, mCat_i, mCat_r, mCat_l, mCat_0, Nat.reduceAdd, Nat.reduceLeDiff, Nat.reduceLT, true_and, and_true, Nat.zero_le, bI_01, bI_0, i10, tf0, iI_add, iI_sub, iI_mul, iI_neg, iI_add1, iI_sub1, iI_m1, nca, nc1, ncm1, iI_clJ, iI_cl0, iI_clN, Int.toNat_natCast, mU_n, mU_s, p_min, p_max, p_abs, ni_2, ni_3, ni_4, ni_7, ni_8, ni_9, ni_12, ni_24, ni_97, ni_100, ni_122, ni_200, ni_256, ni_4096, ni_5000, ni_9999, iI_lt, iI_le, iI_eq, iz_eq, iz_lt, iz_le, iz_gt, iz_ge, iy_eq, iy_lt, iy_le, iI_ltN, iI_leN, iI_eqN, if_pos, if_neg, p4, bI_t, bI_f, s1, e1, e2, e3', g1]
        exact go T true ts bs (by unfold flC; rw [qh]; rfl) hf hP ho hp tk
      | true =>
        unfold bP at e3
        rw [qh] at e3
        simp (maxSteps := 4000000) (disch := first | (simp (disch := omega) only [XB_i, XB_n, va_rf_s, va_rf_n, mSI_K, mSI_I, mSI_J, mSI_P, mSI_N, mSJ_K, mSJ_I, mSJ_J, mSJ_P, mSJ_N, mSP_K, mSP_I, mSP_J, mSP_P, mSP_N, mNn, mNi, mNr, mN0, al20, al21, al22, al23, al25, true_or, or_true, and_self, if_true, if_false, mCat_n, mCat_i, mCat_r, mCat_l, mCat_0, Nat.reduceAdd, Nat.reduceLeDiff, Nat.reduceLT, true_and, and_true, Nat.zero_le, bI_01, mInB_J, mInB_Z, mInB_N, p4, bI_t, bI_f, s1, e1, e2, e3, g1, k1, k2, k3]; done) | omega | (unfold R32 at *; omega)) only [e_54_41, e_54_42, e_54_43, e_54_45, e_54_46, e_54_47, e_54_50, e_54_52, e_54_55, e_54_60, e_54_62, e_54_64, e_54_65, e_54_69, e_54_71, e_54_71_n, e_54_73, e_54_75, e_54_77, e_54_82, e_54_85, e_54_85_n, e_54_86, e_54_89, e_54_91, e_54_93, e_54_93_n, e_54_94, d_54_57, d_54_66, d_54_79, XB_i, XB_n, va_rf_s, va_rf_n, mSI_K, mSI_I, mSI_J, mSI_P, mSI_N, mSJ_K, mSJ_I, mSJ_J, mSJ_P, mSJ_N, mSP_K, mSP_I, mSP_J, mSP_P, mSP_N, mNn, mNi, mNr, mN0, al20, al21, al22, al23, al25, true_or, or_true, and_self, if_true, if_false, mCat_n, mCat_i, mCat_r, mCat_l, mCat_0, Nat.reduceAdd, Nat.reduceLeDiff, Nat.reduceLT, true_and, and_true, Nat.zero_le, bI_01, bI_0, i10, tf0, iI_add, iI_sub, iI_mul, iI_neg, iI_add1, iI_sub1, iI_m1, nca, nc1, ncm1, iI_clJ, iI_cl0, iI_clN, Int.toNat_natCast, mU_n, mU_s, p_min, p_max, p_abs, ni_2, ni_3, ni_4, ni_7, ni_8, ni_9, ni_12, ni_24, ni_97, ni_100, ni_122, ni_200, ni_256, ni_4096, ni_5000, ni_9999, iI_lt, iI_le, iI_eq, iz_eq, iz_lt, iz_le, iz_gt, iz_ge, iy_eq, iy_lt, iy_le, iI_ltN, iI_leN, iI_eqN, if_pos, if_neg, p4, bI_t, bI_f, s1, e1, e2, e3, g1, k1, k2, k3]
        refine c_54_97 (by simp only [XB_i, XB_n, va_rf_s, va_rf_n, mSI_K, mSI_I, mSI_J, mSI_P, mSI_N, mSJ_K, mSJ_I, mSJ_J, mSJ_P, mSJ_N, mSP_K, mSP_I, mSP_J, mSP_P, mSP_N, mNn, mNi, mNr, mN0, al20, al21, al22, al23, al25, true_or, or_true, and_self, if_true, if_false, mCat_n, mCat_i, mCat_r, mCat_l, mCat_0, Nat.reduceAdd, Nat.reduceLeDiff, Nat.reduceLT, true_and, and_true, Nat.zero_le, bI_01]) (by rw [hP.1.1.1]) (ct_make (tx := (eB c : Int)) (ty := (eB (c / 2) : Int)) hP (hE.fr hf ne) ok (by omega) (by omega) a8 a6 a9 ho (fun T2 hP2 ho2 f2 => ?_))
        have hf2 : Fr (flS p m o) T0 T2 := hf.tr (f2.mono (fun b hb => by
          rcases hb with (q | q) | q
          · exact Or.inr (Or.inl ⟨by omega, by omega⟩)
          · exact Or.inr (Or.inl ⟨by have := q.1; omega, by have := q.2; omega⟩)
          · exact Or.inr (Or.inr q)))
        have hp2 := hp.fr f2 (fun b hb q => by
          have := hb.1; have := hb.2
          rcases q with (q | q) | q
          · omega
          · have := q.1; have := q.2; omega
          · have := q.1; have := q.2; omega)
        have hK2 := hk0.fr hf2 nk
        obtain ⟨k1, k2, k3⟩ := id hK2
        obtain ⟨o1, o2, o3, o4, o5, o6⟩ := id ho2
        have bb := tileB_b (z := z) (Fs := Fs) (tx := eB c) (ty := eB (c / 2)) (by omega) (by omega) (fun j hj => ⟨ok.1 j hj, hE.c12 j hj⟩)
        generalize hbs : tileB z Fs (eB c) (eB (c / 2)) = B at *
        by_cases qn : B = []
        · have qn' : B.length = 0 := by rw [qn]; rfl
          simp (maxSteps := 4000000) (disch := first | (simp (disch := omega) only [XB_i, XB_n, va_rf_s, va_rf_n, mSI_K, mSI_I, mSI_J, mSI_P, mSI_N, mSJ_K, mSJ_I, mSJ_J, mSJ_P, mSJ_N, mSP_K, mSP_I, mSP_J, mSP_P, mSP_N, mNn, mNi, mNr, mN0, al20, al21, al22, al23, al25, true_or, or_true, and_self, if_true, if_false, mCat_n, mCat_i, mCat_r, mCat_l, mCat_0, Nat.reduceAdd, Nat.reduceLeDiff, Nat.reduceLT, true_and, and_true, Nat.zero_le, bI_01, mInB_J, mInB_Z, mInB_N, k1, k3, o1, o4, qn']; done) | omega | (unfold R32 at *; omega)) only [e_54_100, e_54_100_n, e_54_101, e_54_104, e_54_107, e_54_110, e_54_110_n, e_54_111, e_54_113, e_54_115, e_54_117, e_54_119, e_54_119_n, e_54_120, e_54_126, e_54_129, e_54_130, e_54_133, e_54_134, e_54_136, e_54_139, e_54_142, XB_i, XB_n, va_rf_s, va_rf_n, mSI_K, mSI_I, mSI_J, mSI_P, mSI_N, mSJ_K, mSJ_I, mSJ_J, mSJ_P, mSJ_N, mSP_K, mSP_I, mSP_J, mSP_P, mSP_N, mNn, mNi, mNr, mN0, al20, al21, al22, al23, al25, true_or, or_true, and_self, if_true, if_false, mCat_n, mCat_i, mCat_r, mCat_l, mCat_0, Nat.reduceAdd, Nat.reduceLeDiff, Nat.reduceLT, true_and, and_true, Nat.zero_le, bI_01, bI_0, i10, tf0, iI_add, iI_sub, iI_mul, iI_neg, iI_add1, iI_sub1, iI_m1, nca, nc1, ncm1, iI_clJ, iI_cl0, iI_clN, Int.toNat_natCast, mU_n, mU_s, p_min, p_max, p_abs, ni_2, ni_3, ni_4, ni_7, ni_8, ni_9, ni_12, ni_24, ni_97, ni_100, ni_122, ni_200, ni_256, ni_4096, ni_5000, ni_9999, iI_lt, iI_le, iI_eq, iz_eq, iz_lt, iz_le, iz_gt, iz_ge, iy_eq, iy_lt, iy_le, iI_ltN, iI_leN, iI_eqN, if_pos, if_neg, k1, k3, o1, o4, qn']
          exact go T2 true ts B (by unfold flC; rw [qh, hbs, if_pos rfl, if_pos qn]) hf2 hP2 ho2 hp2 tk
        · have qn' : 0 < B.length := List.length_pos_iff.mpr qn
          have pk1 := hp2.1.1.1
          simp (maxSteps := 4000000) (disch := first | (simp (disch := omega) only [XB_i, XB_n, va_rf_s, va_rf_n, mSI_K, mSI_I, mSI_J, mSI_P, mSI_N, mSJ_K, mSJ_I, mSJ_J, mSJ_P, mSJ_N, mSP_K, mSP_I, mSP_J, mSP_P, mSP_N, mNn, mNi, mNr, mN0, al20, al21, al22, al23, al25, true_or, or_true, and_self, if_true, if_false, mCat_n, mCat_i, mCat_r, mCat_l, mCat_0, Nat.reduceAdd, Nat.reduceLeDiff, Nat.reduceLT, true_and, and_true, Nat.zero_le, bI_01, mInB_J, mInB_Z, mInB_N, k1, k3, o1, o4]; done) | omega | (unfold R32 at *; omega)) only [e_54_100, e_54_100_n, e_54_101, e_54_104, e_54_107, e_54_110, e_54_110_n, e_54_111, e_54_113, e_54_115, e_54_117, e_54_119, e_54_119_n, e_54_120, XB_i, XB_n, va_rf_s, va_rf_n, mSI_K, mSI_I, mSI_J, mSI_P, mSI_N, mSJ_K, mSJ_I, mSJ_J, mSJ_P, mSJ_N, mSP_K, mSP_I, mSP_J, mSP_P, mSP_N, mNn, mNi, mNr, mN0, al20, al21, al22, al23, al25, true_or, or_true, and_self, if_true, if_false, mCat_n, mCat_i, mCat_r, mCat_l, mCat_0, Nat.reduceAdd, Nat.reduceLeDiff, Nat.reduceLT, true_and, and_true, Nat.zero_le, bI_01, bI_0, i10, tf0, iI_add, iI_sub, iI_mul, iI_neg, iI_add1, iI_sub1, iI_m1, nca, nc1, ncm1, iI_clJ, iI_cl0, iI_clN, Int.toNat_natCast, mU_n, mU_s, p_min, p_max, p_abs, ni_2, ni_3, ni_4, ni_7, ni_8, ni_9, ni_12, ni_24, ni_97, ni_100, ni_122, ni_200, ni_256, ni_4096, ni_5000, ni_9999, iI_lt, iI_le, iI_eq, iz_eq, iz_lt, iz_le, iz_gt, iz_ge, iy_eq, iy_lt, iy_le, iI_ltN, iI_leN, iI_eqN, if_pos, if_neg, k1, k3, o1, o4]
          refine c_54_123 (by simp only [XB_i, XB_n, va_rf_s, va_rf_n, mSI_K, mSI_I, mSI_J, mSI_P, mSI_N, mSJ_K, mSJ_I, mSJ_J, mSJ_P, mSJ_N, mSP_K, mSP_I, mSP_J, mSP_P, mSP_N, mNn, mNi, mNr, mN0, al20, al21, al22, al23, al25, true_or, or_true, and_self, if_true, if_false, mCat_n, mCat_i, mCat_r, mCat_l, mCat_0, Nat.reduceAdd, Nat.reduceLeDiff, Nat.reduceLT, true_and, and_true, Nat.zero_le, bI_01]) (by rw [pk1]) (ct_add (t := ((pl : Int), (z : Int), (eB c : Int), (eB (c / 2) : Int))) hp2 rfl tk ho2 bb a5 (fun T3 hp3 f3 => ?_))
          dsimp only at hp3
          have f3' : Fr (iv p (p + 84)) T2 T3 := f3.mono (fun b hb => by rcases hb with q | q; exact ⟨by omega, by omega⟩; exact ⟨by have := q.1; omega, q.2⟩)
          have hf3 : Fr (flS p m o) T0 T3 := hf2.tr (f3'.mono (fun b hb => Or.inl hb))
          have np : ∀ b, iv p (p + 84) b → b ≠ m ∧ b ≠ o := fun b hb => ⟨fun q => by have := hb.1; have := hb.2; omega, fun q => by have := hb.1; have := hb.2; omega⟩
          have hP3 : PrR T3 m e z Fs sh := by
            refine ⟨hP2.1.fr f3' (fun b hb q => by have := hb.1; have := hb.2; have := q.1; have := q.2; omega), by rw [f3'.P (fun q => by have := q.1; have := q.2; omega)]; exact hP2.2.1, fun j hj => ⟨(hP2.2.2 j hj).1, fun hne => ((hP2.2.2 j hj).2 hne).fr f3' (fun q => by have := q.1; have := q.2; have := hE.2.2.2.1; omega)⟩⟩
          have ho3 := ho2.fr f3' (fun b hb q => by have := hb.1; have := hb.2; have := q.1; have := q.2; omega)
          cases qa : addB ts B with
          | true =>
            rw [qa, if_pos rfl] at hp3
            simp (maxSteps := 4000000) (disch := first | (simp (disch := omega) only [XB_i, XB_n, va_rf_s, va_rf_n, mSI_K, mSI_I, mSI_J, mSI_P, mSI_N, mSJ_K, mSJ_I, mSJ_J, mSJ_P, mSJ_N, mSP_K, mSP_I, mSP_J, mSP_P, mSP_N, mNn, mNi, mNr, mN0, al20, al21, al22, al23, al25, true_or, or_true, and_self, if_true, if_false, mCat_n, mCat_i, mCat_r, mCat_l, mCat_0, Nat.reduceAdd, Nat.reduceLeDiff, Nat.reduceLT, true_and, and_true, Nat.zero_le, bI_01, mInB_J, mInB_Z, mInB_N, bI_t]; done) | omega | (unfold R32 at *; omega)) only [e_54_126, e_54_129, e_54_130, e_54_133, e_54_134, e_54_136, e_54_139, e_54_142, XB_i, XB_n, va_rf_s, va_rf_n, mSI_K, mSI_I, mSI_J, mSI_P, mSI_N, mSJ_K, mSJ_I, mSJ_J, mSJ_P, mSJ_N, mSP_K, mSP_I, mSP_J, mSP_P, mSP_N, mNn, mNi, mNr, mN0, al20, al21, al22, al23, al25, true_or, or_true, and_self, if_true, if_false, mCat_n, mCat_i, mCat_r, mCat_l, mCat_0, Nat.reduceAdd, Nat.reduceLeDiff, Nat.reduceLT, true_and, and_true, Nat.zero_le, bI_01, bI_0, i10, tf0, iI_add, iI_sub, iI_mul, iI_neg, iI_add1, iI_sub1, iI_m1, nca, nc1, ncm1, iI_clJ, iI_cl0, iI_clN, Int.toNat_natCast, mU_n, mU_s, p_min, p_max, p_abs, ni_2, ni_3, ni_4, ni_7, ni_8, ni_9, ni_12, ni_24, ni_97, ni_100, ni_122, ni_200, ni_256, ni_4096, ni_5000, ni_9999, iI_lt, iI_le, iI_eq, iz_eq, iz_lt, iz_le, iz_gt, iz_ge, iy_eq, iy_lt, iy_le, iI_ltN, iI_leN, iI_eqN, if_pos, if_neg, bI_t]
            refine go T3 true _ B ?_ hf3 hP3 ho3 hp3 (tsOk_app tk ⟨by dsimp only; omega, by dsimp only; omega, by dsimp only; omega, by dsimp only; omega, o5, bb⟩)
            unfold flC
            rw [qh, hbs, if_pos rfl, if_neg qn, qa, if_pos rfl, hpl']
          | false =>
            rw [qa, if_neg (by decide)] at hp3
            simp (maxSteps := 4000000) (disch := first | (simp (disch := omega) only [XB_i, XB_n, va_rf_s, va_rf_n, mSI_K, mSI_I, mSI_J, mSI_P, mSI_N, mSJ_K, mSJ_I, mSJ_J, mSJ_P, mSJ_N, mSP_K, mSP_I, mSP_J, mSP_P, mSP_N, mNn, mNi, mNr, mN0, al20, al21, al22, al23, al25, true_or, or_true, and_self, if_true, if_false, mCat_n, mCat_i, mCat_r, mCat_l, mCat_0, Nat.reduceAdd, Nat.reduceLeDiff, Nat.reduceLT, true_and, and_true, Nat.zero_le, bI_01, mInB_J, mInB_Z, mInB_N, bI_f]; done) | omega | (unfold R32 at *; omega)) only [e_54_126, e_54_129, e_54_130, e_54_133, e_54_134, e_54_136, e_54_139, e_54_142, XB_i, XB_n, va_rf_s, va_rf_n, mSI_K, mSI_I, mSI_J, mSI_P, mSI_N, mSJ_K, mSJ_I, mSJ_J, mSJ_P, mSJ_N, mSP_K, mSP_I, mSP_J, mSP_P, mSP_N, mNn, mNi, mNr, mN0, al20, al21, al22, al23, al25, true_or, or_true, and_self, if_true, if_false, mCat_n, mCat_i, mCat_r, mCat_l, mCat_0, Nat.reduceAdd, Nat.reduceLeDiff, Nat.reduceLT, true_and, and_true, Nat.zero_le, bI_01, bI_0, i10, tf0, iI_add, iI_sub, iI_mul, iI_neg, iI_add1, iI_sub1, iI_m1, nca, nc1, ncm1, iI_clJ, iI_cl0, iI_clN, Int.toNat_natCast, mU_n, mU_s, p_min, p_max, p_abs, ni_2, ni_3, ni_4, ni_7, ni_8, ni_9, ni_12, ni_24, ni_97, ni_100, ni_122, ni_200, ni_256, ni_4096, ni_5000, ni_9999, iI_lt, iI_le, iI_eq, iz_eq, iz_lt, iz_le, iz_gt, iz_ge, iy_eq, iy_lt, iy_le, iI_ltN, iI_leN, iI_eqN, if_pos, if_neg, bI_f]
            refine go T3 false _ B ?_ hf3 hP3 ho3 hp3 tk
            unfold flC
            rw [qh, hbs, if_pos rfl, if_neg qn, qa, if_neg (by decide)]
theorem l_fillO {T0 : mT} {Z : Nat} (ap : apF k p m o e r) (hk0 : PkrR T0 k m o) (hE : EdA T0 e ad Fs) (ok : esOk Fs) (hR : RegR T0 r R) (bR : RgB R) (hZ : R.2.2.2.2 = (Z : Int)) : ∀ (n z : Nat) (T : mT) (f : Bool) (pl : Nat) (ts : List Te) (bs : List Nat) (sh : Nat → List Cn) (l8 l9 l10 : Option Value), Z + 1 - z = n → z ≤ Z + 1 → Fr (flS p m o) T0 T → MkR T m sh → OctR T o bs → PackR T p (ed, R, Gs, ts) → tsOk ts → pl ≤ (4 ^ z - 1) / 3 → (f = true → pl = (4 ^ z - 1) / 3) →
    (∀ (T2 : mT) (f2 : Bool) (ts2 : List Te) (bs2 : List Nat) (sh2 : Nat → List Cn), (f2, ts2) = flO R Fs n z (f, ts) → Fr (flS p m o) T0 T2 → MkR T2 m sh2 → OctR T2 o bs2 → PackR T2 p (ed, R, mtL R Fs, ts2) → tsOk ts2 → Q (.inl (some (.int (bI f2)))) T2) → XW 54 16 [some (.ref (k)), some (.ref (p)), some (.ref (e)), some (.int (iI (ed))), some (.ref (r)), some (.int (bI f)), some (.int (iI ((pl : Nat) : Int))), some (.int (iI ((z : Nat) : Int))), l8, l9, l10] [] T Q := by
  intro n
  obtain ⟨a1, a2, a3, a4, a5, a6, a7, a8, a9, a10, a11, a12⟩ := id ap
  have bz := bR.2.2.2.2
  have nk : ¬ flS p m o k := by rintro (q | q | q) <;> (have := q.1; have := q.2; omega)
  have nr : ¬ flS p m o r := by rintro (q | q | q) <;> (have := q.1; have := q.2; omega)
  have ne : ∀ b, iv e (e + 74) b → ¬ flS p m o b := by rintro b hb (q | q | q) <;> (have := hb.1; have := hb.2; have := q.1; have := q.2; omega)
  induction n with
  | zero =>
    intro z T f pl ts bs sh l8 l9 l10 hn hz hf hM ho hp tk hpl hpt hQ
    have hRT := hR.fr hf nr
    obtain ⟨g0, g1, g2, g3, g4, g5⟩ := id hRT
    obtain ⟨hK, hTs, hN, h0, hRp, ⟨ad2, hEp⟩⟩ := id hp
    have pk1 := hK.1.1
    have pk3 := hK.1.2.2.1
    have ek := hEp.1.1
    rw [hZ] at g5
    rw [e_54_16]
    simp (maxSteps := 4000000) (disch := first | (simp (disch := omega) only [XB_i, XB_n, va_rf_s, va_rf_n, mSI_K, mSI_I, mSI_J, mSI_P, mSI_N, mSJ_K, mSJ_I, mSJ_J, mSJ_P, mSJ_N, mSP_K, mSP_I, mSP_J, mSP_P, mSP_N, mNn, mNi, mNr, mN0, al20, al21, al22, al23, al25, true_or, or_true, and_self, if_true, if_false, mCat_n, mCat_i, mCat_r, mCat_l, mCat_0, Nat.reduceAdd, Nat.reduceLeDiff, Nat.reduceLT, true_and, and_true, Nat.zero_le, bI_01, mInB_J, mInB_Z, mInB_N, g0, g5, pk1, pk3]; done) | omega | (unfold R32 at *; omega)) only [e_54_18, e_54_18_n, e_54_20, e_54_23, e_54_151, e_54_151_n, e_54_152, e_54_155, e_54_155_n, e_54_156, e_54_156_n, XB_i, XB_n, va_rf_s, va_rf_n, mSI_K, mSI_I, mSI_J, mSI_P, mSI_N, mSJ_K, mSJ_I, mSJ_J, mSJ_P, mSJ_N, mSP_K, mSP_I, mSP_J, mSP_P, mSP_N, mNn, mNi, mNr, mN0, al20, al21, al22, al23, al25, true_or, or_true, and_self, if_true, if_false, mCat_n, mCat_i, mCat_r, mCat_l, mCat_0, Nat.reduceAdd, Nat.reduceLeDiff, Nat.reduceLT, true_and, and_true, Nat.zero_le, bI_01, bI_0, i10, tf0, iI_add, iI_sub, iI_mul, iI_neg, iI_add1, iI_sub1, iI_m1, nca, nc1, ncm1, iI_clJ, iI_cl0, iI_clN, Int.toNat_natCast, mU_n, mU_s, p_min, p_max, p_abs, ni_2, ni_3, ni_4, ni_7, ni_8, ni_9, ni_12, ni_24, ni_97, ni_100, ni_122, ni_200, ni_256, ni_4096, ni_5000, ni_9999, iI_lt, iI_le, iI_eq, iz_eq, iz_lt, iz_le, iz_gt, iz_ge, iy_eq, iy_lt, iy_le, iI_ltN, iI_leN, iI_eqN, if_pos, if_neg, g0, g5, pk1, pk3]
    refine c_54_158 (by simp only [XB_i, XB_n, va_rf_s, va_rf_n, mSI_K, mSI_I, mSI_J, mSI_P, mSI_N, mSJ_K, mSJ_I, mSJ_J, mSJ_P, mSJ_N, mSP_K, mSP_I, mSP_J, mSP_P, mSP_N, mNn, mNi, mNr, mN0, al20, al21, al22, al23, al25, true_or, or_true, and_self, if_true, if_false, mCat_n, mCat_i, mCat_r, mCat_l, mCat_0, Nat.reduceAdd, Nat.reduceLeDiff, Nat.reduceLT, true_and, and_true, Nat.zero_le, bI_01]) (by rw [ek]) (ct_ed_meet (by omega) (by omega) hEp (hE.fr hf ne) ok hRT bR (fun T2 h2 f2 => ?_))
    simp (maxSteps := 4000000) (disch := first | (simp (disch := omega) only [XB_i, XB_n, va_rf_s, va_rf_n, mSI_K, mSI_I, mSI_J, mSI_P, mSI_N, mSJ_K, mSJ_I, mSJ_J, mSJ_P, mSJ_N, mSP_K, mSP_I, mSP_J, mSP_P, mSP_N, mNn, mNi, mNr, mN0, al20, al21, al22, al23, al25, true_or, or_true, and_self, if_true, if_false, mCat_n, mCat_i, mCat_r, mCat_l, mCat_0, Nat.reduceAdd, Nat.reduceLeDiff, Nat.reduceLT, true_and, and_true, Nat.zero_le, bI_01, mInB_J, mInB_Z, mInB_N]; done) | omega | (unfold R32 at *; omega)) only [e_54_161, e_54_163, XB_i, XB_n, va_rf_s, va_rf_n, mSI_K, mSI_I, mSI_J, mSI_P, mSI_N, mSJ_K, mSJ_I, mSJ_J, mSJ_P, mSJ_N, mSP_K, mSP_I, mSP_J, mSP_P, mSP_N, mNn, mNi, mNr, mN0, al20, al21, al22, al23, al25, true_or, or_true, and_self, if_true, if_false, mCat_n, mCat_i, mCat_r, mCat_l, mCat_0, Nat.reduceAdd, Nat.reduceLeDiff, Nat.reduceLT, true_and, and_true, Nat.zero_le, bI_01, bI_0, i10, tf0, iI_add, iI_sub, iI_mul, iI_neg, iI_add1, iI_sub1, iI_m1, nca, nc1, ncm1, iI_clJ, iI_cl0, iI_clN, Int.toNat_natCast, mU_n, mU_s, p_min, p_max, p_abs, ni_2, ni_3, ni_4, ni_7, ni_8, ni_9, ni_12, ni_24, ni_97, ni_100, ni_122, ni_200, ni_256, ni_4096, ni_5000, ni_9999, iI_lt, iI_le, iI_eq, iz_eq, iz_lt, iz_le, iz_gt, iz_ge, iy_eq, iy_lt, iy_le, iI_ltN, iI_leN, iI_eqN, if_pos, if_neg]
    refine hQ T2 f ts bs sh rfl (hf.tr (f2.mono (fun b hb => Or.inl ⟨by have := hb.1; omega, by have := hb.2; omega⟩))) (hM.fr f2 (fun b hb q => by have := hb.1; have := hb.2; have := q.1; have := q.2; omega)) (ho.fr f2 (fun b hb q => by have := hb.1; have := hb.2; have := q.1; have := q.2; omega)) ⟨hK.fr f2 (fun q => by have := q.1; omega), ?_, ?_, ?_, ?_, ⟨ad2, h2⟩⟩ tk
    · obtain ⟨sf, hT⟩ := hTs
      exact ⟨sf, hT.fr f2 (fun b hb q => by have := hb.1; have := hb.2; have := q.1; have := q.2; omega)⟩
    · unfold PackN
      rw [f2.I (fun q => by have := q.1; omega)]
      exact hN
    · rw [f2.I (fun q => by have := q.1; omega)]
      exact h0
    · exact hRp.fr f2 (fun q => by have := q.1; omega)
  | succ n ih =>
    intro z T f pl ts bs sh l8 l9 l10 hn hz hf hM ho hp tk hpl hpt hQ
    have hRT := hR.fr hf nr
    obtain ⟨g0, g1, g2, g3, g4, g5⟩ := id hRT
    rw [hZ] at g5
    obtain ⟨k1, k2, k3⟩ := hk0.fr hf nk
    have m1 := hM.1.1
    rw [e_54_16]
    simp (maxSteps := 4000000) (disch := first | (simp (disch := omega) only [XB_i, XB_n, va_rf_s, va_rf_n, mSI_K, mSI_I, mSI_J, mSI_P, mSI_N, mSJ_K, mSJ_I, mSJ_J, mSJ_P, mSJ_N, mSP_K, mSP_I, mSP_J, mSP_P, mSP_N, mNn, mNi, mNr, mN0, al20, al21, al22, al23, al25, true_or, or_true, and_self, if_true, if_false, mCat_n, mCat_i, mCat_r, mCat_l, mCat_0, Nat.reduceAdd, Nat.reduceLeDiff, Nat.reduceLT, true_and, and_true, Nat.zero_le, bI_01, mInB_J, mInB_Z, mInB_N, g0, g5, k1, k2]; done) | omega | (unfold R32 at *; omega)) only [e_54_18, e_54_18_n, e_54_20, e_54_23, e_54_26, e_54_26_n, e_54_27, e_54_30, e_54_30_n, e_54_31, XB_i, XB_n, va_rf_s, va_rf_n, mSI_K, mSI_I, mSI_J, mSI_P, mSI_N, mSJ_K, mSJ_I, mSJ_J, mSJ_P, mSJ_N, mSP_K, mSP_I, mSP_J, mSP_P, mSP_N, mNn, mNi, mNr, mN0, al20, al21, al22, al23, al25, true_or, or_true, and_self, if_true, if_false, mCat_n, mCat_i, mCat_r, mCat_l, mCat_0, Nat.reduceAdd, Nat.reduceLeDiff, Nat.reduceLT, true_and, and_true, Nat.zero_le, bI_01, bI_0, i10, tf0, iI_add, iI_sub, iI_mul, iI_neg, iI_add1, iI_sub1, iI_m1, nca, nc1, ncm1, iI_clJ, iI_cl0, iI_clN, Int.toNat_natCast, mU_n, mU_s, p_min, p_max, p_abs, ni_2, ni_3, ni_4, ni_7, ni_8, ni_9, ni_12, ni_24, ni_97, ni_100, ni_122, ni_200, ni_256, ni_4096, ni_5000, ni_9999, iI_lt, iI_le, iI_eq, iz_eq, iz_lt, iz_le, iz_gt, iz_ge, iy_eq, iy_lt, iy_le, iI_ltN, iI_leN, iI_eqN, if_pos, if_neg, g0, g5, k1, k2]
    refine c_54_33 (by simp only [XB_i, XB_n, va_rf_s, va_rf_n, mSI_K, mSI_I, mSI_J, mSI_P, mSI_N, mSJ_K, mSJ_I, mSJ_J, mSJ_P, mSJ_N, mSP_K, mSP_I, mSP_J, mSP_P, mSP_N, mNn, mNi, mNr, mN0, al20, al21, al22, al23, al25, true_or, or_true, and_self, if_true, if_false, mCat_n, mCat_i, mCat_r, mCat_l, mCat_0, Nat.reduceAdd, Nat.reduceLeDiff, Nat.reduceLT, true_and, and_true, Nat.zero_le, bI_01]) (by rw [m1]) (ct_prepare hM (hE.fr hf ne) ok (by omega) a8 (fun T2 sh2 hP2 f2 => ?_))
    have nm : ∀ b, iv m (m + 108) b → flS p m o b := fun b hb => Or.inr (Or.inl hb)
    simp (maxSteps := 4000000) (disch := first | (simp (disch := omega) only [XB_i, XB_n, va_rf_s, va_rf_n, mSI_K, mSI_I, mSI_J, mSI_P, mSI_N, mSJ_K, mSJ_I, mSJ_J, mSJ_P, mSJ_N, mSP_K, mSP_I, mSP_J, mSP_P, mSP_N, mNn, mNi, mNr, mN0, al20, al21, al22, al23, al25, true_or, or_true, and_self, if_true, if_false, mCat_n, mCat_i, mCat_r, mCat_l, mCat_0, Nat.reduceAdd, Nat.reduceLeDiff, Nat.reduceLT, true_and, and_true, Nat.zero_le, bI_01, mInB_J, mInB_Z, mInB_N]; done) | omega | (unfold R32 at *; omega)) only [e_54_36, e_54_37, XB_i, XB_n, va_rf_s, va_rf_n, mSI_K, mSI_I, mSI_J, mSI_P, mSI_N, mSJ_K, mSJ_I, mSJ_J, mSJ_P, mSJ_N, mSP_K, mSP_I, mSP_J, mSP_P, mSP_N, mNn, mNi, mNr, mN0, al20, al21, al22, al23, al25, true_or, or_true, and_self, if_true, if_false, mCat_n, mCat_i, mCat_r, mCat_l, mCat_0, Nat.reduceAdd, Nat.reduceLeDiff, Nat.reduceLT, true_and, and_true, Nat.zero_le, bI_01, bI_0, i10, tf0, iI_add, iI_sub, iI_mul, iI_neg, iI_add1, iI_sub1, iI_m1, nca, nc1, ncm1, iI_clJ, iI_cl0, iI_clN, Int.toNat_natCast, mU_n, mU_s, p_min, p_max, p_abs, ni_2, ni_3, ni_4, ni_7, ni_8, ni_9, ni_12, ni_24, ni_97, ni_100, ni_122, ni_200, ni_256, ni_4096, ni_5000, ni_9999, iI_lt, iI_le, iI_eq, iz_eq, iz_lt, iz_le, iz_gt, iz_ge, iy_eq, iy_lt, iy_le, iI_ltN, iI_leN, iI_eqN, if_pos, if_neg]
    refine l_fillI (sh := sh2) ap hk0 hE ok hR bR (by omega) _ 0 T2 f pl ts bs _ _ rfl (Nat.zero_le _) (hf.tr (f2.mono nm)) hP2 (ho.fr f2 (fun b hb q => by have := hb.1; have := hb.2; have := q.1; have := q.2; omega)) (hp.fr f2 (fun b hb q => by have := hb.1; have := hb.2; have := q.1; have := q.2; omega)) tk hpl hpt ?_
    intro T3 f3 pl3 ts3 bs3 l8 l9 l10 hfl hf3 hP3 ho3 hp3 tk3 hpl3 hpt3
    have bpl : (4 ^ (z + 1) - 1) / 3 ≤ 341 := by have := p43 ⟨z, by omega⟩; dsimp only at this; omega
    simp (maxSteps := 4000000) (disch := first | (simp (disch := omega) only [XB_i, XB_n, va_rf_s, va_rf_n, mSI_K, mSI_I, mSI_J, mSI_P, mSI_N, mSJ_K, mSJ_I, mSJ_J, mSJ_P, mSJ_N, mSP_K, mSP_I, mSP_J, mSP_P, mSP_N, mNn, mNi, mNr, mN0, al20, al21, al22, al23, al25, true_or, or_true, and_self, if_true, if_false, mCat_n, mCat_i, mCat_r, mCat_l, mCat_0, Nat.reduceAdd, Nat.reduceLeDiff, Nat.reduceLT, true_and, and_true, Nat.zero_le, bI_01, mInB_J, mInB_Z, mInB_N]; done) | omega | (unfold R32 at *; omega)) only [e_54_145, e_54_148, XB_i, XB_n, va_rf_s, va_rf_n, mSI_K, mSI_I, mSI_J, mSI_P, mSI_N, mSJ_K, mSJ_I, mSJ_J, mSJ_P, mSJ_N, mSP_K, mSP_I, mSP_J, mSP_P, mSP_N, mNn, mNi, mNr, mN0, al20, al21, al22, al23, al25, true_or, or_true, and_self, if_true, if_false, mCat_n, mCat_i, mCat_r, mCat_l, mCat_0, Nat.reduceAdd, Nat.reduceLeDiff, Nat.reduceLT, true_and, and_true, Nat.zero_le, bI_01, bI_0, i10, tf0, iI_add, iI_sub, iI_mul, iI_neg, iI_add1, iI_sub1, iI_m1, nca, nc1, ncm1, iI_clJ, iI_cl0, iI_clN, Int.toNat_natCast, mU_n, mU_s, p_min, p_max, p_abs, ni_2, ni_3, ni_4, ni_7, ni_8, ni_9, ni_12, ni_24, ni_97, ni_100, ni_122, ni_200, ni_256, ni_4096, ni_5000, ni_9999, iI_lt, iI_le, iI_eq, iz_eq, iz_lt, iz_le, iz_gt, iz_ge, iy_eq, iy_lt, iy_le, iI_ltN, iI_leN, iI_eqN, if_pos, if_neg]
    refine ih (z + 1) T3 f3 pl3 ts3 bs3 sh2 _ _ _ (by omega) (by omega) hf3 hP3.1 ho3 hp3 tk3 hpl3 hpt3 ?_
    intro T4 f4 ts4 bs4 sh4 hfl4
    refine hQ T4 f4 ts4 bs4 sh4 ?_
    rw [hfl4, hfl]
    rfl
theorem ct_fill {sh : Nat → List Cn} {bs : List Nat} (ap : apF k p m o e r) (hk0 : PkrR T k m o) (hE : EdA T e ad Fs) (ok : esOk Fs) (hR : RegR T r R) (bR : RgB R) (hM : MkR T m sh) (ho : OctR T o bs) (hK : PackK T p) (hEp : EdR T (p + 2) Gs) (hQ : ∀ (T2 : mT) (bs2 : List Nat) (sh2 : Nat → List Cn), Fr (flS p m o) T T2 → MkR T2 m sh2 → OctR T2 o bs2 → PackR T2 p (ed, R, mtL R Fs, (flP R Fs).2) → tsOk (flP R Fs).2 → Q (.inl (some (.int (bI (flP R Fs).1)))) T2) : XW 54 0 [some (.ref (k)), some (.ref (p)), some (.ref (e)), some (.int (iI (ed))), some (.ref (r)), none, none, none, none, none, none] [] T Q := by
  obtain ⟨a1, a2, a3, a4, a5, a6, a7, a8, a9, a10, a11, a12⟩ := id ap
  have bz := bR.2.2.2.2
  have pk1 := hK.1.1
  obtain ⟨Z, hZ⟩ : ∃ Z : Nat, R.2.2.2.2 = (Z : Int) := ⟨R.2.2.2.2.toNat, by omega⟩
  simp (maxSteps := 4000000) (disch := first | (simp (disch := omega) only [XB_i, XB_n, va_rf_s, va_rf_n, mSI_K, mSI_I, mSI_J, mSI_P, mSI_N, mSJ_K, mSJ_I, mSJ_J, mSJ_P, mSJ_N, mSP_K, mSP_I, mSP_J, mSP_P, mSP_N, mNn, mNi, mNr, mN0, al20, al21, al22, al23, al25, true_or, or_true, and_self, if_true, if_false, mCat_n, mCat_i, mCat_r, mCat_l, mCat_0, Nat.reduceAdd, Nat.reduceLeDiff, Nat.reduceLT, true_and, and_true, Nat.zero_le, bI_01, mInB_J, mInB_Z, mInB_N]; done) | omega | (unfold R32 at *; omega)) only [e_54_0, e_54_0_n, e_54_1, e_54_2, e_54_2_n, XB_i, XB_n, va_rf_s, va_rf_n, mSI_K, mSI_I, mSI_J, mSI_P, mSI_N, mSJ_K, mSJ_I, mSJ_J, mSJ_P, mSJ_N, mSP_K, mSP_I, mSP_J, mSP_P, mSP_N, mNn, mNi, mNr, mN0, al20, al21, al22, al23, al25, true_or, or_true, and_self, if_true, if_false, mCat_n, mCat_i, mCat_r, mCat_l, mCat_0, Nat.reduceAdd, Nat.reduceLeDiff, Nat.reduceLT, true_and, and_true, Nat.zero_le, bI_01, bI_0, i10, tf0, iI_add, iI_sub, iI_mul, iI_neg, iI_add1, iI_sub1, iI_m1, nca, nc1, ncm1, iI_clJ, iI_cl0, iI_clN, Int.toNat_natCast, mU_n, mU_s, p_min, p_max, p_abs, ni_2, ni_3, ni_4, ni_7, ni_8, ni_9, ni_12, ni_24, ni_97, ni_100, ni_122, ni_200, ni_256, ni_4096, ni_5000, ni_9999, iI_lt, iI_le, iI_eq, iz_eq, iz_lt, iz_le, iz_gt, iz_ge, iy_eq, iy_lt, iy_le, iI_ltN, iI_leN, iI_eqN, if_pos, if_neg]
  refine c_54_4 (by simp only [XB_i, XB_n, va_rf_s, va_rf_n, mSI_K, mSI_I, mSI_J, mSI_P, mSI_N, mSJ_K, mSJ_I, mSJ_J, mSJ_P, mSJ_N, mSP_K, mSP_I, mSP_J, mSP_P, mSP_N, mNn, mNi, mNr, mN0, al20, al21, al22, al23, al25, true_or, or_true, and_self, if_true, if_false, mCat_n, mCat_i, mCat_r, mCat_l, mCat_0, Nat.reduceAdd, Nat.reduceLeDiff, Nat.reduceLT, true_and, and_true, Nat.zero_le, bI_01]) (by rw [pk1]) (ct_clear hK hR a10 hEp (fun T2 h2 f2 => ?_))
  simp (maxSteps := 4000000) (disch := first | (simp (disch := omega) only [XB_i, XB_n, va_rf_s, va_rf_n, mSI_K, mSI_I, mSI_J, mSI_P, mSI_N, mSJ_K, mSJ_I, mSJ_J, mSJ_P, mSJ_N, mSP_K, mSP_I, mSP_J, mSP_P, mSP_N, mNn, mNi, mNr, mN0, al20, al21, al22, al23, al25, true_or, or_true, and_self, if_true, if_false, mCat_n, mCat_i, mCat_r, mCat_l, mCat_0, Nat.reduceAdd, Nat.reduceLeDiff, Nat.reduceLT, true_and, and_true, Nat.zero_le, bI_01, mInB_J, mInB_Z, mInB_N]; done) | omega | (unfold R32 at *; omega)) only [e_54_7, e_54_8, e_54_10, e_54_11, e_54_13, e_54_14, XB_i, XB_n, va_rf_s, va_rf_n, mSI_K, mSI_I, mSI_J, mSI_P, mSI_N, mSJ_K, mSJ_I, mSJ_J, mSJ_P, mSJ_N, mSP_K, mSP_I, mSP_J, mSP_P, mSP_N, mNn, mNi, mNr, mN0, al20, al21, al22, al23, al25, true_or, or_true, and_self, if_true, if_false, mCat_n, mCat_i, mCat_r, mCat_l, mCat_0, Nat.reduceAdd, Nat.reduceLeDiff, Nat.reduceLT, true_and, and_true, Nat.zero_le, bI_01, bI_0, i10, tf0, iI_add, iI_sub, iI_mul, iI_neg, iI_add1, iI_sub1, iI_m1, nca, nc1, ncm1, iI_clJ, iI_cl0, iI_clN, Int.toNat_natCast, mU_n, mU_s, p_min, p_max, p_abs, ni_2, ni_3, ni_4, ni_7, ni_8, ni_9, ni_12, ni_24, ni_97, ni_100, ni_122, ni_200, ni_256, ni_4096, ni_5000, ni_9999, iI_lt, iI_le, iI_eq, iz_eq, iz_lt, iz_le, iz_gt, iz_ge, iy_eq, iy_lt, iy_le, iI_ltN, iI_leN, iI_eqN, if_pos, if_neg]
  have f2' : Fr (flS p m o) T T2 := f2.mono (fun b hb => Or.inl ⟨hb.1, by have := hb.2; omega⟩)
  have nm : ∀ b, iv p (p + 2) b → ¬ iv m (m + 108) b := fun b hb q => by have := hb.1; have := hb.2; have := q.1; have := q.2; omega
  refine l_fillO (Z := Z) (Gs := Gs) ap hk0 hE ok hR bR hZ _ 0 T2 true 0 [] bs sh none none none rfl (by omega) f2' (hM.fr f2 (fun b hb q => nm b q hb)) (ho.fr f2 (fun b hb q => by have := hb.1; have := hb.2; have := q.1; have := q.2; omega)) h2 (fun k hk => by simp at hk) (by omega) (fun _ => rfl) ?_
  intro T3 f3 ts3 bs3 sh3 hfl hf3 hM3 ho3 hp3 tk3
  have e : flP R Fs = (f3, ts3) := by rw [hfl]; unfold flP; rw [hZ]; rfl
  have := hQ T3 bs3 sh3 hf3 hM3 ho3 (by rw [e]; exact hp3) (by rw [e]; exact tk3)
  rw [e] at this
  exact this
end FI
