/-! Difference -/
/-- an entry: change, z, tx, ty, size -/
abbrev De : Type := Int × Int × Int × Int × Int
theorem ni_341 : (341 : Int32) = iI 341 := rfl
theorem i32_a0 (x : Int32) : x + 0 = x := Int32.add_zero x
def dD : De := (0, 0, 0, 0, 0)
def dE (es : List De) (k : Nat) : De := es.getD k dD
theorem dE_app {es : List De} {t : De} {k : Nat} (h : k < es.length) : dE (es ++ [t]) k = dE es k := by
  unfold dE
  simp [List.getD_eq_getElem?_getD, List.getElem?_append_left h]
theorem dE_end (es : List De) (t : De) : dE (es ++ [t]) es.length = t := by
  unfold dE
  simp [List.getD_eq_getElem?_getD]
def DifK (T : mT) (d : Nat) : Prop := (T.1 d = (1, 0) ∧ T.2.2.2.1 d 0 = some (d + 1) ∧ T.2.2.2.1 d 1 = some (d + 85)) ∧ (T.2.2.2.1 d 3 = some (d + 169) ∧ T.2.2.2.1 d 4 = some (d + 170) ∧ T.2.2.2.1 d 5 = some (d + 171) ∧ T.2.2.2.1 d 6 = some (d + 172) ∧ T.2.2.2.1 d 7 = some (d + 173)) ∧ (T.1 (d + 169) = (21, 200) ∧ T.1 (d + 170) = (21, 200) ∧ T.1 (d + 171) = (21, 200) ∧ T.1 (d + 172) = (21, 200) ∧ T.1 (d + 173) = (21, 200))
def DifR (T : mT) (d : Nat) (es : List De) : Prop := DifK T d ∧ T.2.1 d 2 = iI es.length ∧ es.length ≤ 200 ∧ (∀ k, k < es.length → T.2.1 (d + 169) k = iI (dE es k).1) ∧ (∀ k, k < es.length → T.2.1 (d + 170) k = iI (dE es k).2.1) ∧ (∀ k, k < es.length → T.2.1 (d + 171) k = iI (dE es k).2.2.1) ∧ (∀ k, k < es.length → T.2.1 (d + 172) k = iI (dE es k).2.2.2.1) ∧ (∀ k, k < es.length → T.2.1 (d + 173) k = iI (dE es k).2.2.2.2)
def dfS (d : Nat) : Nat → Prop := fun b => b = d ∨ iv (d + 169) (d + 174) b
theorem DifK.fr {S : Nat → Prop} {T T2 : mT} {d : Nat} (h : DifK T d) (hf : Fr S T T2) (hs : ¬ S d) : DifK T2 d := by
  unfold DifK
  rw [hf.1, hf.P hs]
  exact h
theorem DifR.fr {S : Nat → Prop} {T T2 : mT} {d : Nat} {es : List De} (h : DifR T d es) (hf : Fr S T T2) (hs : ∀ b, dfS d b → ¬ S b) : DifR T2 d es := by
  obtain ⟨h1, h2⟩ := h
  have s0 := hs d (Or.inl rfl)
  refine ⟨h1.fr hf s0, ?_⟩
  rw [hf.I s0, hf.I (hs (d + 169) (Or.inr ⟨by omega, by omega⟩)), hf.I (hs (d + 170) (Or.inr ⟨by omega, by omega⟩)), hf.I (hs (d + 171) (Or.inr ⟨by omega, by omega⟩)), hf.I (hs (d + 172) (Or.inr ⟨by omega, by omega⟩)), hf.I (hs (d + 173) (Or.inr ⟨by omega, by omega⟩))]
  exact h2
def hdB (ts : List Te) (i : Nat) (pl : Int) : Bool := decide (i < ts.length) && decide ((tE ts i).1.1 = pl)
def dfE (c : Int) (ts : List Te) (k : Nat) (s : Int) : De := (c, (tE ts k).1.2.1, (tE ts k).1.2.2.1, (tE ts k).1.2.2.2, s)
def cmE (ts us : List Te) (i j : Nat) (had has : Bool) : List De := if had then (if has then (if tb ts i = tb us j then [] else [dfE 2 us j (tb us j).length]) else [dfE 0 ts i 0]) else (if has then [dfE 1 us j (tb us j).length] else [])
def cmL (ts us : List Te) : Nat → Nat → Nat → Nat → List De → List De
  | 0, _, _, _, es => es
  | n + 1, pl, i, j, es => cmL ts us n (pl + 1) (if hdB ts i pl then i + 1 else i) (if hdB us j pl then j + 1 else j) (es ++ cmE ts us i j (hdB ts i pl) (hdB us j pl))
def cmP (ts us : List Te) : List De := cmL ts us 341 0 0 0 []
section DI
variable {T : mT} {Q : mOut → mT → Prop} {d p : Nat} {ts us : List Te} {sf sg : Nat → Nat} {es : List De}
theorem ct_tell {c s : Int} {k : Nat} (hD : DifR T d es) (hl : es.length < 200) (hK : PackK T p) (hT : TsR T p ts sf) (hN : PackN T p ts) (hk : k < ts.length) (dis : p + 84 ≤ d ∨ d < p) (dis2 : p + 84 ≤ d + 169 ∨ d + 174 ≤ p) (hQ : ∀ T2, DifR T2 d (es ++ [dfE c ts k s]) → Fr (dfS d) T T2 → Q (.inl none) T2) : XW 2 0 [some (.ref (d)), some (.int (iI (c))), some (.ref (p)), some (.int (iI ((k : Nat) : Int))), some (.int (iI (s)))] [] T Q := by
  obtain ⟨⟨⟨k1, k2, k3⟩, ⟨r3, r4, r5, r6, r7⟩, a3, a4, a5, a6, a7⟩, c2, cl, e1, e2, e3, e4, e5⟩ := id hD
  obtain ⟨⟨K1, K2, K3, K4⟩, ⟨R6, R7, R8, R9, R10, R11, R12, R13⟩, A6, A7, A8, A9, A10, A11, A12, A13⟩ := id hK
  obtain ⟨t1, t2, t3, t4, t5, t6, t7, t8, t9⟩ := id hT
  have n2 := hN.2.1
  have hL : (es ++ [dfE c ts k s]).length = es.length + 1 := by simp
  simp (maxSteps := 4000000) (disch := first | (simp (disch := omega) only [XB_i, XB_n, va_rf_s, va_rf_n, mSI_K, mSI_I, mSI_J, mSI_P, mSI_N, mSJ_K, mSJ_I, mSJ_J, mSJ_P, mSJ_N, mSP_K, mSP_I, mSP_J, mSP_P, mSP_N, mNn, mNi, mNr, mN0, al20, al21, al22, al23, al25, true_or, or_true, and_self, if_true, if_false, mCat_n, mCat_i, mCat_r, mCat_l, mCat_0, Nat.reduceAdd, Nat.reduceLeDiff, Nat.reduceLT, true_and, and_true, Nat.zero_le, bI_01, mInB_J, mInB_Z, mInB_N, k1, r3, r4, r5, r6, r7, a3, a4, a5, a6, a7, c2, K1, R7, R8, R9, A7, A8, A9, t2, t3, t4, nI_i]; done) | omega | (unfold R32 at *; omega)) only [e_2_0, e_2_0_n, e_2_1, e_2_4, e_2_4_n, e_2_5, e_2_8, e_2_9, e_2_12, e_2_12_n, e_2_13, e_2_16, e_2_16_n, e_2_17, e_2_20, e_2_21, e_2_22, e_2_22_n, e_2_23, e_2_26, e_2_26_n, e_2_27, e_2_30, e_2_30_n, e_2_31, e_2_34, e_2_35, e_2_36, e_2_37, e_2_37_n, e_2_38, e_2_41, e_2_41_n, e_2_42, e_2_45, e_2_45_n, e_2_46, e_2_49, e_2_50, e_2_51, e_2_52, e_2_52_n, e_2_53, e_2_56, e_2_56_n, e_2_57, e_2_60, e_2_60_n, e_2_61, e_2_64, e_2_65, e_2_66, e_2_67, e_2_67_n, e_2_68, e_2_71, e_2_71_n, e_2_72, e_2_75, e_2_77, e_2_78, e_2_78_n, e_2_79, e_2_79_i, e_2_80, e_2_83, e_2_84, e_2_85, e_2_88, XB_i, XB_n, va_rf_s, va_rf_n, mSI_K, mSI_I, mSI_J, mSI_P, mSI_N, mSJ_K, mSJ_I, mSJ_J, mSJ_P, mSJ_N, mSP_K, mSP_I, mSP_J, mSP_P, mSP_N, mNn, mNi, mNr, mN0, al20, al21, al22, al23, al25, true_or, or_true, and_self, if_true, if_false, mCat_n, mCat_i, mCat_r, mCat_l, mCat_0, Nat.reduceAdd, Nat.reduceLeDiff, Nat.reduceLT, true_and, and_true, Nat.zero_le, bI_01, bI_0, i10, tf0, iI_add, iI_sub, iI_mul, iI_neg, iI_add1, iI_sub1, iI_m1, nca, nc1, ncm1, iI_clJ, iI_cl0, iI_clN, Int.toNat_natCast, mU_n, mU_s, p_min, p_max, p_abs, ni_2, ni_3, ni_4, ni_7, ni_8, ni_9, ni_12, ni_24, ni_97, ni_100, ni_122, ni_200, ni_256, ni_4096, ni_5000, ni_9999, iI_lt, iI_le, iI_eq, iz_eq, iz_lt, iz_le, iz_gt, iz_ge, iy_eq, iy_lt, iy_le, iI_ltN, iI_leN, iI_eqN, if_pos, if_neg, k1, r3, r4, r5, r6, r7, a3, a4, a5, a6, a7, c2, K1, R7, R8, R9, A7, A8, A9, t2, t3, t4, nI_i]
  refine hQ _ ⟨hD.1, ?_, by rw [hL]; omega, fun j hj => ?_, fun j hj => ?_, fun j hj => ?_, fun j hj => ?_, fun j hj => ?_⟩ ?_
  · rw [hL]; (simp (disch := omega) only [mSI_I, mSI_J, mSI_P, mSJ_I, mSJ_J, mSJ_P, mSP_I, mSP_J, mSP_P, mU_n, mU_s] <;> first | done | rfl | assumption)
  · rw [hL] at hj
    by_cases e : j = es.length
    · rw [e, dE_end]; (simp (disch := omega) only [mSI_I, mSI_J, mSI_P, mSJ_I, mSJ_J, mSJ_P, mSP_I, mSP_J, mSP_P, mU_n, mU_s] <;> first | done | rfl | assumption)
    · rw [dE_app (by omega), ← e1 j (by omega)]; (simp (disch := omega) only [mSI_I, mSI_J, mSI_P, mSJ_I, mSJ_J, mSJ_P, mSP_I, mSP_J, mSP_P, mU_n, mU_s] <;> first | done | rfl | assumption)
  · rw [hL] at hj
    by_cases e : j = es.length
    · rw [e, dE_end]; (simp (disch := omega) only [mSI_I, mSI_J, mSI_P, mSJ_I, mSJ_J, mSJ_P, mSP_I, mSP_J, mSP_P, mU_n, mU_s] <;> first | done | rfl | assumption)
    · rw [dE_app (by omega), ← e2 j (by omega)]; (simp (disch := omega) only [mSI_I, mSI_J, mSI_P, mSJ_I, mSJ_J, mSJ_P, mSP_I, mSP_J, mSP_P, mU_n, mU_s] <;> first | done | rfl | assumption)
  · rw [hL] at hj
    by_cases e : j = es.length
    · rw [e, dE_end]; (simp (disch := omega) only [mSI_I, mSI_J, mSI_P, mSJ_I, mSJ_J, mSJ_P, mSP_I, mSP_J, mSP_P, mU_n, mU_s] <;> first | done | rfl | assumption)
    · rw [dE_app (by omega), ← e3 j (by omega)]; (simp (disch := omega) only [mSI_I, mSI_J, mSI_P, mSJ_I, mSJ_J, mSJ_P, mSP_I, mSP_J, mSP_P, mU_n, mU_s] <;> first | done | rfl | assumption)
  · rw [hL] at hj
    by_cases e : j = es.length
    · rw [e, dE_end]; (simp (disch := omega) only [mSI_I, mSI_J, mSI_P, mSJ_I, mSJ_J, mSJ_P, mSP_I, mSP_J, mSP_P, mU_n, mU_s] <;> first | done | rfl | assumption)
    · rw [dE_app (by omega), ← e4 j (by omega)]; (simp (disch := omega) only [mSI_I, mSI_J, mSI_P, mSJ_I, mSJ_J, mSJ_P, mSP_I, mSP_J, mSP_P, mU_n, mU_s] <;> first | done | rfl | assumption)
  · rw [hL] at hj
    by_cases e : j = es.length
    · rw [e, dE_end]; (simp (disch := omega) only [mSI_I, mSI_J, mSI_P, mSJ_I, mSJ_J, mSJ_P, mSP_I, mSP_J, mSP_P, mU_n, mU_s] <;> first | done | rfl | assumption)
    · rw [dE_app (by omega), ← e5 j (by omega)]; (simp (disch := omega) only [mSI_I, mSI_J, mSI_P, mSJ_I, mSJ_J, mSJ_P, mSP_I, mSP_J, mSP_P, mU_n, mU_s] <;> first | done | rfl | assumption)
  · exact (Fr.iI (Fr.iI (Fr.iI (Fr.iI (Fr.iI (Fr.sI (S := dfS d) (Or.inr ⟨by omega, by omega⟩)) (Or.inr ⟨by omega, by omega⟩)) (Or.inr ⟨by omega, by omega⟩)) (Or.inr ⟨by omega, by omega⟩)) (Or.inr ⟨by omega, by omega⟩)) (Or.inl rfl))
theorem l_cmp {T0 : mT} (hK : PackK T0 (d + 1)) (hT : TsR T0 (d + 1) ts sf) (hN : PackN T0 (d + 1) ts) (ok : tsOk ts) (hK2 : PackK T0 (d + 85)) (hT2 : TsR T0 (d + 85) us sg) (hN2 : PackN T0 (d + 85) us) (ok2 : tsOk us) : ∀ (n pl : Nat) (T : mT) (i j : Nat) (es : List De) (l4 l5 : Option Value), 341 - pl = n → pl ≤ 341 → Fr (dfS d) T0 T → DifR T d es → i ≤ ts.length → j ≤ us.length → es.length ≤ i + j →
    (∀ T2, DifR T2 d (cmL ts us n pl i j es) → Fr (dfS d) T0 T2 → Q (.inl none) T2) → XW 1 11 [some (.ref (d)), some (.int (iI ((i : Nat) : Int))), some (.int (iI ((j : Nat) : Int))), some (.int (iI ((pl : Nat) : Int))), l4, l5] [] T Q := by
  intro n
  have n2 := hN.2.1
  have N2 := hN2.2.1
  have s1 : ∀ b, iv (d + 1) (d + 1 + 84) b → ¬ dfS d b := by rintro b hb (q | q); have := hb.1; omega; have := hb.2; have := q.1; omega
  have s2 : ∀ b, iv (d + 85) (d + 85 + 84) b → ¬ dfS d b := by rintro b hb (q | q); have := hb.1; omega; have := hb.2; have := q.1; omega
  induction n with
  | zero =>
    intro pl T i j es l4 l5 hn hpl hf hD hi hj he hQ
    have : pl = 341 := by omega
    subst this
    rw [e_1_11]
    simp (maxSteps := 4000000) (disch := first | (simp (disch := omega) only [XB_i, XB_n, va_rf_s, va_rf_n, mSI_K, mSI_I, mSI_J, mSI_P, mSI_N, mSJ_K, mSJ_I, mSJ_J, mSJ_P, mSJ_N, mSP_K, mSP_I, mSP_J, mSP_P, mSP_N, mNn, mNi, mNr, mN0, al20, al21, al22, al23, al25, true_or, or_true, and_self, if_true, if_false, mCat_n, mCat_i, mCat_r, mCat_l, mCat_0, Nat.reduceAdd, Nat.reduceLeDiff, Nat.reduceLT, true_and, and_true, Nat.zero_le, bI_01, mInB_J, mInB_Z, mInB_N, ni_341]; done) | omega | (unfold R32 at *; omega)) only [e_1_12, e_1_15, e_1_173, XB_i, XB_n, va_rf_s, va_rf_n, mSI_K, mSI_I, mSI_J, mSI_P, mSI_N, mSJ_K, mSJ_I, mSJ_J, mSJ_P, mSJ_N, mSP_K, mSP_I, mSP_J, mSP_P, mSP_N, mNn, mNi, mNr, mN0, al20, al21, al22, al23, al25, true_or, or_true, and_self, if_true, if_false, mCat_n, mCat_i, mCat_r, mCat_l, mCat_0, Nat.reduceAdd, Nat.reduceLeDiff, Nat.reduceLT, true_and, and_true, Nat.zero_le, bI_01, bI_0, i10, tf0, iI_add, iI_sub, iI_mul, iI_neg, iI_add1, iI_sub1, iI_m1, nca, nc1, ncm1, iI_clJ, iI_cl0, iI_clN, Int.toNat_natCast, mU_n, mU_s, p_min, p_max, p_abs, ni_2, ni_3, ni_4, ni_7, ni_8, ni_9, ni_12, ni_24, ni_97, ni_100, ni_122, ni_200, ni_256, ni_4096, ni_5000, ni_9999, iI_lt, iI_le, iI_eq, iz_eq, iz_lt, iz_le, iz_gt, iz_ge, iy_eq, iy_lt, iy_le, iI_ltN, iI_leN, iI_eqN, if_pos, if_neg, ni_341]
    exact hQ T hD hf
  | succ n ih =>
    intro pl T i j es l4 l5 hn hpl hf hD hi hj he hQ
    have hKT := hK.fr hf (s1 (d + 1) ⟨by omega, by omega⟩)
    have hTT := hT.fr hf (fun b hb => s1 b ⟨by have := hb.1; omega, by have := hb.2; omega⟩)
    have hNT : PackN T (d + 1) ts := by unfold PackN; rw [hf.I (s1 (d + 1) ⟨by omega, by omega⟩)]; exact hN
    have hKU := hK2.fr hf (s2 (d + 85) ⟨by omega, by omega⟩)
    have hTU := hT2.fr hf (fun b hb => s2 b ⟨by have := hb.1; omega, by have := hb.2; omega⟩)
    have hNU : PackN T (d + 85) us := by unfold PackN; rw [hf.I (s2 (d + 85) ⟨by omega, by omega⟩)]; exact hN2
    obtain ⟨⟨k1, k2, k3⟩, ⟨r3, r4, r5, r6, r7⟩, a3, a4, a5, a6, a7⟩ := id hD.1
    obtain ⟨⟨K1, K2, K3, K4⟩, ⟨R6, R7, R8, R9, R10, R11, R12, R13⟩, A6, A7, A8, A9, A10, A11, A12, A13⟩ := id hKU
    obtain ⟨t1, t2, t3, t4, t5, t6, t7, t8, t9⟩ := id hTU
    have kp := hKT.1.1
    have e1 := fun Q => @p_packAt T Q (d + 1) ts sf i (pl : Int) hKT hTT hNT ok (by omega) (by omega)
    have e2 := fun Q => @p_packAt T Q (d + 85) us sg j (pl : Int) hKU hTU hNU ok2 (by omega) (by omega)
    have go : ∀ (T2 : mT) (l4 l5 : Option Value), Fr (dfS d) T0 T2 → DifR T2 d (es ++ cmE ts us i j (hdB ts i pl) (hdB us j pl)) → XW 1 11 [some (.ref (d)), some (.int (iI (((if hdB ts i pl then i + 1 else i) : Nat) : Int))), some (.int (iI (((if hdB us j pl then j + 1 else j) : Nat) : Int))), some (.int (iI ((pl + 1 : Nat) : Int))), l4, l5] [] T2 Q := by
      intro T2 l4 l5 f2 h2
      refine ih (pl + 1) T2 _ _ _ l4 l5 (by omega) (by omega) f2 h2 ?_ ?_ ?_ (fun T3 h3 f3 => hQ T3 h3 f3)
      · cases q : hdB ts i pl with
        | true => unfold hdB at q; simp at q; simp; omega
        | false => simp; omega
      · cases q : hdB us j pl with
        | true => unfold hdB at q; simp at q; simp; omega
        | false => simp; omega
      · rw [List.length_append]
        have : (cmE ts us i j (hdB ts i pl) (hdB us j pl)).length ≤ 1 := by unfold cmE; split <;> split <;> (try split) <;> simp
        cases q : hdB ts i pl with
        | true => rw [q] at this; simp; split <;> omega
        | false =>
          cases q2 : hdB us j pl with
          | true => rw [q, q2] at this; simp; omega
          | false => simp [cmE]; omega
    have e1' : ∀ Q, XW 49 0 [some (.ref (d + 1)), some (.int (iI ((i : Nat) : Int))), some (.int (iI (pl)))] [] T Q = Q (.inl (some (.int (bI (hdB ts i pl))))) T := e1
    have e2' : ∀ Q, XW 49 0 [some (.ref (d + 85)), some (.int (iI ((j : Nat) : Int))), some (.int (iI (pl)))] [] T Q = Q (.inl (some (.int (bI (hdB us j pl))))) T := e2
    rw [e_1_11]
    cases q1 : hdB ts i pl with
    | true =>
      have hi' : i < ts.length := by unfold hdB at q1; simp at q1; exact q1.1
      rw [q1] at e1' go
      cases q2 : hdB us j pl with
      | true =>
        have hj' : j < us.length := by unfold hdB at q2; simp at q2; exact q2.1
        have lj := (ok2 j hj').2.2.2.2.1
        rw [q2] at e2' go
        have e3 := fun Q => @p_sameB T Q (d + 1) (d + 85) ts us sf sg i j hKT hTT hNT ok hKU hTU hNU ok2 hi' hj'
        by_cases qs : tb ts i = tb us j
        · rw [decide_eq_true qs] at e3
          simp (maxSteps := 4000000) (disch := first | (simp (disch := omega) only [XB_i, XB_n, va_rf_s, va_rf_n, mSI_K, mSI_I, mSI_J, mSI_P, mSI_N, mSJ_K, mSJ_I, mSJ_J, mSJ_P, mSJ_N, mSP_K, mSP_I, mSP_J, mSP_P, mSP_N, mNn, mNi, mNr, mN0, al20, al21, al22, al23, al25, true_or, or_true, and_self, if_true, if_false, mCat_n, mCat_i, mCat_r, mCat_l, mCat_0, Nat.reduceAdd, Nat.reduceLeDiff, Nat.reduceLT, true_and, and_true, Nat.zero_le, bI_01, mInB_J, mInB_Z, mInB_N, ni_341, k1, k2, k3, kp, K1, e1', e2', e3, bI_t]; done) | omega | (unfold R32 at *; omega)) only [e_1_12, e_1_15, e_1_18, e_1_18_n, e_1_19, e_1_22, e_1_23, e_1_27, e_1_29, e_1_29_n, e_1_30, e_1_33, e_1_34, e_1_38, e_1_40, e_1_42, e_1_45, e_1_47, e_1_50, e_1_50_n, e_1_51, e_1_54, e_1_55, e_1_55_n, e_1_56, e_1_59, e_1_63, e_1_88, e_1_90, e_1_93, e_1_95, e_1_98, e_1_98_n, e_1_99, e_1_100, e_1_100_n, e_1_101, e_1_104, e_1_105, e_1_109, e_1_112, e_1_114, e_1_117, e_1_119, e_1_122, e_1_122_n, e_1_123, e_1_124, e_1_124_n, e_1_125, e_1_128, e_1_129, e_1_129_n, e_1_130, e_1_133, e_1_136, e_1_137, e_1_141, e_1_142, e_1_144, e_1_147, e_1_148, e_1_151, e_1_152, e_1_153, e_1_154, e_1_155, e_1_157, e_1_160, e_1_161, e_1_164, e_1_165, e_1_166, e_1_167, e_1_170, d_1_24, d_1_35, d_1_60, XB_i, XB_n, va_rf_s, va_rf_n, mSI_K, mSI_I, mSI_J, mSI_P, mSI_N, mSJ_K, mSJ_I, mSJ_J, mSJ_P, mSJ_N, mSP_K, mSP_I, mSP_J, mSP_P, mSP_N, mNn, mNi, mNr, mN0, al20, al21, al22, al23, al25, true_or, or_true, and_self, if_true, if_false, mCat_n, mCat_i, mCat_r, mCat_l, mCat_0, Nat.reduceAdd, Nat.reduceLeDiff, Nat.reduceLT, true_and, and_true, Nat.zero_le, bI_01, bI_0, i10, tf0, iI_add, iI_sub, iI_mul, iI_neg, iI_add1, iI_sub1, iI_m1, nca, nc1, ncm1, iI_clJ, iI_cl0, iI_clN, Int.toNat_natCast, mU_n, mU_s, p_min, p_max, p_abs, ni_2, ni_3, ni_4, ni_7, ni_8, ni_9, ni_12, ni_24, ni_97, ni_100, ni_122, ni_200, ni_256, ni_4096, ni_5000, ni_9999, iI_lt, iI_le, iI_eq, iz_eq, iz_lt, iz_le, iz_gt, iz_ge, iy_eq, iy_lt, iy_le, iI_ltN, iI_leN, iI_eqN, if_pos, if_neg, ni_341, k1, k2, k3, kp, K1, e1', e2', e3, bI_t]
          refine go T _ _ hf ?_
          unfold cmE
          rw [if_pos rfl, if_pos rfl, if_pos qs, List.append_nil]
          exact hD
        · rw [decide_eq_false qs] at e3
          simp (maxSteps := 4000000) (disch := first | (simp (disch := omega) only [XB_i, XB_n, va_rf_s, va_rf_n, mSI_K, mSI_I, mSI_J, mSI_P, mSI_N, mSJ_K, mSJ_I, mSJ_J, mSJ_P, mSJ_N, mSP_K, mSP_I, mSP_J, mSP_P, mSP_N, mNn, mNi, mNr, mN0, al20, al21, al22, al23, al25, true_or, or_true, and_self, if_true, if_false, mCat_n, mCat_i, mCat_r, mCat_l, mCat_0, Nat.reduceAdd, Nat.reduceLeDiff, Nat.reduceLT, true_and, and_true, Nat.zero_le, bI_01, mInB_J, mInB_Z, mInB_N, ni_341, k1, k2, k3, kp, K1, e1', e2', e3, bI_t, bI_f, R10, A10, t5]; done) | omega | (unfold R32 at *; omega)) only [e_1_12, e_1_15, e_1_18, e_1_18_n, e_1_19, e_1_22, e_1_23, e_1_27, e_1_29, e_1_29_n, e_1_30, e_1_33, e_1_34, e_1_38, e_1_40, e_1_42, e_1_45, e_1_47, e_1_50, e_1_50_n, e_1_51, e_1_54, e_1_55, e_1_55_n, e_1_56, e_1_59, e_1_63, e_1_66, e_1_66_n, e_1_67, e_1_68, e_1_68_n, e_1_69, e_1_72, e_1_73, e_1_73_n, e_1_74, e_1_77, e_1_80, e_1_81, d_1_24, d_1_35, d_1_60, XB_i, XB_n, va_rf_s, va_rf_n, mSI_K, mSI_I, mSI_J, mSI_P, mSI_N, mSJ_K, mSJ_I, mSJ_J, mSJ_P, mSJ_N, mSP_K, mSP_I, mSP_J, mSP_P, mSP_N, mNn, mNi, mNr, mN0, al20, al21, al22, al23, al25, true_or, or_true, and_self, if_true, if_false, mCat_n, mCat_i, mCat_r, mCat_l, mCat_0, Nat.reduceAdd, Nat.reduceLeDiff, Nat.reduceLT, true_and, and_true, Nat.zero_le, bI_01, bI_0, i10, tf0, iI_add, iI_sub, iI_mul, iI_neg, iI_add1, iI_sub1, iI_m1, nca, nc1, ncm1, iI_clJ, iI_cl0, iI_clN, Int.toNat_natCast, mU_n, mU_s, p_min, p_max, p_abs, ni_2, ni_3, ni_4, ni_7, ni_8, ni_9, ni_12, ni_24, ni_97, ni_100, ni_122, ni_200, ni_256, ni_4096, ni_5000, ni_9999, iI_lt, iI_le, iI_eq, iz_eq, iz_lt, iz_le, iz_gt, iz_ge, iy_eq, iy_lt, iy_le, iI_ltN, iI_leN, iI_eqN, if_pos, if_neg, ni_341, k1, k2, k3, kp, K1, e1', e2', e3, bI_t, bI_f, R10, A10, t5]
          refine c_1_82 (by simp only [XB_i, XB_n, va_rf_s, va_rf_n, mSI_K, mSI_I, mSI_J, mSI_P, mSI_N, mSJ_K, mSJ_I, mSJ_J, mSJ_P, mSJ_N, mSP_K, mSP_I, mSP_J, mSP_P, mSP_N, mNn, mNi, mNr, mN0, al20, al21, al22, al23, al25, true_or, or_true, and_self, if_true, if_false, mCat_n, mCat_i, mCat_r, mCat_l, mCat_0, Nat.reduceAdd, Nat.reduceLeDiff, Nat.reduceLT, true_and, and_true, Nat.zero_le, bI_01]) (by rw [k1]) (ct_tell (c := 2) hD (by omega) hKU hTU hNU hj' (by omega) (by omega) (fun T2 h2 f2 => ?_))
          simp (maxSteps := 4000000) (disch := first | (simp (disch := omega) only [XB_i, XB_n, va_rf_s, va_rf_n, mSI_K, mSI_I, mSI_J, mSI_P, mSI_N, mSJ_K, mSJ_I, mSJ_J, mSJ_P, mSJ_N, mSP_K, mSP_I, mSP_J, mSP_P, mSP_N, mNn, mNi, mNr, mN0, al20, al21, al22, al23, al25, true_or, or_true, and_self, if_true, if_false, mCat_n, mCat_i, mCat_r, mCat_l, mCat_0, Nat.reduceAdd, Nat.reduceLeDiff, Nat.reduceLT, true_and, and_true, Nat.zero_le, bI_01, mInB_J, mInB_Z, mInB_N, bI_t, i32_a0]; done) | omega | (unfold R32 at *; omega)) only [e_1_85, e_1_141, e_1_142, e_1_144, e_1_147, e_1_148, e_1_151, e_1_152, e_1_153, e_1_154, e_1_155, e_1_157, e_1_160, e_1_161, e_1_164, e_1_165, e_1_166, e_1_167, e_1_170, XB_i, XB_n, va_rf_s, va_rf_n, mSI_K, mSI_I, mSI_J, mSI_P, mSI_N, mSJ_K, mSJ_I, mSJ_J, mSJ_P, mSJ_N, mSP_K, mSP_I, mSP_J, mSP_P, mSP_N, mNn, mNi, mNr, mN0, al20, al21, al22, al23, al25, true_or, or_true, and_self, if_true, if_false, mCat_n, mCat_i, mCat_r, mCat_l, mCat_0, Nat.reduceAdd, Nat.reduceLeDiff, Nat.reduceLT, true_and, and_true, Nat.zero_le, bI_01, bI_0, i10, tf0, iI_add, iI_sub, iI_mul, iI_neg, iI_add1, iI_sub1, iI_m1, nca, nc1, ncm1, iI_clJ, iI_cl0, iI_clN, Int.toNat_natCast, mU_n, mU_s, p_min, p_max, p_abs, ni_2, ni_3, ni_4, ni_7, ni_8, ni_9, ni_12, ni_24, ni_97, ni_100, ni_122, ni_200, ni_256, ni_4096, ni_5000, ni_9999, iI_lt, iI_le, iI_eq, iz_eq, iz_lt, iz_le, iz_gt, iz_ge, iy_eq, iy_lt, iy_le, iI_ltN, iI_leN, iI_eqN, if_pos, if_neg, bI_t, i32_a0]
          refine go T2 _ _ (hf.tr f2) ?_
          unfold cmE
          rw [if_pos rfl, if_pos rfl, if_neg qs]
          exact h2
      | false =>
        rw [q2] at e2' go
        simp (maxSteps := 4000000) (disch := first | (simp (disch := omega) only [XB_i, XB_n, va_rf_s, va_rf_n, mSI_K, mSI_I, mSI_J, mSI_P, mSI_N, mSJ_K, mSJ_I, mSJ_J, mSJ_P, mSJ_N, mSP_K, mSP_I, mSP_J, mSP_P, mSP_N, mNn, mNi, mNr, mN0, al20, al21, al22, al23, al25, true_or, or_true, and_self, if_true, if_false, mCat_n, mCat_i, mCat_r, mCat_l, mCat_0, Nat.reduceAdd, Nat.reduceLeDiff, Nat.reduceLT, true_and, and_true, Nat.zero_le, bI_01, mInB_J, mInB_Z, mInB_N, ni_341, k1, k2, k3, kp, K1, e1', e2', bI_t, bI_f]; done) | omega | (unfold R32 at *; omega)) only [e_1_12, e_1_15, e_1_18, e_1_18_n, e_1_19, e_1_22, e_1_23, e_1_27, e_1_29, e_1_29_n, e_1_30, e_1_33, e_1_34, e_1_38, e_1_40, e_1_42, e_1_45, e_1_47, e_1_50, e_1_50_n, e_1_51, e_1_54, e_1_55, e_1_55_n, e_1_56, e_1_59, e_1_63, e_1_66, e_1_66_n, e_1_67, e_1_68, e_1_68_n, e_1_69, e_1_72, e_1_73, e_1_73_n, e_1_74, e_1_77, e_1_80, e_1_81, e_1_85, e_1_88, e_1_90, e_1_93, e_1_95, e_1_98, e_1_98_n, e_1_99, e_1_100, e_1_100_n, e_1_101, e_1_104, e_1_105, d_1_24, d_1_35, d_1_60, XB_i, XB_n, va_rf_s, va_rf_n, mSI_K, mSI_I, mSI_J, mSI_P, mSI_N, mSJ_K, mSJ_I, mSJ_J, mSJ_P, mSJ_N, mSP_K, mSP_I, mSP_J, mSP_P, mSP_N, mNn, mNi, mNr, mN0, al20, al21, al22, al23, al25, true_or, or_true, and_self, if_true, if_false, mCat_n, mCat_i, mCat_r, mCat_l, mCat_0, Nat.reduceAdd, Nat.reduceLeDiff, Nat.reduceLT, true_and, and_true, Nat.zero_le, bI_01, bI_0, i10, tf0, iI_add, iI_sub, iI_mul, iI_neg, iI_add1, iI_sub1, iI_m1, nca, nc1, ncm1, iI_clJ, iI_cl0, iI_clN, Int.toNat_natCast, mU_n, mU_s, p_min, p_max, p_abs, ni_2, ni_3, ni_4, ni_7, ni_8, ni_9, ni_12, ni_24, ni_97, ni_100, ni_122, ni_200, ni_256, ni_4096, ni_5000, ni_9999, iI_lt, iI_le, iI_eq, iz_eq, iz_lt, iz_le, iz_gt, iz_ge, iy_eq, iy_lt, iy_le, iI_ltN, iI_leN, iI_eqN, if_pos, if_neg, ni_341, k1, k2, k3, kp, K1, e1', e2', bI_t, bI_f]
        refine c_1_106 (by simp only [XB_i, XB_n, va_rf_s, va_rf_n, mSI_K, mSI_I, mSI_J, mSI_P, mSI_N, mSJ_K, mSJ_I, mSJ_J, mSJ_P, mSJ_N, mSP_K, mSP_I, mSP_J, mSP_P, mSP_N, mNn, mNi, mNr, mN0, al20, al21, al22, al23, al25, true_or, or_true, and_self, if_true, if_false, mCat_n, mCat_i, mCat_r, mCat_l, mCat_0, Nat.reduceAdd, Nat.reduceLeDiff, Nat.reduceLT, true_and, and_true, Nat.zero_le, bI_01]) (by rw [k1]) (ct_tell (c := 0) (s := 0) hD (by omega) hKT hTT hNT hi' (by omega) (by omega) (fun T2 h2 f2 => ?_))
        simp (maxSteps := 4000000) (disch := first | (simp (disch := omega) only [XB_i, XB_n, va_rf_s, va_rf_n, mSI_K, mSI_I, mSI_J, mSI_P, mSI_N, mSJ_K, mSJ_I, mSJ_J, mSJ_P, mSJ_N, mSP_K, mSP_I, mSP_J, mSP_P, mSP_N, mNn, mNi, mNr, mN0, al20, al21, al22, al23, al25, true_or, or_true, and_self, if_true, if_false, mCat_n, mCat_i, mCat_r, mCat_l, mCat_0, Nat.reduceAdd, Nat.reduceLeDiff, Nat.reduceLT, true_and, and_true, Nat.zero_le, bI_01, mInB_J, mInB_Z, mInB_N, bI_t, bI_f, i32_a0]; done) | omega | (unfold R32 at *; omega)) only [e_1_109, e_1_141, e_1_142, e_1_144, e_1_147, e_1_148, e_1_151, e_1_152, e_1_153, e_1_154, e_1_155, e_1_157, e_1_160, e_1_161, e_1_164, e_1_165, e_1_166, e_1_167, e_1_170, XB_i, XB_n, va_rf_s, va_rf_n, mSI_K, mSI_I, mSI_J, mSI_P, mSI_N, mSJ_K, mSJ_I, mSJ_J, mSJ_P, mSJ_N, mSP_K, mSP_I, mSP_J, mSP_P, mSP_N, mNn, mNi, mNr, mN0, al20, al21, al22, al23, al25, true_or, or_true, and_self, if_true, if_false, mCat_n, mCat_i, mCat_r, mCat_l, mCat_0, Nat.reduceAdd, Nat.reduceLeDiff, Nat.reduceLT, true_and, and_true, Nat.zero_le, bI_01, bI_0, i10, tf0, iI_add, iI_sub, iI_mul, iI_neg, iI_add1, iI_sub1, iI_m1, nca, nc1, ncm1, iI_clJ, iI_cl0, iI_clN, Int.toNat_natCast, mU_n, mU_s, p_min, p_max, p_abs, ni_2, ni_3, ni_4, ni_7, ni_8, ni_9, ni_12, ni_24, ni_97, ni_100, ni_122, ni_200, ni_256, ni_4096, ni_5000, ni_9999, iI_lt, iI_le, iI_eq, iz_eq, iz_lt, iz_le, iz_gt, iz_ge, iy_eq, iy_lt, iy_le, iI_ltN, iI_leN, iI_eqN, if_pos, if_neg, bI_t, bI_f, i32_a0]
        refine go T2 _ _ (hf.tr f2) ?_
        unfold cmE
        rw [if_pos rfl, if_neg (by decide)]
        exact h2
    | false =>
      rw [q1] at e1' go
      cases q2 : hdB us j pl with
      | true =>
        have hj' : j < us.length := by unfold hdB at q2; simp at q2; exact q2.1
        have lj := (ok2 j hj').2.2.2.2.1
        rw [q2] at e2' go
        simp (maxSteps := 4000000) (disch := first | (simp (disch := omega) only [XB_i, XB_n, va_rf_s, va_rf_n, mSI_K, mSI_I, mSI_J, mSI_P, mSI_N, mSJ_K, mSJ_I, mSJ_J, mSJ_P, mSJ_N, mSP_K, mSP_I, mSP_J, mSP_P, mSP_N, mNn, mNi, mNr, mN0, al20, al21, al22, al23, al25, true_or, or_true, and_self, if_true, if_false, mCat_n, mCat_i, mCat_r, mCat_l, mCat_0, Nat.reduceAdd, Nat.reduceLeDiff, Nat.reduceLT, true_and, and_true, Nat.zero_le, bI_01, mInB_J, mInB_Z, mInB_N, ni_341, k1, k2, k3, kp, K1, e1', e2', bI_t, bI_f, R10, A10, t5]; done) | omega | (unfold R32 at *; omega)) only [e_1_12, e_1_15, e_1_18, e_1_18_n, e_1_19, e_1_22, e_1_23, e_1_27, e_1_29, e_1_29_n, e_1_30, e_1_33, e_1_34, e_1_38, e_1_40, e_1_42, e_1_45, e_1_47, e_1_50, e_1_50_n, e_1_51, e_1_54, e_1_55, e_1_55_n, e_1_56, e_1_59, e_1_63, e_1_66, e_1_66_n, e_1_67, e_1_68, e_1_68_n, e_1_69, e_1_72, e_1_73, e_1_73_n, e_1_74, e_1_77, e_1_80, e_1_81, e_1_85, e_1_88, e_1_90, e_1_93, e_1_95, e_1_98, e_1_98_n, e_1_99, e_1_100, e_1_100_n, e_1_101, e_1_104, e_1_105, e_1_109, e_1_112, e_1_114, e_1_117, e_1_119, e_1_122, e_1_122_n, e_1_123, e_1_124, e_1_124_n, e_1_125, e_1_128, e_1_129, e_1_129_n, e_1_130, e_1_133, e_1_136, e_1_137, d_1_24, d_1_35, d_1_60, XB_i, XB_n, va_rf_s, va_rf_n, mSI_K, mSI_I, mSI_J, mSI_P, mSI_N, mSJ_K, mSJ_I, mSJ_J, mSJ_P, mSJ_N, mSP_K, mSP_I, mSP_J, mSP_P, mSP_N, mNn, mNi, mNr, mN0, al20, al21, al22, al23, al25, true_or, or_true, and_self, if_true, if_false, mCat_n, mCat_i, mCat_r, mCat_l, mCat_0, Nat.reduceAdd, Nat.reduceLeDiff, Nat.reduceLT, true_and, and_true, Nat.zero_le, bI_01, bI_0, i10, tf0, iI_add, iI_sub, iI_mul, iI_neg, iI_add1, iI_sub1, iI_m1, nca, nc1, ncm1, iI_clJ, iI_cl0, iI_clN, Int.toNat_natCast, mU_n, mU_s, p_min, p_max, p_abs, ni_2, ni_3, ni_4, ni_7, ni_8, ni_9, ni_12, ni_24, ni_97, ni_100, ni_122, ni_200, ni_256, ni_4096, ni_5000, ni_9999, iI_lt, iI_le, iI_eq, iz_eq, iz_lt, iz_le, iz_gt, iz_ge, iy_eq, iy_lt, iy_le, iI_ltN, iI_leN, iI_eqN, if_pos, if_neg, ni_341, k1, k2, k3, kp, K1, e1', e2', bI_t, bI_f, R10, A10, t5]
        refine c_1_138 (by simp only [XB_i, XB_n, va_rf_s, va_rf_n, mSI_K, mSI_I, mSI_J, mSI_P, mSI_N, mSJ_K, mSJ_I, mSJ_J, mSJ_P, mSJ_N, mSP_K, mSP_I, mSP_J, mSP_P, mSP_N, mNn, mNi, mNr, mN0, al20, al21, al22, al23, al25, true_or, or_true, and_self, if_true, if_false, mCat_n, mCat_i, mCat_r, mCat_l, mCat_0, Nat.reduceAdd, Nat.reduceLeDiff, Nat.reduceLT, true_and, and_true, Nat.zero_le, bI_01]) (by rw [k1]) (ct_tell (c := 1) hD (by omega) hKU hTU hNU hj' (by omega) (by omega) (fun T2 h2 f2 => ?_))
        simp (maxSteps := 4000000) (disch := first | (simp (disch := omega) only [XB_i, XB_n, va_rf_s, va_rf_n, mSI_K, mSI_I, mSI_J, mSI_P, mSI_N, mSJ_K, mSJ_I, mSJ_J, mSJ_P, mSJ_N, mSP_K, mSP_I, mSP_J, mSP_P, mSP_N, mNn, mNi, mNr, mN0, al20, al21, al22, al23, al25, true_or, or_true, and_self, if_true, if_false, mCat_n, mCat_i, mCat_r, mCat_l, mCat_0, Nat.reduceAdd, Nat.reduceLeDiff, Nat.reduceLT, true_and, and_true, Nat.zero_le, bI_01, mInB_J, mInB_Z, mInB_N, bI_t, bI_f, i32_a0]; done) | omega | (unfold R32 at *; omega)) only [e_1_141, e_1_142, e_1_144, e_1_147, e_1_148, e_1_151, e_1_152, e_1_153, e_1_154, e_1_155, e_1_157, e_1_160, e_1_161, e_1_164, e_1_165, e_1_166, e_1_167, e_1_170, XB_i, XB_n, va_rf_s, va_rf_n, mSI_K, mSI_I, mSI_J, mSI_P, mSI_N, mSJ_K, mSJ_I, mSJ_J, mSJ_P, mSJ_N, mSP_K, mSP_I, mSP_J, mSP_P, mSP_N, mNn, mNi, mNr, mN0, al20, al21, al22, al23, al25, true_or, or_true, and_self, if_true, if_false, mCat_n, mCat_i, mCat_r, mCat_l, mCat_0, Nat.reduceAdd, Nat.reduceLeDiff, Nat.reduceLT, true_and, and_true, Nat.zero_le, bI_01, bI_0, i10, tf0, iI_add, iI_sub, iI_mul, iI_neg, iI_add1, iI_sub1, iI_m1, nca, nc1, ncm1, iI_clJ, iI_cl0, iI_clN, Int.toNat_natCast, mU_n, mU_s, p_min, p_max, p_abs, ni_2, ni_3, ni_4, ni_7, ni_8, ni_9, ni_12, ni_24, ni_97, ni_100, ni_122, ni_200, ni_256, ni_4096, ni_5000, ni_9999, iI_lt, iI_le, iI_eq, iz_eq, iz_lt, iz_le, iz_gt, iz_ge, iy_eq, iy_lt, iy_le, iI_ltN, iI_leN, iI_eqN, if_pos, if_neg, bI_t, bI_f, i32_a0]
        refine go T2 _ _ (hf.tr f2) ?_
        unfold cmE
        rw [if_neg (by decide), if_pos rfl]
        exact h2
      | false =>
        rw [q2] at e2' go
        simp (maxSteps := 4000000) (disch := first | (simp (disch := omega) only [XB_i, XB_n, va_rf_s, va_rf_n, mSI_K, mSI_I, mSI_J, mSI_P, mSI_N, mSJ_K, mSJ_I, mSJ_J, mSJ_P, mSJ_N, mSP_K, mSP_I, mSP_J, mSP_P, mSP_N, mNn, mNi, mNr, mN0, al20, al21, al22, al23, al25, true_or, or_true, and_self, if_true, if_false, mCat_n, mCat_i, mCat_r, mCat_l, mCat_0, Nat.reduceAdd, Nat.reduceLeDiff, Nat.reduceLT, true_and, and_true, Nat.zero_le, bI_01, mInB_J, mInB_Z, mInB_N, ni_341, k1, k2, k3, kp, K1, e1', e2', bI_f, i32_a0]; done) | omega | (unfold R32 at *; omega)) only [e_1_12, e_1_15, e_1_18, e_1_18_n, e_1_19, e_1_22, e_1_23, e_1_27, e_1_29, e_1_29_n, e_1_30, e_1_33, e_1_34, e_1_38, e_1_40, e_1_42, e_1_45, e_1_47, e_1_50, e_1_50_n, e_1_51, e_1_54, e_1_55, e_1_55_n, e_1_56, e_1_59, e_1_63, e_1_66, e_1_66_n, e_1_67, e_1_68, e_1_68_n, e_1_69, e_1_72, e_1_73, e_1_73_n, e_1_74, e_1_77, e_1_80, e_1_81, e_1_85, e_1_88, e_1_90, e_1_93, e_1_95, e_1_98, e_1_98_n, e_1_99, e_1_100, e_1_100_n, e_1_101, e_1_104, e_1_105, e_1_109, e_1_112, e_1_114, e_1_117, e_1_119, e_1_122, e_1_122_n, e_1_123, e_1_124, e_1_124_n, e_1_125, e_1_128, e_1_129, e_1_129_n, e_1_130, e_1_133, e_1_136, e_1_137, e_1_141, e_1_142, e_1_144, e_1_147, e_1_148, e_1_151, e_1_152, e_1_153, e_1_154, e_1_155, e_1_157, e_1_160, e_1_161, e_1_164, e_1_165, e_1_166, e_1_167, e_1_170, d_1_24, d_1_35, d_1_60, XB_i, XB_n, va_rf_s, va_rf_n, mSI_K, mSI_I, mSI_J, mSI_P, mSI_N, mSJ_K, mSJ_I, mSJ_J, mSJ_P, mSJ_N, mSP_K, mSP_I, mSP_J, mSP_P, mSP_N, mNn, mNi, mNr, mN0, al20, al21, al22, al23, al25, true_or, or_true, and_self, if_true, if_false, mCat_n, mCat_i, mCat_r, mCat_l, mCat_0, Nat.reduceAdd, Nat.reduceLeDiff, Nat.reduceLT, true_and, and_true, Nat.zero_le, bI_01, bI_0, i10, tf0, iI_add, iI_sub, iI_mul, iI_neg, iI_add1, iI_sub1, iI_m1, nca, nc1, ncm1, iI_clJ, iI_cl0, iI_clN, Int.toNat_natCast, mU_n, mU_s, p_min, p_max, p_abs, ni_2, ni_3, ni_4, ni_7, ni_8, ni_9, ni_12, ni_24, ni_97, ni_100, ni_122, ni_200, ni_256, ni_4096, ni_5000, ni_9999, iI_lt, iI_le, iI_eq, iz_eq, iz_lt, iz_le, iz_gt, iz_ge, iy_eq, iy_lt, iy_le, iI_ltN, iI_leN, iI_eqN, if_pos, if_neg, ni_341, k1, k2, k3, kp, K1, e1', e2', bI_f, i32_a0]
        refine go T _ _ hf ?_
        unfold cmE
        rw [if_neg (by decide), if_neg (by decide), List.append_nil]
        exact hD
theorem ct_cmp (hDK : DifK T d) (hK : PackK T (d + 1)) (hT : TsR T (d + 1) ts sf) (hN : PackN T (d + 1) ts) (ok : tsOk ts) (hK2 : PackK T (d + 85)) (hT2 : TsR T (d + 85) us sg) (hN2 : PackN T (d + 85) us) (ok2 : tsOk us) (hQ : ∀ T2, DifR T2 d (cmP ts us) → Fr (dfS d) T T2 → Q (.inl none) T2) : XW 1 0 [some (.ref (d)), none, none, none, none, none] [] T Q := by
  obtain ⟨⟨k1, k2, k3⟩, hr⟩ := id hDK
  simp (maxSteps := 4000000) (disch := first | (simp (disch := omega) only [XB_i, XB_n, va_rf_s, va_rf_n, mSI_K, mSI_I, mSI_J, mSI_P, mSI_N, mSJ_K, mSJ_I, mSJ_J, mSJ_P, mSJ_N, mSP_K, mSP_I, mSP_J, mSP_P, mSP_N, mNn, mNi, mNr, mN0, al20, al21, al22, al23, al25, true_or, or_true, and_self, if_true, if_false, mCat_n, mCat_i, mCat_r, mCat_l, mCat_0, Nat.reduceAdd, Nat.reduceLeDiff, Nat.reduceLT, true_and, and_true, Nat.zero_le, bI_01, mInB_J, mInB_Z, mInB_N, k1]; done) | omega | (unfold R32 at *; omega)) only [e_1_0, e_1_0_n, e_1_1, e_1_2, e_1_5, e_1_6, e_1_7, e_1_8, e_1_9, e_1_10, XB_i, XB_n, va_rf_s, va_rf_n, mSI_K, mSI_I, mSI_J, mSI_P, mSI_N, mSJ_K, mSJ_I, mSJ_J, mSJ_P, mSJ_N, mSP_K, mSP_I, mSP_J, mSP_P, mSP_N, mNn, mNi, mNr, mN0, al20, al21, al22, al23, al25, true_or, or_true, and_self, if_true, if_false, mCat_n, mCat_i, mCat_r, mCat_l, mCat_0, Nat.reduceAdd, Nat.reduceLeDiff, Nat.reduceLT, true_and, and_true, Nat.zero_le, bI_01, bI_0, i10, tf0, iI_add, iI_sub, iI_mul, iI_neg, iI_add1, iI_sub1, iI_m1, nca, nc1, ncm1, iI_clJ, iI_cl0, iI_clN, Int.toNat_natCast, mU_n, mU_s, p_min, p_max, p_abs, ni_2, ni_3, ni_4, ni_7, ni_8, ni_9, ni_12, ni_24, ni_97, ni_100, ni_122, ni_200, ni_256, ni_4096, ni_5000, ni_9999, iI_lt, iI_le, iI_eq, iz_eq, iz_lt, iz_le, iz_gt, iz_ge, iy_eq, iy_lt, iy_le, iI_ltN, iI_leN, iI_eqN, if_pos, if_neg, k1]
  exact l_cmp hK hT hN ok hK2 hT2 hN2 ok2 341 0 _ 0 0 [] none none rfl (by omega) (Fr.sI (S := dfS d) (Or.inl rfl)) ⟨⟨⟨k1, k2, k3⟩, hr⟩, by (simp (disch := omega) only [mSI_I, mSI_J, mSI_P, mSJ_I, mSJ_J, mSJ_P, mSP_I, mSP_J, mSP_P, mU_n, mU_s] <;> first | done | rfl | assumption), by simp, fun k hk => by simp at hk, fun k hk => by simp at hk, fun k hk => by simp at hk, fun k hk => by simp at hk, fun k hk => by simp at hk⟩ (by omega) (by omega) (by simp) hQ
end DI
