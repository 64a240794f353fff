/-! Edition: what writes -/
theorem mCo25 : mCo 25 = 3 := by unfold mCo; simp
def insL (Fs : List Ft) (p : Nat) (F : Ft) : List Ft := Fs.take p ++ F :: Fs.drop p
theorem insL_len {Fs : List Ft} {p : Nat} {F : Ft} (h : p ≤ Fs.length) : (insL Fs p F).length = Fs.length + 1 := by
  unfold insL
  simp
  omega
theorem fA_ins {Fs : List Ft} {p : Nat} {F : Ft} (h : p ≤ Fs.length) (j : Nat) : fA (insL Fs p F) j = if j < p then fA Fs j else if j = p then F else fA Fs (j - 1) := by
  unfold fA insL
  simp only [List.getD_eq_getElem?_getD]
  split
  · rename_i q
    rw [List.getElem?_append_left (by simp; omega), List.getElem?_take_of_lt q]
  · rename_i q
    rw [List.getElem?_append_right (by simp; omega)]
    split
    · rename_i q2
      subst q2
      simp [Nat.min_eq_left h]
    · rename_i q2
      rw [List.length_take, Nat.min_eq_left h]
      have : j - p = (j - 1 - p) + 1 := by omega
      rw [this, List.getElem?_cons_succ, List.getElem?_drop, show p + (j - 1 - p) = j - 1 by omega]
theorem fA_set {Fs : List Ft} {p : Nat} {F : Ft} (h : p < Fs.length) (j : Nat) : fA (Fs.set p F) j = if j = p then F else fA Fs j := by
  unfold fA
  simp only [List.getD_eq_getElem?_getD]
  split
  · rename_i q
    subst q
    rw [List.getElem?_set_self h]
    rfl
  · rename_i q
    rw [List.getElem?_set_ne (fun e => q e.symm)]
theorem fA_del {Fs : List Ft} {p : Nat} (j : Nat) : fA (Fs.eraseIdx p) j = if j < p then fA Fs j else fA Fs (j + 1) := by
  unfold fA
  simp only [List.getD_eq_getElem?_getD]
  rw [List.getElem?_eraseIdx]
  split <;> rfl
def putB (Fs : List Ft) (F : Ft) : Bool := itB Fs (plN Fs F.1.1) F.1.1 || decide (Fs.length < 24)
def putL (Fs : List Ft) (F : Ft) : List Ft := if itB Fs (plN Fs F.1.1) F.1.1 then Fs.set (plN Fs F.1.1) F else if Fs.length < 24 then insL Fs (plN Fs F.1.1) F else Fs
def adS (ad : Nat → Nat) (i c j : Nat) : Nat := if i < j ∧ j ≤ c then ad (j - 1) else ad j
def adI (ad : Nat → Nat) (p c j : Nat) : Nat := if j = p then ad c else adS ad p c j
theorem adI_ok {e : Nat} {ad : Nat → Nat} {p c : Nat} (h : adK e ad) (hp : p ≤ c) (hc : c < 24) : adK e (adI ad p c) := by
  have key : ∀ j, j < 24 → ∃ s, s < 24 ∧ adI ad p c j = ad s ∧ (s = if j = p then c else if p < j ∧ j ≤ c then j - 1 else j) := by
    intro j hj
    unfold adI adS
    split
    · exact ⟨c, hc, rfl, rfl⟩
    · split
      · exact ⟨j - 1, by omega, rfl, rfl⟩
      · exact ⟨j, hj, rfl, rfl⟩
  refine ⟨fun j hj => ?_, fun i j hi hj hij => ?_⟩
  · obtain ⟨s, h1, h2, _⟩ := key j hj
    rw [h2]
    exact h.1 s h1
  · obtain ⟨s, h1, h2, h3⟩ := key i hi
    obtain ⟨t, h4, h5, h6⟩ := key j hj
    rw [h2, h5]
    refine h.2 s t h1 h4 (fun q => ?_)
    rw [h3, h6] at q
    repeat' split at q
    all_goals omega
section EW
variable {T : mT} {Q : mOut → mT → Prop} {e a : Nat} {ad : Nat → Nat} {Fs : List Ft} {F : Ft}
theorem l_put {T0 : mT} {p c f : Nat} (h0 : EdK T0 e ad) (hc : c < 24) : ∀ (m i : Nat) (T : mT), i = p + m → i ≤ c → Fr (iv (e + 1) (e + 2)) T0 T → (∀ j, j < 24 → T.2.2.2.1 (e + 1) j = some (adS ad i c j)) →
    (∀ T2, Fr (iv (e + 1) (e + 2)) T0 T2 → (∀ j, j < 24 → T2.2.2.2.1 (e + 1) j = some (adS ad p c j)) → XW 4 76 [some (.ref e), some (.ref a), some (.int (iI p)), some (.ref f), some (.int (iI p))] [] T2 Q) → XW 4 48 [some (.ref (e)), some (.ref (a)), some (.int (iI ((p : Nat) : Int))), some (.ref (f)), some (.int (iI ((i : Nat) : Int)))] [] T Q := by
  intro m
  obtain ⟨h1, h2, h3, h4, h5⟩ := h0
  induction m with
  | zero =>
    intro i T hi hic hf hP hQ
    have : i = p := by omega
    subst this
    rw [e_4_48]
    simp (maxSteps := 4000000) (disch := first | (simp (disch := omega) only [XB_i, XB_n, va_rf_s, va_rf_n, mSI_K, mSI_I, mSI_J, mSI_P, mSI_N, mSJ_K, mSJ_I, mSJ_J, mSJ_P, mSJ_N, mSP_K, mSP_I, mSP_J, mSP_P, mSP_N, mNn, mNi, mNr, mN0, al20, al21, al22, al23, al25, true_or, or_true, and_self, if_true, if_false, mCat_n, mCat_i, mCat_r, mCat_l, mCat_0, Nat.reduceAdd, Nat.reduceLeDiff, Nat.reduceLT, true_and, and_true, Nat.zero_le, bI_01, mInB_J, mInB_Z, mInB_N]; done) | omega | (unfold R32 at *; omega)) only [e_4_50, e_4_51, XB_i, XB_n, va_rf_s, va_rf_n, mSI_K, mSI_I, mSI_J, mSI_P, mSI_N, mSJ_K, mSJ_I, mSJ_J, mSJ_P, mSJ_N, mSP_K, mSP_I, mSP_J, mSP_P, mSP_N, mNn, mNi, mNr, mN0, al20, al21, al22, al23, al25, true_or, or_true, and_self, if_true, if_false, mCat_n, mCat_i, mCat_r, mCat_l, mCat_0, Nat.reduceAdd, Nat.reduceLeDiff, Nat.reduceLT, true_and, and_true, Nat.zero_le, bI_01, bI_0, iI_add, iI_sub, iI_mul, iI_neg, iI_add1, iI_sub1, iI_m1, nc1, ncm1, iI_clJ, iI_cl0, iI_clN, Int.toNat_natCast, mU_n, mU_s, p_min, p_max, p_abs, ni_2, ni_3, ni_4, ni_7, ni_8, ni_9, ni_12, ni_24, ni_97, ni_100, ni_122, ni_200, ni_256, ni_4096, ni_5000, ni_9999, iI_lt, iI_le, iI_eq, iz_eq, iz_lt, iz_le, iz_gt, iz_ge, iy_eq, iy_lt, iy_le, iI_ltN, iI_leN, iI_eqN, if_pos, if_neg]
    exact hQ T hf hP
  | succ m ih =>
    intro i T hi hic hf hP hQ
    have k1 : T.1 e = (2, 0) := by rw [hf.K]; exact h1
    have k2 : T.2.2.2.1 e 0 = some (e + 1) := by rw [hf.P (fun q => by have := q.1; omega)]; exact h2
    have k3 : T.1 (e + 1) = (25, 24) := by rw [hf.K]; exact h3
    have k4 : adS ad i c (i - 1) = ad (i - 1) := by unfold adS; rw [if_neg (by omega)]
    have k5 : T.1 (ad (i - 1)) = (3, 0) := by rw [hf.K]; exact (h5 (i - 1) (by omega)).1
    rw [e_4_48]
    simp (maxSteps := 4000000) (disch := first | (simp (disch := omega) only [XB_i, XB_n, va_rf_s, va_rf_n, mSI_K, mSI_I, mSI_J, mSI_P, mSI_N, mSJ_K, mSJ_I, mSJ_J, mSJ_P, mSJ_N, mSP_K, mSP_I, mSP_J, mSP_P, mSP_N, mNn, mNi, mNr, mN0, al20, al21, al22, al23, al25, true_or, or_true, and_self, if_true, if_false, mCat_n, mCat_i, mCat_r, mCat_l, mCat_0, Nat.reduceAdd, Nat.reduceLeDiff, Nat.reduceLT, true_and, and_true, Nat.zero_le, bI_01, mInB_J, mInB_Z, mInB_N, k1, k2, k3, hP, k4, k5, mCo25]; done) | omega | (unfold R32 at *; omega)) only [e_4_50, e_4_51, e_4_54, e_4_54_n, e_4_55, e_4_58, e_4_60, e_4_60_n, e_4_61, e_4_64, e_4_66, e_4_67, e_4_68, e_4_69, e_4_70, e_4_73, XB_i, XB_n, va_rf_s, va_rf_n, mSI_K, mSI_I, mSI_J, mSI_P, mSI_N, mSJ_K, mSJ_I, mSJ_J, mSJ_P, mSJ_N, mSP_K, mSP_I, mSP_J, mSP_P, mSP_N, mNn, mNi, mNr, mN0, al20, al21, al22, al23, al25, true_or, or_true, and_self, if_true, if_false, mCat_n, mCat_i, mCat_r, mCat_l, mCat_0, Nat.reduceAdd, Nat.reduceLeDiff, Nat.reduceLT, true_and, and_true, Nat.zero_le, bI_01, bI_0, iI_add, iI_sub, iI_mul, iI_neg, iI_add1, iI_sub1, iI_m1, nc1, ncm1, iI_clJ, iI_cl0, iI_clN, Int.toNat_natCast, mU_n, mU_s, p_min, p_max, p_abs, ni_2, ni_3, ni_4, ni_7, ni_8, ni_9, ni_12, ni_24, ni_97, ni_100, ni_122, ni_200, ni_256, ni_4096, ni_5000, ni_9999, iI_lt, iI_le, iI_eq, iz_eq, iz_lt, iz_le, iz_gt, iz_ge, iy_eq, iy_lt, iy_le, iI_ltN, iI_leN, iI_eqN, if_pos, if_neg, k1, k2, k3, hP, k4, k5, mCo25]
    refine ih (i - 1) _ (by omega) (by omega) (hf.iP ⟨by omega, by omega⟩) (fun j hj => ?_) hQ
    rw [mSP_P]
    by_cases q : j = i
    · subst q
      rw [mU_s]
      unfold adS
      rw [if_pos (by omega)]
    · rw [mU_n _ _ (by omega), hP j hj]
      unfold adS
      by_cases q2 : i < j ∧ j ≤ c
      · rw [if_pos q2, if_pos (by omega)]
      · rw [if_neg q2, if_neg (by omega)]
theorem ct_put (h : EdA T e ad Fs) (ok : esOk Fs) (hF : FeatR T a F) (rn : R32 F.1.1) (dis : a + 3 ≤ e ∨ e + 74 ≤ a) (hQ : ∀ T2, EdR T2 e (putL Fs F) → Fr (iv e (e + 74)) T T2 → Q (.inl (some (.int (bI (putB Fs F))))) T2) : XW 4 0 [some (.ref (e)), some (.ref (a)), none, none, none] [] T Q := by
  obtain ⟨⟨h1, h2, h3, h4, h5⟩, h6, h7, h8, h9⟩ := id h
  have g1 := hF.1.1
  have n1 := hF.2.1.1
  have hple := plN_le Fs F.1.1
  have cp : ∀ (T1 : mT) (ad2 : Nat → Nat) (Fs2 : List Ft) (p : Nat) (l3 l4 : Option Value), p < 24 → p < Fs2.length → Fr (iv e (e + 74)) T T1 → EdK T1 e ad2 → adK e ad2 → T1.2.1 e 1 = iI Fs2.length → Fs2.length ≤ 24 → fA Fs2 p = F → (∀ j, j < Fs2.length → j ≠ p → FeatR T1 (ad2 j) (fA Fs2 j)) → (∀ T2, EdR T2 e Fs2 → Fr (iv e (e + 74)) T T2 → Q (.inl (some (.int 1))) T2) → XW 4 93 [some (.ref e), some (.ref a), some (.int (iI p)), l3, l4] [] T1 Q := by
    intro T1 ad2 Fs2 p l3 l4 hp24 hp f1 hK hA hcn hl hFp hFs hQ2
    obtain ⟨e1, e2, e3, e4, e5⟩ := id hK
    have ka := (e5 p hp24).1
    have hFT : FeatR T1 a F := hF.fr f1 (fun b hb q => by have := hb.1; have := hb.2; have := q.1; have := q.2; omega)
    have ad0 := hA.1 p hp24
    simp (maxSteps := 4000000) (disch := first | (simp (disch := omega) only [XB_i, XB_n, va_rf_s, va_rf_n, mSI_K, mSI_I, mSI_J, mSI_P, mSI_N, mSJ_K, mSJ_I, mSJ_J, mSJ_P, mSJ_N, mSP_K, mSP_I, mSP_J, mSP_P, mSP_N, mNn, mNi, mNr, mN0, al20, al21, al22, al23, al25, true_or, or_true, and_self, if_true, if_false, mCat_n, mCat_i, mCat_r, mCat_l, mCat_0, Nat.reduceAdd, Nat.reduceLeDiff, Nat.reduceLT, true_and, and_true, Nat.zero_le, bI_01, mInB_J, mInB_Z, mInB_N, e1, e2, e3, e4]; done) | omega | (unfold R32 at *; omega)) only [e_4_93, e_4_93_n, e_4_94, e_4_97, e_4_98, e_4_99, e_4_99_n, XB_i, XB_n, va_rf_s, va_rf_n, mSI_K, mSI_I, mSI_J, mSI_P, mSI_N, mSJ_K, mSJ_I, mSJ_J, mSJ_P, mSJ_N, mSP_K, mSP_I, mSP_J, mSP_P, mSP_N, mNn, mNi, mNr, mN0, al20, al21, al22, al23, al25, true_or, or_true, and_self, if_true, if_false, mCat_n, mCat_i, mCat_r, mCat_l, mCat_0, Nat.reduceAdd, Nat.reduceLeDiff, Nat.reduceLT, true_and, and_true, Nat.zero_le, bI_01, bI_0, iI_add, iI_sub, iI_mul, iI_neg, iI_add1, iI_sub1, iI_m1, nc1, ncm1, iI_clJ, iI_cl0, iI_clN, Int.toNat_natCast, mU_n, mU_s, p_min, p_max, p_abs, ni_2, ni_3, ni_4, ni_7, ni_8, ni_9, ni_12, ni_24, ni_97, ni_100, ni_122, ni_200, ni_256, ni_4096, ni_5000, ni_9999, iI_lt, iI_le, iI_eq, iz_eq, iz_lt, iz_le, iz_gt, iz_ge, iy_eq, iy_lt, iy_le, iI_ltN, iI_leN, iI_eqN, if_pos, if_neg, e1, e2, e3, e4]
    refine c_4_100 (by simp only [XB_i, XB_n, va_rf_s, va_rf_n, mSI_K, mSI_I, mSI_J, mSI_P, mSI_N, mSJ_K, mSJ_I, mSJ_J, mSJ_P, mSJ_N, mSP_K, mSP_I, mSP_J, mSP_P, mSP_N, mNn, mNi, mNr, mN0, al20, al21, al22, al23, al25, true_or, or_true, and_self, if_true, if_false, mCat_n, mCat_i, mCat_r, mCat_l, mCat_0, Nat.reduceAdd, Nat.reduceLeDiff, Nat.reduceLT, true_and, and_true, Nat.zero_le, bI_01]) (by rw [ka]) (ct_feat_copy (e5 p hp24) hFT (by omega) (fun T2 hT2 f2 => ?_))
    simp (maxSteps := 4000000) (disch := first | (simp (disch := omega) only [XB_i, XB_n, va_rf_s, va_rf_n, mSI_K, mSI_I, mSI_J, mSI_P, mSI_N, mSJ_K, mSJ_I, mSJ_J, mSJ_P, mSJ_N, mSP_K, mSP_I, mSP_J, mSP_P, mSP_N, mNn, mNi, mNr, mN0, al20, al21, al22, al23, al25, true_or, or_true, and_self, if_true, if_false, mCat_n, mCat_i, mCat_r, mCat_l, mCat_0, Nat.reduceAdd, Nat.reduceLeDiff, Nat.reduceLT, true_and, and_true, Nat.zero_le, bI_01, mInB_J, mInB_Z, mInB_N]; done) | omega | (unfold R32 at *; omega)) only [e_4_103, e_4_104, XB_i, XB_n, va_rf_s, va_rf_n, mSI_K, mSI_I, mSI_J, mSI_P, mSI_N, mSJ_K, mSJ_I, mSJ_J, mSJ_P, mSJ_N, mSP_K, mSP_I, mSP_J, mSP_P, mSP_N, mNn, mNi, mNr, mN0, al20, al21, al22, al23, al25, true_or, or_true, and_self, if_true, if_false, mCat_n, mCat_i, mCat_r, mCat_l, mCat_0, Nat.reduceAdd, Nat.reduceLeDiff, Nat.reduceLT, true_and, and_true, Nat.zero_le, bI_01, bI_0, iI_add, iI_sub, iI_mul, iI_neg, iI_add1, iI_sub1, iI_m1, nc1, ncm1, iI_clJ, iI_cl0, iI_clN, Int.toNat_natCast, mU_n, mU_s, p_min, p_max, p_abs, ni_2, ni_3, ni_4, ni_7, ni_8, ni_9, ni_12, ni_24, ni_97, ni_100, ni_122, ni_200, ni_256, ni_4096, ni_5000, ni_9999, iI_lt, iI_le, iI_eq, iz_eq, iz_lt, iz_le, iz_gt, iz_ge, iy_eq, iy_lt, iy_le, iI_ltN, iI_leN, iI_eqN, if_pos, if_neg]
    have f2' : Fr (iv e (e + 74)) T1 T2 := f2.mono (fun b hb => ⟨by have := hb.1; omega, by have := hb.2; omega⟩)
    have ne0 : ¬ iv (ad2 p) (ad2 p + 3) e := fun q => by have := q.1; omega
    have ne1 : ¬ iv (ad2 p) (ad2 p + 3) (e + 1) := fun q => by have := q.1; omega
    refine hQ2 T2 ⟨ad2, ⟨by rw [f2.K]; exact e1, by rw [f2.P ne0]; exact e2, by rw [f2.K]; exact e3, fun j hj => by rw [f2.P ne1]; exact e4 j hj, fun j hj => ?_⟩, hA, by rw [f2.I ne0]; exact hcn, hl, fun j hj => ?_⟩ (f1.tr f2')
    · by_cases q : j = p
      · rw [q]; exact hT2.1
      · exact (e5 j hj).fr f2 (fun z => by have := hA.2 j p hj hp24 q; have := z.1; have := z.2; omega)
    · by_cases q : j = p
      · rw [q, hFp]; exact hT2
      · exact (hFs j hj q).fr f2 (fun b hb z => by have := hA.2 j p (by omega) hp24 q; have := z.1; have := z.2; have := hb.1; have := hb.2; omega)
  by_cases q : itB Fs (plN Fs F.1.1) F.1.1 = true
  · have qp : plN Fs F.1.1 < Fs.length := by unfold itB at q; simp at q; exact q.1
    have hL : putL Fs F = Fs.set (plN Fs F.1.1) F := by unfold putL; rw [if_pos q]
    have hB : putB Fs F = true := by unfold putB; rw [q]; rfl
    rw [hL, hB] at hQ
    have h10 : ¬ (true = false) := by decide
    simp (maxSteps := 4000000) (disch := first | (simp (disch := omega) only [XB_i, XB_n, va_rf_s, va_rf_n, mSI_K, mSI_I, mSI_J, mSI_P, mSI_N, mSJ_K, mSJ_I, mSJ_J, mSJ_P, mSJ_N, mSP_K, mSP_I, mSP_J, mSP_P, mSP_N, mNn, mNi, mNr, mN0, al20, al21, al22, al23, al25, true_or, or_true, and_self, if_true, if_false, mCat_n, mCat_i, mCat_r, mCat_l, mCat_0, Nat.reduceAdd, Nat.reduceLeDiff, Nat.reduceLT, true_and, and_true, Nat.zero_le, bI_01, mInB_J, mInB_Z, mInB_N, h1, g1, n1, q, h10]; done) | omega | (unfold R32 at *; omega)) only [e_4_0, e_4_0_n, e_4_1, e_4_1_n, e_4_2, e_4_8, e_4_9, e_4_9_n, e_4_10, e_4_11, e_4_11_n, e_4_12, e_4_18, d_4_5, d_4_15, XB_i, XB_n, va_rf_s, va_rf_n, mSI_K, mSI_I, mSI_J, mSI_P, mSI_N, mSJ_K, mSJ_I, mSJ_J, mSJ_P, mSJ_N, mSP_K, mSP_I, mSP_J, mSP_P, mSP_N, mNn, mNi, mNr, mN0, al20, al21, al22, al23, al25, true_or, or_true, and_self, if_true, if_false, mCat_n, mCat_i, mCat_r, mCat_l, mCat_0, Nat.reduceAdd, Nat.reduceLeDiff, Nat.reduceLT, true_and, and_true, Nat.zero_le, bI_01, bI_0, iI_add, iI_sub, iI_mul, iI_neg, iI_add1, iI_sub1, iI_m1, nc1, ncm1, iI_clJ, iI_cl0, iI_clN, Int.toNat_natCast, mU_n, mU_s, p_min, p_max, p_abs, ni_2, ni_3, ni_4, ni_7, ni_8, ni_9, ni_12, ni_24, ni_97, ni_100, ni_122, ni_200, ni_256, ni_4096, ni_5000, ni_9999, iI_lt, iI_le, iI_eq, iz_eq, iz_lt, iz_le, iz_gt, iz_ge, iy_eq, iy_lt, iy_le, iI_ltN, iI_leN, iI_eqN, if_pos, if_neg, h1, g1, n1, p_place h ok rn, p_isAt h ok rn hple, q, h10]
    refine cp T ad (Fs.set (plN Fs F.1.1) F) _ _ _ (by omega) (by rw [List.length_set]; exact qp) Fr.rf h.1 h6 (by rw [List.length_set]; exact h7) (by rw [List.length_set]; exact h8) (by rw [fA_set qp, if_pos rfl]) (fun j hj hne => ?_) hQ
    rw [List.length_set] at hj
    rw [fA_set qp, if_neg hne]
    exact h9 j hj
  · have qf : itB Fs (plN Fs F.1.1) F.1.1 = false := by simpa using q
    by_cases qc : Fs.length < 24
    · have hL : putL Fs F = insL Fs (plN Fs F.1.1) F := by unfold putL; rw [if_neg q, if_pos qc]
      have hB : putB Fs F = true := by unfold putB; rw [qf]; simp [qc]
      rw [hL, hB] at hQ
      simp (maxSteps := 4000000) (disch := first | (simp (disch := omega) only [XB_i, XB_n, va_rf_s, va_rf_n, mSI_K, mSI_I, mSI_J, mSI_P, mSI_N, mSJ_K, mSJ_I, mSJ_J, mSJ_P, mSJ_N, mSP_K, mSP_I, mSP_J, mSP_P, mSP_N, mNn, mNi, mNr, mN0, al20, al21, al22, al23, al25, true_or, or_true, and_self, if_true, if_false, mCat_n, mCat_i, mCat_r, mCat_l, mCat_0, Nat.reduceAdd, Nat.reduceLeDiff, Nat.reduceLT, true_and, and_true, Nat.zero_le, bI_01, mInB_J, mInB_Z, mInB_N, h1, h2, h3, h4, h7, g1, n1, qf]; done) | omega | (unfold R32 at *; omega)) only [e_4_0, e_4_0_n, e_4_1, e_4_1_n, e_4_2, e_4_8, e_4_9, e_4_9_n, e_4_10, e_4_11, e_4_11_n, e_4_12, e_4_18, e_4_21, e_4_21_n, e_4_22, e_4_25, e_4_27, e_4_30, e_4_31, e_4_32, e_4_32_n, e_4_33, e_4_36, e_4_36_n, e_4_37, e_4_40, e_4_41, e_4_41_n, e_4_42, e_4_42_n, e_4_43, e_4_46, d_4_5, d_4_15, XB_i, XB_n, va_rf_s, va_rf_n, mSI_K, mSI_I, mSI_J, mSI_P, mSI_N, mSJ_K, mSJ_I, mSJ_J, mSJ_P, mSJ_N, mSP_K, mSP_I, mSP_J, mSP_P, mSP_N, mNn, mNi, mNr, mN0, al20, al21, al22, al23, al25, true_or, or_true, and_self, if_true, if_false, mCat_n, mCat_i, mCat_r, mCat_l, mCat_0, Nat.reduceAdd, Nat.reduceLeDiff, Nat.reduceLT, true_and, and_true, Nat.zero_le, bI_01, bI_0, iI_add, iI_sub, iI_mul, iI_neg, iI_add1, iI_sub1, iI_m1, nc1, ncm1, iI_clJ, iI_cl0, iI_clN, Int.toNat_natCast, mU_n, mU_s, p_min, p_max, p_abs, ni_2, ni_3, ni_4, ni_7, ni_8, ni_9, ni_12, ni_24, ni_97, ni_100, ni_122, ni_200, ni_256, ni_4096, ni_5000, ni_9999, iI_lt, iI_le, iI_eq, iz_eq, iz_lt, iz_le, iz_gt, iz_ge, iy_eq, iy_lt, iy_le, iI_ltN, iI_leN, iI_eqN, if_pos, if_neg, h1, h2, h3, h4, h7, g1, n1, p_place h ok rn, p_isAt h ok rn hple, qf]
      refine l_put h.1 qc _ Fs.length T (show Fs.length = plN Fs F.1.1 + (Fs.length - plN Fs F.1.1) by omega) (Nat.le_refl _) Fr.rf (fun j hj => ?_) (fun T2 f2 hP => ?_)
      · rw [h4 j hj]
        unfold adS
        rw [if_neg (by omega)]
      · have k1 : T2.1 e = (2, 0) := by rw [f2.K]; exact h1
        have k2 : T2.2.2.2.1 e 0 = some (e + 1) := by rw [f2.P (fun q => by have := q.1; omega)]; exact h2
        have k3 : T2.1 (e + 1) = (25, 24) := by rw [f2.K]; exact h3
        have k5 : T2.1 (ad Fs.length) = (3, 0) := by rw [f2.K]; exact (h5 _ qc).1
        have k7 : T2.2.1 e 1 = iI Fs.length := by rw [f2.I (fun q => by have := q.1; omega)]; exact h7
        have f2' : Fr (iv e (e + 74)) T T2 := f2.mono (fun b hb => ⟨by have := hb.1; omega, by have := hb.2; omega⟩)
        simp (maxSteps := 4000000) (disch := first | (simp (disch := omega) only [XB_i, XB_n, va_rf_s, va_rf_n, mSI_K, mSI_I, mSI_J, mSI_P, mSI_N, mSJ_K, mSJ_I, mSJ_J, mSJ_P, mSJ_N, mSP_K, mSP_I, mSP_J, mSP_P, mSP_N, mNn, mNi, mNr, mN0, al20, al21, al22, al23, al25, true_or, or_true, and_self, if_true, if_false, mCat_n, mCat_i, mCat_r, mCat_l, mCat_0, Nat.reduceAdd, Nat.reduceLeDiff, Nat.reduceLT, true_and, and_true, Nat.zero_le, bI_01, mInB_J, mInB_Z, mInB_N, k1, k2, k3, k5, k7, mCo25]; done) | omega | (unfold R32 at *; omega)) only [e_4_76, e_4_76_n, e_4_77, e_4_80, e_4_81, e_4_81_n, e_4_82, e_4_83, e_4_83_n, e_4_84, e_4_84_i, e_4_85, e_4_88, e_4_89, e_4_90, XB_i, XB_n, va_rf_s, va_rf_n, mSI_K, mSI_I, mSI_J, mSI_P, mSI_N, mSJ_K, mSJ_I, mSJ_J, mSJ_P, mSJ_N, mSP_K, mSP_I, mSP_J, mSP_P, mSP_N, mNn, mNi, mNr, mN0, al20, al21, al22, al23, al25, true_or, or_true, and_self, if_true, if_false, mCat_n, mCat_i, mCat_r, mCat_l, mCat_0, Nat.reduceAdd, Nat.reduceLeDiff, Nat.reduceLT, true_and, and_true, Nat.zero_le, bI_01, bI_0, iI_add, iI_sub, iI_mul, iI_neg, iI_add1, iI_sub1, iI_m1, nc1, ncm1, iI_clJ, iI_cl0, iI_clN, Int.toNat_natCast, mU_n, mU_s, p_min, p_max, p_abs, ni_2, ni_3, ni_4, ni_7, ni_8, ni_9, ni_12, ni_24, ni_97, ni_100, ni_122, ni_200, ni_256, ni_4096, ni_5000, ni_9999, iI_lt, iI_le, iI_eq, iz_eq, iz_lt, iz_le, iz_gt, iz_ge, iy_eq, iy_lt, iy_le, iI_ltN, iI_leN, iI_eqN, if_pos, if_neg, k1, k2, k3, k5, k7, mCo25]
        have f3 : Fr (iv e (e + 74)) T (mSI (mSP T2 (e + 1) (plN Fs F.1.1) (some (ad Fs.length))) e 1 (iI ((Fs.length + 1 : Nat) : Int))) := (f2'.iP ⟨by omega, by omega⟩).iI ⟨by omega, by omega⟩
        have f4 : Fr (iv e (e + 2)) T (mSI (mSP T2 (e + 1) (plN Fs F.1.1) (some (ad Fs.length))) e 1 (iI ((Fs.length + 1 : Nat) : Int))) := ((f2.mono (fun b hb => ⟨by have := hb.1; omega, by have := hb.2; omega⟩)).iP ⟨by omega, by omega⟩).iI ⟨by omega, by omega⟩
        refine cp _ (adI ad (plN Fs F.1.1) Fs.length) (insL Fs (plN Fs F.1.1) F) _ _ _ (by omega) (by rw [insL_len hple]; omega) f3 ⟨k1, ?_, k3, fun j hj => ?_, fun j hj => ?_⟩ (adI_ok h6 hple qc) ?_ (by rw [insL_len hple]; omega) (by rw [fA_ins hple, if_neg (by omega), if_pos rfl]) (fun j hj hne => ?_) hQ
        · rw [mSI_P, mSP_P, mU_n _ _ (by omega)]; exact k2
        · rw [mSI_P, mSP_P]
          unfold adI
          by_cases q : j = plN Fs F.1.1
          · rw [q, mU_s, if_pos rfl]
          · rw [mU_n _ _ (by omega), if_neg q, hP j hj]
        · have : ∃ s, s < 24 ∧ adI ad (plN Fs F.1.1) Fs.length j = ad s := by
            unfold adI adS
            split
            · exact ⟨_, qc, rfl⟩
            · split
              · exact ⟨j - 1, by omega, rfl⟩
              · exact ⟨j, hj, rfl⟩
          obtain ⟨s, hs, he⟩ := this
          rw [he]
          exact (h5 s hs).fr f4 (fun z => by have := h6.1 s hs; have := z.1; have := z.2; omega)
        · rw [insL_len hple, mSI_I, mU_s]
        · rw [insL_len hple] at hj
          rw [fA_ins hple]
          have tr : ∀ s, s < Fs.length → FeatR (mSI (mSP T2 (e + 1) (plN Fs F.1.1) (some (ad Fs.length))) e 1 (iI ((Fs.length + 1 : Nat) : Int))) (ad s) (fA Fs s) := by
            intro s hs
            exact (h9 s hs).fr f4 (fun b hb z => by have := h6.1 s (by omega); have := z.1; have := z.2; have := hb.1; have := hb.2; omega)
          unfold adI adS
          rw [if_neg hne]
          by_cases q : j < plN Fs F.1.1
          · rw [if_pos q, if_neg (by omega)]
            exact tr j (by omega)
          · rw [if_neg q, if_neg hne, if_pos (by omega)]
            exact tr (j - 1) (by omega)
    · have hL : putL Fs F = Fs := by unfold putL; rw [if_neg q, if_neg qc]
      have hB : putB Fs F = false := by unfold putB; rw [qf]; simp [qc]
      rw [hL, hB] at hQ
      simp (maxSteps := 4000000) (disch := first | (simp (disch := omega) only [XB_i, XB_n, va_rf_s, va_rf_n, mSI_K, mSI_I, mSI_J, mSI_P, mSI_N, mSJ_K, mSJ_I, mSJ_J, mSJ_P, mSJ_N, mSP_K, mSP_I, mSP_J, mSP_P, mSP_N, mNn, mNi, mNr, mN0, al20, al21, al22, al23, al25, true_or, or_true, and_self, if_true, if_false, mCat_n, mCat_i, mCat_r, mCat_l, mCat_0, Nat.reduceAdd, Nat.reduceLeDiff, Nat.reduceLT, true_and, and_true, Nat.zero_le, bI_01, mInB_J, mInB_Z, mInB_N, h1, h2, h3, h4, h7, g1, n1, qf]; done) | omega | (unfold R32 at *; omega)) only [e_4_0, e_4_0_n, e_4_1, e_4_1_n, e_4_2, e_4_8, e_4_9, e_4_9_n, e_4_10, e_4_11, e_4_11_n, e_4_12, e_4_18, e_4_21, e_4_21_n, e_4_22, e_4_25, e_4_27, e_4_30, e_4_31, d_4_5, d_4_15, XB_i, XB_n, va_rf_s, va_rf_n, mSI_K, mSI_I, mSI_J, mSI_P, mSI_N, mSJ_K, mSJ_I, mSJ_J, mSJ_P, mSJ_N, mSP_K, mSP_I, mSP_J, mSP_P, mSP_N, mNn, mNi, mNr, mN0, al20, al21, al22, al23, al25, true_or, or_true, and_self, if_true, if_false, mCat_n, mCat_i, mCat_r, mCat_l, mCat_0, Nat.reduceAdd, Nat.reduceLeDiff, Nat.reduceLT, true_and, and_true, Nat.zero_le, bI_01, bI_0, iI_add, iI_sub, iI_mul, iI_neg, iI_add1, iI_sub1, iI_m1, nc1, ncm1, iI_clJ, iI_cl0, iI_clN, Int.toNat_natCast, mU_n, mU_s, p_min, p_max, p_abs, ni_2, ni_3, ni_4, ni_7, ni_8, ni_9, ni_12, ni_24, ni_97, ni_100, ni_122, ni_200, ni_256, ni_4096, ni_5000, ni_9999, iI_lt, iI_le, iI_eq, iz_eq, iz_lt, iz_le, iz_gt, iz_ge, iy_eq, iy_lt, iy_le, iI_ltN, iI_leN, iI_eqN, if_pos, if_neg, h1, h2, h3, h4, h7, g1, n1, p_place h ok rn, p_isAt h ok rn hple, qf]
      exact hQ T ⟨ad, h⟩ Fr.rf
end EW
