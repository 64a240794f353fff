/-! Edition: what only reads -/
def dF : Ft := ((0, 0, 0, 0), 0, [])
def fA (Fs : List Ft) (j : Nat) : Ft := Fs.getD j dF
/-- the first that does -/
def fndP (p : Nat → Bool) : Nat → Nat → Option Nat
  | 0, _ => none
  | m + 1, i => if p i then some i else fndP p m (i + 1)
/-- how many do -/
def cntP (p : Nat → Bool) : Nat → Nat → Nat → Nat
  | 0, _, c => c
  | m + 1, i, c => cntP p m (i + 1) (if p i then c + 1 else c)
theorem cntP_le (p : Nat → Bool) : ∀ m i c, cntP p m i c ≤ c + m
  | 0, _, c => Nat.le_refl c
  | m + 1, i, c => by
    unfold cntP
    refine Nat.le_trans (cntP_le p m _ _) ?_
    split <;> omega
def EdK (T : mT) (e : Nat) (ad : Nat → Nat) : Prop := T.1 e = (2, 0) ∧ T.2.2.2.1 e 0 = some (e + 1) ∧ T.1 (e + 1) = (25, 24) ∧ (∀ j, j < 24 → T.2.2.2.1 (e + 1) j = some (ad j)) ∧ (∀ j, j < 24 → FeatK T (ad j))
def adK (e : Nat) (ad : Nat → Nat) : Prop := (∀ j, j < 24 → e + 2 ≤ ad j ∧ ad j + 3 ≤ e + 74) ∧ (∀ i j, i < 24 → j < 24 → i ≠ j → ad i + 3 ≤ ad j ∨ ad j + 3 ≤ ad i)
def EdA (T : mT) (e : Nat) (ad : Nat → Nat) (Fs : List Ft) : Prop := EdK T e ad ∧ adK e ad ∧ T.2.1 e 1 = iI Fs.length ∧ Fs.length ≤ 24 ∧ (∀ j, j < Fs.length → FeatR T (ad j) (fA Fs j))
def EdR (T : mT) (e : Nat) (Fs : List Ft) : Prop := ∃ ad, EdA T e ad Fs
theorem EdA.fr {S : Nat → Prop} {T T2 : mT} {e : Nat} {ad : Nat → Nat} {Fs : List Ft} (h : EdA T e ad Fs) (hf : Fr S T T2) (hs : ∀ b, iv e (e + 74) b → ¬ S b) : EdA T2 e ad Fs := by
  obtain ⟨⟨h1, h2, h3, h4, h5⟩, h6, h7, h8, h9⟩ := h
  have s0 := hs e ⟨by omega, by omega⟩
  have s1 := hs (e + 1) ⟨by omega, by omega⟩
  refine ⟨⟨by rw [hf.K]; exact h1, by rw [hf.P s0]; exact h2, by rw [hf.K]; exact h3, fun j hj => by rw [hf.P s1]; exact h4 j hj, fun j hj => (h5 j hj).fr hf (hs _ ⟨by have := h6.1 j hj; omega, by have := h6.1 j hj; omega⟩)⟩, h6, by rw [hf.I s0]; exact h7, h8, fun j hj => (h9 j hj).fr hf (fun b hb => hs b ⟨by have := h6.1 j (by omega); have := hb.1; omega, by have := h6.1 j (by omega); have := hb.2; omega⟩)⟩
theorem EdR.fr {S : Nat → Prop} {T T2 : mT} {e : Nat} {Fs : List Ft} (h : EdR T e Fs) (hf : Fr S T T2) (hs : ∀ b, iv e (e + 74) b → ¬ S b) : EdR T2 e Fs := by
  obtain ⟨ad, h⟩ := h
  exact ⟨ad, h.fr hf hs⟩
/-- a feature as it may be in an edition -/
def fOk (F : Ft) : Prop := dsP F ∧ scP F ∧ csB F.2.2
theorem fOk.n {F : Ft} (h : fOk F) : 1 ≤ F.1.1 ∧ F.1.1 ≤ 9999 := h.1.1
theorem fOk.k {F : Ft} (h : fOk F) : 0 ≤ F.1.2.1 ∧ F.1.2.1 ≤ 2 := by rcases h.2.1 with q | q | q <;> have := q.1 <;> omega
theorem fOk.s {F : Ft} (h : fOk F) : 0 ≤ F.1.2.2.1 ∧ F.1.2.2.1 ≤ 9 := h.1.2.1
theorem fOk.l {F : Ft} (h : fOk F) : 0 ≤ F.1.2.2.2 ∧ F.1.2.2.2 ≤ 4 := h.1.2.2.1
theorem fOk.c {F : Ft} (h : fOk F) : 1 ≤ F.2.2.length := by
  rcases h.2.1 with q | q | q
  · have := q.2; omega
  · have := q.2.1; omega
  · have := q.2.1; omega
theorem fOk.nr {F : Ft} (h : fOk F) : R32 F.1.1 := by have := h.n; unfold R32; omega
theorem fOk.kr {F : Ft} (h : fOk F) : R32 F.1.2.1 := by have := h.k; unfold R32; omega
theorem fOk.sr {F : Ft} (h : fOk F) : R32 F.1.2.2.1 := by have := h.s; unfold R32; omega
theorem fOk.lr {F : Ft} (h : fOk F) : R32 F.1.2.2.2 := by have := h.l; unfold R32; omega
theorem fOk.b {F : Ft} (h : fOk F) : csB F.2.2 := h.2.2
def esOk (Fs : List Ft) : Prop := (∀ j, j < Fs.length → fOk (fA Fs j)) ∧ (∀ i j, i < j → j < Fs.length → (fA Fs i).1.1 < (fA Fs j).1.1)
def plN (Fs : List Ft) (n : Int) : Nat := (fndP (fun i => decide (n ≤ (fA Fs i).1.1)) Fs.length 0).getD Fs.length
theorem fndP_le (p : Nat → Bool) : ∀ m i, (fndP p m i).getD (i + m) ≤ i + m
  | 0, i => by simp [fndP]
  | m + 1, i => by
    unfold fndP
    split
    · simp
    · have := fndP_le p m (i + 1)
      rw [show i + (m + 1) = i + 1 + m by omega]
      exact this
theorem plN_le (Fs : List Ft) (n : Int) : plN Fs n ≤ Fs.length := by
  have := fndP_le (fun i => decide (n ≤ (fA Fs i).1.1)) Fs.length 0
  unfold plN
  simpa using this
def itB (Fs : List Ft) (p : Nat) (n : Int) : Bool := decide (p < Fs.length) && decide ((fA Fs p).1.1 = n)
section ED
variable {T : mT} {Q : mOut → mT → Prop} {e : Nat} {ad : Nat → Nat} {Fs : List Ft}
theorem EdA.no {j : Nat} (h : EdA T e ad Fs) (hj : j < Fs.length) : T.2.1 (ad j) 0 = iI (fA Fs j).1.1 := (h.2.2.2.2 j hj).2.1.1
theorem EdA.so {j : Nat} (h : EdA T e ad Fs) (hj : j < Fs.length) : T.2.1 (ad j) 2 = iI (fA Fs j).1.2.2.1 := (h.2.2.2.2 j hj).2.1.2.2.1
theorem EdA.kd {j : Nat} (h : EdA T e ad Fs) (hj : j < 24) : T.1 (ad j) = (3, 0) := (h.1.2.2.2.2 j hj).1
theorem l_place (h : EdA T e ad Fs) (ok : esOk Fs) {n : Int} (hn : R32 n) : ∀ (m i : Nat), Fs.length - i = m → i ≤ Fs.length → XW 6 2 [some (.ref (e)), some (.int (iI (n))), some (.int (iI ((i : Nat) : Int)))] [] T Q = Q (.inl (some (.int (iI (((fndP (fun i => decide (n ≤ (fA Fs i).1.1)) m i).getD Fs.length : Nat) : Int))))) T := by
  intro m
  obtain ⟨⟨h1, h2, h3, h4, h5⟩, h6, h7, h8, h9⟩ := id h
  have no := fun j hj => @EdA.no T e ad Fs j h hj
  have kd := fun j hj => @EdA.kd T e ad Fs j h hj
  induction m with
  | zero =>
    intro i hm hi
    rw [e_6_2]
    simp (maxSteps := 4000000) (disch := first | (simp (disch := omega) only [XB_i, XB_n, va_rf_s, va_rf_n, mSI_K, mSI_I, mSI_J, mSI_P, mSI_N, mSJ_K, mSJ_I, mSJ_J, mSJ_P, mSJ_N, mSP_K, mSP_I, mSP_J, mSP_P, mSP_N, mNn, mNi, mNr, mN0, al20, al21, al22, al23, al25, true_or, or_true, and_self, if_true, if_false, mCat_n, mCat_i, mCat_r, mCat_l, mCat_0, Nat.reduceAdd, Nat.reduceLeDiff, Nat.reduceLT, true_and, and_true, Nat.zero_le, bI_01, mInB_J, mInB_Z, mInB_N, h1, h7]; done) | omega | (unfold R32 at *; omega)) only [e_6_0, e_6_1, e_6_3, e_6_3_n, e_6_4, e_6_7, e_6_10, e_6_10_n, e_6_11, e_6_14, e_6_15, e_6_16, e_6_19, e_6_20, e_6_23, e_6_24, e_6_25, e_6_28, e_6_31, e_6_31_n, e_6_32, e_6_35, XB_i, XB_n, va_rf_s, va_rf_n, mSI_K, mSI_I, mSI_J, mSI_P, mSI_N, mSJ_K, mSJ_I, mSJ_J, mSJ_P, mSJ_N, mSP_K, mSP_I, mSP_J, mSP_P, mSP_N, mNn, mNi, mNr, mN0, al20, al21, al22, al23, al25, true_or, or_true, and_self, if_true, if_false, mCat_n, mCat_i, mCat_r, mCat_l, mCat_0, Nat.reduceAdd, Nat.reduceLeDiff, Nat.reduceLT, true_and, and_true, Nat.zero_le, bI_01, bI_0, iI_add, iI_sub, iI_mul, iI_neg, iI_add1, iI_sub1, iI_m1, nc1, ncm1, iI_clJ, iI_cl0, iI_clN, Int.toNat_natCast, mU_n, mU_s, p_min, p_max, p_abs, ni_2, ni_3, ni_4, ni_7, ni_8, ni_9, ni_12, ni_24, ni_97, ni_100, ni_122, ni_200, ni_256, ni_4096, ni_5000, ni_9999, iI_lt, iI_le, iI_eq, iz_eq, iz_lt, iz_le, iz_gt, iz_ge, iy_eq, iy_lt, iy_le, iI_ltN, iI_leN, iI_eqN, if_pos, if_neg, h1, h7]
    rfl
  | succ m ih =>
    intro i hm hi
    have rn := (ok.1 i (by omega)).nr
    rw [e_6_2]
    simp (maxSteps := 4000000) (disch := first | (simp (disch := omega) only [XB_i, XB_n, va_rf_s, va_rf_n, mSI_K, mSI_I, mSI_J, mSI_P, mSI_N, mSJ_K, mSJ_I, mSJ_J, mSJ_P, mSJ_N, mSP_K, mSP_I, mSP_J, mSP_P, mSP_N, mNn, mNi, mNr, mN0, al20, al21, al22, al23, al25, true_or, or_true, and_self, if_true, if_false, mCat_n, mCat_i, mCat_r, mCat_l, mCat_0, Nat.reduceAdd, Nat.reduceLeDiff, Nat.reduceLT, true_and, and_true, Nat.zero_le, bI_01, mInB_J, mInB_Z, mInB_N, h1, h2, h3, h4, h7, no, kd, rn, hn]; done) | omega | (unfold R32 at *; omega)) only [e_6_0, e_6_1, e_6_3, e_6_3_n, e_6_4, e_6_7, e_6_10, e_6_10_n, e_6_11, e_6_14, e_6_15, e_6_16, e_6_19, e_6_20, e_6_23, e_6_24, e_6_25, e_6_28, e_6_31, e_6_31_n, e_6_32, e_6_35, XB_i, XB_n, va_rf_s, va_rf_n, mSI_K, mSI_I, mSI_J, mSI_P, mSI_N, mSJ_K, mSJ_I, mSJ_J, mSJ_P, mSJ_N, mSP_K, mSP_I, mSP_J, mSP_P, mSP_N, mNn, mNi, mNr, mN0, al20, al21, al22, al23, al25, true_or, or_true, and_self, if_true, if_false, mCat_n, mCat_i, mCat_r, mCat_l, mCat_0, Nat.reduceAdd, Nat.reduceLeDiff, Nat.reduceLT, true_and, and_true, Nat.zero_le, bI_01, bI_0, iI_add, iI_sub, iI_mul, iI_neg, iI_add1, iI_sub1, iI_m1, nc1, ncm1, iI_clJ, iI_cl0, iI_clN, Int.toNat_natCast, mU_n, mU_s, p_min, p_max, p_abs, ni_2, ni_3, ni_4, ni_7, ni_8, ni_9, ni_12, ni_24, ni_97, ni_100, ni_122, ni_200, ni_256, ni_4096, ni_5000, ni_9999, iI_lt, iI_le, iI_eq, iz_eq, iz_lt, iz_le, iz_gt, iz_ge, iy_eq, iy_lt, iy_le, iI_ltN, iI_leN, iI_eqN, if_pos, if_neg, h1, h2, h3, h4, h7, no, kd, rn, hn]
    unfold fndP
    by_cases q : n ≤ (fA Fs i).1.1
    · simp [q, show ¬ (fA Fs i).1.1 < n by omega]
    · rw [if_pos (by omega), ih (i + 1) (by omega) (by omega)]
      simp [q]
theorem p_place (h : EdA T e ad Fs) (ok : esOk Fs) {n : Int} (hn : R32 n) : XW 6 0 [some (.ref (e)), some (.int (iI (n))), none] [] T Q = Q (.inl (some (.int (iI ((plN Fs n : Nat) : Int))))) T := by
  simp (maxSteps := 4000000) (disch := first | (simp (disch := omega) only [XB_i, XB_n, va_rf_s, va_rf_n, mSI_K, mSI_I, mSI_J, mSI_P, mSI_N, mSJ_K, mSJ_I, mSJ_J, mSJ_P, mSJ_N, mSP_K, mSP_I, mSP_J, mSP_P, mSP_N, mNn, mNi, mNr, mN0, al20, al21, al22, al23, al25, true_or, or_true, and_self, if_true, if_false, mCat_n, mCat_i, mCat_r, mCat_l, mCat_0, Nat.reduceAdd, Nat.reduceLeDiff, Nat.reduceLT, true_and, and_true, Nat.zero_le, bI_01, mInB_J, mInB_Z, mInB_N]; done) | omega | (unfold R32 at *; omega)) only [e_6_0, e_6_1, XB_i, XB_n, va_rf_s, va_rf_n, mSI_K, mSI_I, mSI_J, mSI_P, mSI_N, mSJ_K, mSJ_I, mSJ_J, mSJ_P, mSJ_N, mSP_K, mSP_I, mSP_J, mSP_P, mSP_N, mNn, mNi, mNr, mN0, al20, al21, al22, al23, al25, true_or, or_true, and_self, if_true, if_false, mCat_n, mCat_i, mCat_r, mCat_l, mCat_0, Nat.reduceAdd, Nat.reduceLeDiff, Nat.reduceLT, true_and, and_true, Nat.zero_le, bI_01, bI_0, iI_add, iI_sub, iI_mul, iI_neg, iI_add1, iI_sub1, iI_m1, nc1, ncm1, iI_clJ, iI_cl0, iI_clN, Int.toNat_natCast, mU_n, mU_s, p_min, p_max, p_abs, ni_2, ni_3, ni_4, ni_7, ni_8, ni_9, ni_12, ni_24, ni_97, ni_100, ni_122, ni_200, ni_256, ni_4096, ni_5000, ni_9999, iI_lt, iI_le, iI_eq, iz_eq, iz_lt, iz_le, iz_gt, iz_ge, iy_eq, iy_lt, iy_le, iI_ltN, iI_leN, iI_eqN, if_pos, if_neg]
  exact l_place h ok hn _ 0 rfl (by omega)
theorem p_isAt (h : EdA T e ad Fs) (ok : esOk Fs) {n : Int} (hn : R32 n) {p : Nat} (hp : p ≤ Fs.length) : XW 7 0 [some (.ref (e)), some (.int (iI ((p : Nat) : Int))), some (.int (iI (n)))] [] T Q = Q (.inl (some (.int (bI (itB Fs p n))))) T := by
  obtain ⟨⟨h1, h2, h3, h4, h5⟩, h6, h7, h8, h9⟩ := id h
  have no := fun j hj => @EdA.no T e ad Fs j h hj
  have kd := fun j hj => @EdA.kd T e ad Fs j h hj
  unfold itB
  by_cases q : p < Fs.length
  · have rn := (ok.1 p q).nr
    simp (maxSteps := 4000000) (disch := first | (simp (disch := omega) only [XB_i, XB_n, va_rf_s, va_rf_n, mSI_K, mSI_I, mSI_J, mSI_P, mSI_N, mSJ_K, mSJ_I, mSJ_J, mSJ_P, mSJ_N, mSP_K, mSP_I, mSP_J, mSP_P, mSP_N, mNn, mNi, mNr, mN0, al20, al21, al22, al23, al25, true_or, or_true, and_self, if_true, if_false, mCat_n, mCat_i, mCat_r, mCat_l, mCat_0, Nat.reduceAdd, Nat.reduceLeDiff, Nat.reduceLT, true_and, and_true, Nat.zero_le, bI_01, mInB_J, mInB_Z, mInB_N, h1, h2, h3, h4, h7, no, kd, rn, hn]; done) | omega | (unfold R32 at *; omega)) only [e_7_0, e_7_1, e_7_1_n, e_7_2, e_7_5, e_7_8, e_7_8_n, e_7_9, e_7_12, e_7_13, e_7_14, e_7_17, e_7_18, e_7_21, e_7_22, e_7_25, e_7_26, XB_i, XB_n, va_rf_s, va_rf_n, mSI_K, mSI_I, mSI_J, mSI_P, mSI_N, mSJ_K, mSJ_I, mSJ_J, mSJ_P, mSJ_N, mSP_K, mSP_I, mSP_J, mSP_P, mSP_N, mNn, mNi, mNr, mN0, al20, al21, al22, al23, al25, true_or, or_true, and_self, if_true, if_false, mCat_n, mCat_i, mCat_r, mCat_l, mCat_0, Nat.reduceAdd, Nat.reduceLeDiff, Nat.reduceLT, true_and, and_true, Nat.zero_le, bI_01, bI_0, iI_add, iI_sub, iI_mul, iI_neg, iI_add1, iI_sub1, iI_m1, nc1, ncm1, iI_clJ, iI_cl0, iI_clN, Int.toNat_natCast, mU_n, mU_s, p_min, p_max, p_abs, ni_2, ni_3, ni_4, ni_7, ni_8, ni_9, ni_12, ni_24, ni_97, ni_100, ni_122, ni_200, ni_256, ni_4096, ni_5000, ni_9999, iI_lt, iI_le, iI_eq, iz_eq, iz_lt, iz_le, iz_gt, iz_ge, iy_eq, iy_lt, iy_le, iI_ltN, iI_leN, iI_eqN, if_pos, if_neg, h1, h2, h3, h4, h7, no, kd, rn, hn]
    by_cases q2 : (fA Fs p).1.1 = n <;> simp [q, q2, bI]
  · simp (maxSteps := 4000000) (disch := first | (simp (disch := omega) only [XB_i, XB_n, va_rf_s, va_rf_n, mSI_K, mSI_I, mSI_J, mSI_P, mSI_N, mSJ_K, mSJ_I, mSJ_J, mSJ_P, mSJ_N, mSP_K, mSP_I, mSP_J, mSP_P, mSP_N, mNn, mNi, mNr, mN0, al20, al21, al22, al23, al25, true_or, or_true, and_self, if_true, if_false, mCat_n, mCat_i, mCat_r, mCat_l, mCat_0, Nat.reduceAdd, Nat.reduceLeDiff, Nat.reduceLT, true_and, and_true, Nat.zero_le, bI_01, mInB_J, mInB_Z, mInB_N, h1, h7]; done) | omega | (unfold R32 at *; omega)) only [e_7_0, e_7_1, e_7_1_n, e_7_2, e_7_5, e_7_8, e_7_8_n, e_7_9, e_7_12, e_7_13, e_7_14, e_7_17, e_7_18, e_7_21, e_7_22, e_7_25, e_7_26, XB_i, XB_n, va_rf_s, va_rf_n, mSI_K, mSI_I, mSI_J, mSI_P, mSI_N, mSJ_K, mSJ_I, mSJ_J, mSJ_P, mSJ_N, mSP_K, mSP_I, mSP_J, mSP_P, mSP_N, mNn, mNi, mNr, mN0, al20, al21, al22, al23, al25, true_or, or_true, and_self, if_true, if_false, mCat_n, mCat_i, mCat_r, mCat_l, mCat_0, Nat.reduceAdd, Nat.reduceLeDiff, Nat.reduceLT, true_and, and_true, Nat.zero_le, bI_01, bI_0, iI_add, iI_sub, iI_mul, iI_neg, iI_add1, iI_sub1, iI_m1, nc1, ncm1, iI_clJ, iI_cl0, iI_clN, Int.toNat_natCast, mU_n, mU_s, p_min, p_max, p_abs, ni_2, ni_3, ni_4, ni_7, ni_8, ni_9, ni_12, ni_24, ni_97, ni_100, ni_122, ni_200, ni_256, ni_4096, ni_5000, ni_9999, iI_lt, iI_le, iI_eq, iz_eq, iz_lt, iz_le, iz_gt, iz_ge, iy_eq, iy_lt, iy_le, iI_ltN, iI_leN, iI_eqN, if_pos, if_neg, h1, h7]
    simp [q, bI]
def naB (Fs : List Ft) (G : Ft) (W : Nat) (i : Nat) : Bool := nbB (wv (fA Fs i).2.1) W && decide (bkN (wv (fA Fs i).2.1) < bkN (wv G.2.1) ∨ (bkN (wv (fA Fs i).2.1) = bkN (wv G.2.1) ∧ (fA Fs i).1.1 < G.1.1))
def naN (Fs : List Ft) (G : Ft) (W : Nat) : Nat := cntP (naB Fs G W) Fs.length 0 0
def fnB (Fs : List Ft) (W : Nat) (k : Int) (i : Nat) : Bool := nbB (wv (fA Fs i).2.1) W && decide ((naN Fs (fA Fs i) W : Int) = k)
def fnZ (Fs : List Ft) (W : Nat) (k : Int) : Int := match fndP (fnB Fs W k) Fs.length 0 with
  | some i => (fA Fs i).1.1
  | none => -1
theorem l_naN (h : EdA T e ad Fs) (ok : esOk Fs) (hbk : ∀ j, j < Fs.length → bkN (wv (fA Fs j).2.1) < 9223372036854775808) {g : Nat} {w : Int64} (hg : g < Fs.length) : ∀ (m i c : Nat), Fs.length - i = m → i ≤ Fs.length → c ≤ i → XW 11 6 [some (.ref (e)), some (.ref (ad g)), some (.long (w)), none, some (.int (iI ((c : Nat) : Int))), some (.int (iI ((i : Nat) : Int)))] [] T Q = Q (.inl (some (.int (iI ((cntP (naB Fs (fA Fs g) (wv w)) m i c : Nat) : Int))))) T := by
  intro m
  obtain ⟨⟨h1, h2, h3, h4, h5⟩, h6, h7, h8, h9⟩ := id h
  have kd := fun j hj => @EdA.kd T e ad Fs j h hj
  have pb := fun Q j (hj : j < Fs.length) => @p_begins T Q (ad j) (fA Fs j).2.1 w (h5 j (by omega)) (h9 j hj).2.1.2.2.2.2
  have pa := fun Q j (hj : j < Fs.length) => @p_ahead T Q (ad j) (ad g) (fA Fs j) (fA Fs g) (h9 j hj) (h9 g hg) (ok.1 j hj).nr (ok.1 g hg).nr (hbk j hj) (hbk g hg)
  induction m with
  | zero =>
    intro i c hm hi hc
    rw [e_11_6]
    simp (maxSteps := 4000000) (disch := first | (simp (disch := omega) only [XB_i, XB_n, va_rf_s, va_rf_n, mSI_K, mSI_I, mSI_J, mSI_P, mSI_N, mSJ_K, mSJ_I, mSJ_J, mSJ_P, mSJ_N, mSP_K, mSP_I, mSP_J, mSP_P, mSP_N, mNn, mNi, mNr, mN0, al20, al21, al22, al23, al25, true_or, or_true, and_self, if_true, if_false, mCat_n, mCat_i, mCat_r, mCat_l, mCat_0, Nat.reduceAdd, Nat.reduceLeDiff, Nat.reduceLT, true_and, and_true, Nat.zero_le, bI_01, mInB_J, mInB_Z, mInB_N, h1, h7]; done) | omega | (unfold R32 at *; omega)) only [e_11_0, e_11_1, e_11_3, e_11_4, e_11_8, e_11_8_n, e_11_9, e_11_12, e_11_15, e_11_15_n, e_11_16, e_11_19, e_11_21, e_11_22, e_11_26, e_11_29, e_11_29_n, e_11_30, e_11_33, e_11_35, e_11_36, e_11_36_n, e_11_40, e_11_43, e_11_46, e_11_49, e_11_52, e_11_54, XB_i, XB_n, va_rf_s, va_rf_n, mSI_K, mSI_I, mSI_J, mSI_P, mSI_N, mSJ_K, mSJ_I, mSJ_J, mSJ_P, mSJ_N, mSP_K, mSP_I, mSP_J, mSP_P, mSP_N, mNn, mNi, mNr, mN0, al20, al21, al22, al23, al25, true_or, or_true, and_self, if_true, if_false, mCat_n, mCat_i, mCat_r, mCat_l, mCat_0, Nat.reduceAdd, Nat.reduceLeDiff, Nat.reduceLT, true_and, and_true, Nat.zero_le, bI_01, bI_0, iI_add, iI_sub, iI_mul, iI_neg, iI_add1, iI_sub1, iI_m1, nc1, ncm1, iI_clJ, iI_cl0, iI_clN, Int.toNat_natCast, mU_n, mU_s, p_min, p_max, p_abs, ni_2, ni_3, ni_4, ni_7, ni_8, ni_9, ni_12, ni_24, ni_97, ni_100, ni_122, ni_200, ni_256, ni_4096, ni_5000, ni_9999, iI_lt, iI_le, iI_eq, iz_eq, iz_lt, iz_le, iz_gt, iz_ge, iy_eq, iy_lt, iy_le, iI_ltN, iI_leN, iI_eqN, if_pos, if_neg, h1, h7]
    rfl
  | succ m ih =>
    intro i c hm hi hc
    have i1 := ih (i + 1) (c + 1) (by omega) (by omega) (by omega)
    have i2 := ih (i + 1) c (by omega) (by omega) (by omega)
    rw [e_11_6]
    unfold cntP
    simp (maxSteps := 4000000) (disch := first | (simp (disch := omega) only [XB_i, XB_n, va_rf_s, va_rf_n, mSI_K, mSI_I, mSI_J, mSI_P, mSI_N, mSJ_K, mSJ_I, mSJ_J, mSJ_P, mSJ_N, mSP_K, mSP_I, mSP_J, mSP_P, mSP_N, mNn, mNi, mNr, mN0, al20, al21, al22, al23, al25, true_or, or_true, and_self, if_true, if_false, mCat_n, mCat_i, mCat_r, mCat_l, mCat_0, Nat.reduceAdd, Nat.reduceLeDiff, Nat.reduceLT, true_and, and_true, Nat.zero_le, bI_01, mInB_J, mInB_Z, mInB_N, h1, h2, h3, h4, h7, kd, pb, pa, i1, i2]; done) | omega | (unfold R32 at *; omega)) only [e_11_0, e_11_1, e_11_3, e_11_4, e_11_8, e_11_8_n, e_11_9, e_11_12, e_11_15, e_11_15_n, e_11_16, e_11_19, e_11_21, e_11_22, e_11_26, e_11_29, e_11_29_n, e_11_30, e_11_33, e_11_35, e_11_36, e_11_36_n, e_11_40, e_11_43, e_11_46, e_11_49, e_11_52, e_11_54, d_11_23, d_11_37, XB_i, XB_n, va_rf_s, va_rf_n, mSI_K, mSI_I, mSI_J, mSI_P, mSI_N, mSJ_K, mSJ_I, mSJ_J, mSJ_P, mSJ_N, mSP_K, mSP_I, mSP_J, mSP_P, mSP_N, mNn, mNi, mNr, mN0, al20, al21, al22, al23, al25, true_or, or_true, and_self, if_true, if_false, mCat_n, mCat_i, mCat_r, mCat_l, mCat_0, Nat.reduceAdd, Nat.reduceLeDiff, Nat.reduceLT, true_and, and_true, Nat.zero_le, bI_01, bI_0, iI_add, iI_sub, iI_mul, iI_neg, iI_add1, iI_sub1, iI_m1, nc1, ncm1, iI_clJ, iI_cl0, iI_clN, Int.toNat_natCast, mU_n, mU_s, p_min, p_max, p_abs, ni_2, ni_3, ni_4, ni_7, ni_8, ni_9, ni_12, ni_24, ni_97, ni_100, ni_122, ni_200, ni_256, ni_4096, ni_5000, ni_9999, iI_lt, iI_le, iI_eq, iz_eq, iz_lt, iz_le, iz_gt, iz_ge, iy_eq, iy_lt, iy_le, iI_ltN, iI_leN, iI_eqN, if_pos, if_neg, h1, h2, h3, h4, h7, kd, pb, pa, i1, i2]
    unfold naB
    split <;> rename_i q1
    · simp [q1]
    · split <;> rename_i q2
      · simp [q1, q2]
      · have q1' := eq_true_of_ne_false q1
        have q2' := eq_true_of_ne_false q2
        simp [q1', of_decide_eq_true q2']
theorem p_naN (h : EdA T e ad Fs) (ok : esOk Fs) (hbk : ∀ j, j < Fs.length → bkN (wv (fA Fs j).2.1) < 9223372036854775808) {g : Nat} {w : Int64} (hg : g < Fs.length) : XW 11 0 [some (.ref (e)), some (.ref (ad g)), some (.long (w)), none, none, none] [] T Q = Q (.inl (some (.int (iI ((naN Fs (fA Fs g) (wv w) : Nat) : Int))))) T := by
  simp (maxSteps := 4000000) (disch := first | (simp (disch := omega) only [XB_i, XB_n, va_rf_s, va_rf_n, mSI_K, mSI_I, mSI_J, mSI_P, mSI_N, mSJ_K, mSJ_I, mSJ_J, mSJ_P, mSJ_N, mSP_K, mSP_I, mSP_J, mSP_P, mSP_N, mNn, mNi, mNr, mN0, al20, al21, al22, al23, al25, true_or, or_true, and_self, if_true, if_false, mCat_n, mCat_i, mCat_r, mCat_l, mCat_0, Nat.reduceAdd, Nat.reduceLeDiff, Nat.reduceLT, true_and, and_true, Nat.zero_le, bI_01, mInB_J, mInB_Z, mInB_N]; done) | omega | (unfold R32 at *; omega)) only [e_11_0, e_11_1, e_11_3, e_11_4, XB_i, XB_n, va_rf_s, va_rf_n, mSI_K, mSI_I, mSI_J, mSI_P, mSI_N, mSJ_K, mSJ_I, mSJ_J, mSJ_P, mSJ_N, mSP_K, mSP_I, mSP_J, mSP_P, mSP_N, mNn, mNi, mNr, mN0, al20, al21, al22, al23, al25, true_or, or_true, and_self, if_true, if_false, mCat_n, mCat_i, mCat_r, mCat_l, mCat_0, Nat.reduceAdd, Nat.reduceLeDiff, Nat.reduceLT, true_and, and_true, Nat.zero_le, bI_01, bI_0, iI_add, iI_sub, iI_mul, iI_neg, iI_add1, iI_sub1, iI_m1, nc1, ncm1, iI_clJ, iI_cl0, iI_clN, Int.toNat_natCast, mU_n, mU_s, p_min, p_max, p_abs, ni_2, ni_3, ni_4, ni_7, ni_8, ni_9, ni_12, ni_24, ni_97, ni_100, ni_122, ni_200, ni_256, ni_4096, ni_5000, ni_9999, iI_lt, iI_le, iI_eq, iz_eq, iz_lt, iz_le, iz_gt, iz_ge, iy_eq, iy_lt, iy_le, iI_ltN, iI_leN, iI_eqN, if_pos, if_neg]
  exact l_naN h ok hbk hg _ 0 0 rfl (by omega) (by omega)
theorem l_named (h : EdA T e ad Fs) (ok : esOk Fs) (hbk : ∀ j, j < Fs.length → bkN (wv (fA Fs j).2.1) < 9223372036854775808) {w : Int64} {k : Int} (hk : R32 k) : ∀ (m i : Nat), Fs.length - i = m → i ≤ Fs.length → XW 10 3 [some (.ref (e)), some (.long (w)), none, some (.int (iI (k))), some (.int (iI ((i : Nat) : Int)))] [] T Q = Q (.inl (some (.int (iI (match fndP (fnB Fs (wv w) k) m i with | some i => (fA Fs i).1.1 | none => -1))))) T := by
  intro m
  obtain ⟨⟨h1, h2, h3, h4, h5⟩, h6, h7, h8, h9⟩ := id h
  have no := fun j hj => @EdA.no T e ad Fs j h hj
  have kd := fun j hj => @EdA.kd T e ad Fs j h hj
  have pb := fun Q j (hj : j < Fs.length) => @p_begins T Q (ad j) (fA Fs j).2.1 w (h5 j (by omega)) (h9 j hj).2.1.2.2.2.2
  have pn := fun Q j (hj : j < Fs.length) => @p_naN T Q e ad Fs h ok hbk j w hj
  induction m with
  | zero =>
    intro i hm hi
    rw [e_10_3]
    simp (maxSteps := 4000000) (disch := first | (simp (disch := omega) only [XB_i, XB_n, va_rf_s, va_rf_n, mSI_K, mSI_I, mSI_J, mSI_P, mSI_N, mSJ_K, mSJ_I, mSJ_J, mSJ_P, mSJ_N, mSP_K, mSP_I, mSP_J, mSP_P, mSP_N, mNn, mNi, mNr, mN0, al20, al21, al22, al23, al25, true_or, or_true, and_self, if_true, if_false, mCat_n, mCat_i, mCat_r, mCat_l, mCat_0, Nat.reduceAdd, Nat.reduceLeDiff, Nat.reduceLT, true_and, and_true, Nat.zero_le, bI_01, mInB_J, mInB_Z, mInB_N, h1, h7]; done) | omega | (unfold R32 at *; omega)) only [e_10_0, e_10_1, e_10_5, e_10_5_n, e_10_6, e_10_9, e_10_12, e_10_12_n, e_10_13, e_10_16, e_10_18, e_10_19, e_10_23, e_10_26, e_10_26_n, e_10_27, e_10_27_n, e_10_28, e_10_31, e_10_33, e_10_34, e_10_38, e_10_39, e_10_42, e_10_42_n, e_10_43, e_10_46, e_10_48, e_10_49, e_10_52, e_10_53, e_10_56, e_10_59, e_10_60, XB_i, XB_n, va_rf_s, va_rf_n, mSI_K, mSI_I, mSI_J, mSI_P, mSI_N, mSJ_K, mSJ_I, mSJ_J, mSJ_P, mSJ_N, mSP_K, mSP_I, mSP_J, mSP_P, mSP_N, mNn, mNi, mNr, mN0, al20, al21, al22, al23, al25, true_or, or_true, and_self, if_true, if_false, mCat_n, mCat_i, mCat_r, mCat_l, mCat_0, Nat.reduceAdd, Nat.reduceLeDiff, Nat.reduceLT, true_and, and_true, Nat.zero_le, bI_01, bI_0, iI_add, iI_sub, iI_mul, iI_neg, iI_add1, iI_sub1, iI_m1, nc1, ncm1, iI_clJ, iI_cl0, iI_clN, Int.toNat_natCast, mU_n, mU_s, p_min, p_max, p_abs, ni_2, ni_3, ni_4, ni_7, ni_8, ni_9, ni_12, ni_24, ni_97, ni_100, ni_122, ni_200, ni_256, ni_4096, ni_5000, ni_9999, iI_lt, iI_le, iI_eq, iz_eq, iz_lt, iz_le, iz_gt, iz_ge, iy_eq, iy_lt, iy_le, iI_ltN, iI_leN, iI_eqN, if_pos, if_neg, h1, h7]
    rfl
  | succ m ih =>
    intro i hm hi
    have i2 := ih (i + 1) (by omega) (by omega)
    have hle : naN Fs (fA Fs i) (wv w) ≤ 0 + Fs.length := cntP_le _ _ _ _
    rw [e_10_3]
    unfold fndP
    simp (maxSteps := 4000000) (disch := first | (simp (disch := omega) only [XB_i, XB_n, va_rf_s, va_rf_n, mSI_K, mSI_I, mSI_J, mSI_P, mSI_N, mSJ_K, mSJ_I, mSJ_J, mSJ_P, mSJ_N, mSP_K, mSP_I, mSP_J, mSP_P, mSP_N, mNn, mNi, mNr, mN0, al20, al21, al22, al23, al25, true_or, or_true, and_self, if_true, if_false, mCat_n, mCat_i, mCat_r, mCat_l, mCat_0, Nat.reduceAdd, Nat.reduceLeDiff, Nat.reduceLT, true_and, and_true, Nat.zero_le, bI_01, mInB_J, mInB_Z, mInB_N, h1, h2, h3, h4, h7, kd, no, pb, pn, i2, hk]; done) | omega | (unfold R32 at *; omega)) only [e_10_0, e_10_1, e_10_5, e_10_5_n, e_10_6, e_10_9, e_10_12, e_10_12_n, e_10_13, e_10_16, e_10_18, e_10_19, e_10_23, e_10_26, e_10_26_n, e_10_27, e_10_27_n, e_10_28, e_10_31, e_10_33, e_10_34, e_10_38, e_10_39, e_10_42, e_10_42_n, e_10_43, e_10_46, e_10_48, e_10_49, e_10_52, e_10_53, e_10_56, e_10_59, e_10_60, d_10_20, d_10_35, XB_i, XB_n, va_rf_s, va_rf_n, mSI_K, mSI_I, mSI_J, mSI_P, mSI_N, mSJ_K, mSJ_I, mSJ_J, mSJ_P, mSJ_N, mSP_K, mSP_I, mSP_J, mSP_P, mSP_N, mNn, mNi, mNr, mN0, al20, al21, al22, al23, al25, true_or, or_true, and_self, if_true, if_false, mCat_n, mCat_i, mCat_r, mCat_l, mCat_0, Nat.reduceAdd, Nat.reduceLeDiff, Nat.reduceLT, true_and, and_true, Nat.zero_le, bI_01, bI_0, iI_add, iI_sub, iI_mul, iI_neg, iI_add1, iI_sub1, iI_m1, nc1, ncm1, iI_clJ, iI_cl0, iI_clN, Int.toNat_natCast, mU_n, mU_s, p_min, p_max, p_abs, ni_2, ni_3, ni_4, ni_7, ni_8, ni_9, ni_12, ni_24, ni_97, ni_100, ni_122, ni_200, ni_256, ni_4096, ni_5000, ni_9999, iI_lt, iI_le, iI_eq, iz_eq, iz_lt, iz_le, iz_gt, iz_ge, iy_eq, iy_lt, iy_le, iI_ltN, iI_leN, iI_eqN, if_pos, if_neg, h1, h2, h3, h4, h7, kd, no, pb, pn, i2, hk]
    unfold fnB
    split <;> rename_i q1
    · simp [q1]
    · have q1' := eq_true_of_ne_false q1
      split <;> rename_i q2
      · simp [q1', q2]
      · simp [q1', q2]
theorem p_named (h : EdA T e ad Fs) (ok : esOk Fs) (hbk : ∀ j, j < Fs.length → bkN (wv (fA Fs j).2.1) < 9223372036854775808) {w : Int64} {k : Int} (hk : R32 k) : XW 10 0 [some (.ref (e)), some (.long (w)), none, some (.int (iI (k))), none] [] T Q = Q (.inl (some (.int (iI (fnZ Fs (wv w) k))))) T := by
  simp (maxSteps := 4000000) (disch := first | (simp (disch := omega) only [XB_i, XB_n, va_rf_s, va_rf_n, mSI_K, mSI_I, mSI_J, mSI_P, mSI_N, mSJ_K, mSJ_I, mSJ_J, mSJ_P, mSJ_N, mSP_K, mSP_I, mSP_J, mSP_P, mSP_N, mNn, mNi, mNr, mN0, al20, al21, al22, al23, al25, true_or, or_true, and_self, if_true, if_false, mCat_n, mCat_i, mCat_r, mCat_l, mCat_0, Nat.reduceAdd, Nat.reduceLeDiff, Nat.reduceLT, true_and, and_true, Nat.zero_le, bI_01, mInB_J, mInB_Z, mInB_N]; done) | omega | (unfold R32 at *; omega)) only [e_10_0, e_10_1, XB_i, XB_n, va_rf_s, va_rf_n, mSI_K, mSI_I, mSI_J, mSI_P, mSI_N, mSJ_K, mSJ_I, mSJ_J, mSJ_P, mSJ_N, mSP_K, mSP_I, mSP_J, mSP_P, mSP_N, mNn, mNi, mNr, mN0, al20, al21, al22, al23, al25, true_or, or_true, and_self, if_true, if_false, mCat_n, mCat_i, mCat_r, mCat_l, mCat_0, Nat.reduceAdd, Nat.reduceLeDiff, Nat.reduceLT, true_and, and_true, Nat.zero_le, bI_01, bI_0, iI_add, iI_sub, iI_mul, iI_neg, iI_add1, iI_sub1, iI_m1, nc1, ncm1, iI_clJ, iI_cl0, iI_clN, Int.toNat_natCast, mU_n, mU_s, p_min, p_max, p_abs, ni_2, ni_3, ni_4, ni_7, ni_8, ni_9, ni_12, ni_24, ni_97, ni_100, ni_122, ni_200, ni_256, ni_4096, ni_5000, ni_9999, iI_lt, iI_le, iI_eq, iz_eq, iz_lt, iz_le, iz_gt, iz_ge, iy_eq, iy_lt, iy_le, iI_ltN, iI_leN, iI_eqN, if_pos, if_neg]
  exact l_named h ok hbk hk _ 0 rfl (by omega)
def nrB (Fs : List Ft) (G : Ft) (x y : Int) (i : Nat) : Bool := (decide ((fA Fs i).1.2.1 = 0) && decide ((fA Fs i).1.2.2.1 = G.1.2.2.1)) && decide (frZ (fA Fs i).2.2 x y < frZ G.2.2 x y ∨ (frZ (fA Fs i).2.2 x y = frZ G.2.2 x y ∧ (fA Fs i).1.1 < G.1.1))
def nrN (Fs : List Ft) (G : Ft) (x y : Int) : Nat := cntP (nrB Fs G x y) Fs.length 0 0
def frB (Fs : List Ft) (x y s k : Int) (i : Nat) : Bool := (decide ((fA Fs i).1.2.1 = 0) && decide ((fA Fs i).1.2.2.1 = s)) && decide ((nrN Fs (fA Fs i) x y : Int) = k)
def neZ (Fs : List Ft) (x y s k : Int) : Int := match fndP (frB Fs x y s k) Fs.length 0 with
  | some i => (fA Fs i).1.1
  | none => -1
theorem l_nrN (h : EdA T e ad Fs) (ok : esOk Fs) {g : Nat} {x y : Int} (hx : R32 x) (hy : R32 y) (hg : g < Fs.length) : ∀ (m i c : Nat), Fs.length - i = m → i ≤ Fs.length → c ≤ i → XW 13 6 [some (.ref (e)), some (.ref (ad g)), some (.int (iI (x))), some (.int (iI (y))), some (.int (iI ((c : Nat) : Int))), some (.int (iI ((i : Nat) : Int)))] [] T Q = Q (.inl (some (.int (iI ((cntP (nrB Fs (fA Fs g) x y) m i c : Nat) : Int))))) T := by
  intro m
  obtain ⟨⟨h1, h2, h3, h4, h5⟩, h6, h7, h8, h9⟩ := id h
  have kd := fun j hj => @EdA.kd T e ad Fs j h hj
  have so := @EdA.so T e ad Fs g h hg
  have rs := (ok.1 g hg).sr
  have pb := fun Q j (hj : j < Fs.length) => @p_pointOf T Q (ad j) (fA Fs j) (h9 j hj) (ok.1 j hj).kr (ok.1 j hj).sr (fA Fs g).1.2.2.1 rs
  have pa := fun Q j (hj : j < Fs.length) => @p_nearer T Q (ad j) (ad g) (fA Fs j) (fA Fs g) (h9 j hj) (h9 g hg) (ok.1 j hj).nr (ok.1 g hg).nr (ok.1 j hj).b (ok.1 g hg).b (ok.1 j hj).c (ok.1 g hg).c x y hx hy
  induction m with
  | zero =>
    intro i c hm hi hc
    rw [e_13_6]
    simp (maxSteps := 4000000) (disch := first | (simp (disch := omega) only [XB_i, XB_n, va_rf_s, va_rf_n, mSI_K, mSI_I, mSI_J, mSI_P, mSI_N, mSJ_K, mSJ_I, mSJ_J, mSJ_P, mSJ_N, mSP_K, mSP_I, mSP_J, mSP_P, mSP_N, mNn, mNi, mNr, mN0, al20, al21, al22, al23, al25, true_or, or_true, and_self, if_true, if_false, mCat_n, mCat_i, mCat_r, mCat_l, mCat_0, Nat.reduceAdd, Nat.reduceLeDiff, Nat.reduceLT, true_and, and_true, Nat.zero_le, bI_01, mInB_J, mInB_Z, mInB_N, h1, h7]; done) | omega | (unfold R32 at *; omega)) only [e_13_0, e_13_1, e_13_3, e_13_4, e_13_8, e_13_8_n, e_13_9, e_13_12, e_13_15, e_13_15_n, e_13_16, e_13_19, e_13_21, e_13_22, e_13_22_n, e_13_23, e_13_29, e_13_32, e_13_32_n, e_13_33, e_13_36, e_13_38, e_13_39, e_13_39_n, e_13_40, e_13_41, e_13_45, e_13_48, e_13_51, e_13_54, e_13_57, e_13_59, XB_i, XB_n, va_rf_s, va_rf_n, mSI_K, mSI_I, mSI_J, mSI_P, mSI_N, mSJ_K, mSJ_I, mSJ_J, mSJ_P, mSJ_N, mSP_K, mSP_I, mSP_J, mSP_P, mSP_N, mNn, mNi, mNr, mN0, al20, al21, al22, al23, al25, true_or, or_true, and_self, if_true, if_false, mCat_n, mCat_i, mCat_r, mCat_l, mCat_0, Nat.reduceAdd, Nat.reduceLeDiff, Nat.reduceLT, true_and, and_true, Nat.zero_le, bI_01, bI_0, iI_add, iI_sub, iI_mul, iI_neg, iI_add1, iI_sub1, iI_m1, nc1, ncm1, iI_clJ, iI_cl0, iI_clN, Int.toNat_natCast, mU_n, mU_s, p_min, p_max, p_abs, ni_2, ni_3, ni_4, ni_7, ni_8, ni_9, ni_12, ni_24, ni_97, ni_100, ni_122, ni_200, ni_256, ni_4096, ni_5000, ni_9999, iI_lt, iI_le, iI_eq, iz_eq, iz_lt, iz_le, iz_gt, iz_ge, iy_eq, iy_lt, iy_le, iI_ltN, iI_leN, iI_eqN, if_pos, if_neg, h1, h7]
    rfl
  | succ m ih =>
    intro i c hm hi hc
    have i1 := ih (i + 1) (c + 1) (by omega) (by omega) (by omega)
    have i2 := ih (i + 1) c (by omega) (by omega) (by omega)
    rw [e_13_6]
    unfold cntP
    simp (maxSteps := 4000000) (disch := first | (simp (disch := omega) only [XB_i, XB_n, va_rf_s, va_rf_n, mSI_K, mSI_I, mSI_J, mSI_P, mSI_N, mSJ_K, mSJ_I, mSJ_J, mSJ_P, mSJ_N, mSP_K, mSP_I, mSP_J, mSP_P, mSP_N, mNn, mNi, mNr, mN0, al20, al21, al22, al23, al25, true_or, or_true, and_self, if_true, if_false, mCat_n, mCat_i, mCat_r, mCat_l, mCat_0, Nat.reduceAdd, Nat.reduceLeDiff, Nat.reduceLT, true_and, and_true, Nat.zero_le, bI_01, mInB_J, mInB_Z, mInB_N, h1, h2, h3, h4, h7, kd, so, pb, pa, i1, i2]; done) | omega | (unfold R32 at *; omega)) only [e_13_0, e_13_1, e_13_3, e_13_4, e_13_8, e_13_8_n, e_13_9, e_13_12, e_13_15, e_13_15_n, e_13_16, e_13_19, e_13_21, e_13_22, e_13_22_n, e_13_23, e_13_29, e_13_32, e_13_32_n, e_13_33, e_13_36, e_13_38, e_13_39, e_13_39_n, e_13_40, e_13_41, e_13_45, e_13_48, e_13_51, e_13_54, e_13_57, e_13_59, d_13_26, d_13_42, XB_i, XB_n, va_rf_s, va_rf_n, mSI_K, mSI_I, mSI_J, mSI_P, mSI_N, mSJ_K, mSJ_I, mSJ_J, mSJ_P, mSJ_N, mSP_K, mSP_I, mSP_J, mSP_P, mSP_N, mNn, mNi, mNr, mN0, al20, al21, al22, al23, al25, true_or, or_true, and_self, if_true, if_false, mCat_n, mCat_i, mCat_r, mCat_l, mCat_0, Nat.reduceAdd, Nat.reduceLeDiff, Nat.reduceLT, true_and, and_true, Nat.zero_le, bI_01, bI_0, iI_add, iI_sub, iI_mul, iI_neg, iI_add1, iI_sub1, iI_m1, nc1, ncm1, iI_clJ, iI_cl0, iI_clN, Int.toNat_natCast, mU_n, mU_s, p_min, p_max, p_abs, ni_2, ni_3, ni_4, ni_7, ni_8, ni_9, ni_12, ni_24, ni_97, ni_100, ni_122, ni_200, ni_256, ni_4096, ni_5000, ni_9999, iI_lt, iI_le, iI_eq, iz_eq, iz_lt, iz_le, iz_gt, iz_ge, iy_eq, iy_lt, iy_le, iI_ltN, iI_leN, iI_eqN, if_pos, if_neg, h1, h2, h3, h4, h7, kd, so, pb, pa, i1, i2]
    unfold nrB
    split <;> rename_i q1
    · rw [q1]; simp
    · split <;> rename_i q2
      · rw [q2]; simp
      · rw [eq_true_of_ne_false q1, eq_true_of_ne_false q2]; simp
theorem p_nrN (h : EdA T e ad Fs) (ok : esOk Fs) {g : Nat} {x y : Int} (hx : R32 x) (hy : R32 y) (hg : g < Fs.length) : XW 13 0 [some (.ref (e)), some (.ref (ad g)), some (.int (iI (x))), some (.int (iI (y))), none, none] [] T Q = Q (.inl (some (.int (iI ((nrN Fs (fA Fs g) x y : Nat) : Int))))) T := by
  simp (maxSteps := 4000000) (disch := first | (simp (disch := omega) only [XB_i, XB_n, va_rf_s, va_rf_n, mSI_K, mSI_I, mSI_J, mSI_P, mSI_N, mSJ_K, mSJ_I, mSJ_J, mSJ_P, mSJ_N, mSP_K, mSP_I, mSP_J, mSP_P, mSP_N, mNn, mNi, mNr, mN0, al20, al21, al22, al23, al25, true_or, or_true, and_self, if_true, if_false, mCat_n, mCat_i, mCat_r, mCat_l, mCat_0, Nat.reduceAdd, Nat.reduceLeDiff, Nat.reduceLT, true_and, and_true, Nat.zero_le, bI_01, mInB_J, mInB_Z, mInB_N]; done) | omega | (unfold R32 at *; omega)) only [e_13_0, e_13_1, e_13_3, e_13_4, XB_i, XB_n, va_rf_s, va_rf_n, mSI_K, mSI_I, mSI_J, mSI_P, mSI_N, mSJ_K, mSJ_I, mSJ_J, mSJ_P, mSJ_N, mSP_K, mSP_I, mSP_J, mSP_P, mSP_N, mNn, mNi, mNr, mN0, al20, al21, al22, al23, al25, true_or, or_true, and_self, if_true, if_false, mCat_n, mCat_i, mCat_r, mCat_l, mCat_0, Nat.reduceAdd, Nat.reduceLeDiff, Nat.reduceLT, true_and, and_true, Nat.zero_le, bI_01, bI_0, iI_add, iI_sub, iI_mul, iI_neg, iI_add1, iI_sub1, iI_m1, nc1, ncm1, iI_clJ, iI_cl0, iI_clN, Int.toNat_natCast, mU_n, mU_s, p_min, p_max, p_abs, ni_2, ni_3, ni_4, ni_7, ni_8, ni_9, ni_12, ni_24, ni_97, ni_100, ni_122, ni_200, ni_256, ni_4096, ni_5000, ni_9999, iI_lt, iI_le, iI_eq, iz_eq, iz_lt, iz_le, iz_gt, iz_ge, iy_eq, iy_lt, iy_le, iI_ltN, iI_leN, iI_eqN, if_pos, if_neg]
  exact l_nrN h ok hx hy hg _ 0 0 rfl (by omega) (by omega)
theorem l_near (h : EdA T e ad Fs) (ok : esOk Fs) {x y s k : Int} (hx : R32 x) (hy : R32 y) (hs : R32 s) (hk : R32 k) : ∀ (m i : Nat), Fs.length - i = m → i ≤ Fs.length → XW 12 3 [some (.ref (e)), some (.int (iI (x))), some (.int (iI (y))), some (.int (iI (s))), some (.int (iI (k))), some (.int (iI ((i : Nat) : Int)))] [] T Q = Q (.inl (some (.int (iI (match fndP (frB Fs x y s k) m i with | some i => (fA Fs i).1.1 | none => -1))))) T := by
  intro m
  obtain ⟨⟨h1, h2, h3, h4, h5⟩, h6, h7, h8, h9⟩ := id h
  have no := fun j hj => @EdA.no T e ad Fs j h hj
  have kd := fun j hj => @EdA.kd T e ad Fs j h hj
  have pb := fun Q j (hj : j < Fs.length) => @p_pointOf T Q (ad j) (fA Fs j) (h9 j hj) (ok.1 j hj).kr (ok.1 j hj).sr s hs
  have pn := fun Q j (hj : j < Fs.length) => @p_nrN T Q e ad Fs h ok j x y hx hy hj
  induction m with
  | zero =>
    intro i hm hi
    rw [e_12_3]
    simp (maxSteps := 4000000) (disch := first | (simp (disch := omega) only [XB_i, XB_n, va_rf_s, va_rf_n, mSI_K, mSI_I, mSI_J, mSI_P, mSI_N, mSJ_K, mSJ_I, mSJ_J, mSJ_P, mSJ_N, mSP_K, mSP_I, mSP_J, mSP_P, mSP_N, mNn, mNi, mNr, mN0, al20, al21, al22, al23, al25, true_or, or_true, and_self, if_true, if_false, mCat_n, mCat_i, mCat_r, mCat_l, mCat_0, Nat.reduceAdd, Nat.reduceLeDiff, Nat.reduceLT, true_and, and_true, Nat.zero_le, bI_01, mInB_J, mInB_Z, mInB_N, h1, h7]; done) | omega | (unfold R32 at *; omega)) only [e_12_0, e_12_1, e_12_5, e_12_5_n, e_12_6, e_12_9, e_12_12, e_12_12_n, e_12_13, e_12_16, e_12_18, e_12_19, e_12_23, e_12_26, e_12_26_n, e_12_27, e_12_27_n, e_12_28, e_12_31, e_12_33, e_12_34, e_12_35, e_12_39, e_12_41, e_12_44, e_12_44_n, e_12_45, e_12_48, e_12_50, e_12_51, e_12_54, e_12_55, e_12_58, e_12_61, e_12_62, XB_i, XB_n, va_rf_s, va_rf_n, mSI_K, mSI_I, mSI_J, mSI_P, mSI_N, mSJ_K, mSJ_I, mSJ_J, mSJ_P, mSJ_N, mSP_K, mSP_I, mSP_J, mSP_P, mSP_N, mNn, mNi, mNr, mN0, al20, al21, al22, al23, al25, true_or, or_true, and_self, if_true, if_false, mCat_n, mCat_i, mCat_r, mCat_l, mCat_0, Nat.reduceAdd, Nat.reduceLeDiff, Nat.reduceLT, true_and, and_true, Nat.zero_le, bI_01, bI_0, iI_add, iI_sub, iI_mul, iI_neg, iI_add1, iI_sub1, iI_m1, nc1, ncm1, iI_clJ, iI_cl0, iI_clN, Int.toNat_natCast, mU_n, mU_s, p_min, p_max, p_abs, ni_2, ni_3, ni_4, ni_7, ni_8, ni_9, ni_12, ni_24, ni_97, ni_100, ni_122, ni_200, ni_256, ni_4096, ni_5000, ni_9999, iI_lt, iI_le, iI_eq, iz_eq, iz_lt, iz_le, iz_gt, iz_ge, iy_eq, iy_lt, iy_le, iI_ltN, iI_leN, iI_eqN, if_pos, if_neg, h1, h7]
    rfl
  | succ m ih =>
    intro i hm hi
    have i2 := ih (i + 1) (by omega) (by omega)
    have hle : nrN Fs (fA Fs i) x y ≤ 0 + Fs.length := cntP_le _ _ _ _
    rw [e_12_3]
    unfold fndP
    simp (maxSteps := 4000000) (disch := first | (simp (disch := omega) only [XB_i, XB_n, va_rf_s, va_rf_n, mSI_K, mSI_I, mSI_J, mSI_P, mSI_N, mSJ_K, mSJ_I, mSJ_J, mSJ_P, mSJ_N, mSP_K, mSP_I, mSP_J, mSP_P, mSP_N, mNn, mNi, mNr, mN0, al20, al21, al22, al23, al25, true_or, or_true, and_self, if_true, if_false, mCat_n, mCat_i, mCat_r, mCat_l, mCat_0, Nat.reduceAdd, Nat.reduceLeDiff, Nat.reduceLT, true_and, and_true, Nat.zero_le, bI_01, mInB_J, mInB_Z, mInB_N, h1, h2, h3, h4, h7, kd, no, pb, pn, i2, hk]; done) | omega | (unfold R32 at *; omega)) only [e_12_0, e_12_1, e_12_5, e_12_5_n, e_12_6, e_12_9, e_12_12, e_12_12_n, e_12_13, e_12_16, e_12_18, e_12_19, e_12_23, e_12_26, e_12_26_n, e_12_27, e_12_27_n, e_12_28, e_12_31, e_12_33, e_12_34, e_12_35, e_12_39, e_12_41, e_12_44, e_12_44_n, e_12_45, e_12_48, e_12_50, e_12_51, e_12_54, e_12_55, e_12_58, e_12_61, e_12_62, d_12_20, d_12_36, XB_i, XB_n, va_rf_s, va_rf_n, mSI_K, mSI_I, mSI_J, mSI_P, mSI_N, mSJ_K, mSJ_I, mSJ_J, mSJ_P, mSJ_N, mSP_K, mSP_I, mSP_J, mSP_P, mSP_N, mNn, mNi, mNr, mN0, al20, al21, al22, al23, al25, true_or, or_true, and_self, if_true, if_false, mCat_n, mCat_i, mCat_r, mCat_l, mCat_0, Nat.reduceAdd, Nat.reduceLeDiff, Nat.reduceLT, true_and, and_true, Nat.zero_le, bI_01, bI_0, iI_add, iI_sub, iI_mul, iI_neg, iI_add1, iI_sub1, iI_m1, nc1, ncm1, iI_clJ, iI_cl0, iI_clN, Int.toNat_natCast, mU_n, mU_s, p_min, p_max, p_abs, ni_2, ni_3, ni_4, ni_7, ni_8, ni_9, ni_12, ni_24, ni_97, ni_100, ni_122, ni_200, ni_256, ni_4096, ni_5000, ni_9999, iI_lt, iI_le, iI_eq, iz_eq, iz_lt, iz_le, iz_gt, iz_ge, iy_eq, iy_lt, iy_le, iI_ltN, iI_leN, iI_eqN, if_pos, if_neg, h1, h2, h3, h4, h7, kd, no, pb, pn, i2, hk]
    unfold frB
    split <;> rename_i q1
    · rw [q1]; simp
    · rw [eq_true_of_ne_false q1]
      split <;> rename_i q2
      · simp [q2]
      · simp [q2]
theorem p_near (h : EdA T e ad Fs) (ok : esOk Fs) {x y s k : Int} (hx : R32 x) (hy : R32 y) (hs : R32 s) (hk : R32 k) : XW 12 0 [some (.ref (e)), some (.int (iI (x))), some (.int (iI (y))), some (.int (iI (s))), some (.int (iI (k))), none] [] T Q = Q (.inl (some (.int (iI (neZ Fs x y s k))))) T := by
  simp (maxSteps := 4000000) (disch := first | (simp (disch := omega) only [XB_i, XB_n, va_rf_s, va_rf_n, mSI_K, mSI_I, mSI_J, mSI_P, mSI_N, mSJ_K, mSJ_I, mSJ_J, mSJ_P, mSJ_N, mSP_K, mSP_I, mSP_J, mSP_P, mSP_N, mNn, mNi, mNr, mN0, al20, al21, al22, al23, al25, true_or, or_true, and_self, if_true, if_false, mCat_n, mCat_i, mCat_r, mCat_l, mCat_0, Nat.reduceAdd, Nat.reduceLeDiff, Nat.reduceLT, true_and, and_true, Nat.zero_le, bI_01, mInB_J, mInB_Z, mInB_N]; done) | omega | (unfold R32 at *; omega)) only [e_12_0, e_12_1, XB_i, XB_n, va_rf_s, va_rf_n, mSI_K, mSI_I, mSI_J, mSI_P, mSI_N, mSJ_K, mSJ_I, mSJ_J, mSJ_P, mSJ_N, mSP_K, mSP_I, mSP_J, mSP_P, mSP_N, mNn, mNi, mNr, mN0, al20, al21, al22, al23, al25, true_or, or_true, and_self, if_true, if_false, mCat_n, mCat_i, mCat_r, mCat_l, mCat_0, Nat.reduceAdd, Nat.reduceLeDiff, Nat.reduceLT, true_and, and_true, Nat.zero_le, bI_01, bI_0, iI_add, iI_sub, iI_mul, iI_neg, iI_add1, iI_sub1, iI_m1, nc1, ncm1, iI_clJ, iI_cl0, iI_clN, Int.toNat_natCast, mU_n, mU_s, p_min, p_max, p_abs, ni_2, ni_3, ni_4, ni_7, ni_8, ni_9, ni_12, ni_24, ni_97, ni_100, ni_122, ni_200, ni_256, ni_4096, ni_5000, ni_9999, iI_lt, iI_le, iI_eq, iz_eq, iz_lt, iz_le, iz_gt, iz_ge, iy_eq, iy_lt, iy_le, iI_ltN, iI_leN, iI_eqN, if_pos, if_neg]
  exact l_near h ok hx hy hs hk _ 0 rfl (by omega)
end ED
