/-! Path: its bounds -/
theorem ni_2 : (2 : Int32) = iI 2 := rfl
theorem ni_3 : (3 : Int32) = iI 3 := rfl
theorem ni_4 : (4 : Int32) = iI 4 := rfl
theorem ni_7 : (7 : Int32) = iI 7 := rfl
theorem ni_8 : (8 : Int32) = iI 8 := rfl
theorem ni_9 : (9 : Int32) = iI 9 := rfl
theorem ni_12 : (12 : Int32) = iI 12 := rfl
theorem ni_24 : (24 : Int32) = iI 24 := rfl
theorem ni_97 : (97 : Int32) = iI 97 := rfl
theorem ni_100 : (100 : Int32) = iI 100 := rfl
theorem ni_122 : (122 : Int32) = iI 122 := rfl
theorem ni_200 : (200 : Int32) = iI 200 := rfl
theorem ni_256 : (256 : Int32) = iI 256 := rfl
theorem ni_4096 : (4096 : Int32) = iI 4096 := rfl
theorem ni_5000 : (5000 : Int32) = iI 5000 := rfl
theorem ni_9999 : (9999 : Int32) = iI 9999 := rfl
theorem iI_add1 (z : Int) : iI z + 1 = iI (z + 1) := by rw [iI_1, iI_add]
theorem iI_sub1 (z : Int) : iI z - 1 = iI (z - 1) := by rw [iI_1, iI_sub]
theorem iI_m1 (z : Int) : iI z + -1 = iI (z - 1) := by rw [show (-1 : Int32) = iI (-1) from rfl, iI_add]; rfl
theorem i10 : ((1 : Int32) = 0) = False := by simp
theorem tf0 : (true = false) = False := by simp
theorem nca (a b : Nat) : (a : Int) + (b : Int) = ((a + b : Nat) : Int) := by omega
theorem nc1 (n : Nat) : (n : Int) + 1 = ((n + 1 : Nat) : Int) := by omega
theorem ncm1 {n : Nat} (h : 1 ≤ n) : (n : Int) - 1 = ((n - 1 : Nat) : Int) := by omega
theorem mInB_Z {n : Nat} (h : 0 < n) (hn : n ≤ 100000) : mInB 0 n = true := mInB_N (j := 0) h hn
theorem mInB_J {z : Int} {n : Nat} (h0 : 0 ≤ z) (h : z < n) (hn : n ≤ 100000) : mInB (iI z) n = true := mInB_i h0 h (by omega)
theorem iI_clJ {z : Int} (h0 : 0 ≤ z) (h : z < 2147483648) : (iI z).toNatClampNeg = z.toNat := iI_cl h0 h
theorem iI_cl0 : (0 : Int32).toNatClampNeg = 0 := rfl
theorem iz_eq {z : Int} (h : R32 z) : (iI z = 0) = (z = 0) := iI_eq (b := 0) h ⟨by omega, by omega⟩
theorem iz_lt {z : Int} (h : R32 z) : (iI z < 0) = (z < 0) := iI_lt (b := 0) h ⟨by omega, by omega⟩
theorem iz_le {z : Int} (h : R32 z) : (iI z ≤ 0) = (z ≤ 0) := iI_le (b := 0) h ⟨by omega, by omega⟩
theorem iz_gt {z : Int} (h : R32 z) : (0 < iI z) = (0 < z) := iI_lt (a := 0) ⟨by omega, by omega⟩ h
theorem iz_ge {z : Int} (h : R32 z) : (0 ≤ iI z) = (0 ≤ z) := iI_le (a := 0) ⟨by omega, by omega⟩ h
theorem iy_eq {z : Int} (h : R32 z) : (iI z = 1) = (z = 1) := iI_eq (b := 1) h ⟨by omega, by omega⟩
theorem iy_lt {z : Int} (h : R32 z) : (iI z < 1) = (z < 1) := iI_lt (b := 1) h ⟨by omega, by omega⟩
theorem iy_le {z : Int} (h : R32 z) : (1 ≤ iI z) = (1 ≤ z) := iI_le (a := 1) ⟨by omega, by omega⟩ h
/-- an answer of yes or no -/
noncomputable def dB (P : Prop) : Bool := @decide P (Classical.propDecidable P)
theorem dB_t {P : Prop} (h : P) : dB P = true := @decide_eq_true P (Classical.propDecidable P) h
theorem dB_f {P : Prop} (h : ¬ P) : dB P = false := @decide_eq_false P (Classical.propDecidable P) h
theorem dB_T (P : Prop) : (dB P = true) = P := by
  by_cases h : P
  · rw [dB_t h]; simp [h]
  · rw [dB_f h]; simp [h]
theorem dB_F (P : Prop) : (dB P = false) = ¬ P := by
  by_cases h : P
  · rw [dB_t h]; simp [h]
  · rw [dB_f h]; simp [h]
noncomputable abbrev bP (P : Prop) : Int32 := bI (dB P)
/-- which of two -/
noncomputable def iP {α : Sort _} (P : Prop) (x y : α) : α := @ite α P (Classical.propDecidable P) x y
theorem iP_t {α : Sort _} {P : Prop} {x y : α} (h : P) : iP P x y = x := by unfold iP; exact if_pos h
theorem iP_f {α : Sort _} {P : Prop} {x y : α} (h : ¬ P) : iP P x y = y := by unfold iP; exact if_neg h
theorem bP_t {P : Prop} (h : P) : bP P = 1 := by unfold bP; rw [dB_t h]; rfl
theorem bP_f {P : Prop} (h : ¬ P) : bP P = 0 := by unfold bP; rw [dB_f h]; rfl
theorem bP_c {P P' : Prop} (h : P ↔ P') : bP P = bP P' := by rw [propext h]
theorem bP_b (b : Bool) : bI b = bP (b = true) := by cases b <;> simp [bI, bP, dB]
theorem p_min {T : mT} {Q : mOut → mT → Prop} {a b : Int} (ha : R32 a) (hb : R32 b) : XW 184 0 [some (.int (iI a)), some (.int (iI b))] [] T Q = Q (.inl (some (.int (iI (min a b))))) T := by
  simp only [e_184_0, e_184_1, e_184_2, e_184_5, e_184_6, e_184_9, e_184_10, XB_i, XB_n, va_rf_s, va_rf_n, mSI_K, mSI_I, mSI_J, mSI_P, mSI_N, mSJ_K, mSJ_I, mSJ_J, mSJ_P, mSJ_N, mSP_K, mSP_I, mSP_J, mSP_P, mSP_N, mNn, mNi, mNr, mN0, al20, al21, al22, al23, al25, true_or, or_true, and_self, if_true, if_false, mCat_n, mCat_i, mCat_r, mCat_l, mCat_0, Nat.reduceAdd, Nat.reduceLeDiff, Nat.reduceLT, true_and, and_true, Nat.zero_le, bI_01, iI_lt hb ha]
  by_cases h : b < a
  · rw [if_pos h, Int.min_eq_right (by omega)]
  · rw [if_neg h, Int.min_eq_left (by omega)]
theorem p_max {T : mT} {Q : mOut → mT → Prop} {a b : Int} (ha : R32 a) (hb : R32 b) : XW 183 0 [some (.int (iI a)), some (.int (iI b))] [] T Q = Q (.inl (some (.int (iI (max a b))))) T := by
  simp only [e_183_0, e_183_1, e_183_2, e_183_5, e_183_6, e_183_9, e_183_10, XB_i, XB_n, va_rf_s, va_rf_n, mSI_K, mSI_I, mSI_J, mSI_P, mSI_N, mSJ_K, mSJ_I, mSJ_J, mSJ_P, mSJ_N, mSP_K, mSP_I, mSP_J, mSP_P, mSP_N, mNn, mNi, mNr, mN0, al20, al21, al22, al23, al25, true_or, or_true, and_self, if_true, if_false, mCat_n, mCat_i, mCat_r, mCat_l, mCat_0, Nat.reduceAdd, Nat.reduceLeDiff, Nat.reduceLT, true_and, and_true, Nat.zero_le, bI_01, iI_lt ha hb]
  by_cases h : a < b
  · rw [if_pos h, Int.max_eq_right (by omega)]
  · rw [if_neg h, Int.max_eq_left (by omega)]
theorem p_abs {T : mT} {Q : mOut → mT → Prop} {a : Int} (ha : R32 a) : XW 182 0 [some (.int (iI a))] [] T Q = Q (.inl (some (.int (iI (a.natAbs : Int))))) T := by
  have hc : (0 ≤ iI a) = (0 ≤ a) := by rw [iI_0, iI_le ⟨by omega, by omega⟩ ha]
  simp only [e_182_0, e_182_1, e_182_4, e_182_5, e_182_6, e_182_9, e_182_10, XB_i, XB_n, va_rf_s, va_rf_n, mSI_K, mSI_I, mSI_J, mSI_P, mSI_N, mSJ_K, mSJ_I, mSJ_J, mSJ_P, mSJ_N, mSP_K, mSP_I, mSP_J, mSP_P, mSP_N, mNn, mNi, mNr, mN0, al20, al21, al22, al23, al25, true_or, or_true, and_self, if_true, if_false, mCat_n, mCat_i, mCat_r, mCat_l, mCat_0, Nat.reduceAdd, Nat.reduceLeDiff, Nat.reduceLT, true_and, and_true, Nat.zero_le, bI_01, hc, iI_neg]
  by_cases h : 0 ≤ a
  · rw [if_pos h, show (a.natAbs : Int) = a by omega]
  · rw [if_neg h, show (a.natAbs : Int) = -a by omega]
/-- low x, high x, low y, high y -/
abbrev Bx : Type := Int × Int × Int × Int
def bxS (b : Bx) (c : Cn) : Bx := (min b.1 c.1, max b.2.1 c.1, min b.2.2.1 c.2.1, max b.2.2.2 c.2.1)
def bxL (cs : List Cn) : Bx := cs.foldl bxS (4096, 0, 4096, 0)
def BxR (T : mT) (p : Nat) (b : Bx) : Prop := T.2.1 p 4 = iI b.1 ∧ T.2.1 p 5 = iI b.2.1 ∧ T.2.1 p 6 = iI b.2.2.1 ∧ T.2.1 p 7 = iI b.2.2.2
theorem BxR.fr {S : Nat → Prop} {T T2 : mT} {p : Nat} {b : Bx} (h : BxR T p b) (hf : Fr S T T2) (hs : ¬ S p) : BxR T2 p b := by
  unfold BxR
  rw [hf.I hs]
  exact h
theorem XW_lv {k pc : Nat} {lv lv' : mLv} {st : List Value} {T : mT} {Q : mOut → mT → Prop} (h : XW k pc lv st T Q) (e : lv' = lv) : XW k pc lv' st T Q := by rw [e]; exact h
theorem PathR.fld {T : mT} {p r k : Nat} {x : Int32} {cs : List Cn} (h : PathR T p r cs) (hk : 4 ≤ k) : PathR (mSI T p k x) p r cs := ⟨h.1, by rw [mSI_I, mU_n _ _ (by omega)]; exact h.2.1, h.2.2.1, fun j d hd => (h.2.2.2 j d hd).fr (S := iv p (p + 1)) (Fr.sI ⟨by omega, by omega⟩) (fun b hb q => by have := hb.1; have := q.2; omega)⟩
def missB (b : Bx) (left top : Int) : Bool := decide (b.2.1 < left - 8) || decide (left + 264 < b.1) || decide (b.2.2.2 < top - 8) || decide (top + 264 < b.2.2.1)
def bxB (b : Bx) : Prop := (-8192 ≤ b.1 ∧ b.1 ≤ 8192) ∧ (-8192 ≤ b.2.1 ∧ b.2.1 ≤ 8192) ∧ (-8192 ≤ b.2.2.1 ∧ b.2.2.1 ≤ 8192) ∧ (-8192 ≤ b.2.2.2 ∧ b.2.2.2 ≤ 8192)
theorem ct_path_misses {T : mT} {Q : mOut → mT → Prop} {p : Nat} {b : Bx} {left top : Int} (hk : T.1 p = (7, 0)) (h : BxR T p b) (hb : bxB b) (hl : 0 ≤ left ∧ left ≤ 4096) (ht : 0 ≤ top ∧ top ≤ 4096) (hQ : Q (.inl (some (.int (bI (missB b left top))))) T) : XW 66 0 [some (.ref p), some (.int (iI left)), some (.int (iI top))] [] T Q := by
  obtain ⟨h1, h2, h3, h4⟩ := h
  obtain ⟨b1, b2, b3, b4⟩ := hb
  have e01 : (0 : Int32) = 0 ∨ (0 : Int32) = 1 := Or.inl rfl
  have e11 : (1 : Int32) = 0 ∨ (1 : Int32) = 1 := Or.inr rfl
  simp (maxSteps := 4000000) (disch := first | (simp (disch := omega) only [XB_i, XB_n, va_rf_s, va_rf_n, mSI_K, mSI_I, mSI_J, mSI_P, mSI_N, mSJ_K, mSJ_I, mSJ_J, mSJ_P, mSJ_N, mSP_K, mSP_I, mSP_J, mSP_P, mSP_N, mNn, mNi, mNr, mN0, al20, al21, al22, al23, al25, true_or, or_true, and_self, if_true, if_false, mCat_n, mCat_i, mCat_r, mCat_l, mCat_0, Nat.reduceAdd, Nat.reduceLeDiff, Nat.reduceLT, true_and, and_true, Nat.zero_le, bI_01, mInB_J, mInB_Z, mInB_N, hk, h1, h2, h3, h4, e01, e11]; done) | omega | (unfold R32 at *; omega)) only [e_66_0, e_66_0_n, e_66_1, e_66_4, e_66_5, e_66_7, e_66_8, e_66_11, e_66_11_n, e_66_12, e_66_15, e_66_16, e_66_19, e_66_20, e_66_22, e_66_23, e_66_26, e_66_26_n, e_66_27, e_66_30, e_66_31, e_66_33, e_66_34, e_66_37, e_66_37_n, e_66_38, e_66_41, e_66_42, e_66_45, e_66_46, e_66_48, e_66_49, e_66_52, e_66_53, e_66_56, e_66_57, XB_i, XB_n, va_rf_s, va_rf_n, mSI_K, mSI_I, mSI_J, mSI_P, mSI_N, mSJ_K, mSJ_I, mSJ_J, mSJ_P, mSJ_N, mSP_K, mSP_I, mSP_J, mSP_P, mSP_N, mNn, mNi, mNr, mN0, al20, al21, al22, al23, al25, true_or, or_true, and_self, if_true, if_false, mCat_n, mCat_i, mCat_r, mCat_l, mCat_0, Nat.reduceAdd, Nat.reduceLeDiff, Nat.reduceLT, true_and, and_true, Nat.zero_le, bI_01, bI_0, i10, tf0, iI_add, iI_sub, iI_mul, iI_neg, iI_add1, iI_sub1, iI_m1, nca, nc1, ncm1, iI_clJ, iI_cl0, iI_clN, Int.toNat_natCast, mU_n, mU_s, p_min, p_max, p_abs, ni_2, ni_3, ni_4, ni_7, ni_8, ni_9, ni_12, ni_24, ni_97, ni_100, ni_122, ni_200, ni_256, ni_4096, ni_5000, ni_9999, iI_lt, iI_le, iI_eq, iz_eq, iz_lt, iz_le, iz_gt, iz_ge, iy_eq, iy_lt, iy_le, iI_ltN, iI_leN, iI_eqN, if_pos, if_neg, hk, h1, h2, h3, h4, e01, e11]
  unfold missB at hQ
  grind [bI]
theorem bxS_B {b : Bx} {c : Cn} (hb : bxB b) (hc : cB c) : bxB (bxS b c) := by
  obtain ⟨b1, b2, b3, b4⟩ := hb
  obtain ⟨c1, c2⟩ := hc
  unfold bxB bxS
  dsimp only
  omega
theorem ct_meas_loop {p r : Nat} {cs : List Cn} {Q : mOut → mT → Prop} (bcs : ∀ c ∈ cs, cB c) :
    ∀ (rest pre : List Cn) (T : mT) (b : Bx), pre ++ rest = cs → PathR T p r cs → BxR T p b → bxB b →
      (∀ T2, PathR T2 p r cs → BxR T2 p (rest.foldl bxS b) → Fr (iv p (p + 1)) T T2 → Q (.inl none) T2) →
      XW 65 26 [some (.ref p), some (.int (iI pre.length))] [] T Q := by
  intro rest
  induction rest with
  | nil =>
    intro pre T b he hp hx hb hQ
    rw [List.append_nil] at he
    subst he
    have hc : iI (pre.length : Int) ≤ iI (pre.length : Int) := by rw [iI_leN (by have := hp.2.2.1; have := hp.1.2.2.2.2.2.2.2; omega) (by have := hp.2.2.1; have := hp.1.2.2.2.2.2.2.2; omega)]; omega
    simp only [e_65_26, e_65_27, e_65_27_n, e_65_28, e_65_31, e_65_108, XB_i, XB_n, va_rf_s, va_rf_n, mSI_K, mSI_I, mSI_J, mSI_P, mSI_N, mSJ_K, mSJ_I, mSJ_J, mSJ_P, mSJ_N, mSP_K, mSP_I, mSP_J, mSP_P, mSP_N, mNn, mNi, mNr, mN0, al20, al21, al22, al23, al25, true_or, or_true, and_self, if_true, if_false, mCat_n, mCat_i, mCat_r, mCat_l, mCat_0, Nat.reduceAdd, Nat.reduceLeDiff, Nat.reduceLT, true_and, and_true, Nat.zero_le, bI_01, hp.1.1, hp.2.1, hc]
    exact hQ T hp hx Fr.rf
  | cons c rest ih =>
    intro pre T b he hp hx hb hQ
    obtain ⟨⟨h1, h2, h3, h4, h5, h6, h7, h8⟩, g1, g2, g3⟩ := id hp
    have hlen : pre.length + (rest.length + 1) = cs.length := by rw [← he]; simp
    have hc : ¬ iI (cs.length : Int) ≤ iI (pre.length : Int) := by rw [iI_leN (by omega) (by omega)]; omega
    have hcat : cs[pre.length]? = some c := by rw [← he, List.getElem?_append_right (by omega), Nat.sub_self]; rfl
    obtain ⟨k1, k2, k3⟩ := g3 pre.length c hcat
    obtain ⟨x1, x2, x3, x4⟩ := id hx
    obtain ⟨⟨b1, b2⟩, ⟨b3, b4⟩, ⟨b5, b6⟩, b7, b8⟩ := id hb
    obtain ⟨⟨c1, c2⟩, c3, c4⟩ := bcs c (List.mem_of_getElem? hcat)
    rw [e_65_26]
    simp (maxSteps := 4000000) (disch := first | (simp (disch := omega) only [XB_i, XB_n, va_rf_s, va_rf_n, mSI_K, mSI_I, mSI_J, mSI_P, mSI_N, mSJ_K, mSJ_I, mSJ_J, mSJ_P, mSJ_N, mSP_K, mSP_I, mSP_J, mSP_P, mSP_N, mNn, mNi, mNr, mN0, al20, al21, al22, al23, al25, true_or, or_true, and_self, if_true, if_false, mCat_n, mCat_i, mCat_r, mCat_l, mCat_0, Nat.reduceAdd, Nat.reduceLeDiff, Nat.reduceLT, true_and, and_true, Nat.zero_le, bI_01, mInB_J, mInB_Z, mInB_N, h1, h2, h3, h5, h6, g1, k1, k2, x1, x2, x3, x4]; done) | omega | (unfold R32 at *; omega)) only [e_65_0, e_65_0_n, e_65_1, e_65_4, e_65_7, e_65_7_n, e_65_8, e_65_11, e_65_14, e_65_14_n, e_65_15, e_65_16, e_65_19, e_65_19_n, e_65_20, e_65_21, e_65_24, e_65_25, e_65_27, e_65_27_n, e_65_28, e_65_31, e_65_34, e_65_34_n, e_65_35, e_65_35_n, e_65_36, e_65_39, e_65_39_n, e_65_40, e_65_43, e_65_44, e_65_48, e_65_51, e_65_51_n, e_65_52, e_65_52_n, e_65_53, e_65_56, e_65_56_n, e_65_57, e_65_60, e_65_61, e_65_65, e_65_68, e_65_68_n, e_65_69, e_65_69_n, e_65_70, e_65_73, e_65_73_n, e_65_74, e_65_77, e_65_78, e_65_82, e_65_85, e_65_85_n, e_65_86, e_65_86_n, e_65_87, e_65_90, e_65_90_n, e_65_91, e_65_94, e_65_95, e_65_99, e_65_102, e_65_105, e_65_108, d_65_45, d_65_62, d_65_79, d_65_96, XB_i, XB_n, va_rf_s, va_rf_n, mSI_K, mSI_I, mSI_J, mSI_P, mSI_N, mSJ_K, mSJ_I, mSJ_J, mSJ_P, mSJ_N, mSP_K, mSP_I, mSP_J, mSP_P, mSP_N, mNn, mNi, mNr, mN0, al20, al21, al22, al23, al25, true_or, or_true, and_self, if_true, if_false, mCat_n, mCat_i, mCat_r, mCat_l, mCat_0, Nat.reduceAdd, Nat.reduceLeDiff, Nat.reduceLT, true_and, and_true, Nat.zero_le, bI_01, bI_0, i10, tf0, iI_add, iI_sub, iI_mul, iI_neg, iI_add1, iI_sub1, iI_m1, nca, nc1, ncm1, iI_clJ, iI_cl0, iI_clN, Int.toNat_natCast, mU_n, mU_s, p_min, p_max, p_abs, ni_2, ni_3, ni_4, ni_7, ni_8, ni_9, ni_12, ni_24, ni_97, ni_100, ni_122, ni_200, ni_256, ni_4096, ni_5000, ni_9999, iI_lt, iI_le, iI_eq, iz_eq, iz_lt, iz_le, iz_gt, iz_ge, iy_eq, iy_lt, iy_le, iI_ltN, iI_leN, iI_eqN, if_pos, if_neg, h1, h2, h3, h5, h6, g1, k1, k2, x1, x2, x3, x4]
    refine XW_lv (ih (pre ++ [c]) _ (bxS b c) (by rw [← he]; simp) (((hp.fld (by omega)).fld (by omega)).fld (by omega) |>.fld (by omega)) ?_ (bxS_B hb (bcs c (List.mem_of_getElem? hcat))) (fun T2 h2 x2 f2 => hQ T2 h2 x2 (Fr.tr (Fr.iI (Fr.iI (Fr.iI (Fr.iI Fr.rf ?_) ?_) ?_) ?_) f2))) (by rw [List.length_append]; rfl)
    · exact ⟨by (simp (disch := omega) only [mSI_I, mSI_J, mSI_P, mSJ_I, mSJ_J, mSJ_P, mSP_I, mSP_J, mSP_P, mU_n, mU_s] <;> first | done | rfl | assumption), by (simp (disch := omega) only [mSI_I, mSI_J, mSI_P, mSJ_I, mSJ_J, mSJ_P, mSP_I, mSP_J, mSP_P, mU_n, mU_s] <;> first | done | rfl | assumption), by (simp (disch := omega) only [mSI_I, mSI_J, mSI_P, mSJ_I, mSJ_J, mSJ_P, mSP_I, mSP_J, mSP_P, mU_n, mU_s] <;> first | done | rfl | assumption), by (simp (disch := omega) only [mSI_I, mSI_J, mSI_P, mSJ_I, mSJ_J, mSJ_P, mSP_I, mSP_J, mSP_P, mU_n, mU_s] <;> first | done | rfl | assumption)⟩
    all_goals exact ⟨by omega, by omega⟩
theorem ct_path_measure {p r : Nat} {cs : List Cn} {T : mT} {Q : mOut → mT → Prop} (bcs : ∀ c ∈ cs, cB c) (hp : PathR T p r cs) (hQ : ∀ T2, PathR T2 p r cs → BxR T2 p (bxL cs) → Fr (iv p (p + 1)) T T2 → Q (.inl none) T2) : XW 65 0 [some (.ref p), none] [] T Q := by
  obtain ⟨⟨h1, h2, h3, h4, h5, h6, h7, h8⟩, g1, g2, g3⟩ := id hp
  simp (maxSteps := 4000000) (disch := first | (simp (disch := omega) only [XB_i, XB_n, va_rf_s, va_rf_n, mSI_K, mSI_I, mSI_J, mSI_P, mSI_N, mSJ_K, mSJ_I, mSJ_J, mSJ_P, mSJ_N, mSP_K, mSP_I, mSP_J, mSP_P, mSP_N, mNn, mNi, mNr, mN0, al20, al21, al22, al23, al25, true_or, or_true, and_self, if_true, if_false, mCat_n, mCat_i, mCat_r, mCat_l, mCat_0, Nat.reduceAdd, Nat.reduceLeDiff, Nat.reduceLT, true_and, and_true, Nat.zero_le, bI_01, mInB_J, mInB_Z, mInB_N, h1]; done) | omega | (unfold R32 at *; omega)) only [e_65_0, e_65_0_n, e_65_1, e_65_4, e_65_7, e_65_7_n, e_65_8, e_65_11, e_65_14, e_65_14_n, e_65_15, e_65_16, e_65_19, e_65_19_n, e_65_20, e_65_21, e_65_24, e_65_25, e_65_27, e_65_27_n, e_65_28, e_65_31, e_65_34, e_65_34_n, e_65_35, e_65_35_n, e_65_36, e_65_39, e_65_39_n, e_65_40, e_65_43, e_65_44, e_65_48, e_65_51, e_65_51_n, e_65_52, e_65_52_n, e_65_53, e_65_56, e_65_56_n, e_65_57, e_65_60, e_65_61, e_65_65, e_65_68, e_65_68_n, e_65_69, e_65_69_n, e_65_70, e_65_73, e_65_73_n, e_65_74, e_65_77, e_65_78, e_65_82, e_65_85, e_65_85_n, e_65_86, e_65_86_n, e_65_87, e_65_90, e_65_90_n, e_65_91, e_65_94, e_65_95, e_65_99, e_65_102, e_65_105, e_65_108, XB_i, XB_n, va_rf_s, va_rf_n, mSI_K, mSI_I, mSI_J, mSI_P, mSI_N, mSJ_K, mSJ_I, mSJ_J, mSJ_P, mSJ_N, mSP_K, mSP_I, mSP_J, mSP_P, mSP_N, mNn, mNi, mNr, mN0, al20, al21, al22, al23, al25, true_or, or_true, and_self, if_true, if_false, mCat_n, mCat_i, mCat_r, mCat_l, mCat_0, Nat.reduceAdd, Nat.reduceLeDiff, Nat.reduceLT, true_and, and_true, Nat.zero_le, bI_01, bI_0, i10, tf0, iI_add, iI_sub, iI_mul, iI_neg, iI_add1, iI_sub1, iI_m1, nca, nc1, ncm1, iI_clJ, iI_cl0, iI_clN, Int.toNat_natCast, mU_n, mU_s, p_min, p_max, p_abs, ni_2, ni_3, ni_4, ni_7, ni_8, ni_9, ni_12, ni_24, ni_97, ni_100, ni_122, ni_200, ni_256, ni_4096, ni_5000, ni_9999, iI_lt, iI_le, iI_eq, iz_eq, iz_lt, iz_le, iz_gt, iz_ge, iy_eq, iy_lt, iy_le, iI_ltN, iI_leN, iI_eqN, if_pos, if_neg, h1]
  refine ct_meas_loop bcs cs [] _ (4096, 0, 4096, 0) rfl (((hp.fld (by omega)).fld (by omega)).fld (by omega) |>.fld (by omega)) ?_ (by unfold bxB; dsimp only; omega) (fun T2 h2 x2 f2 => hQ T2 h2 x2 (Fr.tr (Fr.iI (Fr.iI (Fr.iI (Fr.iI Fr.rf ?_) ?_) ?_) ?_) f2))
  · exact ⟨by (simp (disch := omega) only [mSI_I, mSI_J, mSI_P, mSJ_I, mSJ_J, mSJ_P, mSP_I, mSP_J, mSP_P, mU_n, mU_s] <;> first | done | rfl | assumption), by (simp (disch := omega) only [mSI_I, mSI_J, mSI_P, mSJ_I, mSJ_J, mSJ_P, mSP_I, mSP_J, mSP_P, mU_n, mU_s] <;> first | done | rfl | assumption), by (simp (disch := omega) only [mSI_I, mSI_J, mSI_P, mSJ_I, mSJ_J, mSJ_P, mSP_I, mSP_J, mSP_P, mU_n, mU_s] <;> first | done | rfl | assumption), by (simp (disch := omega) only [mSI_I, mSI_J, mSI_P, mSJ_I, mSJ_J, mSJ_P, mSP_I, mSP_J, mSP_P, mU_n, mU_s] <;> first | done | rfl | assumption)⟩
  all_goals exact ⟨by omega, by omega⟩
