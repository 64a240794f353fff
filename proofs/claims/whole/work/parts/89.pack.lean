/-! Pack: what only reads -/
def b8 (x : Nat) : Int32 := (iI (x : Int)).toInt8.toInt32
theorem b8_key : ∀ x : Fin 256, b8 x.val &&& 255 = iI (x.val : Int) := by decide +kernel
theorem b8_255 {x : Nat} (h : x < 256) : b8 x &&& 255 = iI (x : Int) := b8_key ⟨x, h⟩
theorem b8_inj {x y : Nat} (hx : x < 256) (hy : y < 256) : (b8 x = b8 y) = (x = y) := by
  apply propext
  refine ⟨fun h => ?_, fun h => by rw [h]⟩
  have := congrArg (fun z => z &&& 255) h
  simp only [b8_255 hx, b8_255 hy] at this
  have := iI_inj ⟨by omega, by omega⟩ ⟨by omega, by omega⟩ this
  omega
/-- a tile of a pack: (place, z, tx, ty), its bytes -/
abbrev Te : Type := (Int × Int × Int × Int) × List Nat
def dT : Te := ((0, 0, 0, 0), [])
def tE (ts : List Te) (k : Nat) : Te := ts.getD k dT
def tb (ts : List Te) (k : Nat) : List Nat := (tE ts k).2
def fstN (ts : List Te) (k : Nat) : Nat := (fndP (fun j => decide (tb ts j = tb ts k)) k 0).getD k
def stF (ts : List Te) : Nat → Nat
  | 0 => 0
  | n + 1 => stF ts n + (if fstN ts n = n then (tb ts n).length else 0)
def shF (ts : List Te) : Nat → Nat
  | 0 => 0
  | n + 1 => shF ts n + (if fstN ts n = n then 0 else 1)
theorem shF_le (ts : List Te) : ∀ n, shF ts n ≤ n
  | 0 => Nat.le_refl 0
  | n + 1 => by unfold shF; have := shF_le ts n; split <;> omega
def PackK (T : mT) (p : Nat) : Prop := (T.1 p = (5, 0) ∧ T.2.2.2.1 p 1 = some (p + 1) ∧ T.2.2.2.1 p 2 = some (p + 2) ∧ T.1 (p + 1) = (8, 0)) ∧ (T.2.2.2.1 p 6 = some (p + 76) ∧ T.2.2.2.1 p 7 = some (p + 77) ∧ T.2.2.2.1 p 8 = some (p + 78) ∧ T.2.2.2.1 p 9 = some (p + 79) ∧ T.2.2.2.1 p 10 = some (p + 80) ∧ T.2.2.2.1 p 11 = some (p + 81) ∧ T.2.2.2.1 p 12 = some (p + 82) ∧ T.2.2.2.1 p 13 = some (p + 83)) ∧ (T.1 (p + 76) = (21, 100) ∧ T.1 (p + 77) = (21, 100) ∧ T.1 (p + 78) = (21, 100) ∧ T.1 (p + 79) = (21, 100) ∧ T.1 (p + 80) = (21, 100) ∧ T.1 (p + 81) = (21, 100) ∧ T.1 (p + 82) = (21, 100) ∧ T.1 (p + 83) = (20, 5000))
def TsR (T : mT) (p : Nat) (ts : List Te) (sf : Nat → Nat) : Prop := (∀ k, k < ts.length → T.2.1 (p + 76) k = iI (tE ts k).1.1) ∧ (∀ k, k < ts.length → T.2.1 (p + 77) k = iI (tE ts k).1.2.1) ∧ (∀ k, k < ts.length → T.2.1 (p + 78) k = iI (tE ts k).1.2.2.1) ∧ (∀ k, k < ts.length → T.2.1 (p + 79) k = iI (tE ts k).1.2.2.2) ∧ (∀ k, k < ts.length → T.2.1 (p + 80) k = iI (tb ts k).length) ∧ (∀ k, k < ts.length → T.2.1 (p + 81) k = iI (fstN ts k)) ∧ (∀ k, k < ts.length → T.2.1 (p + 82) k = iI (sf k)) ∧ (∀ k, k < ts.length → sf k + (tb ts k).length ≤ stF ts ts.length) ∧ (∀ k i, k < ts.length → i < (tb ts k).length → T.2.1 (p + 83) (sf k + i) = b8 ((tb ts k).getD i 0))
def PackN (T : mT) (p : Nat) (ts : List Te) : Prop := T.2.1 p 3 = iI ts.length ∧ ts.length ≤ 100 ∧ T.2.1 p 4 = iI (stF ts ts.length) ∧ stF ts ts.length ≤ 5000 ∧ T.2.1 p 5 = iI (shF ts ts.length)
/-- edition's number, region, features, tiles -/
abbrev Pk : Type := Int × Rg × List Ft × List Te
def PackR (T : mT) (p : Nat) (D : Pk) : Prop := PackK T p ∧ (∃ sf, TsR T p D.2.2.2 sf) ∧ PackN T p D.2.2.2 ∧ T.2.1 p 0 = iI D.1 ∧ RegR T (p + 1) D.2.1 ∧ EdR T (p + 2) D.2.2.1
theorem PackK.fr {S : Nat → Prop} {T T2 : mT} {p : Nat} (h : PackK T p) (hf : Fr S T T2) (hs : ¬ S p) : PackK T2 p := by
  unfold PackK
  rw [hf.1, hf.P hs]
  exact h
theorem TsR.fr {S : Nat → Prop} {T T2 : mT} {p : Nat} {ts : List Te} {sf : Nat → Nat} (h : TsR T p ts sf) (hf : Fr S T T2) (hs : ∀ b, iv (p + 76) (p + 84) b → ¬ S b) : TsR T2 p ts sf := by
  unfold TsR
  rw [hf.I (hs (p + 76) ⟨by omega, by omega⟩), hf.I (hs (p + 77) ⟨by omega, by omega⟩), hf.I (hs (p + 78) ⟨by omega, by omega⟩), hf.I (hs (p + 79) ⟨by omega, by omega⟩), hf.I (hs (p + 80) ⟨by omega, by omega⟩), hf.I (hs (p + 81) ⟨by omega, by omega⟩), hf.I (hs (p + 82) ⟨by omega, by omega⟩), hf.I (hs (p + 83) ⟨by omega, by omega⟩)]
  exact h
theorem PackR.fr {S : Nat → Prop} {T T2 : mT} {p : Nat} {D : Pk} (h : PackR T p D) (hf : Fr S T T2) (hs : ∀ b, iv p (p + 84) b → ¬ S b) : PackR T2 p D := by
  obtain ⟨h1, ⟨sf, h2⟩, h3, h4, h5, h6⟩ := h
  have s0 := hs p ⟨by omega, by omega⟩
  refine ⟨h1.fr hf s0, ⟨sf, h2.fr hf (fun b hb => hs b ⟨by have := hb.1; omega, by have := hb.2; omega⟩)⟩, by unfold PackN; rw [hf.I s0]; exact h3, by rw [hf.I s0]; exact h4, h5.fr hf (hs _ ⟨by omega, by omega⟩), h6.fr hf (fun b hb => hs b ⟨by have := hb.1; omega, by have := hb.2; omega⟩)⟩
def teOk (t : Te) : Prop := (0 ≤ t.1.1 ∧ t.1.1 ≤ 340) ∧ (0 ≤ t.1.2.1 ∧ t.1.2.1 ≤ 4) ∧ (0 ≤ t.1.2.2.1 ∧ t.1.2.2.1 ≤ 15) ∧ (0 ≤ t.1.2.2.2 ∧ t.1.2.2.2 ≤ 15) ∧ t.2.length ≤ 5880 ∧ ∀ x ∈ t.2, x < 256
def tsOk (ts : List Te) : Prop := ∀ k, k < ts.length → teOk (tE ts k)
theorem gD_lt {bs : List Nat} (h : ∀ x ∈ bs, x < 256) (i : Nat) : bs.getD i 0 < 256 := by
  rw [List.getD_eq_getElem?_getD]
  cases hg : bs[i]? with
  | none => simp
  | some x => exact h x (List.mem_of_getElem? hg)
theorem list_eq {a b : List Nat} (hl : a.length = b.length) : a = b ↔ ∀ j, j < a.length → a.getD j 0 = b.getD j 0 := by
  constructor
  · intro h j _; rw [h]
  · intro h
    apply List.ext_getElem hl
    intro i h1 h2
    have := h i h1
    rw [List.getD_eq_getElem?_getD, List.getD_eq_getElem?_getD, List.getElem?_eq_getElem h1, List.getElem?_eq_getElem h2] at this
    exact this
section PR
variable {T : mT} {Q : mOut → mT → Prop} {p p2 q o : Nat} {ts us : List Te} {sf sg : Nat → Nat}
theorem l_hasB {k st nq : Nat} {ys : List Nat} (hK : PackK T p) (hT : TsR T p ts sf) (hN : PackN T p ts) (ok : tsOk ts) (hk : k < ts.length) (hy : ∀ x ∈ ys, x < 256) (kq : T.1 q = (20, nq)) (hq : ∀ i, i < ys.length → T.2.1 q (st + i) = b8 (ys.getD i 0)) (hb : st + ys.length ≤ nq) (hn : nq ≤ 6000) (hl : (tb ts k).length = ys.length) : ∀ (n i : Nat), ys.length - i = n → i ≤ ys.length → XW 47 16 [some (.ref (p)), some (.int (iI ((k : Nat) : Int))), some (.ref (q)), some (.int (iI ((st : Nat) : Int))), some (.int (iI ((ys.length : Nat) : Int))), some (.int (iI ((i : Nat) : Int)))] [] T Q = Q (.inl (some (.int (bP (∀ j, i ≤ j → j < ys.length → (tb ts k).getD j 0 = ys.getD j 0))))) T := by
  intro n
  obtain ⟨⟨k1, k2, k3, k4⟩, ⟨r6, r7, r8, r9, r10, r11, r12, r13⟩, a6, a7, a8, a9, a10, a11, a12, a13⟩ := id hK
  obtain ⟨t1, t2, t3, t4, t5, t6, t7, t8, t9⟩ := id hT
  obtain ⟨n1, n2, n3, n4, n5⟩ := id hN
  have b7 := t7 k hk
  have b8' := t8 k hk
  have b9 := fun i => t9 k i hk
  induction n with
  | zero =>
    intro i hi h1
    rw [e_47_16]
    simp (maxSteps := 4000000) (disch := first | (simp (disch := omega) only [XB_i, XB_n, va_rf_s, va_rf_n, mSI_K, mSI_I, mSI_J, mSI_P, mSI_N, mSJ_K, mSJ_I, mSJ_J, mSJ_P, mSJ_N, mSP_K, mSP_I, mSP_J, mSP_P, mSP_N, mNn, mNi, mNr, mN0, al20, al21, al22, al23, al25, true_or, or_true, and_self, if_true, if_false, mCat_n, mCat_i, mCat_r, mCat_l, mCat_0, Nat.reduceAdd, Nat.reduceLeDiff, Nat.reduceLT, true_and, and_true, Nat.zero_le, bI_01, mInB_J, mInB_Z, mInB_N]; done) | omega | (unfold R32 at *; omega)) only [e_47_0, e_47_0_n, e_47_1, e_47_4, e_47_5, e_47_6, e_47_8, e_47_11, e_47_12, e_47_13, e_47_14, e_47_18, e_47_20, e_47_23, e_47_23_n, e_47_24, e_47_27, e_47_27_n, e_47_28, e_47_31, e_47_32, e_47_33, e_47_35, e_47_36, e_47_37, e_47_37_n, e_47_38, e_47_39, e_47_41, e_47_42, e_47_43, e_47_46, e_47_47, e_47_48, e_47_51, e_47_54, e_47_55, XB_i, XB_n, va_rf_s, va_rf_n, mSI_K, mSI_I, mSI_J, mSI_P, mSI_N, mSJ_K, mSJ_I, mSJ_J, mSJ_P, mSJ_N, mSP_K, mSP_I, mSP_J, mSP_P, mSP_N, mNn, mNi, mNr, mN0, al20, al21, al22, al23, al25, true_or, or_true, and_self, if_true, if_false, mCat_n, mCat_i, mCat_r, mCat_l, mCat_0, Nat.reduceAdd, Nat.reduceLeDiff, Nat.reduceLT, true_and, and_true, Nat.zero_le, bI_01, bI_0, i10, tf0, iI_add, iI_sub, iI_mul, iI_neg, iI_add1, iI_sub1, iI_m1, nca, nc1, ncm1, iI_clJ, iI_cl0, iI_clN, Int.toNat_natCast, mU_n, mU_s, p_min, p_max, p_abs, ni_2, ni_3, ni_4, ni_7, ni_8, ni_9, ni_12, ni_24, ni_97, ni_100, ni_122, ni_200, ni_256, ni_4096, ni_5000, ni_9999, iI_lt, iI_le, iI_eq, iz_eq, iz_lt, iz_le, iz_gt, iz_ge, iy_eq, iy_lt, iy_le, iI_ltN, iI_leN, iI_eqN, if_pos, if_neg]
    rw [bP_t (by intro j h1 h2; omega)]
  | succ n ih =>
    intro i hi h1
    have i1 := ih (i + 1) (by omega) (by omega)
    have x1 := gD_lt (ok k hk).2.2.2.2.2 i
    have x2 := gD_lt hy i
    have bi := @b8_inj ((tb ts k).getD i 0) (ys.getD i 0) x1 x2
    rw [e_47_16]
    simp (maxSteps := 4000000) (disch := first | (simp (disch := omega) only [XB_i, XB_n, va_rf_s, va_rf_n, mSI_K, mSI_I, mSI_J, mSI_P, mSI_N, mSJ_K, mSJ_I, mSJ_J, mSJ_P, mSJ_N, mSP_K, mSP_I, mSP_J, mSP_P, mSP_N, mNn, mNi, mNr, mN0, al20, al21, al22, al23, al25, true_or, or_true, and_self, if_true, if_false, mCat_n, mCat_i, mCat_r, mCat_l, mCat_0, Nat.reduceAdd, Nat.reduceLeDiff, Nat.reduceLT, true_and, and_true, Nat.zero_le, bI_01, mInB_J, mInB_Z, mInB_N, k1, r12, r13, a12, a13, b7, b9, kq, hq, bi, i1]; done) | omega | (unfold R32 at *; omega)) only [e_47_0, e_47_0_n, e_47_1, e_47_4, e_47_5, e_47_6, e_47_8, e_47_11, e_47_12, e_47_13, e_47_14, e_47_18, e_47_20, e_47_23, e_47_23_n, e_47_24, e_47_27, e_47_27_n, e_47_28, e_47_31, e_47_32, e_47_33, e_47_35, e_47_36, e_47_37, e_47_37_n, e_47_38, e_47_39, e_47_41, e_47_42, e_47_43, e_47_46, e_47_47, e_47_48, e_47_51, e_47_54, e_47_55, XB_i, XB_n, va_rf_s, va_rf_n, mSI_K, mSI_I, mSI_J, mSI_P, mSI_N, mSJ_K, mSJ_I, mSJ_J, mSJ_P, mSJ_N, mSP_K, mSP_I, mSP_J, mSP_P, mSP_N, mNn, mNi, mNr, mN0, al20, al21, al22, al23, al25, true_or, or_true, and_self, if_true, if_false, mCat_n, mCat_i, mCat_r, mCat_l, mCat_0, Nat.reduceAdd, Nat.reduceLeDiff, Nat.reduceLT, true_and, and_true, Nat.zero_le, bI_01, bI_0, i10, tf0, iI_add, iI_sub, iI_mul, iI_neg, iI_add1, iI_sub1, iI_m1, nca, nc1, ncm1, iI_clJ, iI_cl0, iI_clN, Int.toNat_natCast, mU_n, mU_s, p_min, p_max, p_abs, ni_2, ni_3, ni_4, ni_7, ni_8, ni_9, ni_12, ni_24, ni_97, ni_100, ni_122, ni_200, ni_256, ni_4096, ni_5000, ni_9999, iI_lt, iI_le, iI_eq, iz_eq, iz_lt, iz_le, iz_gt, iz_ge, iy_eq, iy_lt, iy_le, iI_ltN, iI_leN, iI_eqN, if_pos, if_neg, k1, r12, r13, a12, a13, b7, b9, kq, hq, bi, i1]
    by_cases e : (tb ts k).getD i 0 = ys.getD i 0
    · rw [if_pos e, bP_c]
      exact ⟨fun h j h1 h2 => by rcases Nat.eq_or_lt_of_le h1 with z | z; rw [← z]; exact e; exact h j z h2, fun h j h1 h2 => h j (by omega) h2⟩
    · rw [if_neg e, bP_f (fun h => e (h i (Nat.le_refl i) (by omega)))]
theorem p_hasB {k st nq : Nat} {ys : List Nat} (hK : PackK T p) (hT : TsR T p ts sf) (hN : PackN T p ts) (ok : tsOk ts) (hk : k < ts.length) (hy : ∀ x ∈ ys, x < 256) (kq : T.1 q = (20, nq)) (hq : ∀ i, i < ys.length → T.2.1 q (st + i) = b8 (ys.getD i 0)) (hb : st + ys.length ≤ nq) (hn : nq ≤ 6000) : XW 47 0 [some (.ref (p)), some (.int (iI ((k : Nat) : Int))), some (.ref (q)), some (.int (iI ((st : Nat) : Int))), some (.int (iI ((ys.length : Nat) : Int))), none] [] T Q = Q (.inl (some (.int (bI (decide (tb ts k = ys)))))) T := by
  obtain ⟨⟨k1, k2, k3, k4⟩, ⟨r6, r7, r8, r9, r10, r11, r12, r13⟩, a6, a7, a8, a9, a10, a11, a12, a13⟩ := id hK
  obtain ⟨t1, t2, t3, t4, t5, t6, t7, t8, t9⟩ := id hT
  have hbl : (tb ts k).length ≤ 5880 := (ok k hk).2.2.2.2.1
  have n2 := hN.2.1
  by_cases e : (tb ts k).length = ys.length
  · simp (maxSteps := 4000000) (disch := first | (simp (disch := omega) only [XB_i, XB_n, va_rf_s, va_rf_n, mSI_K, mSI_I, mSI_J, mSI_P, mSI_N, mSJ_K, mSJ_I, mSJ_J, mSJ_P, mSJ_N, mSP_K, mSP_I, mSP_J, mSP_P, mSP_N, mNn, mNi, mNr, mN0, al20, al21, al22, al23, al25, true_or, or_true, and_self, if_true, if_false, mCat_n, mCat_i, mCat_r, mCat_l, mCat_0, Nat.reduceAdd, Nat.reduceLeDiff, Nat.reduceLT, true_and, and_true, Nat.zero_le, bI_01, mInB_J, mInB_Z, mInB_N, k1, r10, a10, t5]; done) | omega | (unfold R32 at *; omega)) only [e_47_0, e_47_0_n, e_47_1, e_47_4, e_47_5, e_47_6, e_47_8, e_47_11, e_47_12, e_47_13, e_47_14, e_47_18, e_47_20, e_47_23, e_47_23_n, e_47_24, e_47_27, e_47_27_n, e_47_28, e_47_31, e_47_32, e_47_33, e_47_35, e_47_36, e_47_37, e_47_37_n, e_47_38, e_47_39, e_47_41, e_47_42, e_47_43, e_47_46, e_47_47, e_47_48, e_47_51, e_47_54, e_47_55, XB_i, XB_n, va_rf_s, va_rf_n, mSI_K, mSI_I, mSI_J, mSI_P, mSI_N, mSJ_K, mSJ_I, mSJ_J, mSJ_P, mSJ_N, mSP_K, mSP_I, mSP_J, mSP_P, mSP_N, mNn, mNi, mNr, mN0, al20, al21, al22, al23, al25, true_or, or_true, and_self, if_true, if_false, mCat_n, mCat_i, mCat_r, mCat_l, mCat_0, Nat.reduceAdd, Nat.reduceLeDiff, Nat.reduceLT, true_and, and_true, Nat.zero_le, bI_01, bI_0, i10, tf0, iI_add, iI_sub, iI_mul, iI_neg, iI_add1, iI_sub1, iI_m1, nca, nc1, ncm1, iI_clJ, iI_cl0, iI_clN, Int.toNat_natCast, mU_n, mU_s, p_min, p_max, p_abs, ni_2, ni_3, ni_4, ni_7, ni_8, ni_9, ni_12, ni_24, ni_97, ni_100, ni_122, ni_200, ni_256, ni_4096, ni_5000, ni_9999, iI_lt, iI_le, iI_eq, iz_eq, iz_lt, iz_le, iz_gt, iz_ge, iy_eq, iy_lt, iy_le, iI_ltN, iI_leN, iI_eqN, if_pos, if_neg, k1, r10, a10, t5]
    refine (l_hasB hK hT hN ok hk hy kq hq hb hn e _ 0 rfl (by omega)).trans ?_
    congr 4
    by_cases z : tb ts k = ys
    · rw [decide_eq_true z, bP_t (fun j _ hj => by rw [z])]; rfl
    · rw [decide_eq_false z, bP_f (fun h => z ((list_eq e).mpr (fun j hj => h j (by omega) (by omega))))]; rfl
  · have z : ¬ tb ts k = ys := fun h => e (by rw [h])
    simp (maxSteps := 4000000) (disch := first | (simp (disch := omega) only [XB_i, XB_n, va_rf_s, va_rf_n, mSI_K, mSI_I, mSI_J, mSI_P, mSI_N, mSJ_K, mSJ_I, mSJ_J, mSJ_P, mSJ_N, mSP_K, mSP_I, mSP_J, mSP_P, mSP_N, mNn, mNi, mNr, mN0, al20, al21, al22, al23, al25, true_or, or_true, and_self, if_true, if_false, mCat_n, mCat_i, mCat_r, mCat_l, mCat_0, Nat.reduceAdd, Nat.reduceLeDiff, Nat.reduceLT, true_and, and_true, Nat.zero_le, bI_01, mInB_J, mInB_Z, mInB_N, k1, r10, a10, t5]; done) | omega | (unfold R32 at *; omega)) only [e_47_0, e_47_0_n, e_47_1, e_47_4, e_47_5, e_47_6, e_47_8, e_47_11, e_47_12, e_47_13, e_47_14, e_47_18, e_47_20, e_47_23, e_47_23_n, e_47_24, e_47_27, e_47_27_n, e_47_28, e_47_31, e_47_32, e_47_33, e_47_35, e_47_36, e_47_37, e_47_37_n, e_47_38, e_47_39, e_47_41, e_47_42, e_47_43, e_47_46, e_47_47, e_47_48, e_47_51, e_47_54, e_47_55, XB_i, XB_n, va_rf_s, va_rf_n, mSI_K, mSI_I, mSI_J, mSI_P, mSI_N, mSJ_K, mSJ_I, mSJ_J, mSJ_P, mSJ_N, mSP_K, mSP_I, mSP_J, mSP_P, mSP_N, mNn, mNi, mNr, mN0, al20, al21, al22, al23, al25, true_or, or_true, and_self, if_true, if_false, mCat_n, mCat_i, mCat_r, mCat_l, mCat_0, Nat.reduceAdd, Nat.reduceLeDiff, Nat.reduceLT, true_and, and_true, Nat.zero_le, bI_01, bI_0, i10, tf0, iI_add, iI_sub, iI_mul, iI_neg, iI_add1, iI_sub1, iI_m1, nca, nc1, ncm1, iI_clJ, iI_cl0, iI_clN, Int.toNat_natCast, mU_n, mU_s, p_min, p_max, p_abs, ni_2, ni_3, ni_4, ni_7, ni_8, ni_9, ni_12, ni_24, ni_97, ni_100, ni_122, ni_200, ni_256, ni_4096, ni_5000, ni_9999, iI_lt, iI_le, iI_eq, iz_eq, iz_lt, iz_le, iz_gt, iz_ge, iy_eq, iy_lt, iy_le, iI_ltN, iI_leN, iI_eqN, if_pos, if_neg, k1, r10, a10, t5]
    rw [decide_eq_false z]
    rfl
theorem oct_gD {bs : List Nat} (ho : OctR T o bs) : ∀ i, i < bs.length → T.2.1 (o + 1) (0 + i) = b8 (bs.getD i 0) := by
  intro i hi
  rw [Nat.zero_add, ho.2.2.2.2.2 i (bs.getD i 0) (by rw [List.getD_eq_getElem?_getD, List.getElem?_eq_getElem hi]; rfl)]
  rfl
def fwN (ts : List Te) (bs : List Nat) : Nat := (fndP (fun k => decide (tb ts k = bs)) ts.length 0).getD ts.length
theorem l_first {bs : List Nat} (hK : PackK T p) (hT : TsR T p ts sf) (hN : PackN T p ts) (ok : tsOk ts) (ho : OctR T o bs) (hb : ∀ x ∈ bs, x < 256) : ∀ (n i : Nat), ts.length - i = n → i ≤ ts.length → XW 46 2 [some (.ref (p)), some (.ref (o)), some (.int (iI ((i : Nat) : Int)))] [] T Q = Q (.inl (some (.int (iI (((fndP (fun k => decide (tb ts k = bs)) n i).getD ts.length : Nat) : Int))))) T := by
  intro n
  have k1 := hK.1.1
  obtain ⟨n1, n2, n3, n4, n5⟩ := id hN
  obtain ⟨o1, o2, o3, o4, o5, o6⟩ := id ho
  induction n with
  | zero =>
    intro i hi h1
    rw [e_46_2]
    simp (maxSteps := 4000000) (disch := first | (simp (disch := omega) only [XB_i, XB_n, va_rf_s, va_rf_n, mSI_K, mSI_I, mSI_J, mSI_P, mSI_N, mSJ_K, mSJ_I, mSJ_J, mSJ_P, mSJ_N, mSP_K, mSP_I, mSP_J, mSP_P, mSP_N, mNn, mNi, mNr, mN0, al20, al21, al22, al23, al25, true_or, or_true, and_self, if_true, if_false, mCat_n, mCat_i, mCat_r, mCat_l, mCat_0, Nat.reduceAdd, Nat.reduceLeDiff, Nat.reduceLT, true_and, and_true, Nat.zero_le, bI_01, mInB_J, mInB_Z, mInB_N, k1, n1]; done) | omega | (unfold R32 at *; omega)) only [e_46_0, e_46_1, e_46_3, e_46_3_n, e_46_4, e_46_7, e_46_10, e_46_10_n, e_46_11, e_46_12, e_46_12_n, e_46_13, e_46_16, e_46_17, e_46_17_n, e_46_18, e_46_24, e_46_27, e_46_28, e_46_29, e_46_32, e_46_35, e_46_35_n, e_46_36, e_46_39, XB_i, XB_n, va_rf_s, va_rf_n, mSI_K, mSI_I, mSI_J, mSI_P, mSI_N, mSJ_K, mSJ_I, mSJ_J, mSJ_P, mSJ_N, mSP_K, mSP_I, mSP_J, mSP_P, mSP_N, mNn, mNi, mNr, mN0, al20, al21, al22, al23, al25, true_or, or_true, and_self, if_true, if_false, mCat_n, mCat_i, mCat_r, mCat_l, mCat_0, Nat.reduceAdd, Nat.reduceLeDiff, Nat.reduceLT, true_and, and_true, Nat.zero_le, bI_01, bI_0, i10, tf0, iI_add, iI_sub, iI_mul, iI_neg, iI_add1, iI_sub1, iI_m1, nca, nc1, ncm1, iI_clJ, iI_cl0, iI_clN, Int.toNat_natCast, mU_n, mU_s, p_min, p_max, p_abs, ni_2, ni_3, ni_4, ni_7, ni_8, ni_9, ni_12, ni_24, ni_97, ni_100, ni_122, ni_200, ni_256, ni_4096, ni_5000, ni_9999, iI_lt, iI_le, iI_eq, iz_eq, iz_lt, iz_le, iz_gt, iz_ge, iy_eq, iy_lt, iy_le, iI_ltN, iI_leN, iI_eqN, if_pos, if_neg, k1, n1]
    rfl
  | succ n ih =>
    intro i hi h1
    have i1 := ih (i + 1) (by omega) (by omega)
    have ph := fun Q => @p_hasB T Q p (o + 1) ts sf i 0 5880 bs hK hT hN ok (by omega) hb o3 (oct_gD ho) (by omega) (by omega)
    have e0 : iI ((0 : Nat) : Int) = 0 := rfl
    rw [e0] at ph
    rw [e_46_2]
    show _ = Q (.inl (some (.int (iI (((if decide (tb ts i = bs) = true then some i else fndP (fun k => decide (tb ts k = bs)) n (i + 1)).getD ts.length : Nat) : Int))))) T
    simp (maxSteps := 4000000) (disch := first | (simp (disch := omega) only [XB_i, XB_n, va_rf_s, va_rf_n, mSI_K, mSI_I, mSI_J, mSI_P, mSI_N, mSJ_K, mSJ_I, mSJ_J, mSJ_P, mSJ_N, mSP_K, mSP_I, mSP_J, mSP_P, mSP_N, mNn, mNi, mNr, mN0, al20, al21, al22, al23, al25, true_or, or_true, and_self, if_true, if_false, mCat_n, mCat_i, mCat_r, mCat_l, mCat_0, Nat.reduceAdd, Nat.reduceLeDiff, Nat.reduceLT, true_and, and_true, Nat.zero_le, bI_01, mInB_J, mInB_Z, mInB_N, k1, n1, o1, o2, o4, ph, i1]; done) | omega | (unfold R32 at *; omega)) only [e_46_0, e_46_1, e_46_3, e_46_3_n, e_46_4, e_46_7, e_46_10, e_46_10_n, e_46_11, e_46_12, e_46_12_n, e_46_13, e_46_16, e_46_17, e_46_17_n, e_46_18, e_46_24, e_46_27, e_46_28, e_46_29, e_46_32, e_46_35, e_46_35_n, e_46_36, e_46_39, d_46_21, XB_i, XB_n, va_rf_s, va_rf_n, mSI_K, mSI_I, mSI_J, mSI_P, mSI_N, mSJ_K, mSJ_I, mSJ_J, mSJ_P, mSJ_N, mSP_K, mSP_I, mSP_J, mSP_P, mSP_N, mNn, mNi, mNr, mN0, al20, al21, al22, al23, al25, true_or, or_true, and_self, if_true, if_false, mCat_n, mCat_i, mCat_r, mCat_l, mCat_0, Nat.reduceAdd, Nat.reduceLeDiff, Nat.reduceLT, true_and, and_true, Nat.zero_le, bI_01, bI_0, i10, tf0, iI_add, iI_sub, iI_mul, iI_neg, iI_add1, iI_sub1, iI_m1, nca, nc1, ncm1, iI_clJ, iI_cl0, iI_clN, Int.toNat_natCast, mU_n, mU_s, p_min, p_max, p_abs, ni_2, ni_3, ni_4, ni_7, ni_8, ni_9, ni_12, ni_24, ni_97, ni_100, ni_122, ni_200, ni_256, ni_4096, ni_5000, ni_9999, iI_lt, iI_le, iI_eq, iz_eq, iz_lt, iz_le, iz_gt, iz_ge, iy_eq, iy_lt, iy_le, iI_ltN, iI_leN, iI_eqN, if_pos, if_neg, k1, n1, o1, o2, o4, ph, i1]
    by_cases e : tb ts i = bs
    · rw [decide_eq_true e]; simp
    · rw [decide_eq_false e]; simp
theorem p_first {bs : List Nat} (hK : PackK T p) (hT : TsR T p ts sf) (hN : PackN T p ts) (ok : tsOk ts) (ho : OctR T o bs) (hb : ∀ x ∈ bs, x < 256) : XW 46 0 [some (.ref (p)), some (.ref (o)), none] [] T Q = Q (.inl (some (.int (iI ((fwN ts bs : Nat) : Int))))) T := by
  simp (maxSteps := 4000000) (disch := first | (simp (disch := omega) only [XB_i, XB_n, va_rf_s, va_rf_n, mSI_K, mSI_I, mSI_J, mSI_P, mSI_N, mSJ_K, mSJ_I, mSJ_J, mSJ_P, mSJ_N, mSP_K, mSP_I, mSP_J, mSP_P, mSP_N, mNn, mNi, mNr, mN0, al20, al21, al22, al23, al25, true_or, or_true, and_self, if_true, if_false, mCat_n, mCat_i, mCat_r, mCat_l, mCat_0, Nat.reduceAdd, Nat.reduceLeDiff, Nat.reduceLT, true_and, and_true, Nat.zero_le, bI_01, mInB_J, mInB_Z, mInB_N]; done) | omega | (unfold R32 at *; omega)) only [e_46_0, e_46_1, XB_i, XB_n, va_rf_s, va_rf_n, mSI_K, mSI_I, mSI_J, mSI_P, mSI_N, mSJ_K, mSJ_I, mSJ_J, mSJ_P, mSJ_N, mSP_K, mSP_I, mSP_J, mSP_P, mSP_N, mNn, mNi, mNr, mN0, al20, al21, al22, al23, al25, true_or, or_true, and_self, if_true, if_false, mCat_n, mCat_i, mCat_r, mCat_l, mCat_0, Nat.reduceAdd, Nat.reduceLeDiff, Nat.reduceLT, true_and, and_true, Nat.zero_le, bI_01, bI_0, i10, tf0, iI_add, iI_sub, iI_mul, iI_neg, iI_add1, iI_sub1, iI_m1, nca, nc1, ncm1, iI_clJ, iI_cl0, iI_clN, Int.toNat_natCast, mU_n, mU_s, p_min, p_max, p_abs, ni_2, ni_3, ni_4, ni_7, ni_8, ni_9, ni_12, ni_24, ni_97, ni_100, ni_122, ni_200, ni_256, ni_4096, ni_5000, ni_9999, iI_lt, iI_le, iI_eq, iz_eq, iz_lt, iz_le, iz_gt, iz_ge, iy_eq, iy_lt, iy_le, iI_ltN, iI_leN, iI_eqN, if_pos, if_neg]
  exact l_first hK hT hN ok ho hb _ 0 rfl (by omega)
theorem p_sameB {k j : Nat} (hK : PackK T p) (hT : TsR T p ts sf) (hN : PackN T p ts) (ok : tsOk ts) (hK2 : PackK T p2) (hT2 : TsR T p2 us sg) (hN2 : PackN T p2 us) (ok2 : tsOk us) (hk : k < ts.length) (hj : j < us.length) : XW 48 0 [some (.ref (p)), some (.int (iI ((k : Nat) : Int))), some (.ref (p2)), some (.int (iI ((j : Nat) : Int)))] [] T Q = Q (.inl (some (.int (bI (decide (tb ts k = tb us j)))))) T := by
  obtain ⟨⟨k1, k2, k3, k4⟩, ⟨r6, r7, r8, r9, r10, r11, r12, r13⟩, a6, a7, a8, a9, a10, a11, a12, a13⟩ := id hK2
  obtain ⟨t1, t2, t3, t4, t5, t6, t7, t8, t9⟩ := id hT2
  obtain ⟨n1, n2, n3, n4, n5⟩ := id hN2
  have kp := hK.1.1
  have b8' := t8 j hj
  have ph := fun Q => @p_hasB T Q p (p2 + 83) ts sf k (sg j) 5000 (tb us j) hK hT hN ok hk (ok2 j hj).2.2.2.2.2 a13 (fun i hi => t9 j i hj hi) (by omega) (by omega)
  simp (maxSteps := 4000000) (disch := first | (simp (disch := omega) only [XB_i, XB_n, va_rf_s, va_rf_n, mSI_K, mSI_I, mSI_J, mSI_P, mSI_N, mSJ_K, mSJ_I, mSJ_J, mSJ_P, mSJ_N, mSP_K, mSP_I, mSP_J, mSP_P, mSP_N, mNn, mNi, mNr, mN0, al20, al21, al22, al23, al25, true_or, or_true, and_self, if_true, if_false, mCat_n, mCat_i, mCat_r, mCat_l, mCat_0, Nat.reduceAdd, Nat.reduceLeDiff, Nat.reduceLT, true_and, and_true, Nat.zero_le, bI_01, mInB_J, mInB_Z, mInB_N, k1, kp, r10, r12, r13, a10, a12, t5, t7, ph]; done) | omega | (unfold R32 at *; omega)) only [e_48_0, e_48_0_n, e_48_1, e_48_2, e_48_2_n, e_48_3, e_48_6, e_48_6_n, e_48_7, e_48_10, e_48_11, e_48_12, e_48_12_n, e_48_13, e_48_16, e_48_17, e_48_21, d_48_18, XB_i, XB_n, va_rf_s, va_rf_n, mSI_K, mSI_I, mSI_J, mSI_P, mSI_N, mSJ_K, mSJ_I, mSJ_J, mSJ_P, mSJ_N, mSP_K, mSP_I, mSP_J, mSP_P, mSP_N, mNn, mNi, mNr, mN0, al20, al21, al22, al23, al25, true_or, or_true, and_self, if_true, if_false, mCat_n, mCat_i, mCat_r, mCat_l, mCat_0, Nat.reduceAdd, Nat.reduceLeDiff, Nat.reduceLT, true_and, and_true, Nat.zero_le, bI_01, bI_0, i10, tf0, iI_add, iI_sub, iI_mul, iI_neg, iI_add1, iI_sub1, iI_m1, nca, nc1, ncm1, iI_clJ, iI_cl0, iI_clN, Int.toNat_natCast, mU_n, mU_s, p_min, p_max, p_abs, ni_2, ni_3, ni_4, ni_7, ni_8, ni_9, ni_12, ni_24, ni_97, ni_100, ni_122, ni_200, ni_256, ni_4096, ni_5000, ni_9999, iI_lt, iI_le, iI_eq, iz_eq, iz_lt, iz_le, iz_gt, iz_ge, iy_eq, iy_lt, iy_le, iI_ltN, iI_leN, iI_eqN, if_pos, if_neg, k1, kp, r10, r12, r13, a10, a12, t5, t7, ph]
theorem p_packAt {k : Nat} {pl : Int} (hK : PackK T p) (hT : TsR T p ts sf) (hN : PackN T p ts) (ok : tsOk ts) (hk : k ≤ 200) (hp : 0 ≤ pl ∧ pl ≤ 341) : XW 49 0 [some (.ref (p)), some (.int (iI ((k : Nat) : Int))), some (.int (iI (pl)))] [] T Q = Q (.inl (some (.int (bI (decide (k < ts.length) && decide ((tE ts k).1.1 = pl)))))) T := by
  obtain ⟨⟨k1, k2, k3, k4⟩, ⟨r6, r7, r8, r9, r10, r11, r12, r13⟩, a6, a7, a8, a9, a10, a11, a12, a13⟩ := id hK
  obtain ⟨t1, t2, t3, t4, t5, t6, t7, t8, t9⟩ := id hT
  obtain ⟨n1, n2, n3, n4, n5⟩ := id hN
  by_cases e : k < ts.length
  · have bp := (ok k e).1
    simp (maxSteps := 4000000) (disch := first | (simp (disch := omega) only [XB_i, XB_n, va_rf_s, va_rf_n, mSI_K, mSI_I, mSI_J, mSI_P, mSI_N, mSJ_K, mSJ_I, mSJ_J, mSJ_P, mSJ_N, mSP_K, mSP_I, mSP_J, mSP_P, mSP_N, mNn, mNi, mNr, mN0, al20, al21, al22, al23, al25, true_or, or_true, and_self, if_true, if_false, mCat_n, mCat_i, mCat_r, mCat_l, mCat_0, Nat.reduceAdd, Nat.reduceLeDiff, Nat.reduceLT, true_and, and_true, Nat.zero_le, bI_01, mInB_J, mInB_Z, mInB_N, k1, n1, r6, a6, t1]; done) | omega | (unfold R32 at *; omega)) only [e_49_0, e_49_1, e_49_1_n, e_49_2, e_49_5, e_49_8, e_49_8_n, e_49_9, e_49_12, e_49_13, e_49_14, e_49_15, e_49_18, e_49_19, e_49_22, e_49_23, XB_i, XB_n, va_rf_s, va_rf_n, mSI_K, mSI_I, mSI_J, mSI_P, mSI_N, mSJ_K, mSJ_I, mSJ_J, mSJ_P, mSJ_N, mSP_K, mSP_I, mSP_J, mSP_P, mSP_N, mNn, mNi, mNr, mN0, al20, al21, al22, al23, al25, true_or, or_true, and_self, if_true, if_false, mCat_n, mCat_i, mCat_r, mCat_l, mCat_0, Nat.reduceAdd, Nat.reduceLeDiff, Nat.reduceLT, true_and, and_true, Nat.zero_le, bI_01, bI_0, i10, tf0, iI_add, iI_sub, iI_mul, iI_neg, iI_add1, iI_sub1, iI_m1, nca, nc1, ncm1, iI_clJ, iI_cl0, iI_clN, Int.toNat_natCast, mU_n, mU_s, p_min, p_max, p_abs, ni_2, ni_3, ni_4, ni_7, ni_8, ni_9, ni_12, ni_24, ni_97, ni_100, ni_122, ni_200, ni_256, ni_4096, ni_5000, ni_9999, iI_lt, iI_le, iI_eq, iz_eq, iz_lt, iz_le, iz_gt, iz_ge, iy_eq, iy_lt, iy_le, iI_ltN, iI_leN, iI_eqN, if_pos, if_neg, k1, n1, r6, a6, t1]
    by_cases e2 : (tE ts k).1.1 = pl <;> simp [e, e2, bI]
  · simp (maxSteps := 4000000) (disch := first | (simp (disch := omega) only [XB_i, XB_n, va_rf_s, va_rf_n, mSI_K, mSI_I, mSI_J, mSI_P, mSI_N, mSJ_K, mSJ_I, mSJ_J, mSJ_P, mSJ_N, mSP_K, mSP_I, mSP_J, mSP_P, mSP_N, mNn, mNi, mNr, mN0, al20, al21, al22, al23, al25, true_or, or_true, and_self, if_true, if_false, mCat_n, mCat_i, mCat_r, mCat_l, mCat_0, Nat.reduceAdd, Nat.reduceLeDiff, Nat.reduceLT, true_and, and_true, Nat.zero_le, bI_01, mInB_J, mInB_Z, mInB_N, k1, n1]; done) | omega | (unfold R32 at *; omega)) only [e_49_0, e_49_1, e_49_1_n, e_49_2, e_49_5, e_49_8, e_49_8_n, e_49_9, e_49_12, e_49_13, e_49_14, e_49_15, e_49_18, e_49_19, e_49_22, e_49_23, XB_i, XB_n, va_rf_s, va_rf_n, mSI_K, mSI_I, mSI_J, mSI_P, mSI_N, mSJ_K, mSJ_I, mSJ_J, mSJ_P, mSJ_N, mSP_K, mSP_I, mSP_J, mSP_P, mSP_N, mNn, mNi, mNr, mN0, al20, al21, al22, al23, al25, true_or, or_true, and_self, if_true, if_false, mCat_n, mCat_i, mCat_r, mCat_l, mCat_0, Nat.reduceAdd, Nat.reduceLeDiff, Nat.reduceLT, true_and, and_true, Nat.zero_le, bI_01, bI_0, i10, tf0, iI_add, iI_sub, iI_mul, iI_neg, iI_add1, iI_sub1, iI_m1, nca, nc1, ncm1, iI_clJ, iI_cl0, iI_clN, Int.toNat_natCast, mU_n, mU_s, p_min, p_max, p_abs, ni_2, ni_3, ni_4, ni_7, ni_8, ni_9, ni_12, ni_24, ni_97, ni_100, ni_122, ni_200, ni_256, ni_4096, ni_5000, ni_9999, iI_lt, iI_le, iI_eq, iz_eq, iz_lt, iz_le, iz_gt, iz_ge, iy_eq, iy_lt, iy_le, iI_ltN, iI_leN, iI_eqN, if_pos, if_neg, k1, n1]
    simp [e, bI]
def lkP (R R2 : Rg) (ts us : List Te) : Prop := R = R2 ∧ ts.length = us.length ∧ ∀ k, k < ts.length → (tE ts k).1.1 = (tE us k).1.1 ∧ tb ts k = tb us k
theorem l_like (hK : PackK T p) (hT : TsR T p ts sf) (hN : PackN T p ts) (ok : tsOk ts) (hK2 : PackK T p2) (hT2 : TsR T p2 us sg) (hN2 : PackN T p2 us) (ok2 : tsOk us) (hl : ts.length = us.length) : ∀ (n i : Nat), ts.length - i = n → i ≤ ts.length → XW 50 29 [some (.ref (p)), some (.ref (p2)), some (.int (iI ((i : Nat) : Int)))] [] T Q = Q (.inl (some (.int (bP (∀ k, i ≤ k → k < ts.length → (tE ts k).1.1 = (tE us k).1.1 ∧ tb ts k = tb us k))))) T := by
  intro n
  obtain ⟨⟨k1, k2, k3, k4⟩, ⟨r6, r7, r8, r9, r10, r11, r12, r13⟩, a6, a7, a8, a9, a10, a11, a12, a13⟩ := id hK
  obtain ⟨t1, t2, t3, t4, t5, t6, t7, t8, t9⟩ := id hT
  obtain ⟨n1, n2, n3, n4, n5⟩ := id hN
  obtain ⟨⟨K1, K2, K3, K4⟩, ⟨R6, R7, R8, R9, R10, R11, R12, R13⟩, A6, A7, A8, A9, A10, A11, A12, A13⟩ := id hK2
  obtain ⟨U1, U2, U3, U4, U5, U6, U7, U8, U9⟩ := id hT2
  induction n with
  | zero =>
    intro i hi h1
    rw [e_50_29]
    simp (maxSteps := 4000000) (disch := first | (simp (disch := omega) only [XB_i, XB_n, va_rf_s, va_rf_n, mSI_K, mSI_I, mSI_J, mSI_P, mSI_N, mSJ_K, mSJ_I, mSJ_J, mSJ_P, mSJ_N, mSP_K, mSP_I, mSP_J, mSP_P, mSP_N, mNn, mNi, mNr, mN0, al20, al21, al22, al23, al25, true_or, or_true, and_self, if_true, if_false, mCat_n, mCat_i, mCat_r, mCat_l, mCat_0, Nat.reduceAdd, Nat.reduceLeDiff, Nat.reduceLT, true_and, and_true, Nat.zero_le, bI_01, mInB_J, mInB_Z, mInB_N, k1, n1]; done) | omega | (unfold R32 at *; omega)) only [e_50_0, e_50_0_n, e_50_1, e_50_4, e_50_4_n, e_50_5, e_50_11, e_50_14, e_50_14_n, e_50_15, e_50_18, e_50_18_n, e_50_19, e_50_22, e_50_25, e_50_26, e_50_27, e_50_28, e_50_30, e_50_30_n, e_50_31, e_50_34, e_50_37, e_50_37_n, e_50_38, e_50_41, e_50_42, e_50_43, e_50_43_n, e_50_44, e_50_47, e_50_48, e_50_49, e_50_52, e_50_52_n, e_50_53, e_50_54, e_50_54_n, e_50_55, e_50_59, e_50_62, e_50_63, e_50_64, e_50_67, e_50_70, e_50_71, XB_i, XB_n, va_rf_s, va_rf_n, mSI_K, mSI_I, mSI_J, mSI_P, mSI_N, mSJ_K, mSJ_I, mSJ_J, mSJ_P, mSJ_N, mSP_K, mSP_I, mSP_J, mSP_P, mSP_N, mNn, mNi, mNr, mN0, al20, al21, al22, al23, al25, true_or, or_true, and_self, if_true, if_false, mCat_n, mCat_i, mCat_r, mCat_l, mCat_0, Nat.reduceAdd, Nat.reduceLeDiff, Nat.reduceLT, true_and, and_true, Nat.zero_le, bI_01, bI_0, i10, tf0, iI_add, iI_sub, iI_mul, iI_neg, iI_add1, iI_sub1, iI_m1, nca, nc1, ncm1, iI_clJ, iI_cl0, iI_clN, Int.toNat_natCast, mU_n, mU_s, p_min, p_max, p_abs, ni_2, ni_3, ni_4, ni_7, ni_8, ni_9, ni_12, ni_24, ni_97, ni_100, ni_122, ni_200, ni_256, ni_4096, ni_5000, ni_9999, iI_lt, iI_le, iI_eq, iz_eq, iz_lt, iz_le, iz_gt, iz_ge, iy_eq, iy_lt, iy_le, iI_ltN, iI_leN, iI_eqN, if_pos, if_neg, k1, n1]
    rw [bP_t (by intro j h1 h2; omega)]
  | succ n ih =>
    intro i hi h1
    have i1 := ih (i + 1) (by omega) (by omega)
    have p1 := (ok i (by omega)).1
    have p2' := (ok2 i (by omega)).1
    have ps := fun Q => @p_sameB T Q p p2 ts us sf sg i i hK hT hN ok hK2 hT2 hN2 ok2 (by omega) (by omega)
    rw [e_50_29]
    simp (maxSteps := 4000000) (disch := first | (simp (disch := omega) only [XB_i, XB_n, va_rf_s, va_rf_n, mSI_K, mSI_I, mSI_J, mSI_P, mSI_N, mSJ_K, mSJ_I, mSJ_J, mSJ_P, mSJ_N, mSP_K, mSP_I, mSP_J, mSP_P, mSP_N, mNn, mNi, mNr, mN0, al20, al21, al22, al23, al25, true_or, or_true, and_self, if_true, if_false, mCat_n, mCat_i, mCat_r, mCat_l, mCat_0, Nat.reduceAdd, Nat.reduceLeDiff, Nat.reduceLT, true_and, and_true, Nat.zero_le, bI_01, mInB_J, mInB_Z, mInB_N, k1, n1, r6, a6, t1, K1, R6, A6, U1, ps, i1]; done) | omega | (unfold R32 at *; omega)) only [e_50_0, e_50_0_n, e_50_1, e_50_4, e_50_4_n, e_50_5, e_50_11, e_50_14, e_50_14_n, e_50_15, e_50_18, e_50_18_n, e_50_19, e_50_22, e_50_25, e_50_26, e_50_27, e_50_28, e_50_30, e_50_30_n, e_50_31, e_50_34, e_50_37, e_50_37_n, e_50_38, e_50_41, e_50_42, e_50_43, e_50_43_n, e_50_44, e_50_47, e_50_48, e_50_49, e_50_52, e_50_52_n, e_50_53, e_50_54, e_50_54_n, e_50_55, e_50_59, e_50_62, e_50_63, e_50_64, e_50_67, e_50_70, e_50_71, d_50_8, d_50_56, XB_i, XB_n, va_rf_s, va_rf_n, mSI_K, mSI_I, mSI_J, mSI_P, mSI_N, mSJ_K, mSJ_I, mSJ_J, mSJ_P, mSJ_N, mSP_K, mSP_I, mSP_J, mSP_P, mSP_N, mNn, mNi, mNr, mN0, al20, al21, al22, al23, al25, true_or, or_true, and_self, if_true, if_false, mCat_n, mCat_i, mCat_r, mCat_l, mCat_0, Nat.reduceAdd, Nat.reduceLeDiff, Nat.reduceLT, true_and, and_true, Nat.zero_le, bI_01, bI_0, i10, tf0, iI_add, iI_sub, iI_mul, iI_neg, iI_add1, iI_sub1, iI_m1, nca, nc1, ncm1, iI_clJ, iI_cl0, iI_clN, Int.toNat_natCast, mU_n, mU_s, p_min, p_max, p_abs, ni_2, ni_3, ni_4, ni_7, ni_8, ni_9, ni_12, ni_24, ni_97, ni_100, ni_122, ni_200, ni_256, ni_4096, ni_5000, ni_9999, iI_lt, iI_le, iI_eq, iz_eq, iz_lt, iz_le, iz_gt, iz_ge, iy_eq, iy_lt, iy_le, iI_ltN, iI_leN, iI_eqN, if_pos, if_neg, k1, n1, r6, a6, t1, K1, R6, A6, U1, ps, i1]
    by_cases e : (tE ts i).1.1 = (tE us i).1.1
    · rw [if_pos e]
      by_cases e2 : tb ts i = tb us i
      · rw [decide_eq_true e2, if_neg (by decide), bP_c]
        exact ⟨fun h j h1 h2 => by rcases Nat.eq_or_lt_of_le h1 with z | z; rw [← z]; exact ⟨e, e2⟩; exact h j z h2, fun h j h1 h2 => h j (by omega) h2⟩
      · rw [decide_eq_false e2, if_pos rfl, bP_f (fun h => e2 (h i (Nat.le_refl i) (by omega)).2)]
    · rw [if_neg e, bP_f (fun h => e (h i (Nat.le_refl i) (by omega)).1)]
theorem p_like {R R2 : Rg} (hK : PackK T p) (hT : TsR T p ts sf) (hN : PackN T p ts) (ok : tsOk ts) (hK2 : PackK T p2) (hT2 : TsR T p2 us sg) (hN2 : PackN T p2 us) (ok2 : tsOk us) (hR : RegR T (p + 1) R) (hR2 : RegR T (p2 + 1) R2) (bR : RgB R) (bR2 : RgB R2) : XW 50 0 [some (.ref (p)), some (.ref (p2)), none] [] T Q = Q (.inl (some (.int (bP (lkP R R2 ts us))))) T := by
  obtain ⟨k1, k2, k3, k4⟩ := hK.1
  obtain ⟨K1, K2, K3, K4⟩ := hK2.1
  obtain ⟨n1, n2, n3, n4, n5⟩ := id hN
  obtain ⟨N1, N2, N3, N4, N5⟩ := id hN2
  have pr := fun Q => @p_regLike T Q (p + 1) (p2 + 1) R R2 hR hR2 bR bR2
  by_cases e : R = R2
  · have de := decide_eq_true e
    by_cases e2 : ts.length = us.length
    · simp (maxSteps := 4000000) (disch := first | (simp (disch := omega) only [XB_i, XB_n, va_rf_s, va_rf_n, mSI_K, mSI_I, mSI_J, mSI_P, mSI_N, mSJ_K, mSJ_I, mSJ_J, mSJ_P, mSJ_N, mSP_K, mSP_I, mSP_J, mSP_P, mSP_N, mNn, mNi, mNr, mN0, al20, al21, al22, al23, al25, true_or, or_true, and_self, if_true, if_false, mCat_n, mCat_i, mCat_r, mCat_l, mCat_0, Nat.reduceAdd, Nat.reduceLeDiff, Nat.reduceLT, true_and, and_true, Nat.zero_le, bI_01, mInB_J, mInB_Z, mInB_N, k1, k2, k4, n1, K1, K2, N1, pr, de]; done) | omega | (unfold R32 at *; omega)) only [e_50_0, e_50_0_n, e_50_1, e_50_4, e_50_4_n, e_50_5, e_50_11, e_50_14, e_50_14_n, e_50_15, e_50_18, e_50_18_n, e_50_19, e_50_22, e_50_25, e_50_26, e_50_27, e_50_28, e_50_30, e_50_30_n, e_50_31, e_50_34, e_50_37, e_50_37_n, e_50_38, e_50_41, e_50_42, e_50_43, e_50_43_n, e_50_44, e_50_47, e_50_48, e_50_49, e_50_52, e_50_52_n, e_50_53, e_50_54, e_50_54_n, e_50_55, e_50_59, e_50_62, e_50_63, e_50_64, e_50_67, e_50_70, e_50_71, d_50_8, XB_i, XB_n, va_rf_s, va_rf_n, mSI_K, mSI_I, mSI_J, mSI_P, mSI_N, mSJ_K, mSJ_I, mSJ_J, mSJ_P, mSJ_N, mSP_K, mSP_I, mSP_J, mSP_P, mSP_N, mNn, mNi, mNr, mN0, al20, al21, al22, al23, al25, true_or, or_true, and_self, if_true, if_false, mCat_n, mCat_i, mCat_r, mCat_l, mCat_0, Nat.reduceAdd, Nat.reduceLeDiff, Nat.reduceLT, true_and, and_true, Nat.zero_le, bI_01, bI_0, i10, tf0, iI_add, iI_sub, iI_mul, iI_neg, iI_add1, iI_sub1, iI_m1, nca, nc1, ncm1, iI_clJ, iI_cl0, iI_clN, Int.toNat_natCast, mU_n, mU_s, p_min, p_max, p_abs, ni_2, ni_3, ni_4, ni_7, ni_8, ni_9, ni_12, ni_24, ni_97, ni_100, ni_122, ni_200, ni_256, ni_4096, ni_5000, ni_9999, iI_lt, iI_le, iI_eq, iz_eq, iz_lt, iz_le, iz_gt, iz_ge, iy_eq, iy_lt, iy_le, iI_ltN, iI_leN, iI_eqN, if_pos, if_neg, k1, k2, k4, n1, K1, K2, N1, pr, de]
      refine (l_like hK hT hN ok hK2 hT2 hN2 ok2 e2 _ 0 rfl (by omega)).trans ?_
      rw [bP_c]
      exact ⟨fun h => ⟨e, e2, fun k hk => h k (by omega) hk⟩, fun h k _ hk => h.2.2 k hk⟩
    · simp (maxSteps := 4000000) (disch := first | (simp (disch := omega) only [XB_i, XB_n, va_rf_s, va_rf_n, mSI_K, mSI_I, mSI_J, mSI_P, mSI_N, mSJ_K, mSJ_I, mSJ_J, mSJ_P, mSJ_N, mSP_K, mSP_I, mSP_J, mSP_P, mSP_N, mNn, mNi, mNr, mN0, al20, al21, al22, al23, al25, true_or, or_true, and_self, if_true, if_false, mCat_n, mCat_i, mCat_r, mCat_l, mCat_0, Nat.reduceAdd, Nat.reduceLeDiff, Nat.reduceLT, true_and, and_true, Nat.zero_le, bI_01, mInB_J, mInB_Z, mInB_N, k1, k2, k4, n1, K1, K2, N1, pr, de]; done) | omega | (unfold R32 at *; omega)) only [e_50_0, e_50_0_n, e_50_1, e_50_4, e_50_4_n, e_50_5, e_50_11, e_50_14, e_50_14_n, e_50_15, e_50_18, e_50_18_n, e_50_19, e_50_22, e_50_25, e_50_26, e_50_27, e_50_28, e_50_30, e_50_30_n, e_50_31, e_50_34, e_50_37, e_50_37_n, e_50_38, e_50_41, e_50_42, e_50_43, e_50_43_n, e_50_44, e_50_47, e_50_48, e_50_49, e_50_52, e_50_52_n, e_50_53, e_50_54, e_50_54_n, e_50_55, e_50_59, e_50_62, e_50_63, e_50_64, e_50_67, e_50_70, e_50_71, d_50_8, XB_i, XB_n, va_rf_s, va_rf_n, mSI_K, mSI_I, mSI_J, mSI_P, mSI_N, mSJ_K, mSJ_I, mSJ_J, mSJ_P, mSJ_N, mSP_K, mSP_I, mSP_J, mSP_P, mSP_N, mNn, mNi, mNr, mN0, al20, al21, al22, al23, al25, true_or, or_true, and_self, if_true, if_false, mCat_n, mCat_i, mCat_r, mCat_l, mCat_0, Nat.reduceAdd, Nat.reduceLeDiff, Nat.reduceLT, true_and, and_true, Nat.zero_le, bI_01, bI_0, i10, tf0, iI_add, iI_sub, iI_mul, iI_neg, iI_add1, iI_sub1, iI_m1, nca, nc1, ncm1, iI_clJ, iI_cl0, iI_clN, Int.toNat_natCast, mU_n, mU_s, p_min, p_max, p_abs, ni_2, ni_3, ni_4, ni_7, ni_8, ni_9, ni_12, ni_24, ni_97, ni_100, ni_122, ni_200, ni_256, ni_4096, ni_5000, ni_9999, iI_lt, iI_le, iI_eq, iz_eq, iz_lt, iz_le, iz_gt, iz_ge, iy_eq, iy_lt, iy_le, iI_ltN, iI_leN, iI_eqN, if_pos, if_neg, k1, k2, k4, n1, K1, K2, N1, pr, de]
      rw [bP_f (fun h => e2 h.2.1)]
  · have de := decide_eq_false e
    simp (maxSteps := 4000000) (disch := first | (simp (disch := omega) only [XB_i, XB_n, va_rf_s, va_rf_n, mSI_K, mSI_I, mSI_J, mSI_P, mSI_N, mSJ_K, mSJ_I, mSJ_J, mSJ_P, mSJ_N, mSP_K, mSP_I, mSP_J, mSP_P, mSP_N, mNn, mNi, mNr, mN0, al20, al21, al22, al23, al25, true_or, or_true, and_self, if_true, if_false, mCat_n, mCat_i, mCat_r, mCat_l, mCat_0, Nat.reduceAdd, Nat.reduceLeDiff, Nat.reduceLT, true_and, and_true, Nat.zero_le, bI_01, mInB_J, mInB_Z, mInB_N, k1, k2, k4, n1, K1, K2, N1, pr, de]; done) | omega | (unfold R32 at *; omega)) only [e_50_0, e_50_0_n, e_50_1, e_50_4, e_50_4_n, e_50_5, e_50_11, e_50_14, e_50_14_n, e_50_15, e_50_18, e_50_18_n, e_50_19, e_50_22, e_50_25, e_50_26, e_50_27, e_50_28, e_50_30, e_50_30_n, e_50_31, e_50_34, e_50_37, e_50_37_n, e_50_38, e_50_41, e_50_42, e_50_43, e_50_43_n, e_50_44, e_50_47, e_50_48, e_50_49, e_50_52, e_50_52_n, e_50_53, e_50_54, e_50_54_n, e_50_55, e_50_59, e_50_62, e_50_63, e_50_64, e_50_67, e_50_70, e_50_71, d_50_8, XB_i, XB_n, va_rf_s, va_rf_n, mSI_K, mSI_I, mSI_J, mSI_P, mSI_N, mSJ_K, mSJ_I, mSJ_J, mSJ_P, mSJ_N, mSP_K, mSP_I, mSP_J, mSP_P, mSP_N, mNn, mNi, mNr, mN0, al20, al21, al22, al23, al25, true_or, or_true, and_self, if_true, if_false, mCat_n, mCat_i, mCat_r, mCat_l, mCat_0, Nat.reduceAdd, Nat.reduceLeDiff, Nat.reduceLT, true_and, and_true, Nat.zero_le, bI_01, bI_0, i10, tf0, iI_add, iI_sub, iI_mul, iI_neg, iI_add1, iI_sub1, iI_m1, nca, nc1, ncm1, iI_clJ, iI_cl0, iI_clN, Int.toNat_natCast, mU_n, mU_s, p_min, p_max, p_abs, ni_2, ni_3, ni_4, ni_7, ni_8, ni_9, ni_12, ni_24, ni_97, ni_100, ni_122, ni_200, ni_256, ni_4096, ni_5000, ni_9999, iI_lt, iI_le, iI_eq, iz_eq, iz_lt, iz_le, iz_gt, iz_ge, iy_eq, iy_lt, iy_le, iI_ltN, iI_leN, iI_eqN, if_pos, if_neg, k1, k2, k4, n1, K1, K2, N1, pr, de]
    rw [bP_f (fun h => e h.1)]
end PR
