/-! Path: a list of corners (x, y, does a piece begin) -/
abbrev Cn : Type := Int × Int × Bool
def PK (T : mT) (p r : Nat) : Prop := T.1 p = (7, 0) ∧ T.2.2.2.1 p 0 = some (p + 1) ∧ T.2.2.2.1 p 1 = some (p + 2) ∧ T.2.2.2.1 p 2 = some (p + 3) ∧ T.1 (p + 1) = (21, r) ∧ T.1 (p + 2) = (21, r) ∧ T.1 (p + 3) = (23, r) ∧ r ≤ 1000
def cAt (T : mT) (p j : Nat) (c : Cn) : Prop := T.2.1 (p + 1) j = iI c.1 ∧ T.2.1 (p + 2) j = iI c.2.1 ∧ T.2.1 (p + 3) j = bI c.2.2
def PathR (T : mT) (p r : Nat) (cs : List Cn) : Prop := PK T p r ∧ T.2.1 p 3 = iI cs.length ∧ cs.length ≤ r ∧ ∀ (j : Nat) (c : Cn), cs[j]? = some c → cAt T p j c
/-- the coordinates are small -/
def cB (c : Cn) : Prop := (-8192 ≤ c.1 ∧ c.1 ≤ 8192) ∧ (-8192 ≤ c.2.1 ∧ c.2.1 ≤ 8192)
theorem cB.x {c : Cn} (h : cB c) : R32 c.1 := ⟨by have := h.1; omega, by have := h.1; omega⟩
theorem cB.y {c : Cn} (h : cB c) : R32 c.2.1 := ⟨by have := h.2; omega, by have := h.2; omega⟩
theorem PK.fr {S : Nat → Prop} {T T2 : mT} {p r : Nat} (h : PK T p r) (hf : Fr S T T2) (hs : ¬ S p) : PK T2 p r := by
  obtain ⟨h1, h2, h3, h4, h5, h6, h7, h8⟩ := h
  exact ⟨by rw [hf.K]; exact h1, by rw [hf.P hs]; exact h2, by rw [hf.P hs]; exact h3, by rw [hf.P hs]; exact h4, by rw [hf.K]; exact h5, by rw [hf.K]; exact h6, by rw [hf.K]; exact h7, h8⟩
theorem cAt.fr {S : Nat → Prop} {T T2 : mT} {p j : Nat} {c : Cn} (h : cAt T p j c) (hf : Fr S T T2) (hs : ∀ b, iv (p + 1) (p + 4) b → ¬ S b) : cAt T2 p j c := ⟨by rw [hf.I (hs _ ⟨by omega, by omega⟩)]; exact h.1, by rw [hf.I (hs _ ⟨by omega, by omega⟩)]; exact h.2.1, by rw [hf.I (hs _ ⟨by omega, by omega⟩)]; exact h.2.2⟩
theorem PathR.fr {S : Nat → Prop} {T T2 : mT} {p r : Nat} {cs : List Cn} (h : PathR T p r cs) (hf : Fr S T T2) (hs : ∀ b, iv p (p + 4) b → ¬ S b) : PathR T2 p r cs := ⟨h.1.fr hf (hs p ⟨by omega, by omega⟩), by rw [hf.I (hs p ⟨by omega, by omega⟩)]; exact h.2.1, h.2.2.1, fun j c hc => (h.2.2.2 j c hc).fr hf (fun b hb => hs b ⟨by have := hb.1; omega, hb.2⟩)⟩
theorem iI_clN {n : Nat} (h : n < 2147483648) : (iI (n : Int)).toNatClampNeg = n := by rw [iI_cl (by omega) (by omega)]; omega
theorem mInB_N {j n : Nat} (h : j < n) (hn : n ≤ 100000) : mInB (iI (j : Int)) n = true := mInB_i (by omega) (by omega) (by omega)
theorem iI_1N (n : Nat) : iI (n : Int) + 1 = iI ((n + 1 : Nat) : Int) := by rw [iI_1, iI_add]; rfl
theorem iI_m1N {n : Nat} (h : 1 ≤ n) : iI (n : Int) - 1 = iI ((n - 1 : Nat) : Int) := by rw [iI_1, iI_sub]; congr 1; omega
theorem iI_leN {a b : Nat} (ha : a < 2147483648) (hb : b < 2147483648) : (iI (a : Int) ≤ iI (b : Int)) = (a ≤ b) := by rw [iI_le ⟨by omega, by omega⟩ ⟨by omega, by omega⟩]; exact propext ⟨fun h => by omega, fun h => by omega⟩
theorem iI_ltN {a b : Nat} (ha : a < 2147483648) (hb : b < 2147483648) : (iI (a : Int) < iI (b : Int)) = (a < b) := by rw [iI_lt ⟨by omega, by omega⟩ ⟨by omega, by omega⟩]; exact propext ⟨fun h => by omega, fun h => by omega⟩
theorem iI_eqN {a b : Nat} (ha : a < 2147483648) (hb : b < 2147483648) : (iI (a : Int) = iI (b : Int)) = (a = b) := by rw [iI_eq ⟨by omega, by omega⟩ ⟨by omega, by omega⟩]; exact propext ⟨fun h => by omega, fun h => by omega⟩
theorem iI_eq0 {a : Nat} (ha : a < 2147483648) : (iI (a : Int) = 0) = (a = 0) := iI_eqN (b := 0) ha (by omega)
theorem getE_app {α : Type} {l : List α} {c y : α} {j : Nat} (h : (l ++ [c])[j]? = some y) : (j < l.length ∧ l[j]? = some y) ∨ (j = l.length ∧ y = c) := by
  by_cases hj : j < l.length
  · rw [List.getElem?_append_left hj] at h
    exact Or.inl ⟨hj, h⟩
  · rw [List.getElem?_append_right (by omega)] at h
    have hz : j - l.length < 1 := (List.getElem?_eq_some_iff.mp h).1
    rw [show j - l.length = 0 by omega] at h
    cases h
    exact Or.inr ⟨by omega, rfl⟩
theorem ct_path_add {T : mT} {Q : mOut → mT → Prop} {p r : Nat} {cs : List Cn} {c : Cn} (h : PathR T p r cs) (hl : cs.length < r) (hQ : ∀ T2, PathR T2 p r (cs ++ [c]) → Fr (iv p (p + 4)) T T2 → Q (.inl none) T2) : XW 57 0 [some (.ref p), some (.int (iI c.1)), some (.int (iI c.2.1)), some (.int (bI c.2.2))] [] T Q := by
  obtain ⟨⟨h1, h2, h3, h4, h5, h6, h7, h8⟩, g1, g2, g3⟩ := h
  have hin : mInB (iI (cs.length : Int)) r = true := mInB_N hl (by omega)
  have hcl : (iI (cs.length : Int)).toNatClampNeg = cs.length := iI_clN (by omega)
  have hlt : ¬ iI (r : Int) ≤ iI (cs.length : Int) := by rw [iI_leN (by omega) (by omega)]; omega
  have n1 : ¬ (p = p + 1 ∧ 3 = cs.length) := by omega
  have n2 : ¬ (p = p + 2 ∧ 3 = cs.length) := by omega
  have n3 : ¬ (p = p + 3 ∧ 3 = cs.length) := by omega
  simp only [e_57_0, e_57_0_n, e_57_1, e_57_4, e_57_4_n, e_57_5, e_57_8, e_57_9, e_57_12, e_57_12_n, e_57_13, e_57_16, e_57_16_n, e_57_17, e_57_20, e_57_21, e_57_22, e_57_22_n, e_57_23, e_57_26, e_57_26_n, e_57_27, e_57_30, e_57_31, e_57_32, e_57_32_n, e_57_33, e_57_36, e_57_36_n, e_57_37, e_57_40, e_57_41, e_57_41_z, e_57_42, e_57_42_n, e_57_43, e_57_43_i, e_57_44, e_57_47, e_57_48, e_57_49, e_57_52, XB_i, XB_n, va_rf_s, va_rf_n, mSI_K, mSI_I, mSI_J, mSI_P, mSI_N, mSJ_K, mSJ_I, mSJ_J, mSJ_P, mSJ_N, mSP_K, mSP_I, mSP_J, mSP_P, mSP_N, mNn, mNi, mNr, mN0, al20, al21, al22, al23, al25, true_or, or_true, and_self, if_true, if_false, mCat_n, mCat_i, mCat_r, mCat_l, mCat_0, Nat.reduceAdd, Nat.reduceLeDiff, Nat.reduceLT, true_and, and_true, Nat.zero_le, bI_01, h1, h2, h3, h4, h5, h6, h7, g1, nI_i, hin, hcl, hlt, mU_n _ _ n1, mU_n _ _ n2, mU_n _ _ n3]
  refine hQ _ ⟨⟨h1, h2, h3, h4, h5, h6, h7, h8⟩, ?_, by simp; omega, ?_⟩ ?_
  · simp only [mSI_I, mU_s]
    rw [iI_1N, List.length_append]
    rfl
  · intro j y hy
    rcases getE_app hy with ⟨hj, hy2⟩ | ⟨hj, hy2⟩
    · obtain ⟨k1, k2, k3⟩ := g3 j y hy2
      refine ⟨?_, ?_, ?_⟩
      · simp only [mSI_I]; rw [mU_n _ _ (by omega), mU_n _ _ (by omega), mU_n _ _ (by omega), mU_n _ _ (by omega)]; exact k1
      · simp only [mSI_I]; rw [mU_n _ _ (by omega), mU_n _ _ (by omega), mU_n _ _ (by omega), mU_n _ _ (by omega)]; exact k2
      · simp only [mSI_I]; rw [mU_n _ _ (by omega), mU_n _ _ (by omega), mU_n _ _ (by omega), mU_n _ _ (by omega)]; exact k3
    · subst hj
      subst hy2
      refine ⟨?_, ?_, ?_⟩
      · simp only [mSI_I]; rw [mU_n _ _ (by omega), mU_n _ _ (by omega), mU_n _ _ (by omega), mU_s]
      · simp only [mSI_I]; rw [mU_n _ _ (by omega), mU_n _ _ (by omega), mU_s]
      · simp only [mSI_I]; rw [mU_n _ _ (by omega), mU_s]
  · exact Fr.iI (Fr.iI (Fr.iI (Fr.iI Fr.rf ⟨by omega, by omega⟩) ⟨by omega, by omega⟩) ⟨by omega, by omega⟩) ⟨by omega, by omega⟩
/-- two corners in one place -/
def sameC (c d : Cn) : Bool := decide (c.1 = d.1) && decide (c.2.1 = d.2.1)
theorem ct_path_same {T : mT} {Q : mOut → mT → Prop} {p r i j : Nat} {c d : Cn} (h : PK T p r) (hi : i < r) (hj : j < r) (hc : cAt T p i c) (hd : cAt T p j d) (bc : cB c) (bd : cB d) (hQ : Q (.inl (some (.int (bI (sameC c d))))) T) : XW 58 0 [some (.ref p), some (.int (iI i)), some (.int (iI j))] [] T Q := by
  obtain ⟨h1, h2, h3, h4, h5, h6, h7, h8⟩ := h
  have i1 : mInB (iI (i : Int)) r = true := mInB_N hi (by omega)
  have i2 : mInB (iI (j : Int)) r = true := mInB_N hj (by omega)
  have k1 : (iI (i : Int)).toNatClampNeg = i := iI_clN (by omega)
  have k2 : (iI (j : Int)).toNatClampNeg = j := iI_clN (by omega)
  have e01 : (0 : Int32) = 0 ∨ (0 : Int32) = 1 := Or.inl rfl
  have e11 : (1 : Int32) = 0 ∨ (1 : Int32) = 1 := Or.inr rfl
  simp only [e_58_0, e_58_0_n, e_58_1, e_58_4, e_58_5, e_58_6, e_58_6_n, e_58_7, e_58_10, e_58_11, e_58_12, e_58_15, e_58_15_n, e_58_16, e_58_19, e_58_20, e_58_21, e_58_21_n, e_58_22, e_58_25, e_58_26, e_58_27, e_58_30, e_58_31, e_58_34, e_58_35, XB_i, XB_n, va_rf_s, va_rf_n, mSI_K, mSI_I, mSI_J, mSI_P, mSI_N, mSJ_K, mSJ_I, mSJ_J, mSJ_P, mSJ_N, mSP_K, mSP_I, mSP_J, mSP_P, mSP_N, mNn, mNi, mNr, mN0, al20, al21, al22, al23, al25, true_or, or_true, and_self, if_true, if_false, mCat_n, mCat_i, mCat_r, mCat_l, mCat_0, Nat.reduceAdd, Nat.reduceLeDiff, Nat.reduceLT, true_and, and_true, Nat.zero_le, bI_01, h1, h2, h3, h5, h6, i1, i2, k1, k2, hc.1, hc.2.1, hd.1, hd.2.1, iI_eq bc.x bd.x, iI_eq bc.y bd.y, e01, e11]
  unfold sameC at hQ
  by_cases q1 : c.1 = d.1
  · rw [if_pos q1]
    by_cases q2 : c.2.1 = d.2.1
    · rw [if_pos q2]; simpa [q1, q2, bI] using hQ
    · rw [if_neg q2]; simpa [q1, q2, bI] using hQ
  · rw [if_neg q1]; simpa [q1, bI] using hQ
theorem ct_path_move {T : mT} {Q : mOut → mT → Prop} {p r i j : Nat} {c : Cn} (h : PK T p r) (hi : i < r) (hj : j < r) (hc : cAt T p i c) (hQ : ∀ T2, PK T2 p r → T2.2.1 p = T.2.1 p → cAt T2 p j c → (∀ k d, k ≠ j → cAt T p k d → cAt T2 p k d) → Fr (iv p (p + 4)) T T2 → Q (.inl none) T2) : XW 59 0 [some (.ref p), some (.int (iI i)), some (.int (iI j))] [] T Q := by
  obtain ⟨h1, h2, h3, h4, h5, h6, h7, h8⟩ := h
  have i1 : mInB (iI (i : Int)) r = true := mInB_N hi (by omega)
  have i2 : mInB (iI (j : Int)) r = true := mInB_N hj (by omega)
  have k1 : (iI (i : Int)).toNatClampNeg = i := iI_clN (by omega)
  have k2 : (iI (j : Int)).toNatClampNeg = j := iI_clN (by omega)
  have n1 : ¬ (p + 2 = p + 1 ∧ i = j) := by omega
  have n2 : ¬ (p + 3 = p + 1 ∧ i = j) := by omega
  have n3 : ¬ (p + 3 = p + 2 ∧ i = j) := by omega
  simp only [e_59_0, e_59_0_n, e_59_1, e_59_4, e_59_5, e_59_5_n, e_59_6, e_59_9, e_59_10, e_59_11, e_59_12, e_59_12_n, e_59_13, e_59_16, e_59_17, e_59_17_n, e_59_18, e_59_21, e_59_22, e_59_23, e_59_24, e_59_24_n, e_59_25, e_59_28, e_59_29, e_59_29_n, e_59_30, e_59_33, e_59_34, e_59_35, e_59_35_z, e_59_36, XB_i, XB_n, va_rf_s, va_rf_n, mSI_K, mSI_I, mSI_J, mSI_P, mSI_N, mSJ_K, mSJ_I, mSJ_J, mSJ_P, mSJ_N, mSP_K, mSP_I, mSP_J, mSP_P, mSP_N, mNn, mNi, mNr, mN0, al20, al21, al22, al23, al25, true_or, or_true, and_self, if_true, if_false, mCat_n, mCat_i, mCat_r, mCat_l, mCat_0, Nat.reduceAdd, Nat.reduceLeDiff, Nat.reduceLT, true_and, and_true, Nat.zero_le, bI_01, h1, h2, h3, h4, h5, h6, h7, i1, i2, k1, k2, hc.1, hc.2.1, hc.2.2, mU_n _ _ n1, mU_n _ _ n2, mU_n _ _ n3]
  refine hQ _ ⟨h1, h2, h3, h4, h5, h6, h7, h8⟩ ?_ ⟨?_, ?_, ?_⟩ ?_ ?_
  · simp only [mSI_I]; rw [mU_b _ _ (by omega), mU_b _ _ (by omega), mU_b _ _ (by omega)]
  · simp only [mSI_I]; rw [mU_n _ _ (by omega), mU_n _ _ (by omega), mU_s]
  · simp only [mSI_I]; rw [mU_n _ _ (by omega), mU_s]
  · simp only [mSI_I]; rw [mU_s]
  · intro k d hk hd
    refine ⟨?_, ?_, ?_⟩
    · simp only [mSI_I]; rw [mU_n _ _ (by omega), mU_n _ _ (by omega), mU_n _ _ (by omega)]; exact hd.1
    · simp only [mSI_I]; rw [mU_n _ _ (by omega), mU_n _ _ (by omega), mU_n _ _ (by omega)]; exact hd.2.1
    · simp only [mSI_I]; rw [mU_n _ _ (by omega), mU_n _ _ (by omega), mU_n _ _ (by omega)]; exact hd.2.2
  · exact Fr.iI (Fr.iI (Fr.iI Fr.rf ⟨by omega, by omega⟩) ⟨by omega, by omega⟩) ⟨by omega, by omega⟩
