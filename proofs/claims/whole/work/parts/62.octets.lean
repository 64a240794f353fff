/-! Octets: a list of bytes (0 .. 255) -/
def OctR (T : mT) (a : Nat) (bs : List Nat) : Prop := T.1 a = (4, 0) ∧ T.2.2.2.1 a 0 = some (a + 1) ∧ T.1 (a + 1) = (20, 5880) ∧ T.2.1 a 1 = iI bs.length ∧ bs.length ≤ 5880 ∧ ∀ j x : Nat, bs[j]? = some x → T.2.1 (a + 1) j = (iI x).toInt8.toInt32
theorem OctR.fr {S : Nat → Prop} {T T2 : mT} {a : Nat} {bs : List Nat} (h : OctR T a bs) (hf : Fr S T T2) (hs : ∀ b, iv a (a + 2) b → ¬ S b) : OctR T2 a bs := by
  obtain ⟨h1, h2, h3, h4, h5, h6⟩ := h
  have s0 : ¬ S a := hs a ⟨by omega, by omega⟩
  have s1 : ¬ S (a + 1) := hs (a + 1) ⟨by omega, by omega⟩
  exact ⟨by rw [hf.K]; exact h1, by rw [hf.P s0]; exact h2, by rw [hf.K]; exact h3, by rw [hf.I s0]; exact h4, h5, fun j x hx => by rw [hf.I s1]; exact h6 j x hx⟩
theorem ct_oct_add {T : mT} {a n : Nat} {bs : List Nat} {Q : mOut → mT → Prop} (h : OctR T a bs) (hl : bs.length < 5880) (hQ : ∀ T2, OctR T2 a (bs ++ [n]) → Fr (iv a (a + 2)) T T2 → Q (.inl none) T2) : XW 40 0 [some (.ref a), some (.int (iI n))] [] T Q := by
  obtain ⟨h1, h2, h3, h4, h5, h6⟩ := h
  have hin : mInB (iI bs.length) 5880 = true := mInB_i (by omega) (by omega) (by decide)
  have hcl : (iI bs.length).toNatClampNeg = bs.length := by rw [iI_cl (by omega) (by omega)]; omega
  have hlt : ¬ iI ((5880 : Nat) : Int) ≤ iI bs.length := by rw [iI_le ⟨by omega, by omega⟩ ⟨by omega, by omega⟩]; omega
  have hne : ¬ (a = a + 1 ∧ 1 = bs.length) := fun q => by omega
  simp only [e_40_0, e_40_0_n, e_40_1, e_40_4, e_40_4_n, e_40_5, e_40_8, e_40_9, e_40_12, e_40_12_n, e_40_13, e_40_16, e_40_16_n, e_40_17, e_40_20, e_40_21, e_40_22, e_40_22_z, e_40_23, e_40_23_n, e_40_24, e_40_24_i, e_40_25, e_40_28, e_40_29, e_40_30, e_40_33, XB_i, XB_n, va_rf_s, va_rf_n, mSI_K, mSI_I, mSI_J, mSI_P, mSI_N, mSJ_K, mSJ_I, mSJ_J, mSJ_P, mSJ_N, mSP_K, mSP_I, mSP_J, mSP_P, mSP_N, mNn, mNi, mNr, mN0, al20, al21, al22, al23, al25, true_or, or_true, and_self, if_true, if_false, mCat_n, mCat_i, mCat_r, mCat_l, mCat_0, Nat.reduceAdd, Nat.reduceLeDiff, Nat.reduceLT, true_and, and_true, Nat.zero_le, bI_01, h1, h2, h3, h4, nI_i, hin, hcl, hlt, mU_n _ _ hne, toInt8_idem]
  refine hQ _ ⟨h1, h2, h3, ?_, by simp; omega, ?_⟩ ?_
  · simp only [mSI_I, mU_s]
    rw [iI_1, iI_add, List.length_append]
    rfl
  · intro j y hy
    simp only [mSI_I]
    rw [mU_n _ _ (fun q => by omega)]
    by_cases hj : j = bs.length
    · subst hj
      rw [mU_s]
      simp at hy
      rw [hy]
    · rw [mU_n _ _ (fun q => hj q.2)]
      have hj2 : j < bs.length := by
        have := (List.getElem?_eq_some_iff.mp hy).1
        simp at this
        omega
      rw [List.getElem?_append_left hj2] at hy
      exact h6 j y hy
  · exact Fr.iI (Fr.iI Fr.rf ⟨by omega, by omega⟩) ⟨by omega, by omega⟩
/-- a COUNT's bytes -/
def cntF : Nat → Nat → List Nat
  | 0, n => [n]
  | f + 1, n => if n < 128 then [n] else (n % 128 + 128) :: cntF f (n / 128)
def cntB (n : Nat) : List Nat := cntF 4 n
theorem cntF_len : ∀ (f n : Nat), (cntF f n).length ≤ f + 1
  | 0, n => by simp [cntF]
  | f + 1, n => by
    unfold cntF
    split
    · simp
    · have := cntF_len f (n / 128)
      simp only [List.length_cons]
      omega
theorem ct_oct_cnt_loop {a : Nat} {c1 : Int32} {Q : mOut → mT → Prop} : ∀ (f : Nat) (m n : Nat) (T : mT) (bs : List Nat), m + f = 4 → n < 2147483648 → OctR T a bs → bs.length + (cntF f n).length ≤ 5880 → (∀ T2, OctR T2 a (bs ++ cntF f n) → Fr (iv a (a + 2)) T T2 → Q (.inl none) T2) → XW 41 4 [some (.ref a), some (.int c1), some (.int (iI n)), some (.int (iI m))] [] T Q := by
  have fin : ∀ (n : Nat) (T : mT) (bs : List Nat) (m : Int32), OctR T a bs → bs.length + 1 ≤ 5880 → (∀ T2, OctR T2 a (bs ++ [n]) → Fr (iv a (a + 2)) T T2 → Q (.inl none) T2) → XW 41 38 [some (.ref a), some (.int c1), some (.int (iI n)), some (.int m)] [] T Q := by
    intro n T bs m h hl hQ
    simp only [e_41_38, e_41_38_n, e_41_39]
    refine c_41_40 (by simp only [XB_i, XB_n, va_rf_s, va_rf_n, mSI_K, mSI_I, mSI_J, mSI_P, mSI_N, mSJ_K, mSJ_I, mSJ_J, mSJ_P, mSJ_N, mSP_K, mSP_I, mSP_J, mSP_P, mSP_N, mNn, mNi, mNr, mN0, al20, al21, al22, al23, al25, true_or, or_true, and_self, if_true, if_false, mCat_n, mCat_i, mCat_r, mCat_l, mCat_0, Nat.reduceAdd, Nat.reduceLeDiff, Nat.reduceLT, true_and, and_true, Nat.zero_le, bI_01]) (by rw [h.1]) (ct_oct_add h (by omega) (fun T2 h2 hf => ?_))
    simp only [e_41_43, XB_i, XB_n, va_rf_s, va_rf_n, mSI_K, mSI_I, mSI_J, mSI_P, mSI_N, mSJ_K, mSJ_I, mSJ_J, mSJ_P, mSJ_N, mSP_K, mSP_I, mSP_J, mSP_P, mSP_N, mNn, mNi, mNr, mN0, al20, al21, al22, al23, al25, true_or, or_true, and_self, if_true, if_false, mCat_n, mCat_i, mCat_r, mCat_l, mCat_0, Nat.reduceAdd, Nat.reduceLeDiff, Nat.reduceLT, true_and, and_true, Nat.zero_le, bI_01]
    exact hQ T2 h2 hf
  intro f
  induction f with
  | zero =>
    intro m n T bs hm hn h hl hQ
    have hm4 : m = 4 := by omega
    subst hm4
    have hc : (4 : Int32) ≤ iI ((4 : Nat) : Int) := by decide
    simp only [e_41_4, e_41_5, e_41_6, hc, if_true]
    exact fin n T bs _ h (by simpa [cntF] using hl) hQ
  | succ f ih =>
    intro m n T bs hm hn h hl hQ
    have hc : ¬ (4 : Int32) ≤ iI m := by rw [iI_lit, iI_le ⟨by omega, by omega⟩ ⟨by omega, by omega⟩]; omega
    simp only [e_41_4, e_41_5, e_41_6, e_41_9, e_41_10, e_41_12, hc, if_false]
    by_cases h127 : n < 128
    · have hc2 : iI n ≤ (127 : Int32) := by rw [iI_lit, iI_le ⟨by omega, by omega⟩ ⟨by omega, by omega⟩]; omega
      simp only [hc2, if_true]
      have he : cntF (f + 1) n = [n] := by unfold cntF; rw [if_pos h127]
      rw [he] at hl hQ
      exact fin n T bs _ h (by simpa using hl) hQ
    · have hc2 : ¬ iI n ≤ (127 : Int32) := by rw [iI_lit, iI_le ⟨by omega, by omega⟩ ⟨by omega, by omega⟩]; omega
      have he : cntF (f + 1) n = (n % 128 + 128) :: cntF f (n / 128) := by conv => lhs; unfold cntF; rw [if_neg h127]
      rw [he] at hl hQ
      simp only [List.length_cons] at hl
      have hand : iI n &&& 127 = iI ((n % 128 : Nat) : Int) := by
        rw [← nI_i, ← nI_i]
        exact pk_andN (by omega) 7 (by decide)
      have hadd : iI ((n % 128 : Nat) : Int) + 128 = iI ((n % 128 + 128 : Nat) : Int) := by
        rw [iI_lit, iI_add]
        rfl
      simp only [hc2, if_false, e_41_15, e_41_15_n, e_41_16, e_41_17, e_41_19, e_41_20, e_41_23, hand, hadd]
      refine c_41_24 (by simp only [XB_i, XB_n, va_rf_s, va_rf_n, mSI_K, mSI_I, mSI_J, mSI_P, mSI_N, mSJ_K, mSJ_I, mSJ_J, mSJ_P, mSJ_N, mSP_K, mSP_I, mSP_J, mSP_P, mSP_N, mNn, mNi, mNr, mN0, al20, al21, al22, al23, al25, true_or, or_true, and_self, if_true, if_false, mCat_n, mCat_i, mCat_r, mCat_l, mCat_0, Nat.reduceAdd, Nat.reduceLeDiff, Nat.reduceLT, true_and, and_true, Nat.zero_le, bI_01]) (by rw [h.1]) (ct_oct_add h (by omega) (fun T2 h2 hf => ?_))
      have hsh : ((iI n).toUInt32 >>> ((7 : Int32).toUInt32 &&& Int32.toUInt32 31)).toInt32 = iI ((n / 128 : Nat) : Int) := by
        rw [← nI_i, ← nI_i]
        exact pk_ushrN (by omega) 7 7 (by decide)
      have hinc : iI m + 1 = iI ((m + 1 : Nat) : Int) := by rw [iI_1, iI_add]; rfl
      simp only [e_41_27, e_41_28, e_41_30, e_41_31, e_41_32, e_41_35, XB_i, XB_n, va_rf_s, va_rf_n, mSI_K, mSI_I, mSI_J, mSI_P, mSI_N, mSJ_K, mSJ_I, mSJ_J, mSJ_P, mSJ_N, mSP_K, mSP_I, mSP_J, mSP_P, mSP_N, mNn, mNi, mNr, mN0, al20, al21, al22, al23, al25, true_or, or_true, and_self, if_true, if_false, mCat_n, mCat_i, mCat_r, mCat_l, mCat_0, Nat.reduceAdd, Nat.reduceLeDiff, Nat.reduceLT, true_and, and_true, Nat.zero_le, bI_01, hsh, hinc]
      exact ih (m + 1) (n / 128) T2 (bs ++ [n % 128 + 128]) (by omega) (by omega) h2 (by simp only [List.length_append, List.length_cons, List.length_nil]; omega) (fun T3 h3 hf3 => hQ T3 (by rw [List.append_assoc] at h3; exact h3) (hf.tr hf3))
theorem ct_oct_cnt {T : mT} {a n : Nat} {bs : List Nat} {Q : mOut → mT → Prop} (h : OctR T a bs) (hn : n < 2147483648) (hl : bs.length + (cntB n).length ≤ 5880) (hQ : ∀ T2, OctR T2 a (bs ++ cntB n) → Fr (iv a (a + 2)) T T2 → Q (.inl none) T2) : XW 41 0 [some (.ref a), some (.int (iI n)), none, none] [] T Q := by
  simp only [e_41_0, e_41_1, e_41_2, e_41_3, XB_i, XB_n, va_rf_s, va_rf_n, mSI_K, mSI_I, mSI_J, mSI_P, mSI_N, mSJ_K, mSJ_I, mSJ_J, mSJ_P, mSJ_N, mSP_K, mSP_I, mSP_J, mSP_P, mSP_N, mNn, mNi, mNr, mN0, al20, al21, al22, al23, al25, true_or, or_true, and_self, if_true, if_false, mCat_n, mCat_i, mCat_r, mCat_l, mCat_0, Nat.reduceAdd, Nat.reduceLeDiff, Nat.reduceLT, true_and, and_true, Nat.zero_le, bI_01]
  exact ct_oct_cnt_loop 4 0 n T bs rfl hn h hl hQ
/-- a step's number -/
def zig (d : Int) : Nat := (if d < 0 then -2 * d - 1 else 2 * d).toNat
theorem ct_oct_step {T : mT} {a : Nat} {d : Int} {bs : List Nat} {Q : mOut → mT → Prop} (h : OctR T a bs) (hd : -1000000 ≤ d ∧ d ≤ 1000000) (hl : bs.length + (cntB (zig d)).length ≤ 5880) (hQ : ∀ T2, OctR T2 a (bs ++ cntB (zig d)) → Fr (iv a (a + 2)) T T2 → Q (.inl none) T2) : XW 42 0 [some (.ref a), some (.int (iI d))] [] T Q := by
  have hz : zig d < 2147483648 := by unfold zig; split <;> omega
  have cal : XW 42 17 [some (.ref a), some (.int (iI d))] [.int (iI (zig d)), .ref a] T Q := by
    refine c_42_17 (by simp only [XB_i, XB_n, va_rf_s, va_rf_n, mSI_K, mSI_I, mSI_J, mSI_P, mSI_N, mSJ_K, mSJ_I, mSJ_J, mSJ_P, mSJ_N, mSP_K, mSP_I, mSP_J, mSP_P, mSP_N, mNn, mNi, mNr, mN0, al20, al21, al22, al23, al25, true_or, or_true, and_self, if_true, if_false, mCat_n, mCat_i, mCat_r, mCat_l, mCat_0, Nat.reduceAdd, Nat.reduceLeDiff, Nat.reduceLT, true_and, and_true, Nat.zero_le, bI_01]) (by rw [h.1]) (ct_oct_cnt h hz hl (fun T2 h2 hf => ?_))
    simp only [e_42_20, XB_i, XB_n, va_rf_s, va_rf_n, mSI_K, mSI_I, mSI_J, mSI_P, mSI_N, mSJ_K, mSJ_I, mSJ_J, mSJ_P, mSJ_N, mSP_K, mSP_I, mSP_J, mSP_P, mSP_N, mNn, mNi, mNr, mN0, al20, al21, al22, al23, al25, true_or, or_true, and_self, if_true, if_false, mCat_n, mCat_i, mCat_r, mCat_l, mCat_0, Nat.reduceAdd, Nat.reduceLeDiff, Nat.reduceLT, true_and, and_true, Nat.zero_le, bI_01]
    exact hQ T2 h2 hf
  by_cases hneg : d < 0
  · have hc : ¬ 0 ≤ iI d := by rw [iI_0, iI_le ⟨by omega, by omega⟩ ⟨by omega, by omega⟩]; omega
    have he : (-2 : Int32) * iI d - 1 = iI (zig d) := by
      rw [show (-2 : Int32) = iI (-2) from rfl, iI_1, iI_mul, iI_sub]
      unfold zig
      rw [if_pos hneg]
      congr 1
      omega
    simp only [e_42_0, e_42_0_n, e_42_1, e_42_2, e_42_5, e_42_7, e_42_8, e_42_9, e_42_10, e_42_11, e_42_14, e_42_15, e_42_16, hc, if_false, he]
    exact cal
  · have hc : 0 ≤ iI d := by rw [iI_0, iI_le ⟨by omega, by omega⟩ ⟨by omega, by omega⟩]; omega
    have he : (2 : Int32) * iI d = iI (zig d) := by
      rw [iI_lit, iI_mul]
      unfold zig
      rw [if_neg hneg]
      congr 1
      omega
    simp only [e_42_0, e_42_0_n, e_42_1, e_42_2, e_42_5, e_42_7, e_42_8, e_42_9, e_42_10, e_42_11, e_42_14, e_42_15, e_42_16, hc, if_true, he]
    exact cal
