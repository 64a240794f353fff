/-! Path: what follows itself in one place, single corners, tidy -/
/-- of corners in one place that follow each other the first one stays -/
def mrg : List Cn → List Cn → List Cn
  | out, [] => out
  | out, c :: r => if c.2.2 || !(match out.getLast? with
      | some d => sameC c d
      | none => false) then mrg (out ++ [c]) r else mrg out r
/-- the first k places hold out, those from i on hold rest -/
def Half (T : mT) (p i : Nat) (out rest : List Cn) : Prop := out.length ≤ i ∧ (∀ (j : Nat) (c : Cn), out[j]? = some c → cAt T p j c) ∧ ∀ (j : Nat) (c : Cn), rest[j]? = some c → cAt T p (i + j) c
theorem Half.tail {T : mT} {p i : Nat} {out rest : List Cn} {c : Cn} (h : Half T p i out (c :: rest)) : Half T p (i + 1) out rest := ⟨by have := h.1; omega, h.2.1, fun j d hd => by have := h.2.2 (j + 1) d (by simpa using hd); rw [show i + 1 + j = i + (j + 1) by omega]; exact this⟩
theorem Half.head {T : mT} {p i : Nat} {out rest : List Cn} {c : Cn} (h : Half T p i out (c :: rest)) : cAt T p i c := h.2.2 0 c rfl
/-- the corner at i goes to the end of out -/
theorem Half.step {T T2 : mT} {p i : Nat} {out rest : List Cn} {c : Cn} (h : Half T p i out (c :: rest)) (h1 : cAt T2 p out.length c) (h2 : ∀ k d, k ≠ out.length → cAt T p k d → cAt T2 p k d) : Half T2 p (i + 1) (out ++ [c]) rest := by
  refine ⟨by have := h.1; simp; omega, fun j d hd => ?_, fun j d hd => ?_⟩
  · rcases getE_app hd with ⟨hj, hd2⟩ | ⟨hj, hd2⟩
    · exact h2 j d (by omega) (h.2.1 j d hd2)
    · rw [hj, hd2]; exact h1
  · have h3 := h.tail.2.2 j d hd
    exact h2 _ d (by have := h.1; omega) h3
theorem ct_mrg_loop {p r : Nat} {Q : mOut → mT → Prop} {n : Nat} (hn : n ≤ r) : ∀ (rest : List Cn) (i : Nat) (T : mT) (out : List Cn), i + rest.length = n → PK T p r → T.2.1 p 3 = iI n → Half T p i out rest → (∀ c ∈ out, cB c) → (∀ c ∈ rest, cB c) → (∀ T2, PathR T2 p r (mrg out rest) → Fr (iv p (p + 4)) T T2 → Q (.inl none) T2) → XW 61 4 [some (.ref p), some (.int (iI out.length)), some (.int (iI i))] [] T Q := by
  intro rest
  induction rest with
  | nil =>
    intro i T out hi hk h3 hh _ _ hQ
    have hr := hk.2.2.2.2.2.2.2
    have hin : i = n := by simpa using hi
    have hc : iI (n : Int) ≤ iI (i : Int) := by rw [iI_leN (by omega) (by omega)]; omega
    simp only [e_61_4, e_61_5, e_61_5_n, e_61_6, e_61_9, e_61_51, e_61_51_n, e_61_52, e_61_53, e_61_56, XB_i, XB_n, va_rf_s, va_rf_n, mSI_K, mSI_I, mSI_J, mSI_P, mSI_N, mSJ_K, mSJ_I, mSJ_J, mSJ_P, mSJ_N, mSP_K, mSP_I, mSP_J, mSP_P, mSP_N, mNn, mNi, mNr, mN0, al20, al21, al22, al23, al25, true_or, or_true, and_self, if_true, if_false, mCat_n, mCat_i, mCat_r, mCat_l, mCat_0, Nat.reduceAdd, Nat.reduceLeDiff, Nat.reduceLT, true_and, and_true, Nat.zero_le, bI_01, hk.1, h3, hc]
    refine hQ _ ⟨⟨hk.1, hk.2⟩, ?_, by have := hh.1; simp only [mrg]; omega, ?_⟩ ?_
    · simp only [mSI_I, mU_s, mrg]
    · intro j c hc
      obtain ⟨k1, k2, k3⟩ := hh.2.1 j c hc
      exact ⟨by simp only [mSI_I]; rw [mU_n _ _ (by omega)]; exact k1, by simp only [mSI_I]; rw [mU_n _ _ (by omega)]; exact k2, by simp only [mSI_I]; rw [mU_n _ _ (by omega)]; exact k3⟩
    · exact Fr.iI Fr.rf ⟨by omega, by omega⟩
  | cons c rest ih =>
    intro i T out hi hk h3 hh bo br hQ
    have hr := hk.2.2.2.2.2.2.2
    simp only [List.length_cons] at hi
    have hout := hh.1
    have hc : ¬ iI (n : Int) ≤ iI (i : Int) := by rw [iI_leN (by omega) (by omega)]; omega
    have hii : mInB (iI (i : Int)) r = true := mInB_N (by omega) (by omega)
    have hci : (iI (i : Int)).toNatClampNeg = i := iI_clN (by omega)
    have hcc := hh.head
    have keep : XW 61 36 [some (.ref p), some (.int (iI out.length)), some (.int (iI i))] [] T Q ∨ ¬ (mrg out (c :: rest) = mrg (out ++ [c]) rest) := by
      by_cases hm : mrg out (c :: rest) = mrg (out ++ [c]) rest
      · left
        simp only [e_61_36, e_61_36_n, e_61_37, e_61_38]
        refine c_61_39 (by simp only [XB_i, XB_n, va_rf_s, va_rf_n, mSI_K, mSI_I, mSI_J, mSI_P, mSI_N, mSJ_K, mSJ_I, mSJ_J, mSJ_P, mSJ_N, mSP_K, mSP_I, mSP_J, mSP_P, mSP_N, mNn, mNi, mNr, mN0, al20, al21, al22, al23, al25, true_or, or_true, and_self, if_true, if_false, mCat_n, mCat_i, mCat_r, mCat_l, mCat_0, Nat.reduceAdd, Nat.reduceLeDiff, Nat.reduceLT, true_and, and_true, Nat.zero_le, bI_01]) (by rw [hk.1]) (ct_path_move hk (by omega) (by omega) hcc (fun T2 k2 e2 a2 o2 f2 => ?_))
        simp only [e_61_42, e_61_45, e_61_48, XB_i, XB_n, va_rf_s, va_rf_n, mSI_K, mSI_I, mSI_J, mSI_P, mSI_N, mSJ_K, mSJ_I, mSJ_J, mSJ_P, mSJ_N, mSP_K, mSP_I, mSP_J, mSP_P, mSP_N, mNn, mNi, mNr, mN0, al20, al21, al22, al23, al25, true_or, or_true, and_self, if_true, if_false, mCat_n, mCat_i, mCat_r, mCat_l, mCat_0, Nat.reduceAdd, Nat.reduceLeDiff, Nat.reduceLT, true_and, and_true, Nat.zero_le, bI_01, iI_1N]
        have := ih (i + 1) T2 (out ++ [c]) (by omega) k2 (by rw [e2]; exact h3) (hh.step a2 o2) (fun d hd => by
          rcases List.mem_append.mp hd with q | q
          · exact bo d q
          · rw [List.mem_singleton.mp q]; exact br c List.mem_cons_self) (fun d hd => br d (List.mem_cons_of_mem _ hd)) (fun T3 h3 f3 => hQ T3 (by rw [hm]; exact h3) (f2.tr f3))
        rw [List.length_append] at this
        exact this
      · exact Or.inr hm
    have skip : mrg out (c :: rest) = mrg out rest → XW 61 45 [some (.ref p), some (.int (iI out.length)), some (.int (iI i))] [] T Q := by
      intro hm
      simp only [e_61_45, e_61_48, XB_i, XB_n, va_rf_s, va_rf_n, mSI_K, mSI_I, mSI_J, mSI_P, mSI_N, mSJ_K, mSJ_I, mSJ_J, mSJ_P, mSJ_N, mSP_K, mSP_I, mSP_J, mSP_P, mSP_N, mNn, mNi, mNr, mN0, al20, al21, al22, al23, al25, true_or, or_true, and_self, if_true, if_false, mCat_n, mCat_i, mCat_r, mCat_l, mCat_0, Nat.reduceAdd, Nat.reduceLeDiff, Nat.reduceLT, true_and, and_true, Nat.zero_le, bI_01, iI_1N]
      exact ih (i + 1) T out (by omega) hk h3 hh.tail bo (fun d hd => br d (List.mem_cons_of_mem _ hd)) (fun T3 h3 f3 => hQ T3 (by rw [hm]; exact h3) f3)
    simp only [e_61_4, e_61_5, e_61_5_n, e_61_6, e_61_9, e_61_12, e_61_12_n, e_61_13, e_61_16, e_61_17, e_61_18, XB_i, XB_n, va_rf_s, va_rf_n, mSI_K, mSI_I, mSI_J, mSI_P, mSI_N, mSJ_K, mSJ_I, mSJ_J, mSJ_P, mSJ_N, mSP_K, mSP_I, mSP_J, mSP_P, mSP_N, mNn, mNi, mNr, mN0, al20, al21, al22, al23, al25, true_or, or_true, and_self, if_true, if_false, mCat_n, mCat_i, mCat_r, mCat_l, mCat_0, Nat.reduceAdd, Nat.reduceLeDiff, Nat.reduceLT, true_and, and_true, Nat.zero_le, bI_01, hk.1, hk.2.2.2.1, hk.2.2.2.2.2.2.1, h3, hc, hii, hci, hcc.2.2, bI_0]
    by_cases hb : c.2.2 = true
    · rw [if_neg (by rw [hb]; decide)]
      exact keep.resolve_right (fun q => q (by simp [mrg, hb]))
    · have hbf : c.2.2 = false := by simpa using hb
      rw [if_pos hbf]
      by_cases h0 : out.length = 0
      · have hnil : out = [] := List.eq_nil_of_length_eq_zero h0
        simp only [e_61_21, e_61_22]
        rw [if_pos (by rw [iI_eq0 (by omega)]; exact h0)]
        exact keep.resolve_right (fun q => q (by subst hnil; simp [mrg, hbf]))
      · obtain ⟨d, hd⟩ : ∃ d, out.getLast? = some d := by
          cases hq : out.getLast? with
          | none => rw [List.getLast?_eq_none_iff] at hq; subst hq; exact absurd rfl h0
          | some d => exact ⟨d, rfl⟩
        have hdm : d ∈ out := List.mem_of_getLast? hd
        have hda : cAt T p (out.length - 1) d := hh.2.1 _ d (by rw [List.getLast?_eq_getElem?] at hd; exact hd)
        simp only [e_61_21, e_61_22, e_61_25, e_61_25_n, e_61_26, e_61_27, e_61_28, e_61_29, iI_eq0 (show out.length < 2147483648 by omega), h0, if_false, iI_m1N (show 1 ≤ out.length by omega)]
        refine c_61_30 (by simp only [XB_i, XB_n, va_rf_s, va_rf_n, mSI_K, mSI_I, mSI_J, mSI_P, mSI_N, mSJ_K, mSJ_I, mSJ_J, mSJ_P, mSJ_N, mSP_K, mSP_I, mSP_J, mSP_P, mSP_N, mNn, mNi, mNr, mN0, al20, al21, al22, al23, al25, true_or, or_true, and_self, if_true, if_false, mCat_n, mCat_i, mCat_r, mCat_l, mCat_0, Nat.reduceAdd, Nat.reduceLeDiff, Nat.reduceLT, true_and, and_true, Nat.zero_le, bI_01]) (by rw [hk.1]) (ct_path_same hk (by omega) (by omega) hcc hda (br c List.mem_cons_self) (bo d hdm) ?_)
        simp only [e_61_33, XB_i, XB_n, va_rf_s, va_rf_n, mSI_K, mSI_I, mSI_J, mSI_P, mSI_N, mSJ_K, mSJ_I, mSJ_J, mSJ_P, mSJ_N, mSP_K, mSP_I, mSP_J, mSP_P, mSP_N, mNn, mNi, mNr, mN0, al20, al21, al22, al23, al25, true_or, or_true, and_self, if_true, if_false, mCat_n, mCat_i, mCat_r, mCat_l, mCat_0, Nat.reduceAdd, Nat.reduceLeDiff, Nat.reduceLT, true_and, and_true, Nat.zero_le, bI_01, bI_0]
        by_cases hs : sameC c d = true
        · rw [if_neg (by rw [hs]; decide)]
          exact skip (by simp [mrg, hbf, hd, hs])
        · have hsf : sameC c d = false := by simpa using hs
          rw [if_pos hsf]
          exact keep.resolve_right (fun q => q (by simp [mrg, hbf, hd, hsf]))
theorem ct_path_mrg {T : mT} {Q : mOut → mT → Prop} {p r : Nat} {cs : List Cn} (h : PathR T p r cs) (hb : ∀ c ∈ cs, cB c) (hQ : ∀ T2, PathR T2 p r (mrg [] cs) → Fr (iv p (p + 4)) T T2 → Q (.inl none) T2) : XW 61 0 [some (.ref p), none, none] [] T Q := by
  simp only [e_61_0, e_61_1, e_61_2, e_61_3, XB_i, XB_n, va_rf_s, va_rf_n, mSI_K, mSI_I, mSI_J, mSI_P, mSI_N, mSJ_K, mSJ_I, mSJ_J, mSJ_P, mSJ_N, mSP_K, mSP_I, mSP_J, mSP_P, mSP_N, mNn, mNi, mNr, mN0, al20, al21, al22, al23, al25, true_or, or_true, and_self, if_true, if_false, mCat_n, mCat_i, mCat_r, mCat_l, mCat_0, Nat.reduceAdd, Nat.reduceLeDiff, Nat.reduceLT, true_and, and_true, Nat.zero_le, bI_01]
  exact ct_mrg_loop (n := cs.length) h.2.2.1 cs 0 T [] (by simp) h.1 h.2.1 ⟨by simp, fun j c hc => by simp at hc, fun j c hc => by rw [Nat.zero_add]; exact h.2.2.2 j c hc⟩ (fun c hc => by simp at hc) hb hQ
/-- a piece with one corner is gone -/
def rmL : List Cn → List Cn
  | [] => []
  | [c] => if c.2.2 then [] else [c]
  | c :: d :: r => if c.2.2 && d.2.2 then rmL (d :: r) else c :: rmL (d :: r)
theorem ct_rml_loop {p r : Nat} {Q : mOut → mT → Prop} {n : Nat} (hn : n ≤ r) : ∀ (rest : List Cn) (i : Nat) (T : mT) (out : List Cn) (l3 : Option Value), i + rest.length = n → PK T p r → T.2.1 p 3 = iI n → Half T p i out rest → (∀ T2, PathR T2 p r (out ++ rmL rest) → Fr (iv p (p + 4)) T T2 → Q (.inl none) T2) → XW 62 4 [some (.ref p), some (.int (iI out.length)), some (.int (iI i)), l3] [] T Q := by
  intro rest
  induction rest with
  | nil =>
    intro i T out l3 hi hk h3 hh hQ
    have hr := hk.2.2.2.2.2.2.2
    have hin : i = n := by simpa using hi
    have hc : iI (n : Int) ≤ iI (i : Int) := by rw [iI_leN (by omega) (by omega)]; omega
    simp only [e_62_4, e_62_5, e_62_5_n, e_62_6, e_62_9, e_62_67, e_62_67_n, e_62_68, e_62_69, e_62_72, XB_i, XB_n, va_rf_s, va_rf_n, mSI_K, mSI_I, mSI_J, mSI_P, mSI_N, mSJ_K, mSJ_I, mSJ_J, mSJ_P, mSJ_N, mSP_K, mSP_I, mSP_J, mSP_P, mSP_N, mNn, mNi, mNr, mN0, al20, al21, al22, al23, al25, true_or, or_true, and_self, if_true, if_false, mCat_n, mCat_i, mCat_r, mCat_l, mCat_0, Nat.reduceAdd, Nat.reduceLeDiff, Nat.reduceLT, true_and, and_true, Nat.zero_le, bI_01, hk.1, h3, hc]
    rw [show out ++ rmL [] = out by simp [rmL]] at hQ
    refine hQ _ ⟨⟨hk.1, hk.2⟩, ?_, by have := hh.1; omega, ?_⟩ ?_
    · simp only [mSI_I, mU_s]
    · intro j c hc
      obtain ⟨k1, k2, k3⟩ := hh.2.1 j c hc
      exact ⟨by simp only [mSI_I]; rw [mU_n _ _ (by omega)]; exact k1, by simp only [mSI_I]; rw [mU_n _ _ (by omega)]; exact k2, by simp only [mSI_I]; rw [mU_n _ _ (by omega)]; exact k3⟩
    · exact Fr.iI Fr.rf ⟨by omega, by omega⟩
  | cons c rest ih =>
    intro i T out l3 hi hk h3 hh hQ
    have hr := hk.2.2.2.2.2.2.2
    simp only [List.length_cons] at hi
    have hout := hh.1
    have hc : ¬ iI (n : Int) ≤ iI (i : Int) := by rw [iI_leN (by omega) (by omega)]; omega
    have hii : mInB (iI (i : Int)) r = true := mInB_N (by omega) (by omega)
    have hci : (iI (i : Int)).toNatClampNeg = i := iI_clN (by omega)
    have hcc := hh.head
    have e01 : (0 : Int32) = 0 ∨ (0 : Int32) = 1 := Or.inl rfl
    have e11 : (1 : Int32) = 0 ∨ (1 : Int32) = 1 := Or.inr rfl
    have h10 : ¬ (1 : Int32) = 0 := by decide
    /- behind the look at the next one -/
    have go : ∀ e : Bool, (rmL (c :: rest) = if c.2.2 && e then rmL rest else c :: rmL rest) → XW 62 39 [some (.ref p), some (.int (iI out.length)), some (.int (iI i)), some (.int (bI e))] [] T Q := by
      intro e he
      have keep : rmL (c :: rest) = c :: rmL rest → XW 62 52 [some (.ref p), some (.int (iI out.length)), some (.int (iI i)), some (.int (bI e))] [] T Q := by
        intro hm
        simp only [e_62_52, e_62_52_n, e_62_53, e_62_54]
        refine c_62_55 (by simp only [XB_i, XB_n, va_rf_s, va_rf_n, mSI_K, mSI_I, mSI_J, mSI_P, mSI_N, mSJ_K, mSJ_I, mSJ_J, mSJ_P, mSJ_N, mSP_K, mSP_I, mSP_J, mSP_P, mSP_N, mNn, mNi, mNr, mN0, al20, al21, al22, al23, al25, true_or, or_true, and_self, if_true, if_false, mCat_n, mCat_i, mCat_r, mCat_l, mCat_0, Nat.reduceAdd, Nat.reduceLeDiff, Nat.reduceLT, true_and, and_true, Nat.zero_le, bI_01]) (by rw [hk.1]) (ct_path_move hk (by omega) (by omega) hcc (fun T2 k2 e2 a2 o2 f2 => ?_))
        simp only [e_62_58, e_62_61, e_62_64, XB_i, XB_n, va_rf_s, va_rf_n, mSI_K, mSI_I, mSI_J, mSI_P, mSI_N, mSJ_K, mSJ_I, mSJ_J, mSJ_P, mSJ_N, mSP_K, mSP_I, mSP_J, mSP_P, mSP_N, mNn, mNi, mNr, mN0, al20, al21, al22, al23, al25, true_or, or_true, and_self, if_true, if_false, mCat_n, mCat_i, mCat_r, mCat_l, mCat_0, Nat.reduceAdd, Nat.reduceLeDiff, Nat.reduceLT, true_and, and_true, Nat.zero_le, bI_01, iI_1N]
        have := ih (i + 1) T2 (out ++ [c]) (some (.int (bI e))) (by omega) k2 (by rw [e2]; exact h3) (hh.step a2 o2) (fun T3 h3 f3 => hQ T3 (by rw [hm]; rw [List.append_assoc] at h3; exact h3) (f2.tr f3))
        rw [List.length_append] at this
        exact this
      simp only [e_62_39, e_62_39_n, e_62_40, e_62_43, e_62_44, e_62_45, e_62_48, e_62_49, XB_i, XB_n, va_rf_s, va_rf_n, mSI_K, mSI_I, mSI_J, mSI_P, mSI_N, mSJ_K, mSJ_I, mSJ_J, mSJ_P, mSJ_N, mSP_K, mSP_I, mSP_J, mSP_P, mSP_N, mNn, mNi, mNr, mN0, al20, al21, al22, al23, al25, true_or, or_true, and_self, if_true, if_false, mCat_n, mCat_i, mCat_r, mCat_l, mCat_0, Nat.reduceAdd, Nat.reduceLeDiff, Nat.reduceLT, true_and, and_true, Nat.zero_le, bI_01, hk.1, hk.2.2.2.1, hk.2.2.2.2.2.2.1, hii, hci, hcc.2.2, bI_0]
      by_cases hb : c.2.2 = true
      · rw [if_neg (by rw [hb]; decide)]
        by_cases h2 : e = true
        · rw [if_neg (by rw [h2]; decide)]
          simp only [e_62_61, e_62_64, XB_i, XB_n, va_rf_s, va_rf_n, mSI_K, mSI_I, mSI_J, mSI_P, mSI_N, mSJ_K, mSJ_I, mSJ_J, mSJ_P, mSJ_N, mSP_K, mSP_I, mSP_J, mSP_P, mSP_N, mNn, mNi, mNr, mN0, al20, al21, al22, al23, al25, true_or, or_true, and_self, if_true, if_false, mCat_n, mCat_i, mCat_r, mCat_l, mCat_0, Nat.reduceAdd, Nat.reduceLeDiff, Nat.reduceLT, true_and, and_true, Nat.zero_le, bI_01, iI_1N]
          exact ih (i + 1) T out (some (.int (bI e))) (by omega) hk h3 hh.tail (fun T3 h3 f3 => hQ T3 (by rw [he, hb, h2]; exact h3) f3)
        · have h2f : e = false := by simpa using h2
          rw [if_pos h2f]
          exact keep (by rw [he, h2f]; simp)
      · have hbf : c.2.2 = false := by simpa using hb
        rw [if_pos hbf]
        exact keep (by rw [he, hbf]; simp)
    cases rest with
    | nil =>
      have hn1 : i + 1 = n := by simpa using hi
      have hq : iI ((i + 1 : Nat) : Int) = iI (n : Int) := by rw [hn1]
      simp only [e_62_4, e_62_5, e_62_5_n, e_62_6, e_62_9, e_62_12, e_62_13, e_62_14, e_62_15, e_62_15_n, e_62_16, e_62_19, e_62_22, e_62_22_n, e_62_23, e_62_26, e_62_27, e_62_28, e_62_29, e_62_30, e_62_33, e_62_34, e_62_37, e_62_38, XB_i, XB_n, va_rf_s, va_rf_n, mSI_K, mSI_I, mSI_J, mSI_P, mSI_N, mSJ_K, mSJ_I, mSJ_J, mSJ_P, mSJ_N, mSP_K, mSP_I, mSP_J, mSP_P, mSP_N, mNn, mNi, mNr, mN0, al20, al21, al22, al23, al25, true_or, or_true, and_self, if_true, if_false, mCat_n, mCat_i, mCat_r, mCat_l, mCat_0, Nat.reduceAdd, Nat.reduceLeDiff, Nat.reduceLT, true_and, and_true, Nat.zero_le, bI_01, hk.1, h3, hc, iI_1N, hq]
      exact go true (by unfold rmL; cases c.2.2 <;> simp [rmL])
    | cons d rest =>
      simp only [List.length_cons] at hi
      have hq : ¬ iI ((i + 1 : Nat) : Int) = iI (n : Int) := by rw [iI_eqN (by omega) (by omega)]; omega
      have hd := hh.tail.head
      have hii2 : mInB (iI ((i + 1 : Nat) : Int)) r = true := mInB_N (by omega) (by omega)
      have hci2 : (iI ((i + 1 : Nat) : Int)).toNatClampNeg = i + 1 := iI_clN (by omega)
      simp only [e_62_4, e_62_5, e_62_5_n, e_62_6, e_62_9, e_62_12, e_62_13, e_62_14, e_62_15, e_62_15_n, e_62_16, e_62_19, e_62_22, e_62_22_n, e_62_23, e_62_26, e_62_27, e_62_28, e_62_29, e_62_30, XB_i, XB_n, va_rf_s, va_rf_n, mSI_K, mSI_I, mSI_J, mSI_P, mSI_N, mSJ_K, mSJ_I, mSJ_J, mSJ_P, mSJ_N, mSP_K, mSP_I, mSP_J, mSP_P, mSP_N, mNn, mNi, mNr, mN0, al20, al21, al22, al23, al25, true_or, or_true, and_self, if_true, if_false, mCat_n, mCat_i, mCat_r, mCat_l, mCat_0, Nat.reduceAdd, Nat.reduceLeDiff, Nat.reduceLT, true_and, and_true, Nat.zero_le, bI_01, hk.1, hk.2.2.2.1, hk.2.2.2.2.2.2.1, h3, hc, iI_1N, hq, hii2, hci2, hd.2.2, bI_0]
      by_cases hb : d.2.2 = true
      · rw [if_neg (by rw [hb]; decide)]
        simp only [e_62_33, e_62_34, e_62_37, e_62_38, XB_i, XB_n, va_rf_s, va_rf_n, mSI_K, mSI_I, mSI_J, mSI_P, mSI_N, mSJ_K, mSJ_I, mSJ_J, mSJ_P, mSJ_N, mSP_K, mSP_I, mSP_J, mSP_P, mSP_N, mNn, mNi, mNr, mN0, al20, al21, al22, al23, al25, true_or, or_true, and_self, if_true, if_false, mCat_n, mCat_i, mCat_r, mCat_l, mCat_0, Nat.reduceAdd, Nat.reduceLeDiff, Nat.reduceLT, true_and, and_true, Nat.zero_le, bI_01]
        exact go true (by conv => lhs; unfold rmL; rw [hb])
      · have hbf : d.2.2 = false := by simpa using hb
        rw [if_pos hbf]
        simp only [e_62_33, e_62_34, e_62_37, e_62_38, XB_i, XB_n, va_rf_s, va_rf_n, mSI_K, mSI_I, mSI_J, mSI_P, mSI_N, mSJ_K, mSJ_I, mSJ_J, mSJ_P, mSJ_N, mSP_K, mSP_I, mSP_J, mSP_P, mSP_N, mNn, mNi, mNr, mN0, al20, al21, al22, al23, al25, true_or, or_true, and_self, if_true, if_false, mCat_n, mCat_i, mCat_r, mCat_l, mCat_0, Nat.reduceAdd, Nat.reduceLeDiff, Nat.reduceLT, true_and, and_true, Nat.zero_le, bI_01]
        exact go false (by conv => lhs; unfold rmL; rw [hbf])
theorem ct_path_rml {T : mT} {Q : mOut → mT → Prop} {p r : Nat} {cs : List Cn} (h : PathR T p r cs) (hQ : ∀ T2, PathR T2 p r (rmL cs) → Fr (iv p (p + 4)) T T2 → Q (.inl none) T2) : XW 62 0 [some (.ref p), none, none, none] [] T Q := by
  simp only [e_62_0, e_62_1, e_62_2, e_62_3, XB_i, XB_n, va_rf_s, va_rf_n, mSI_K, mSI_I, mSI_J, mSI_P, mSI_N, mSJ_K, mSJ_I, mSJ_J, mSJ_P, mSJ_N, mSP_K, mSP_I, mSP_J, mSP_P, mSP_N, mNn, mNi, mNr, mN0, al20, al21, al22, al23, al25, true_or, or_true, and_self, if_true, if_false, mCat_n, mCat_i, mCat_r, mCat_l, mCat_0, Nat.reduceAdd, Nat.reduceLeDiff, Nat.reduceLT, true_and, and_true, Nat.zero_le, bI_01]
  exact ct_rml_loop (n := cs.length) h.2.2.1 cs 0 T [] none (by simp) h.1 h.2.1 ⟨by simp, fun j c hc => by simp at hc, fun j c hc => by rw [Nat.zero_add]; exact h.2.2.2 j c hc⟩ hQ
/-- the number of pieces -/
def pcs : List Cn → Nat
  | [] => 0
  | c :: r => (if c.2.2 then 1 else 0) + pcs r
theorem pcs_le (l : List Cn) : pcs l ≤ l.length := by
  induction l with
  | nil => simp [pcs]
  | cons c r ih => unfold pcs; simp only [List.length_cons]; split <;> omega
theorem ct_pcs_loop {p r : Nat} {Q : mOut → mT → Prop} {T : mT} {n : Nat} (hn : n ≤ r) (hk : PK T p r) (h3 : T.2.1 p 3 = iI n) : ∀ (rest : List Cn) (i a : Nat), i + rest.length = n → a ≤ i → (∀ (j : Nat) (c : Cn), rest[j]? = some c → cAt T p (i + j) c) → Q (.inl (some (.int (iI ((a + pcs rest : Nat) : Int))))) T → XW 63 4 [some (.ref p), some (.int (iI a)), some (.int (iI i))] [] T Q := by
  have hr := hk.2.2.2.2.2.2.2
  intro rest
  induction rest with
  | nil =>
    intro i a hi ha hc hQ
    have hin : i = n := by simpa using hi
    have hc : iI (n : Int) ≤ iI (i : Int) := by rw [iI_leN (by omega) (by omega)]; omega
    simp only [e_63_4, e_63_5, e_63_5_n, e_63_6, e_63_9, e_63_30, e_63_31, XB_i, XB_n, va_rf_s, va_rf_n, mSI_K, mSI_I, mSI_J, mSI_P, mSI_N, mSJ_K, mSJ_I, mSJ_J, mSJ_P, mSJ_N, mSP_K, mSP_I, mSP_J, mSP_P, mSP_N, mNn, mNi, mNr, mN0, al20, al21, al22, al23, al25, true_or, or_true, and_self, if_true, if_false, mCat_n, mCat_i, mCat_r, mCat_l, mCat_0, Nat.reduceAdd, Nat.reduceLeDiff, Nat.reduceLT, true_and, and_true, Nat.zero_le, bI_01, hk.1, h3, hc]
    exact hQ
  | cons c rest ih =>
    intro i a hi ha hc hQ
    simp only [List.length_cons] at hi
    have hlt : ¬ iI (n : Int) ≤ iI (i : Int) := by rw [iI_leN (by omega) (by omega)]; omega
    have hii : mInB (iI (i : Int)) r = true := mInB_N (by omega) (by omega)
    have hci : (iI (i : Int)).toNatClampNeg = i := iI_clN (by omega)
    have hcc : cAt T p i c := hc 0 c rfl
    have ht : ∀ (j : Nat) (d : Cn), rest[j]? = some d → cAt T p (i + 1 + j) d := fun j d hd => by
      have := hc (j + 1) d (by simpa using hd)
      rw [show i + 1 + j = i + (j + 1) by omega]; exact this
    simp only [e_63_4, e_63_5, e_63_5_n, e_63_6, e_63_9, e_63_12, e_63_12_n, e_63_13, e_63_16, e_63_17, e_63_18, XB_i, XB_n, va_rf_s, va_rf_n, mSI_K, mSI_I, mSI_J, mSI_P, mSI_N, mSJ_K, mSJ_I, mSJ_J, mSJ_P, mSJ_N, mSP_K, mSP_I, mSP_J, mSP_P, mSP_N, mNn, mNi, mNr, mN0, al20, al21, al22, al23, al25, true_or, or_true, and_self, if_true, if_false, mCat_n, mCat_i, mCat_r, mCat_l, mCat_0, Nat.reduceAdd, Nat.reduceLeDiff, Nat.reduceLT, true_and, and_true, Nat.zero_le, bI_01, hk.1, hk.2.2.2.1, hk.2.2.2.2.2.2.1, h3, hlt, hii, hci, hcc.2.2, bI_0]
    by_cases hb : c.2.2 = true
    · rw [if_neg (by rw [hb]; decide)]
      simp only [e_63_21, e_63_24, e_63_27, XB_i, XB_n, va_rf_s, va_rf_n, mSI_K, mSI_I, mSI_J, mSI_P, mSI_N, mSJ_K, mSJ_I, mSJ_J, mSJ_P, mSJ_N, mSP_K, mSP_I, mSP_J, mSP_P, mSP_N, mNn, mNi, mNr, mN0, al20, al21, al22, al23, al25, true_or, or_true, and_self, if_true, if_false, mCat_n, mCat_i, mCat_r, mCat_l, mCat_0, Nat.reduceAdd, Nat.reduceLeDiff, Nat.reduceLT, true_and, and_true, Nat.zero_le, bI_01, iI_1N]
      exact ih (i + 1) (a + 1) (by omega) (by omega) ht (by rw [show a + 1 + pcs rest = a + pcs (c :: rest) by simp only [pcs, hb, if_true]; omega]; exact hQ)
    · have hbf : c.2.2 = false := by simpa using hb
      rw [if_pos hbf]
      simp only [e_63_24, e_63_27, XB_i, XB_n, va_rf_s, va_rf_n, mSI_K, mSI_I, mSI_J, mSI_P, mSI_N, mSJ_K, mSJ_I, mSJ_J, mSJ_P, mSJ_N, mSP_K, mSP_I, mSP_J, mSP_P, mSP_N, mNn, mNi, mNr, mN0, al20, al21, al22, al23, al25, true_or, or_true, and_self, if_true, if_false, mCat_n, mCat_i, mCat_r, mCat_l, mCat_0, Nat.reduceAdd, Nat.reduceLeDiff, Nat.reduceLT, true_and, and_true, Nat.zero_le, bI_01, iI_1N]
      exact ih (i + 1) a (by omega) (by omega) ht (by rw [show a + pcs rest = a + pcs (c :: rest) by simp [pcs, hbf]]; exact hQ)
theorem ct_path_pcs {T : mT} {Q : mOut → mT → Prop} {p r : Nat} {cs : List Cn} (h : PathR T p r cs) (hQ : Q (.inl (some (.int (iI (pcs cs))))) T) : XW 63 0 [some (.ref p), none, none] [] T Q := by
  simp only [e_63_0, e_63_1, e_63_2, e_63_3, XB_i, XB_n, va_rf_s, va_rf_n, mSI_K, mSI_I, mSI_J, mSI_P, mSI_N, mSJ_K, mSJ_I, mSJ_J, mSJ_P, mSJ_N, mSP_K, mSP_I, mSP_J, mSP_P, mSP_N, mNn, mNi, mNr, mN0, al20, al21, al22, al23, al25, true_or, or_true, and_self, if_true, if_false, mCat_n, mCat_i, mCat_r, mCat_l, mCat_0, Nat.reduceAdd, Nat.reduceLeDiff, Nat.reduceLT, true_and, and_true, Nat.zero_le, bI_01]
  exact ct_pcs_loop (n := cs.length) h.2.2.1 h.1 h.2.1 cs 0 0 (by simp) (by omega) (fun j c hc => by rw [Nat.zero_add]; exact h.2.2.2 j c hc) (by rw [Nat.zero_add]; exact hQ)
/-- how many corners follow that begin no piece -/
def runL : List Cn → Nat
  | [] => 0
  | c :: r => if c.2.2 then 0 else 1 + runL r
theorem runL_le (l : List Cn) : runL l ≤ l.length := by
  induction l with
  | nil => simp [runL]
  | cons c r ih => unfold runL; simp only [List.length_cons]; split <;> omega
theorem ct_psz_loop {p r : Nat} {Q : mOut → mT → Prop} {T : mT} {n : Nat} {c1 : Int32} (hn : n ≤ r) (hk : PK T p r) (h3 : T.2.1 p 3 = iI n) : ∀ (rest : List Cn) (i a : Nat), i + rest.length = n → a ≤ i → (∀ (j : Nat) (c : Cn), rest[j]? = some c → cAt T p (i + j) c) → Q (.inl (some (.int (iI ((a + runL rest : Nat) : Int))))) T → XW 64 6 [some (.ref p), some (.int c1), some (.int (iI a)), some (.int (iI i))] [] T Q := by
  have hr := hk.2.2.2.2.2.2.2
  intro rest
  induction rest with
  | nil =>
    intro i a hi ha hc hQ
    have hin : i = n := by simpa using hi
    have hc : iI (n : Int) ≤ iI (i : Int) := by rw [iI_leN (by omega) (by omega)]; omega
    simp only [e_64_6, e_64_7, e_64_7_n, e_64_8, e_64_11, e_64_32, e_64_33, XB_i, XB_n, va_rf_s, va_rf_n, mSI_K, mSI_I, mSI_J, mSI_P, mSI_N, mSJ_K, mSJ_I, mSJ_J, mSJ_P, mSJ_N, mSP_K, mSP_I, mSP_J, mSP_P, mSP_N, mNn, mNi, mNr, mN0, al20, al21, al22, al23, al25, true_or, or_true, and_self, if_true, if_false, mCat_n, mCat_i, mCat_r, mCat_l, mCat_0, Nat.reduceAdd, Nat.reduceLeDiff, Nat.reduceLT, true_and, and_true, Nat.zero_le, bI_01, hk.1, h3, hc]
    exact hQ
  | cons c rest ih =>
    intro i a hi ha hc hQ
    simp only [List.length_cons] at hi
    have hlt : ¬ iI (n : Int) ≤ iI (i : Int) := by rw [iI_leN (by omega) (by omega)]; omega
    have hii : mInB (iI (i : Int)) r = true := mInB_N (by omega) (by omega)
    have hci : (iI (i : Int)).toNatClampNeg = i := iI_clN (by omega)
    have hcc : cAt T p i c := hc 0 c rfl
    have ht : ∀ (j : Nat) (d : Cn), rest[j]? = some d → cAt T p (i + 1 + j) d := fun j d hd => by
      have := hc (j + 1) d (by simpa using hd)
      rw [show i + 1 + j = i + (j + 1) by omega]; exact this
    simp only [e_64_6, e_64_7, e_64_7_n, e_64_8, e_64_11, e_64_14, e_64_14_n, e_64_15, e_64_18, e_64_19, e_64_20, XB_i, XB_n, va_rf_s, va_rf_n, mSI_K, mSI_I, mSI_J, mSI_P, mSI_N, mSJ_K, mSJ_I, mSJ_J, mSJ_P, mSJ_N, mSP_K, mSP_I, mSP_J, mSP_P, mSP_N, mNn, mNi, mNr, mN0, al20, al21, al22, al23, al25, true_or, or_true, and_self, if_true, if_false, mCat_n, mCat_i, mCat_r, mCat_l, mCat_0, Nat.reduceAdd, Nat.reduceLeDiff, Nat.reduceLT, true_and, and_true, Nat.zero_le, bI_01, hk.1, hk.2.2.2.1, hk.2.2.2.2.2.2.1, h3, hlt, hii, hci, hcc.2.2, bI_0]
    by_cases hb : c.2.2 = true
    · rw [if_neg (by rw [hb]; decide)]
      simp only [e_64_32, e_64_33, XB_i, XB_n, va_rf_s, va_rf_n, mSI_K, mSI_I, mSI_J, mSI_P, mSI_N, mSJ_K, mSJ_I, mSJ_J, mSJ_P, mSJ_N, mSP_K, mSP_I, mSP_J, mSP_P, mSP_N, mNn, mNi, mNr, mN0, al20, al21, al22, al23, al25, true_or, or_true, and_self, if_true, if_false, mCat_n, mCat_i, mCat_r, mCat_l, mCat_0, Nat.reduceAdd, Nat.reduceLeDiff, Nat.reduceLT, true_and, and_true, Nat.zero_le, bI_01]
      rw [show a + runL (c :: rest) = a by simp [runL, hb]] at hQ
      exact hQ
    · have hbf : c.2.2 = false := by simpa using hb
      rw [if_pos hbf]
      simp only [e_64_23, e_64_26, e_64_29, XB_i, XB_n, va_rf_s, va_rf_n, mSI_K, mSI_I, mSI_J, mSI_P, mSI_N, mSJ_K, mSJ_I, mSJ_J, mSJ_P, mSJ_N, mSP_K, mSP_I, mSP_J, mSP_P, mSP_N, mNn, mNi, mNr, mN0, al20, al21, al22, al23, al25, true_or, or_true, and_self, if_true, if_false, mCat_n, mCat_i, mCat_r, mCat_l, mCat_0, Nat.reduceAdd, Nat.reduceLeDiff, Nat.reduceLT, true_and, and_true, Nat.zero_le, bI_01, iI_1N]
      exact ih (i + 1) (a + 1) (by omega) (by omega) ht (by rw [show a + 1 + runL rest = a + runL (c :: rest) by simp [runL, hbf]; omega]; exact hQ)
theorem ct_path_psz {T : mT} {Q : mOut → mT → Prop} {p r i : Nat} {cs : List Cn} (h : PathR T p r cs) (hi : i < cs.length) (hQ : Q (.inl (some (.int (iI ((1 + runL (cs.drop (i + 1)) : Nat) : Int))))) T) : XW 64 0 [some (.ref p), some (.int (iI i)), none, none] [] T Q := by
  simp only [e_64_0, e_64_1, e_64_2, e_64_3, e_64_4, e_64_5, XB_i, XB_n, va_rf_s, va_rf_n, mSI_K, mSI_I, mSI_J, mSI_P, mSI_N, mSJ_K, mSJ_I, mSJ_J, mSJ_P, mSJ_N, mSP_K, mSP_I, mSP_J, mSP_P, mSP_N, mNn, mNi, mNr, mN0, al20, al21, al22, al23, al25, true_or, or_true, and_self, if_true, if_false, mCat_n, mCat_i, mCat_r, mCat_l, mCat_0, Nat.reduceAdd, Nat.reduceLeDiff, Nat.reduceLT, true_and, and_true, Nat.zero_le, bI_01, iI_1N]
  exact ct_psz_loop (n := cs.length) h.2.2.1 h.1 h.2.1 (cs.drop (i + 1)) (i + 1) 1 (by rw [List.length_drop]; omega) (by omega) (fun j c hc => by rw [List.getElem?_drop] at hc; exact h.2.2.2 _ c hc) hQ
