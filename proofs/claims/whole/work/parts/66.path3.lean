/-! Path: tidy, copyFrom, measure, misses -/
def tidyC (k : Nat) (b : List Cn) : List Cn := if k = 2 ∧ 1 < b.length ∧ (match b.head?, b.getLast? with
  | some c, some d => sameC c d
  | _, _ => false) = true then b.dropLast else b
def tidyS (k : Nat) (cs : List Cn) : List Cn :=
  let c := tidyC k (if k = 1 then rmL (mrg [] cs) else mrg [] cs)
  if c.length < k + 1 then [] else c
theorem mrg_mem : ∀ (rest out : List Cn) (c : Cn), c ∈ mrg out rest → c ∈ out ∨ c ∈ rest
  | [], out, c, h => Or.inl h
  | d :: rest, out, c, h => by
    have h2 : c ∈ mrg (out ++ [d]) rest ∨ c ∈ mrg out rest := by
      unfold mrg at h
      generalize (d.2.2 || !(match out.getLast? with
        | some e => sameC d e
        | none => false)) = b at h
      cases b
      · exact Or.inr h
      · exact Or.inl h
    rcases h2 with h | h
    · rcases mrg_mem rest _ c h with q | q
      · rcases List.mem_append.mp q with q | q
        · exact Or.inl q
        · rw [List.mem_singleton.mp q]; exact Or.inr List.mem_cons_self
      · exact Or.inr (List.mem_cons_of_mem _ q)
    · rcases mrg_mem rest _ c h with q | q
      · exact Or.inl q
      · exact Or.inr (List.mem_cons_of_mem _ q)
theorem rmL_mem : ∀ (l : List Cn) (c : Cn), c ∈ rmL l → c ∈ l
  | [], c, h => h
  | [d], c, h => by
    unfold rmL at h
    split at h
    · cases h
    · exact h
  | d :: e :: r, c, h => by
    unfold rmL at h
    split at h
    · exact List.mem_cons_of_mem _ (rmL_mem (e :: r) c h)
    · rcases List.mem_cons.mp h with q | q
      · rw [q]; exact List.mem_cons_self
      · exact List.mem_cons_of_mem _ (rmL_mem (e :: r) c q)
theorem PathR.shrink {T : mT} {p r n : Nat} {cs : List Cn} (h : PathR T p r cs) (hn : n ≤ cs.length) : PathR (mSI T p 3 (iI n)) p r (cs.take n) := by
  obtain ⟨h1, h2, h3, h4⟩ := h
  refine ⟨h1, by simp only [mSI_I, mU_s]; rw [List.length_take, Nat.min_eq_left hn], by rw [List.length_take]; omega, fun j c hc => ?_⟩
  have hj : cs[j]? = some c := by
    rw [List.getElem?_take] at hc
    split at hc
    · exact hc
    · cases hc
  obtain ⟨k1, k2, k3⟩ := h4 j c hj
  exact ⟨by simp only [mSI_I]; rw [mU_n _ _ (by omega)]; exact k1, by simp only [mSI_I]; rw [mU_n _ _ (by omega)]; exact k2, by simp only [mSI_I]; rw [mU_n _ _ (by omega)]; exact k3⟩
theorem ct_path_tidy {T : mT} {Q : mOut → mT → Prop} {p r k : Nat} {cs : List Cn} (h : PathR T p r cs) (hb : ∀ c ∈ cs, cB c) (hk : k < 3) (hQ : ∀ T2, PathR T2 p r (tidyS k cs) → Fr (iv p (p + 4)) T T2 → Q (.inl none) T2) : XW 60 0 [some (.ref p), some (.int (iI k))] [] T Q := by
  have h10 : ¬ (1 : Int32) = 0 := by decide
  have key1 : (iI (k : Int) = 1) = (k = 1) := by rw [iI_1]; exact iI_eqN (b := 1) (by omega) (by omega)
  have key2 : (iI (k : Int) = 2) = (k = 2) := by rw [iI_lit]; exact iI_eqN (b := 2) (by omega) (by omega)
  /- the last look: too few -/
  have fin : ∀ (T1 : mT) (c : List Cn), PathR T1 p r c → Fr (iv p (p + 4)) T T1 → tidyS k cs = (if c.length < k + 1 then [] else c) → XW 60 50 [some (.ref p), some (.int (iI k))] [] T1 Q := by
    intro T1 c h1 f1 he
    have hr := h1.1.2.2.2.2.2.2.2
    have hl := h1.2.2.1
    simp only [e_60_50, e_60_50_n, e_60_51, e_60_54, e_60_55, e_60_56, e_60_57, XB_i, XB_n, va_rf_s, va_rf_n, mSI_K, mSI_I, mSI_J, mSI_P, mSI_N, mSJ_K, mSJ_I, mSJ_J, mSJ_P, mSJ_N, mSP_K, mSP_I, mSP_J, mSP_P, mSP_N, mNn, mNi, mNr, mN0, al20, al21, al22, al23, al25, true_or, or_true, and_self, if_true, if_false, mCat_n, mCat_i, mCat_r, mCat_l, mCat_0, Nat.reduceAdd, Nat.reduceLeDiff, Nat.reduceLT, true_and, and_true, Nat.zero_le, bI_01, h1.1.1, h1.2.1, iI_1N, iI_leN (show k + 1 < 2147483648 by omega) (show c.length < 2147483648 by omega)]
    by_cases hc : k + 1 ≤ c.length
    · rw [if_pos hc]
      simp only [e_60_65]
      refine hQ T1 ?_ f1
      rw [he, if_neg (by omega)]
      exact h1
    · rw [if_neg hc]
      simp only [e_60_60, e_60_60_n, e_60_61, e_60_62, e_60_65, XB_i, XB_n, va_rf_s, va_rf_n, mSI_K, mSI_I, mSI_J, mSI_P, mSI_N, mSJ_K, mSJ_I, mSJ_J, mSJ_P, mSJ_N, mSP_K, mSP_I, mSP_J, mSP_P, mSP_N, mNn, mNi, mNr, mN0, al20, al21, al22, al23, al25, true_or, or_true, and_self, if_true, if_false, mCat_n, mCat_i, mCat_r, mCat_l, mCat_0, Nat.reduceAdd, Nat.reduceLeDiff, Nat.reduceLT, true_and, and_true, Nat.zero_le, bI_01, h1.1.1]
      refine hQ _ ?_ (Fr.iI f1 ⟨by omega, by omega⟩)
      rw [he, if_pos (by omega)]
      have := h1.shrink (n := 0) (by omega)
      rw [List.take_zero] at this
      exact this
  /- the ring's end -/
  have ring : ∀ (T1 : mT) (b : List Cn), PathR T1 p r b → (∀ c ∈ b, cB c) → Fr (iv p (p + 4)) T T1 → tidyS k cs = (if (tidyC k b).length < k + 1 then [] else tidyC k b) → XW 60 13 [some (.ref p), some (.int (iI k))] [] T1 Q := by
    intro T1 b h1 bb f1 he
    have hr := h1.1.2.2.2.2.2.2.2
    have hl := h1.2.2.1
    have plain : tidyC k b = b → XW 60 50 [some (.ref p), some (.int (iI k))] [] T1 Q := fun hq => fin T1 b h1 f1 (by rw [he, hq])
    have hle : (iI (b.length : Int) ≤ 1) = (b.length ≤ 1) := by rw [iI_1]; exact iI_leN (b := 1) (by omega) (by omega)
    simp only [e_60_13, e_60_14, e_60_15, key2]
    by_cases h2 : k = 2
    · rw [if_pos h2]
      simp only [e_60_18, e_60_18_n, e_60_19, e_60_22, e_60_23, XB_i, XB_n, va_rf_s, va_rf_n, mSI_K, mSI_I, mSI_J, mSI_P, mSI_N, mSJ_K, mSJ_I, mSJ_J, mSJ_P, mSJ_N, mSP_K, mSP_I, mSP_J, mSP_P, mSP_N, mNn, mNi, mNr, mN0, al20, al21, al22, al23, al25, true_or, or_true, and_self, if_true, if_false, mCat_n, mCat_i, mCat_r, mCat_l, mCat_0, Nat.reduceAdd, Nat.reduceLeDiff, Nat.reduceLT, true_and, and_true, Nat.zero_le, bI_01, h1.1.1, h1.2.1, hle]
      by_cases h3 : b.length ≤ 1
      · rw [if_pos h3]
        exact plain (by unfold tidyC; rw [if_neg (fun q => by have := q.2.1; omega)])
      · rw [if_neg h3]
        obtain ⟨c, hc⟩ : ∃ c, b[0]? = some c := ⟨b[0], List.getElem?_eq_getElem (by omega)⟩
        obtain ⟨d, hd⟩ : ∃ d, b[b.length - 1]? = some d := ⟨b[b.length - 1], List.getElem?_eq_getElem (by omega)⟩
        have hh : b.head? = some c := by rw [List.head?_eq_getElem?]; exact hc
        have hg : b.getLast? = some d := by rw [List.getLast?_eq_getElem?]; exact hd
        simp only [e_60_26, e_60_26_n, e_60_27, e_60_28, e_60_28_n, e_60_29, e_60_32, e_60_33, XB_i, XB_n, va_rf_s, va_rf_n, mSI_K, mSI_I, mSI_J, mSI_P, mSI_N, mSJ_K, mSJ_I, mSJ_J, mSJ_P, mSJ_N, mSP_K, mSP_I, mSP_J, mSP_P, mSP_N, mNn, mNi, mNr, mN0, al20, al21, al22, al23, al25, true_or, or_true, and_self, if_true, if_false, mCat_n, mCat_i, mCat_r, mCat_l, mCat_0, Nat.reduceAdd, Nat.reduceLeDiff, Nat.reduceLT, true_and, and_true, Nat.zero_le, bI_01, h1.1.1, h1.2.1, iI_m1N (show 1 ≤ b.length by omega)]
        refine c_60_34 (by simp only [XB_i, XB_n, va_rf_s, va_rf_n, mSI_K, mSI_I, mSI_J, mSI_P, mSI_N, mSJ_K, mSJ_I, mSJ_J, mSJ_P, mSJ_N, mSP_K, mSP_I, mSP_J, mSP_P, mSP_N, mNn, mNi, mNr, mN0, al20, al21, al22, al23, al25, true_or, or_true, and_self, if_true, if_false, mCat_n, mCat_i, mCat_r, mCat_l, mCat_0, Nat.reduceAdd, Nat.reduceLeDiff, Nat.reduceLT, true_and, and_true, Nat.zero_le, bI_01]) (by rw [h1.1.1]) ?_
        refine ct_path_same (i := 0) (j := b.length - 1) h1.1 (by omega) (by omega) (h1.2.2.2 0 c hc) (h1.2.2.2 _ d hd) (bb c (List.mem_of_getElem? hc)) (bb d (List.mem_of_getElem? hd)) ?_
        simp only [e_60_37, XB_i, XB_n, va_rf_s, va_rf_n, mSI_K, mSI_I, mSI_J, mSI_P, mSI_N, mSJ_K, mSJ_I, mSJ_J, mSJ_P, mSJ_N, mSP_K, mSP_I, mSP_J, mSP_P, mSP_N, mNn, mNi, mNr, mN0, al20, al21, al22, al23, al25, true_or, or_true, and_self, if_true, if_false, mCat_n, mCat_i, mCat_r, mCat_l, mCat_0, Nat.reduceAdd, Nat.reduceLeDiff, Nat.reduceLT, true_and, and_true, Nat.zero_le, bI_01, bI_0]
        by_cases hs : sameC c d = true
        · rw [if_neg (by rw [hs]; decide)]
          simp only [e_60_40, e_60_40_n, e_60_41, e_60_41_i, e_60_42, e_60_45, e_60_46, e_60_47, XB_i, XB_n, va_rf_s, va_rf_n, mSI_K, mSI_I, mSI_J, mSI_P, mSI_N, mSJ_K, mSJ_I, mSJ_J, mSJ_P, mSJ_N, mSP_K, mSP_I, mSP_J, mSP_P, mSP_N, mNn, mNi, mNr, mN0, al20, al21, al22, al23, al25, true_or, or_true, and_self, if_true, if_false, mCat_n, mCat_i, mCat_r, mCat_l, mCat_0, Nat.reduceAdd, Nat.reduceLeDiff, Nat.reduceLT, true_and, and_true, Nat.zero_le, bI_01, h1.1.1, h1.2.1, iI_m1N (show 1 ≤ b.length by omega)]
          have hq : tidyC k b = b.take (b.length - 1) := by
            unfold tidyC
            rw [if_pos ⟨h2, by omega, by rw [hh, hg]; exact hs⟩, List.dropLast_eq_take]
          exact fin _ (b.take (b.length - 1)) (h1.shrink (by omega)) (Fr.iI f1 ⟨by omega, by omega⟩) (by rw [he, hq])
        · rw [if_pos (by simpa using hs)]
          exact plain (by unfold tidyC; rw [if_neg (fun q => hs (by have := q.2.2; rw [hh, hg] at this; exact this))])
    · rw [if_neg h2]
      exact plain (by unfold tidyC; rw [if_neg (fun q => h2 q.1)])
  simp only [e_60_0, e_60_0_n]
  refine c_60_1 (by simp only [XB_i, XB_n, va_rf_s, va_rf_n, mSI_K, mSI_I, mSI_J, mSI_P, mSI_N, mSJ_K, mSJ_I, mSJ_J, mSJ_P, mSJ_N, mSP_K, mSP_I, mSP_J, mSP_P, mSP_N, mNn, mNi, mNr, mN0, al20, al21, al22, al23, al25, true_or, or_true, and_self, if_true, if_false, mCat_n, mCat_i, mCat_r, mCat_l, mCat_0, Nat.reduceAdd, Nat.reduceLeDiff, Nat.reduceLT, true_and, and_true, Nat.zero_le, bI_01]) (by rw [h.1.1]) (ct_path_mrg h hb (fun T1 h1 f1 => ?_))
  have b1 : ∀ c ∈ mrg [] cs, cB c := fun c hc => by
    rcases mrg_mem cs [] c hc with q | q
    · cases q
    · exact hb c q
  simp only [e_60_4, e_60_5, e_60_6, XB_i, XB_n, va_rf_s, va_rf_n, mSI_K, mSI_I, mSI_J, mSI_P, mSI_N, mSJ_K, mSJ_I, mSJ_J, mSJ_P, mSJ_N, mSP_K, mSP_I, mSP_J, mSP_P, mSP_N, mNn, mNi, mNr, mN0, al20, al21, al22, al23, al25, true_or, or_true, and_self, if_true, if_false, mCat_n, mCat_i, mCat_r, mCat_l, mCat_0, Nat.reduceAdd, Nat.reduceLeDiff, Nat.reduceLT, true_and, and_true, Nat.zero_le, bI_01, key1]
  by_cases hk1 : k = 1
  · rw [if_pos hk1]
    simp only [e_60_9, e_60_9_n]
    refine c_60_10 (by simp only [XB_i, XB_n, va_rf_s, va_rf_n, mSI_K, mSI_I, mSI_J, mSI_P, mSI_N, mSJ_K, mSJ_I, mSJ_J, mSJ_P, mSJ_N, mSP_K, mSP_I, mSP_J, mSP_P, mSP_N, mNn, mNi, mNr, mN0, al20, al21, al22, al23, al25, true_or, or_true, and_self, if_true, if_false, mCat_n, mCat_i, mCat_r, mCat_l, mCat_0, Nat.reduceAdd, Nat.reduceLeDiff, Nat.reduceLT, true_and, and_true, Nat.zero_le, bI_01]) (by rw [h1.1.1]) (ct_path_rml h1 (fun T2 h2 f2 => ?_))
    simp only [XB_i, XB_n, va_rf_s, va_rf_n, mSI_K, mSI_I, mSI_J, mSI_P, mSI_N, mSJ_K, mSJ_I, mSJ_J, mSJ_P, mSJ_N, mSP_K, mSP_I, mSP_J, mSP_P, mSP_N, mNn, mNi, mNr, mN0, al20, al21, al22, al23, al25, true_or, or_true, and_self, if_true, if_false, mCat_n, mCat_i, mCat_r, mCat_l, mCat_0, Nat.reduceAdd, Nat.reduceLeDiff, Nat.reduceLT, true_and, and_true, Nat.zero_le, bI_01]
    exact ring T2 _ h2 (fun c hc => b1 c (rmL_mem _ c hc)) (f1.tr f2) (by unfold tidyS; rw [if_pos hk1])
  · rw [if_neg hk1]
    exact ring T1 _ h1 b1 f1 (by unfold tidyS; rw [if_neg hk1])
/-- another path's corners -/
theorem ct_copy_loop {p q r rq : Nat} {Q : mOut → mT → Prop} {cs : List Cn} (hpq : p + 4 ≤ q ∨ q + 4 ≤ p) (hl : cs.length ≤ r) : ∀ (rest out : List Cn) (T : mT), out ++ rest = cs → PathR T p r out → PathR T q rq cs → (∀ T2, PathR T2 p r cs → Fr (iv p (p + 4)) T T2 → Q (.inl none) T2) → XW 67 7 [some (.ref p), some (.ref q), some (.int (iI out.length))] [] T Q := by
  intro rest
  induction rest with
  | nil =>
    intro out T ho hp hq hQ
    rw [List.append_nil] at ho
    subst ho
    have hr := hq.1.2.2.2.2.2.2.2
    have hlq := hq.2.2.1
    have hc : iI (out.length : Int) ≤ iI (out.length : Int) := by rw [iI_leN (by omega) (by omega)]; omega
    simp only [e_67_7, e_67_8, e_67_8_n, e_67_9, e_67_12, e_67_43, XB_i, XB_n, va_rf_s, va_rf_n, mSI_K, mSI_I, mSI_J, mSI_P, mSI_N, mSJ_K, mSJ_I, mSJ_J, mSJ_P, mSJ_N, mSP_K, mSP_I, mSP_J, mSP_P, mSP_N, mNn, mNi, mNr, mN0, al20, al21, al22, al23, al25, true_or, or_true, and_self, if_true, if_false, mCat_n, mCat_i, mCat_r, mCat_l, mCat_0, Nat.reduceAdd, Nat.reduceLeDiff, Nat.reduceLT, true_and, and_true, Nat.zero_le, bI_01, hq.1.1, hq.2.1, hc]
    exact hQ T hp Fr.rf
  | cons c rest ih =>
    intro out T ho hp hq hQ
    have hr := hq.1.2.2.2.2.2.2.2
    have hlq := hq.2.2.1
    have hlen : out.length + (rest.length + 1) = cs.length := by rw [← ho]; simp
    have hc : ¬ iI (cs.length : Int) ≤ iI (out.length : Int) := by rw [iI_leN (by omega) (by omega)]; omega
    have hii : mInB (iI (out.length : Int)) rq = true := mInB_N (by omega) (by omega)
    have hci : (iI (out.length : Int)).toNatClampNeg = out.length := iI_clN (by omega)
    obtain ⟨k1, k2, k3⟩ := hq.2.2.2 out.length c (by rw [← ho, List.getElem?_append_right (by omega), Nat.sub_self]; rfl)
    simp only [e_67_7, e_67_8, e_67_8_n, e_67_9, e_67_12, e_67_15, e_67_15_n, e_67_16, e_67_16_n, e_67_17, e_67_20, e_67_21, e_67_22, e_67_22_n, e_67_23, e_67_26, e_67_27, e_67_28, e_67_28_n, e_67_29, e_67_32, e_67_33, XB_i, XB_n, va_rf_s, va_rf_n, mSI_K, mSI_I, mSI_J, mSI_P, mSI_N, mSJ_K, mSJ_I, mSJ_J, mSJ_P, mSJ_N, mSP_K, mSP_I, mSP_J, mSP_P, mSP_N, mNn, mNi, mNr, mN0, al20, al21, al22, al23, al25, true_or, or_true, and_self, if_true, if_false, mCat_n, mCat_i, mCat_r, mCat_l, mCat_0, Nat.reduceAdd, Nat.reduceLeDiff, Nat.reduceLT, true_and, and_true, Nat.zero_le, bI_01, hq.1.1, hq.1.2.1, hq.1.2.2.1, hq.1.2.2.2.1, hq.1.2.2.2.2.1, hq.1.2.2.2.2.2.1, hq.1.2.2.2.2.2.2.1, hq.2.1, hc, hii, hci, k1, k2, k3]
    refine c_67_34 (by simp only [XB_i, XB_n, va_rf_s, va_rf_n, mSI_K, mSI_I, mSI_J, mSI_P, mSI_N, mSJ_K, mSJ_I, mSJ_J, mSJ_P, mSJ_N, mSP_K, mSP_I, mSP_J, mSP_P, mSP_N, mNn, mNi, mNr, mN0, al20, al21, al22, al23, al25, true_or, or_true, and_self, if_true, if_false, mCat_n, mCat_i, mCat_r, mCat_l, mCat_0, Nat.reduceAdd, Nat.reduceLeDiff, Nat.reduceLT, true_and, and_true, Nat.zero_le, bI_01]) (by rw [hp.1.1]) (ct_path_add (c := c) hp (by omega) (fun T2 h2 f2 => ?_))
    simp only [e_67_37, e_67_40, XB_i, XB_n, va_rf_s, va_rf_n, mSI_K, mSI_I, mSI_J, mSI_P, mSI_N, mSJ_K, mSJ_I, mSJ_J, mSJ_P, mSJ_N, mSP_K, mSP_I, mSP_J, mSP_P, mSP_N, mNn, mNi, mNr, mN0, al20, al21, al22, al23, al25, true_or, or_true, and_self, if_true, if_false, mCat_n, mCat_i, mCat_r, mCat_l, mCat_0, Nat.reduceAdd, Nat.reduceLeDiff, Nat.reduceLT, true_and, and_true, Nat.zero_le, bI_01, iI_1N]
    have := ih (out ++ [c]) T2 (by rw [← ho]; simp) h2 (hq.fr f2 (fun b hb q => by have := hb.1; have := hb.2; have := q.1; have := q.2; omega)) (fun T3 h3 f3 => hQ T3 h3 (f2.tr f3))
    rw [List.length_append] at this
    exact this
theorem PathR.empty {T : mT} {p r : Nat} {cs : List Cn} (h : PathR T p r cs) : PathR (mSI T p 3 0) p r [] := by
  have := h.shrink (n := 0) (by omega)
  rw [List.take_zero] at this
  exact this
theorem ct_path_copy {T : mT} {Q : mOut → mT → Prop} {p q r rq : Nat} {cs old : List Cn} (hpq : p + 4 ≤ q ∨ q + 4 ≤ p) (hp : PathR T p r old) (hq : PathR T q rq cs) (hl : cs.length ≤ r) (hQ : ∀ T2, PathR T2 p r cs → Fr (iv p (p + 4)) T T2 → Q (.inl none) T2) : XW 67 0 [some (.ref p), some (.ref q), none] [] T Q := by
  simp only [e_67_0, e_67_0_n, e_67_1, e_67_2, e_67_5, e_67_6, XB_i, XB_n, va_rf_s, va_rf_n, mSI_K, mSI_I, mSI_J, mSI_P, mSI_N, mSJ_K, mSJ_I, mSJ_J, mSJ_P, mSJ_N, mSP_K, mSP_I, mSP_J, mSP_P, mSP_N, mNn, mNi, mNr, mN0, al20, al21, al22, al23, al25, true_or, or_true, and_self, if_true, if_false, mCat_n, mCat_i, mCat_r, mCat_l, mCat_0, Nat.reduceAdd, Nat.reduceLeDiff, Nat.reduceLT, true_and, and_true, Nat.zero_le, bI_01, hp.1.1]
  have f0 : Fr (iv p (p + 4)) T (mSI T p 3 0) := Fr.iI Fr.rf ⟨by omega, by omega⟩
  exact ct_copy_loop hpq hl cs [] _ rfl hp.empty (hq.fr f0 (fun b hb q => by have := hb.1; have := hb.2; have := q.1; have := q.2; omega)) (fun T2 h2 f2 => hQ T2 h2 (f0.tr f2))
