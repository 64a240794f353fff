/-! Octets: a list of bytes -/
def OctR (T : mT) (a : Nat) (bs : List Int32) : Prop := T.1 a = (4, 0) ∧ T.2.2.2.1 a 0 = some (a + 1) ∧ T.1 (a + 1) = (20, 5880) ∧ T.2.1 a 1 = nI bs.length ∧ bs.length ≤ 5880 ∧ ∀ j x, bs[j]? = some x → T.2.1 (a + 1) j = x
theorem OctR.fr {S : Nat → Prop} {T T2 : mT} {a : Nat} {bs : List Int32} (h : OctR T a bs) (hf : Fr S T T2) (hs : ∀ b, iv a (a + 2) b → ¬ S b) : OctR T2 a bs := by
  obtain ⟨h1, h2, h3, h4, h5, h6⟩ := h
  have s0 : ¬ S a := hs a ⟨by omega, by omega⟩
  have s1 : ¬ S (a + 1) := hs (a + 1) ⟨by omega, by omega⟩
  exact ⟨by rw [hf.K]; exact h1, by rw [hf.P s0]; exact h2, by rw [hf.K]; exact h3, by rw [hf.I s0]; exact h4, h5, fun j x hx => by rw [hf.I s1]; exact h6 j x hx⟩
theorem ct_add {T : mT} {a : Nat} {x : Int32} {bs : List Int32} {Q : mOut → mT → Prop} (h : OctR T a bs) (hl : bs.length < 5880) (hQ : ∀ T2, OctR T2 a (bs ++ [x.toInt8.toInt32]) → Fr (iv a (a + 2)) T T2 → Q (.inl none) T2) : XW 40 0 [some (.ref a), some (.int x)] [] T Q := by
  obtain ⟨h1, h2, h3, h4, h5, h6⟩ := h
  have hin : mInB (nI bs.length) 5880 = true := mInB_nI hl (by decide)
  have hcl : (nI bs.length).toNatClampNeg = bs.length := nI_clamp (by omega)
  have hlt : ¬ nI 5880 ≤ nI bs.length := nI_ge hl (by decide)
  have hne : ¬ (a = a + 1 ∧ 1 = bs.length) := fun q => by omega
  simp only [e_40_0, e_40_0_n, e_40_1, e_40_4, e_40_4_n, e_40_5, e_40_8, e_40_9, e_40_12, e_40_12_n, e_40_13, e_40_16, e_40_16_n, e_40_17, e_40_20, e_40_21, e_40_22, e_40_22_z, e_40_23, e_40_23_n, e_40_24, e_40_24_i, e_40_25, e_40_28, e_40_29, e_40_30, e_40_33, va_rf_s, va_rf_n, mSI_K, mSI_I, mSI_J, mSI_P, mSI_N, mSJ_K, mSJ_I, mSJ_J, mSJ_P, mSJ_N, mSP_K, mSP_I, mSP_J, mSP_P, mSP_N, mNL_n, mNL_i, mNL_r, mNL_0, al20, al21, al22, al23, al25, true_or, or_true, and_self, if_true, if_false, mCat_n, mCat_i, mCat_r, mCat_l, mCat_0, Nat.reduceAdd, Nat.reduceLeDiff, Nat.reduceLT, true_and, and_true, Nat.zero_le, bI_01, h1, h2, h3, h4, hin, hcl, hlt, mU_n _ _ hne, toInt8_idem]
  refine hQ _ ⟨h1, h2, h3, ?_, by simp; omega, ?_⟩ ?_
  · simp only [mSI_I, mU_s]
    rw [nI_1, List.length_append]
    rfl
  · intro j y hy
    simp only [mSI_I]
    rw [mU_n _ _ (fun q => by omega)]
    by_cases hj : j = bs.length
    · subst hj
      rw [mU_s]
      simp at hy
      exact hy
    · rw [mU_n _ _ (fun q => hj q.2)]
      have hj2 : j < bs.length := by
        have := (List.getElem?_eq_some_iff.mp hy).1
        simp at this
        omega
      rw [List.getElem?_append_left hj2] at hy
      exact h6 j y hy
  · exact Fr.iI (Fr.iI Fr.rf ⟨by omega, by omega⟩) ⟨by omega, by omega⟩
