/-! the reference: reduce -/
theorem oneP_of {cs : List Cn} (h : ∀ j, j < cs.length → pG cs j = decide (j = 0)) : oneP cs := by
  cases cs with
  | nil => exact trivial
  | cons c r =>
    refine ⟨by have := h 0 (by simp); simpa [pG] using this, fun d hd => ?_⟩
    obtain ⟨j, hj, e⟩ := List.getElem_of_mem hd
    have := h (j + 1) (by simp; exact hj)
    unfold pG at this
    rw [List.getD_eq_getElem?_getD, List.getElem?_cons_succ, List.getElem?_eq_getElem hj, e] at this
    simpa using this
theorem sfL_p {z : Int} {cs : List Pt} {n j : Nat} (h : j < n) : (sfL z cs n).getD j dC = sfC z cs j := by
  unfold sfL
  rw [List.getD_eq_getElem?_getD, List.getElem?_map, List.getElem?_range h]
  rfl
theorem basC_oneP {z : Int} {F : Ft} (h : 1 ≤ F.2.2.length) : oneP (basC z F) := by
  have h1 : oneP (sfL z F.2.2 F.2.2.length) := oneP_of (fun j hj => by
    rw [sfL_len] at hj
    unfold pG
    rw [sfL_p hj]
    rfl)
  unfold basC
  split
  · cases e : sfL z F.2.2 F.2.2.length with
    | nil => have := sfL_len z F.2.2 F.2.2.length; rw [e] at this; simp at this; omega
    | cons c r =>
      rw [e] at h1
      refine ⟨h1.1, fun d hd => ?_⟩
      rcases List.mem_append.mp hd with q | q
      · exact h1.2 d q
      · simp at q; rw [q]
  · rw [List.append_nil]; exact h1
theorem kepC_2 {b : List Cn} (h : 2 ≤ b.length) : kepC b = keL (ksB (farC b) (b.length - 1)) 0 b := by
  unfold kepC
  split
  · rfl
  · rename_i q
    have e : b.length = 2 := by omega
    cases b with
    | nil => simp at h
    | cons c r =>
      cases r with
      | nil => simp at h
      | cons d r =>
        cases r with
        | nil =>
          have h0 : ksB (farC [c, d]) 1 0 = true := ksB_0 _ _
          have h1 : ksB (farC [c, d]) 1 1 = true := ksB_L _ _
          show [c, d] = keL (ksB (farC [c, d]) 1) 0 [c, d]
          unfold keL
          rw [h0, if_pos rfl]
          unfold keL
          rw [h1, if_pos rfl]
          rfl
        | cons e r => simp at e
theorem kepC_oneP {b : List Cn} (h : oneP b) : oneP (kepC b) := by
  unfold kepC
  split
  · exact oneP.ke (ksB_0 _ _) h
  · exact h
theorem shp_oneP {z : Int} {F : Ft} (ok : fOk F) : oneP (shpC z F) := by
  have h := mrg_oneP (kepC_oneP (basC_oneP (z := z) ok.c))
  have h2 : oneP (if F.1.2.1.toNat = 1 then rmL (mrg [] (kepC (basC z F))) else mrg [] (kepC (basC z F))) := by
    by_cases qk : F.1.2.1.toNat = 1
    · rw [if_pos qk]
      by_cases q : (mrg [] (kepC (basC z F))).length = 1
      · cases e : mrg [] (kepC (basC z F)) with
        | nil => exact trivial
        | cons c r =>
          rw [e] at h q
          cases r with
          | nil => unfold rmL; rw [h.1]; exact trivial
          | cons d r => simp at q
      · rw [(h.nl q).rm]; exact h
    · rw [if_neg qk]; exact h
  have h3 := oneP_tidyC (k := F.1.2.1.toNat) h2
  unfold shpC tidyS
  dsimp only
  generalize tidyC F.1.2.1.toNat (if F.1.2.1.toNat = 1 then rmL (mrg [] (kepC (basC z F))) else mrg [] (kepC (basC z F))) = c at *
  split
  · exact trivial
  · exact h3
theorem cutN_FB {left top : Int} {cs : List Cn} (h : FB cs) : ∀ w, FB (cutN 1 left top w cs)
  | 0 => h
  | w + 1 => cutS_FB (cutN_FB h w)
theorem cutN_NL {left top : Int} {cs : List Cn} (h : FB cs) (hn : NL cs) : ∀ w, NL (cutN 1 left top w cs)
  | 0 => hn
  | w + 1 => cutS_NL (cutN_NL h hn w) (cutN_FB h w)
theorem cutN_oneP {left top : Int} {cs : List Cn} (h : oneP cs) : ∀ w, oneP (cutN 2 left top w cs)
  | 0 => h
  | _ + 1 => cutS_oneP
def rdS (m : Nat) : Nat → Nat → Prop := fun b j => wkS m b j ∨ b = m + 40
theorem FtM.rd {T T2 : mT} {m f : Nat} {F : Ft} (h : FtM T m f F) (hf : Mf (rdS m) T T2) : FtM T2 m f F := h.mf hf (by
  rintro b j (⟨q, _⟩ | ⟨q, _⟩) (((⟨z, _⟩ | z) | (⟨z, _⟩ | z)) | z)
  all_goals first | (have := q.1; have := q.2; have := z.1; omega) | (have := q.1; have := q.2; omega))
theorem wk_rd {m b j : Nat} (h : wkS m b j) : rdS m b j := Or.inl h
section MW
variable {T : mT} {Q : mOut → mT → Prop} {m f : Nat} {F : Ft} {z tx ty : Int}
theorem lm_base {T0 : mT} (hM0 : ModK T0 m) (hF : FtM T0 m f F) (hf : f < 72) (ok : fOk F) (hz : 0 ≤ z ∧ z ≤ 4) : ∀ (k i : Nat) (T : mT), F.2.2.length - i = k → i ≤ F.2.2.length → Mf (cvS m) T0 T → T.2.1 m 43 = iI F.2.2.length → (∀ j, j < i → T.2.1 (m + 34) j = iI (sfC z F.2.2 j).1 ∧ T.2.1 (m + 35) j = iI (sfC z F.2.2 j).2.1 ∧ T.2.1 (m + 36) j = bI (decide (j = 0))) →
    (∀ T2, CwR T2 m (sfL z F.2.2 F.2.2.length) → Mf (cvS m) T0 T2 → XW 144 91 [some (.ref (m)), some (.int (iI ((f : Nat) : Int))), some (.int (iI (z))), some (.int (iI (tx))), some (.int (iI (ty))), some (.int (iI ((F.2.2.length : Nat) : Int))), none, none, none] [] T2 Q) → XW 144 13 [some (.ref (m)), some (.int (iI ((f : Nat) : Int))), some (.int (iI (z))), some (.int (iI (tx))), some (.int (iI (ty))), some (.int (iI ((i : Nat) : Int))), none, none, none] [] T Q := by
  have l12 := hF.2.2.2.2.2.2.1
  intro k
  induction k with
  | zero =>
    intro i T hk hi hT h43 hc hQ
    have hM := hM0.mf hT
    have : i = F.2.2.length := by omega
    subst this
    rw [e_144_13]
    simp (maxSteps := 4000000) (disch := first | (simp (disch := omega) only [XB_i, XB_n, va_rf_s, va_rf_n, mSI_K, mSI_I, mSI_J, mSI_P, mSI_N, mSJ_K, mSJ_I, mSJ_J, mSJ_P, mSJ_N, mSP_K, mSP_I, mSP_J, mSP_P, mSP_N, mNn, mNi, mNr, mN0, al20, al21, al22, al23, al25, true_or, or_true, and_self, if_true, if_false, mCat_n, mCat_i, mCat_r, mCat_l, mCat_0, Nat.reduceAdd, Nat.reduceLeDiff, Nat.reduceLT, true_and, and_true, Nat.zero_le, bI_01, mInB_J, mInB_Z, mInB_N, hM.k, h43]; done) | omega | (unfold R32 at *; omega)) only [e_144_15, e_144_15_n, e_144_16, e_144_19, XB_i, XB_n, va_rf_s, va_rf_n, mSI_K, mSI_I, mSI_J, mSI_P, mSI_N, mSJ_K, mSJ_I, mSJ_J, mSJ_P, mSJ_N, mSP_K, mSP_I, mSP_J, mSP_P, mSP_N, mNn, mNi, mNr, mN0, al20, al21, al22, al23, al25, true_or, or_true, and_self, if_true, if_false, mCat_n, mCat_i, mCat_r, mCat_l, mCat_0, Nat.reduceAdd, Nat.reduceLeDiff, Nat.reduceLT, true_and, and_true, Nat.zero_le, bI_01, bI_0, i10, tf0, iI_add, iI_sub, iI_mul, iI_neg, iI_add1, iI_sub1, iI_m1, nca, nc1, ncm1, iI_clJ, iI_cl0, iI_clN, Int.toNat_natCast, mU_n, mU_s, p_min, p_max, p_abs, ni_2, ni_3, ni_4, ni_7, ni_8, ni_9, ni_12, ni_24, ni_97, ni_100, ni_122, ni_200, ni_256, ni_4096, ni_5000, ni_9999, iI_lt, iI_le, iI_eq, iz_eq, iz_lt, iz_le, iz_gt, iz_ge, iy_eq, iy_lt, iy_le, iI_ltN, iI_leN, iI_eqN, if_pos, if_neg, hM.k, h43]
    refine hQ T ⟨by rw [sfL_len]; exact h43, fun j hj => ?_, fun j hj => ?_, fun j hj => ?_⟩ hT
    · rw [sfL_len] at hj; unfold pX; rw [sfL_p hj]; exact (hc j hj).1
    · rw [sfL_len] at hj; unfold pY; rw [sfL_p hj]; exact (hc j hj).2.1
    · rw [sfL_len] at hj; unfold pG; rw [sfL_p hj]; exact (hc j hj).2.2
  | succ k ih =>
    intro i T hk hi hT h43 hc hQ
    have hM := hM0.mf hT
    have n8 : ∀ j, ¬ cvS m (m + 8) j := by rintro j (⟨q, _⟩ | q); omega; have := q.1; omega
    have n9 : ∀ j, ¬ cvS m (m + 9) j := by rintro j (⟨q, _⟩ | q); omega; have := q.1; omega
    have x1 : T.2.1 (m + 8) (12 * f + i) = iI (cX F.2.2 i) := by rw [hT.I (n8 _)]; exact hF.2.2.2.2.2.2.2.1 i (by omega)
    have y1 : T.2.1 (m + 9) (12 * f + i) = iI (cY F.2.2 i) := by rw [hT.I (n9 _)]; exact hF.2.2.2.2.2.2.2.2 i (by omega)
    have s1 := @iI_shr (cX F.2.2 i) (4 - z) (ok.b.x i) (by omega) (by omega)
    have s2 := @iI_shr (cY F.2.2 i) (4 - z) (ok.b.y i) (by omega) (by omega)
    have go : ∀ v : Int32, v = bI (decide (i = 0)) → XW 144 13 [some (.ref (m)), some (.int (iI ((f : Nat) : Int))), some (.int (iI (z))), some (.int (iI (tx))), some (.int (iI (ty))), some (.int (iI ((i + 1 : Nat) : Int))), none, none, none] [] (mSI (mSI (mSI T (m + 34) i (iI (cX F.2.2 i / 2 ^ (4 - z).toNat))) (m + 35) i (iI (cY F.2.2 i / 2 ^ (4 - z).toNat))) (m + 36) i v) Q := by
      intro v hv
      refine ih (i + 1) _ (by omega) (by omega) (((hT.sI (Or.inr ⟨by omega, by omega⟩)).sI (Or.inr ⟨by omega, by omega⟩)).sI (Or.inr ⟨by omega, by omega⟩)) (by rw [← h43]; (simp (disch := omega) only [mSI_I, mSI_J, mSI_P, mSJ_I, mSJ_J, mSJ_P, mSP_I, mSP_J, mSP_P, mU_n, mU_s] <;> first | done | rfl | assumption)) (fun j hj => ?_) hQ
      by_cases e : j = i
      · subst e
        rw [← hv]
        exact ⟨by (simp (disch := omega) only [mSI_I, mSI_J, mSI_P, mSJ_I, mSJ_J, mSJ_P, mSP_I, mSP_J, mSP_P, mU_n, mU_s] <;> first | done | rfl | assumption), by (simp (disch := omega) only [mSI_I, mSI_J, mSI_P, mSJ_I, mSJ_J, mSJ_P, mSP_I, mSP_J, mSP_P, mU_n, mU_s] <;> first | done | rfl | assumption), by (simp (disch := omega) only [mSI_I, mSI_J, mSI_P, mSJ_I, mSJ_J, mSJ_P, mSP_I, mSP_J, mSP_P, mU_n, mU_s] <;> first | done | rfl | assumption)⟩
      · obtain ⟨a1, a2, a3⟩ := hc j (by omega)
        exact ⟨by rw [← a1]; (simp (disch := omega) only [mSI_I, mSI_J, mSI_P, mSJ_I, mSJ_J, mSJ_P, mSP_I, mSP_J, mSP_P, mU_n, mU_s] <;> first | done | rfl | assumption), by rw [← a2]; (simp (disch := omega) only [mSI_I, mSI_J, mSI_P, mSJ_I, mSJ_J, mSJ_P, mSP_I, mSP_J, mSP_P, mU_n, mU_s] <;> first | done | rfl | assumption), by rw [← a3]; (simp (disch := omega) only [mSI_I, mSI_J, mSI_P, mSJ_I, mSJ_J, mSJ_P, mSP_I, mSP_J, mSP_P, mU_n, mU_s] <;> first | done | rfl | assumption)⟩
    rw [e_144_13]
    by_cases q0 : i = 0
    · have g := go 1 (by rw [q0]; rfl)
      subst q0
      simp (maxSteps := 4000000) (disch := first | (simp (disch := omega) only [XB_i, XB_n, va_rf_s, va_rf_n, mSI_K, mSI_I, mSI_J, mSI_P, mSI_N, mSJ_K, mSJ_I, mSJ_J, mSJ_P, mSJ_N, mSP_K, mSP_I, mSP_J, mSP_P, mSP_N, mNn, mNi, mNr, mN0, al20, al21, al22, al23, al25, true_or, or_true, and_self, if_true, if_false, mCat_n, mCat_i, mCat_r, mCat_l, mCat_0, Nat.reduceAdd, Nat.reduceLeDiff, Nat.reduceLT, true_and, and_true, Nat.zero_le, bI_01, mInB_J, mInB_Z, mInB_N, hM.k, hM.r7, hM.a7, hM.r8, hM.a8, hM.r40, hM.a40, hM.r41, hM.a41, hM.r42, hM.a42, h43, x1, y1, s1, s2]; done) | omega | (unfold R32 at *; omega)) only [e_144_15, e_144_15_n, e_144_16, e_144_19, e_144_22, e_144_22_n, e_144_23, e_144_26, e_144_28, e_144_28_n, e_144_29, e_144_32, e_144_34, e_144_35, e_144_36, e_144_38, e_144_39, e_144_40, e_144_41, e_144_42, e_144_43, e_144_44, e_144_45, e_144_45_n, e_144_46, e_144_49, e_144_51, e_144_51_n, e_144_52, e_144_55, e_144_57, e_144_58, e_144_59, e_144_61, e_144_62, e_144_63, e_144_64, e_144_65, e_144_66, e_144_67, e_144_68, e_144_68_n, e_144_69, e_144_72, e_144_74, e_144_76, e_144_79, e_144_80, e_144_83, e_144_84, e_144_84_z, e_144_85, e_144_88, nx12, XB_i, XB_n, va_rf_s, va_rf_n, mSI_K, mSI_I, mSI_J, mSI_P, mSI_N, mSJ_K, mSJ_I, mSJ_J, mSJ_P, mSJ_N, mSP_K, mSP_I, mSP_J, mSP_P, mSP_N, mNn, mNi, mNr, mN0, al20, al21, al22, al23, al25, true_or, or_true, and_self, if_true, if_false, mCat_n, mCat_i, mCat_r, mCat_l, mCat_0, Nat.reduceAdd, Nat.reduceLeDiff, Nat.reduceLT, true_and, and_true, Nat.zero_le, bI_01, bI_0, i10, tf0, iI_add, iI_sub, iI_mul, iI_neg, iI_add1, iI_sub1, iI_m1, nca, nc1, ncm1, iI_clJ, iI_cl0, iI_clN, Int.toNat_natCast, mU_n, mU_s, p_min, p_max, p_abs, ni_2, ni_3, ni_4, ni_7, ni_8, ni_9, ni_12, ni_24, ni_97, ni_100, ni_122, ni_200, ni_256, ni_4096, ni_5000, ni_9999, iI_lt, iI_le, iI_eq, iz_eq, iz_lt, iz_le, iz_gt, iz_ge, iy_eq, iy_lt, iy_le, iI_ltN, iI_leN, iI_eqN, if_pos, if_neg, hM.k, hM.r7, hM.a7, hM.r8, hM.a8, hM.r40, hM.a40, hM.r41, hM.a41, hM.r42, hM.a42, h43, x1, y1, s1, s2]
      exact g
    · have g := go 0 (by rw [decide_eq_false q0]; rfl)
      simp (maxSteps := 4000000) (disch := first | (simp (disch := omega) only [XB_i, XB_n, va_rf_s, va_rf_n, mSI_K, mSI_I, mSI_J, mSI_P, mSI_N, mSJ_K, mSJ_I, mSJ_J, mSJ_P, mSJ_N, mSP_K, mSP_I, mSP_J, mSP_P, mSP_N, mNn, mNi, mNr, mN0, al20, al21, al22, al23, al25, true_or, or_true, and_self, if_true, if_false, mCat_n, mCat_i, mCat_r, mCat_l, mCat_0, Nat.reduceAdd, Nat.reduceLeDiff, Nat.reduceLT, true_and, and_true, Nat.zero_le, bI_01, mInB_J, mInB_Z, mInB_N, hM.k, hM.r7, hM.a7, hM.r8, hM.a8, hM.r40, hM.a40, hM.r41, hM.a41, hM.r42, hM.a42, h43, x1, y1, s1, s2]; done) | omega | (unfold R32 at *; omega)) only [e_144_15, e_144_15_n, e_144_16, e_144_19, e_144_22, e_144_22_n, e_144_23, e_144_26, e_144_28, e_144_28_n, e_144_29, e_144_32, e_144_34, e_144_35, e_144_36, e_144_38, e_144_39, e_144_40, e_144_41, e_144_42, e_144_43, e_144_44, e_144_45, e_144_45_n, e_144_46, e_144_49, e_144_51, e_144_51_n, e_144_52, e_144_55, e_144_57, e_144_58, e_144_59, e_144_61, e_144_62, e_144_63, e_144_64, e_144_65, e_144_66, e_144_67, e_144_68, e_144_68_n, e_144_69, e_144_72, e_144_74, e_144_76, e_144_79, e_144_80, e_144_83, e_144_84, e_144_84_z, e_144_85, e_144_88, nx12, XB_i, XB_n, va_rf_s, va_rf_n, mSI_K, mSI_I, mSI_J, mSI_P, mSI_N, mSJ_K, mSJ_I, mSJ_J, mSJ_P, mSJ_N, mSP_K, mSP_I, mSP_J, mSP_P, mSP_N, mNn, mNi, mNr, mN0, al20, al21, al22, al23, al25, true_or, or_true, and_self, if_true, if_false, mCat_n, mCat_i, mCat_r, mCat_l, mCat_0, Nat.reduceAdd, Nat.reduceLeDiff, Nat.reduceLT, true_and, and_true, Nat.zero_le, bI_01, bI_0, i10, tf0, iI_add, iI_sub, iI_mul, iI_neg, iI_add1, iI_sub1, iI_m1, nca, nc1, ncm1, iI_clJ, iI_cl0, iI_clN, Int.toNat_natCast, mU_n, mU_s, p_min, p_max, p_abs, ni_2, ni_3, ni_4, ni_7, ni_8, ni_9, ni_12, ni_24, ni_97, ni_100, ni_122, ni_200, ni_256, ni_4096, ni_5000, ni_9999, iI_lt, iI_le, iI_eq, iz_eq, iz_lt, iz_le, iz_gt, iz_ge, iy_eq, iy_lt, iy_le, iI_ltN, iI_leN, iI_eqN, if_pos, if_neg, hM.k, hM.r7, hM.a7, hM.r8, hM.a8, hM.r40, hM.a40, hM.r41, hM.a41, hM.r42, hM.a42, h43, x1, y1, s1, s2]
      exact g
/-- the cuts -/
theorem lm_sides {T0 : mT} {sh : List Cn} {k : Nat} {l6 : Option Value} (hM0 : ModK T0 m) (hF : FtM T0 m f F) (hf : f < 72) (hk : F.1.2.1 = (k : Int)) (hk2 : k ≤ 2) (hx : 0 ≤ tx ∧ tx ≤ 15) (hy : 0 ≤ ty ∧ ty ≤ 15) (h1p : oneP sh) (hl : sh.length ≤ 12) (hl1 : k = 1 → sh.length ≠ 1) (hl0 : k = 0 → sh.length ≤ 1) (hW : ∀ c ∈ sh, inW c) : ∀ (n w : Nat) (T : mT) (l8 : Option Value), 4 - w = n → w ≤ 4 → Mf (rdS m) T0 T → CwR T m (cutN k (256 * tx) (256 * ty) w sh) →
    (∀ T2 l8, Mf (rdS m) T0 T2 → CwR T2 m (cutN k (256 * tx) (256 * ty) 4 sh) → XW 144 331 [some (.ref (m)), some (.int (iI ((f : Nat) : Int))), some (.int (iI (z))), some (.int (iI (tx))), some (.int (iI (ty))), some (.int (bI (decide (k = 2)))), l6, some (.int (iI ((4 : Nat) : Int))), l8] [] T2 Q) → mNL l6 = true → XW 144 224 [some (.ref (m)), some (.int (iI ((f : Nat) : Int))), some (.int (iI (z))), some (.int (iI (tx))), some (.int (iI (ty))), some (.int (bI (decide (k = 2)))), l6, some (.int (iI ((w : Nat) : Int))), l8] [] T Q := by
  obtain ⟨b1, _⟩ := cutN_box (k := k) (left := 256 * tx) (top := 256 * ty) hW (by omega) (by omega)
  obtain ⟨m1, m2, m3, m4⟩ := cutN_len (k := k) (left := 256 * tx) (top := 256 * ty) hl
  intro n
  induction n with
  | zero =>
    intro w T l8 hn hw hT hC hQ h6
    have : w = 4 := by omega
    subst this
    rw [e_144_224]
    simp (maxSteps := 4000000) (disch := first | (simp (disch := omega) only [XB_i, XB_n, va_rf_s, va_rf_n, mSI_K, mSI_I, mSI_J, mSI_P, mSI_N, mSJ_K, mSJ_I, mSJ_J, mSJ_P, mSJ_N, mSP_K, mSP_I, mSP_J, mSP_P, mSP_N, mNn, mNi, mNr, mN0, al20, al21, al22, al23, al25, true_or, or_true, and_self, if_true, if_false, mCat_n, mCat_i, mCat_r, mCat_l, mCat_0, Nat.reduceAdd, Nat.reduceLeDiff, Nat.reduceLT, true_and, and_true, Nat.zero_le, bI_01, mInB_J, mInB_Z, mInB_N]; done) | omega | (unfold R32 at *; omega)) only [e_144_226, e_144_227, XB_i, XB_n, va_rf_s, va_rf_n, mSI_K, mSI_I, mSI_J, mSI_P, mSI_N, mSJ_K, mSJ_I, mSJ_J, mSJ_P, mSJ_N, mSP_K, mSP_I, mSP_J, mSP_P, mSP_N, mNn, mNi, mNr, mN0, al20, al21, al22, al23, al25, true_or, or_true, and_self, if_true, if_false, mCat_n, mCat_i, mCat_r, mCat_l, mCat_0, Nat.reduceAdd, Nat.reduceLeDiff, Nat.reduceLT, true_and, and_true, Nat.zero_le, bI_01, bI_0, i10, tf0, iI_add, iI_sub, iI_mul, iI_neg, iI_add1, iI_sub1, iI_m1, nca, nc1, ncm1, iI_clJ, iI_cl0, iI_clN, Int.toNat_natCast, mU_n, mU_s, p_min, p_max, p_abs, ni_2, ni_3, ni_4, ni_7, ni_8, ni_9, ni_12, ni_24, ni_97, ni_100, ni_122, ni_200, ni_256, ni_4096, ni_5000, ni_9999, iI_lt, iI_le, iI_eq, iz_eq, iz_lt, iz_le, iz_gt, iz_ge, iy_eq, iy_lt, iy_le, iI_ltN, iI_leN, iI_eqN, if_pos, if_neg]
    exact hQ T _ hT hC
  | succ n ih =>
    intro w T l8 hn hw hT hC hQ h6
    have hM := hM0.mf hT
    have hFT := hF.rd hT
    have hkd := hFT.2.1
    rw [hk] at hkd
    generalize hb : bdS w (256 * tx) (256 * ty) = b
    have hbb : -8192 ≤ b ∧ b ≤ 8192 := by rw [← hb]; unfold bdS; split <;> split <;> omega
    have rb : R32 b := ⟨by omega, by omega⟩
    have hs : w = 0 ∨ w = 1 ∨ w = 2 ∨ w = 3 := by omega
    have hlen : (cutN k (256 * tx) (256 * ty) w sh).length ≤ 40 := by
      rcases hs with h | h | h | h <;> subst h
      · show sh.length ≤ 40; omega
      · omega
      · omega
      · omega
    have hB : ∀ c ∈ cutN k (256 * tx) (256 * ty) w sh, cB c := fun c hc => by have := b1 w c hc; unfold bxI at this; unfold cB; omega
    have eN : cutN k (256 * tx) (256 * ty) (w + 1) sh = cutV w b (decide (k = 2)) (cutN k (256 * tx) (256 * ty) w sh) := by rw [← hb]; rfl
    -- to the branch on the kind
    have bord : XW 144 264 [some (.ref (m)), some (.int (iI ((f : Nat) : Int))), some (.int (iI (z))), some (.int (iI (tx))), some (.int (iI (ty))), some (.int (bI (decide (k = 2)))), l6, some (.int (iI ((w : Nat) : Int))), some (.int (iI (b)))] [] T Q → XW 144 226 [some (.ref (m)), some (.int (iI ((f : Nat) : Int))), some (.int (iI (z))), some (.int (iI (tx))), some (.int (iI (ty))), some (.int (bI (decide (k = 2)))), l6, some (.int (iI ((w : Nat) : Int))), l8] [.int (iI (w : Int))] T Q := by
      intro h
      have nm8 : (-8 : Int32) = iI (-8) := rfl
      have n264 : (264 : Int32) = iI 264 := rfl
      rcases hs with e | e | e | e <;> subst e
      · have eb : 256 * tx + -8 = b := by rw [← hb]; unfold bdS; simp; omega
        have ew : ((0 : Nat) : Int) % 2 = 0 := rfl
        simp (maxSteps := 4000000) (disch := first | (simp (disch := omega) only [XB_i, XB_n, va_rf_s, va_rf_n, mSI_K, mSI_I, mSI_J, mSI_P, mSI_N, mSJ_K, mSJ_I, mSJ_J, mSJ_P, mSJ_N, mSP_K, mSP_I, mSP_J, mSP_P, mSP_N, mNn, mNi, mNr, mN0, al20, al21, al22, al23, al25, true_or, or_true, and_self, if_true, if_false, mCat_n, mCat_i, mCat_r, mCat_l, mCat_0, Nat.reduceAdd, Nat.reduceLeDiff, Nat.reduceLT, true_and, and_true, Nat.zero_le, bI_01, mInB_J, mInB_Z, mInB_N, iI_rem, i2n0, not_false_eq_true, ew, nm8, eb]; done) | omega | (unfold R32 at *; omega)) only [e_144_226, e_144_227, e_144_230, e_144_233, e_144_235, e_144_236, e_144_239, e_144_240, e_144_243, e_144_245, e_144_246, e_144_248, e_144_249, e_144_250, e_144_253, e_144_255, e_144_258, e_144_261, e_144_262, XB_i, XB_n, va_rf_s, va_rf_n, mSI_K, mSI_I, mSI_J, mSI_P, mSI_N, mSJ_K, mSJ_I, mSJ_J, mSJ_P, mSJ_N, mSP_K, mSP_I, mSP_J, mSP_P, mSP_N, mNn, mNi, mNr, mN0, al20, al21, al22, al23, al25, true_or, or_true, and_self, if_true, if_false, mCat_n, mCat_i, mCat_r, mCat_l, mCat_0, Nat.reduceAdd, Nat.reduceLeDiff, Nat.reduceLT, true_and, and_true, Nat.zero_le, bI_01, bI_0, i10, tf0, iI_add, iI_sub, iI_mul, iI_neg, iI_add1, iI_sub1, iI_m1, nca, nc1, ncm1, iI_clJ, iI_cl0, iI_clN, Int.toNat_natCast, mU_n, mU_s, p_min, p_max, p_abs, ni_2, ni_3, ni_4, ni_7, ni_8, ni_9, ni_12, ni_24, ni_97, ni_100, ni_122, ni_200, ni_256, ni_4096, ni_5000, ni_9999, iI_lt, iI_le, iI_eq, iz_eq, iz_lt, iz_le, iz_gt, iz_ge, iy_eq, iy_lt, iy_le, iI_ltN, iI_leN, iI_eqN, if_pos, if_neg, iI_rem, i2n0, not_false_eq_true, ew, nm8, eb]
        exact h
      · have eb : 256 * tx + 264 = b := by rw [← hb]; unfold bdS; simp
        have ew : ((1 : Nat) : Int) % 2 = 1 := rfl
        simp (maxSteps := 4000000) (disch := first | (simp (disch := omega) only [XB_i, XB_n, va_rf_s, va_rf_n, mSI_K, mSI_I, mSI_J, mSI_P, mSI_N, mSJ_K, mSJ_I, mSJ_J, mSJ_P, mSJ_N, mSP_K, mSP_I, mSP_J, mSP_P, mSP_N, mNn, mNi, mNr, mN0, al20, al21, al22, al23, al25, true_or, or_true, and_self, if_true, if_false, mCat_n, mCat_i, mCat_r, mCat_l, mCat_0, Nat.reduceAdd, Nat.reduceLeDiff, Nat.reduceLT, true_and, and_true, Nat.zero_le, bI_01, mInB_J, mInB_Z, mInB_N, iI_rem, i2n0, not_false_eq_true, ew, n264, eb]; done) | omega | (unfold R32 at *; omega)) only [e_144_226, e_144_227, e_144_230, e_144_233, e_144_235, e_144_236, e_144_239, e_144_240, e_144_243, e_144_245, e_144_246, e_144_248, e_144_249, e_144_250, e_144_253, e_144_255, e_144_258, e_144_261, e_144_262, XB_i, XB_n, va_rf_s, va_rf_n, mSI_K, mSI_I, mSI_J, mSI_P, mSI_N, mSJ_K, mSJ_I, mSJ_J, mSJ_P, mSJ_N, mSP_K, mSP_I, mSP_J, mSP_P, mSP_N, mNn, mNi, mNr, mN0, al20, al21, al22, al23, al25, true_or, or_true, and_self, if_true, if_false, mCat_n, mCat_i, mCat_r, mCat_l, mCat_0, Nat.reduceAdd, Nat.reduceLeDiff, Nat.reduceLT, true_and, and_true, Nat.zero_le, bI_01, bI_0, i10, tf0, iI_add, iI_sub, iI_mul, iI_neg, iI_add1, iI_sub1, iI_m1, nca, nc1, ncm1, iI_clJ, iI_cl0, iI_clN, Int.toNat_natCast, mU_n, mU_s, p_min, p_max, p_abs, ni_2, ni_3, ni_4, ni_7, ni_8, ni_9, ni_12, ni_24, ni_97, ni_100, ni_122, ni_200, ni_256, ni_4096, ni_5000, ni_9999, iI_lt, iI_le, iI_eq, iz_eq, iz_lt, iz_le, iz_gt, iz_ge, iy_eq, iy_lt, iy_le, iI_ltN, iI_leN, iI_eqN, if_pos, if_neg, iI_rem, i2n0, not_false_eq_true, ew, n264, eb]
        exact h
      · have eb : 256 * ty + -8 = b := by rw [← hb]; unfold bdS; simp; omega
        have ew : ((2 : Nat) : Int) % 2 = 0 := rfl
        simp (maxSteps := 4000000) (disch := first | (simp (disch := omega) only [XB_i, XB_n, va_rf_s, va_rf_n, mSI_K, mSI_I, mSI_J, mSI_P, mSI_N, mSJ_K, mSJ_I, mSJ_J, mSJ_P, mSJ_N, mSP_K, mSP_I, mSP_J, mSP_P, mSP_N, mNn, mNi, mNr, mN0, al20, al21, al22, al23, al25, true_or, or_true, and_self, if_true, if_false, mCat_n, mCat_i, mCat_r, mCat_l, mCat_0, Nat.reduceAdd, Nat.reduceLeDiff, Nat.reduceLT, true_and, and_true, Nat.zero_le, bI_01, mInB_J, mInB_Z, mInB_N, iI_rem, i2n0, not_false_eq_true, ew, nm8, eb]; done) | omega | (unfold R32 at *; omega)) only [e_144_226, e_144_227, e_144_230, e_144_233, e_144_235, e_144_236, e_144_239, e_144_240, e_144_243, e_144_245, e_144_246, e_144_248, e_144_249, e_144_250, e_144_253, e_144_255, e_144_258, e_144_261, e_144_262, XB_i, XB_n, va_rf_s, va_rf_n, mSI_K, mSI_I, mSI_J, mSI_P, mSI_N, mSJ_K, mSJ_I, mSJ_J, mSJ_P, mSJ_N, mSP_K, mSP_I, mSP_J, mSP_P, mSP_N, mNn, mNi, mNr, mN0, al20, al21, al22, al23, al25, true_or, or_true, and_self, if_true, if_false, mCat_n, mCat_i, mCat_r, mCat_l, mCat_0, Nat.reduceAdd, Nat.reduceLeDiff, Nat.reduceLT, true_and, and_true, Nat.zero_le, bI_01, bI_0, i10, tf0, iI_add, iI_sub, iI_mul, iI_neg, iI_add1, iI_sub1, iI_m1, nca, nc1, ncm1, iI_clJ, iI_cl0, iI_clN, Int.toNat_natCast, mU_n, mU_s, p_min, p_max, p_abs, ni_2, ni_3, ni_4, ni_7, ni_8, ni_9, ni_12, ni_24, ni_97, ni_100, ni_122, ni_200, ni_256, ni_4096, ni_5000, ni_9999, iI_lt, iI_le, iI_eq, iz_eq, iz_lt, iz_le, iz_gt, iz_ge, iy_eq, iy_lt, iy_le, iI_ltN, iI_leN, iI_eqN, if_pos, if_neg, iI_rem, i2n0, not_false_eq_true, ew, nm8, eb]
        exact h
      · have eb : 256 * ty + 264 = b := by rw [← hb]; unfold bdS; simp
        have ew : ((3 : Nat) : Int) % 2 = 1 := rfl
        simp (maxSteps := 4000000) (disch := first | (simp (disch := omega) only [XB_i, XB_n, va_rf_s, va_rf_n, mSI_K, mSI_I, mSI_J, mSI_P, mSI_N, mSJ_K, mSJ_I, mSJ_J, mSJ_P, mSJ_N, mSP_K, mSP_I, mSP_J, mSP_P, mSP_N, mNn, mNi, mNr, mN0, al20, al21, al22, al23, al25, true_or, or_true, and_self, if_true, if_false, mCat_n, mCat_i, mCat_r, mCat_l, mCat_0, Nat.reduceAdd, Nat.reduceLeDiff, Nat.reduceLT, true_and, and_true, Nat.zero_le, bI_01, mInB_J, mInB_Z, mInB_N, iI_rem, i2n0, not_false_eq_true, ew, n264, eb]; done) | omega | (unfold R32 at *; omega)) only [e_144_226, e_144_227, e_144_230, e_144_233, e_144_235, e_144_236, e_144_239, e_144_240, e_144_243, e_144_245, e_144_246, e_144_248, e_144_249, e_144_250, e_144_253, e_144_255, e_144_258, e_144_261, e_144_262, XB_i, XB_n, va_rf_s, va_rf_n, mSI_K, mSI_I, mSI_J, mSI_P, mSI_N, mSJ_K, mSJ_I, mSJ_J, mSJ_P, mSJ_N, mSP_K, mSP_I, mSP_J, mSP_P, mSP_N, mNn, mNi, mNr, mN0, al20, al21, al22, al23, al25, true_or, or_true, and_self, if_true, if_false, mCat_n, mCat_i, mCat_r, mCat_l, mCat_0, Nat.reduceAdd, Nat.reduceLeDiff, Nat.reduceLT, true_and, and_true, Nat.zero_le, bI_01, bI_0, i10, tf0, iI_add, iI_sub, iI_mul, iI_neg, iI_add1, iI_sub1, iI_m1, nca, nc1, ncm1, iI_clJ, iI_cl0, iI_clN, Int.toNat_natCast, mU_n, mU_s, p_min, p_max, p_abs, ni_2, ni_3, ni_4, ni_7, ni_8, ni_9, ni_12, ni_24, ni_97, ni_100, ni_122, ni_200, ni_256, ni_4096, ni_5000, ni_9999, iI_lt, iI_le, iI_eq, iz_eq, iz_lt, iz_le, iz_gt, iz_ge, iy_eq, iy_lt, iy_le, iI_ltN, iI_leN, iI_eqN, if_pos, if_neg, iI_rem, i2n0, not_false_eq_true, ew, n264, eb]
        exact h
    have nxt' : ∀ T2, Mf (rdS m) T T2 → CwR T2 m (cutN k (256 * tx) (256 * ty) (w + 1) sh) → XW 144 325 [some (.ref (m)), some (.int (iI ((f : Nat) : Int))), some (.int (iI (z))), some (.int (iI (tx))), some (.int (iI (ty))), some (.int (bI (decide (k = 2)))), l6, some (.int (iI ((w : Nat) : Int))), some (.int (iI (b)))] [] T2 Q := by
      intro T2 f2 h2
      simp (maxSteps := 4000000) (disch := first | (simp (disch := omega) only [XB_i, XB_n, va_rf_s, va_rf_n, mSI_K, mSI_I, mSI_J, mSI_P, mSI_N, mSJ_K, mSJ_I, mSJ_J, mSJ_P, mSJ_N, mSP_K, mSP_I, mSP_J, mSP_P, mSP_N, mNn, mNi, mNr, mN0, al20, al21, al22, al23, al25, true_or, or_true, and_self, if_true, if_false, mCat_n, mCat_i, mCat_r, mCat_l, mCat_0, Nat.reduceAdd, Nat.reduceLeDiff, Nat.reduceLT, true_and, and_true, Nat.zero_le, bI_01, mInB_J, mInB_Z, mInB_N, h6]; done) | omega | (unfold R32 at *; omega)) only [e_144_325, e_144_328, XB_i, XB_n, va_rf_s, va_rf_n, mSI_K, mSI_I, mSI_J, mSI_P, mSI_N, mSJ_K, mSJ_I, mSJ_J, mSJ_P, mSJ_N, mSP_K, mSP_I, mSP_J, mSP_P, mSP_N, mNn, mNi, mNr, mN0, al20, al21, al22, al23, al25, true_or, or_true, and_self, if_true, if_false, mCat_n, mCat_i, mCat_r, mCat_l, mCat_0, Nat.reduceAdd, Nat.reduceLeDiff, Nat.reduceLT, true_and, and_true, Nat.zero_le, bI_01, bI_0, i10, tf0, iI_add, iI_sub, iI_mul, iI_neg, iI_add1, iI_sub1, iI_m1, nca, nc1, ncm1, iI_clJ, iI_cl0, iI_clN, Int.toNat_natCast, mU_n, mU_s, p_min, p_max, p_abs, ni_2, ni_3, ni_4, ni_7, ni_8, ni_9, ni_12, ni_24, ni_97, ni_100, ni_122, ni_200, ni_256, ni_4096, ni_5000, ni_9999, iI_lt, iI_le, iI_eq, iz_eq, iz_lt, iz_le, iz_gt, iz_ge, iy_eq, iy_lt, iy_le, iI_ltN, iI_leN, iI_eqN, if_pos, if_neg, h6]
      exact ih (w + 1) T2 _ (by omega) (by omega) (hT.tr f2) h2 hQ h6
    rw [e_144_224]
    refine bord ?_
    have hkc : k = 0 ∨ k = 1 ∨ k = 2 := by omega
    rcases hkc with e | e | e
    · subst e
      have hle : (cutN 0 (256 * tx) (256 * ty) w sh).length ≤ 1 := by
        have s : ∀ v, (cutN 0 (256 * tx) (256 * ty) v sh).length ≤ 1 := by
          intro v
          induction v with
          | zero => exact hl0 rfl
          | succ v ihv =>
            have := cutS_len (u := decide (v < 2)) (l := decide (v % 2 = 0)) (b := bdS v (256 * tx) (256 * ty)) (ring := decide ((0 : Nat) = 2)) (cutN 0 (256 * tx) (256 * ty) v sh)
            have e : cutN 0 (256 * tx) (256 * ty) (v + 1) sh = cutS (decide (v < 2)) (decide (v % 2 = 0)) (bdS v (256 * tx) (256 * ty)) (decide ((0 : Nat) = 2)) (cutN 0 (256 * tx) (256 * ty) v sh) := rfl
            rw [e]
            omega
        exact s w
      have e0 : iI ((0 : Nat) : Int) = 0 := rfl
      rw [e0] at hkd
      have c1 := hC.1
      generalize cutN 0 (256 * tx) (256 * ty) w sh = cn at *
      cases cn with
      | nil =>
        have c1' : T.2.1 m 43 = 0 := c1
        simp (maxSteps := 4000000) (disch := first | (simp (disch := omega) only [XB_i, XB_n, va_rf_s, va_rf_n, mSI_K, mSI_I, mSI_J, mSI_P, mSI_N, mSJ_K, mSJ_I, mSJ_J, mSJ_P, mSJ_N, mSP_K, mSP_I, mSP_J, mSP_P, mSP_N, mNn, mNi, mNr, mN0, al20, al21, al22, al23, al25, true_or, or_true, and_self, if_true, if_false, mCat_n, mCat_i, mCat_r, mCat_l, mCat_0, Nat.reduceAdd, Nat.reduceLeDiff, Nat.reduceLT, true_and, and_true, Nat.zero_le, bI_01, mInB_J, mInB_Z, mInB_N, hM.k, hM.r2, hM.a2, hkd, c1']; done) | omega | (unfold R32 at *; omega)) only [e_144_264, e_144_264_n, e_144_265, e_144_268, e_144_269, e_144_270, e_144_273, e_144_273_n, e_144_274, e_144_277, e_144_278, XB_i, XB_n, va_rf_s, va_rf_n, mSI_K, mSI_I, mSI_J, mSI_P, mSI_N, mSJ_K, mSJ_I, mSJ_J, mSJ_P, mSJ_N, mSP_K, mSP_I, mSP_J, mSP_P, mSP_N, mNn, mNi, mNr, mN0, al20, al21, al22, al23, al25, true_or, or_true, and_self, if_true, if_false, mCat_n, mCat_i, mCat_r, mCat_l, mCat_0, Nat.reduceAdd, Nat.reduceLeDiff, Nat.reduceLT, true_and, and_true, Nat.zero_le, bI_01, bI_0, i10, tf0, iI_add, iI_sub, iI_mul, iI_neg, iI_add1, iI_sub1, iI_m1, nca, nc1, ncm1, iI_clJ, iI_cl0, iI_clN, Int.toNat_natCast, mU_n, mU_s, p_min, p_max, p_abs, ni_2, ni_3, ni_4, ni_7, ni_8, ni_9, ni_12, ni_24, ni_97, ni_100, ni_122, ni_200, ni_256, ni_4096, ni_5000, ni_9999, iI_lt, iI_le, iI_eq, iz_eq, iz_lt, iz_le, iz_gt, iz_ge, iy_eq, iy_lt, iy_le, iI_ltN, iI_leN, iI_eqN, if_pos, if_neg, hM.k, hM.r2, hM.a2, hkd, c1']
        exact nxt' T Mf.rf (by rw [eN]; exact hC)
      | cons c r =>
        cases r with
        | nil =>
          have c1' : T.2.1 m 43 = 1 := c1
          have ic := hB c List.mem_cons_self
          have pin := fun Q => @m_inside T Q m [c] 0 w b hM hC (by simp) (by simp) (by omega) rb ⟨by have := ic.1; show -2147483648 ≤ c.1; omega, by have := ic.1; show c.1 < 2147483648; omega⟩ ⟨by have := ic.2; show -2147483648 ≤ c.2.1; omega, by have := ic.2; show c.2.1 < 2147483648; omega⟩
          have eg : gC [c] 0 = c := rfl
          rw [eg, e0] at pin
          cases hin : iW w b c with
          | true =>
            rw [hin] at pin
            simp (maxSteps := 4000000) (disch := first | (simp (disch := omega) only [XB_i, XB_n, va_rf_s, va_rf_n, mSI_K, mSI_I, mSI_J, mSI_P, mSI_N, mSJ_K, mSJ_I, mSJ_J, mSJ_P, mSJ_N, mSP_K, mSP_I, mSP_J, mSP_P, mSP_N, mNn, mNi, mNr, mN0, al20, al21, al22, al23, al25, true_or, or_true, and_self, if_true, if_false, mCat_n, mCat_i, mCat_r, mCat_l, mCat_0, Nat.reduceAdd, Nat.reduceLeDiff, Nat.reduceLT, true_and, and_true, Nat.zero_le, bI_01, mInB_J, mInB_Z, mInB_N, hM.k, hM.r2, hM.a2, hkd, c1', pin, bI_t]; done) | omega | (unfold R32 at *; omega)) only [e_144_264, e_144_264_n, e_144_265, e_144_268, e_144_269, e_144_270, e_144_273, e_144_273_n, e_144_274, e_144_277, e_144_278, e_144_281, e_144_281_n, e_144_282, e_144_283, e_144_285, e_144_290, d_144_287, XB_i, XB_n, va_rf_s, va_rf_n, mSI_K, mSI_I, mSI_J, mSI_P, mSI_N, mSJ_K, mSJ_I, mSJ_J, mSJ_P, mSJ_N, mSP_K, mSP_I, mSP_J, mSP_P, mSP_N, mNn, mNi, mNr, mN0, al20, al21, al22, al23, al25, true_or, or_true, and_self, if_true, if_false, mCat_n, mCat_i, mCat_r, mCat_l, mCat_0, Nat.reduceAdd, Nat.reduceLeDiff, Nat.reduceLT, true_and, and_true, Nat.zero_le, bI_01, bI_0, i10, tf0, iI_add, iI_sub, iI_mul, iI_neg, iI_add1, iI_sub1, iI_m1, nca, nc1, ncm1, iI_clJ, iI_cl0, iI_clN, Int.toNat_natCast, mU_n, mU_s, p_min, p_max, p_abs, ni_2, ni_3, ni_4, ni_7, ni_8, ni_9, ni_12, ni_24, ni_97, ni_100, ni_122, ni_200, ni_256, ni_4096, ni_5000, ni_9999, iI_lt, iI_le, iI_eq, iz_eq, iz_lt, iz_le, iz_gt, iz_ge, iy_eq, iy_lt, iy_le, iI_ltN, iI_leN, iI_eqN, if_pos, if_neg, hM.k, hM.r2, hM.a2, hkd, c1', pin, bI_t]
            refine nxt' T Mf.rf ?_
            rw [eN]
            have : cutV w b (decide ((0 : Nat) = 2)) [c] = [c] := by
              unfold iW at hin
              show cut2 (decide (w < 2)) (decide (w % 2 = 0)) b false c [] = [c]
              unfold cut2
              rw [hin]
              rfl
            rw [this]
            exact hC
          | false =>
            rw [hin] at pin
            simp (maxSteps := 4000000) (disch := first | (simp (disch := omega) only [XB_i, XB_n, va_rf_s, va_rf_n, mSI_K, mSI_I, mSI_J, mSI_P, mSI_N, mSJ_K, mSJ_I, mSJ_J, mSJ_P, mSJ_N, mSP_K, mSP_I, mSP_J, mSP_P, mSP_N, mNn, mNi, mNr, mN0, al20, al21, al22, al23, al25, true_or, or_true, and_self, if_true, if_false, mCat_n, mCat_i, mCat_r, mCat_l, mCat_0, Nat.reduceAdd, Nat.reduceLeDiff, Nat.reduceLT, true_and, and_true, Nat.zero_le, bI_01, mInB_J, mInB_Z, mInB_N, hM.k, hM.r2, hM.a2, hkd, c1', pin, bI_f]; done) | omega | (unfold R32 at *; omega)) only [e_144_264, e_144_264_n, e_144_265, e_144_268, e_144_269, e_144_270, e_144_273, e_144_273_n, e_144_274, e_144_277, e_144_278, e_144_281, e_144_281_n, e_144_282, e_144_283, e_144_285, e_144_290, e_144_293, e_144_293_n, e_144_294, e_144_295, e_144_298, d_144_287, XB_i, XB_n, va_rf_s, va_rf_n, mSI_K, mSI_I, mSI_J, mSI_P, mSI_N, mSJ_K, mSJ_I, mSJ_J, mSJ_P, mSJ_N, mSP_K, mSP_I, mSP_J, mSP_P, mSP_N, mNn, mNi, mNr, mN0, al20, al21, al22, al23, al25, true_or, or_true, and_self, if_true, if_false, mCat_n, mCat_i, mCat_r, mCat_l, mCat_0, Nat.reduceAdd, Nat.reduceLeDiff, Nat.reduceLT, true_and, and_true, Nat.zero_le, bI_01, bI_0, i10, tf0, iI_add, iI_sub, iI_mul, iI_neg, iI_add1, iI_sub1, iI_m1, nca, nc1, ncm1, iI_clJ, iI_cl0, iI_clN, Int.toNat_natCast, mU_n, mU_s, p_min, p_max, p_abs, ni_2, ni_3, ni_4, ni_7, ni_8, ni_9, ni_12, ni_24, ni_97, ni_100, ni_122, ni_200, ni_256, ni_4096, ni_5000, ni_9999, iI_lt, iI_le, iI_eq, iz_eq, iz_lt, iz_le, iz_gt, iz_ge, iy_eq, iy_lt, iy_le, iI_ltN, iI_leN, iI_eqN, if_pos, if_neg, hM.k, hM.r2, hM.a2, hkd, c1', pin, bI_f]
            refine nxt' _ (Mf.rf.sI (Or.inl (Or.inl (Or.inl ⟨rfl, rfl⟩)))) ?_
            rw [eN]
            have : cutV w b (decide ((0 : Nat) = 2)) [c] = [] := by
              unfold iW at hin
              show cut2 (decide (w < 2)) (decide (w % 2 = 0)) b false c [] = []
              unfold cut2
              rw [hin]
              rfl
            rw [this]
            exact ⟨by show _ = (0 : Int32); (simp (disch := omega) only [mSI_I, mSI_J, mSI_P, mSJ_I, mSJ_J, mSJ_P, mSP_I, mSP_J, mSP_P, mU_n, mU_s] <;> first | done | rfl | assumption), fun j hj => by simp at hj, fun j hj => by simp at hj, fun j hj => by simp at hj⟩
        | cons d r => simp at hle
    · subst e
      have i1 : bI (decide ((1 : Nat) = 2)) = 0 := rfl
      rw [i1] at nxt' ⊢
      have e1 : iI ((1 : Nat) : Int) = 1 := rfl
      rw [e1] at hkd
      simp (maxSteps := 4000000) (disch := first | (simp (disch := omega) only [XB_i, XB_n, va_rf_s, va_rf_n, mSI_K, mSI_I, mSI_J, mSI_P, mSI_N, mSJ_K, mSJ_I, mSJ_J, mSJ_P, mSJ_N, mSP_K, mSP_I, mSP_J, mSP_P, mSP_N, mNn, mNi, mNr, mN0, al20, al21, al22, al23, al25, true_or, or_true, and_self, if_true, if_false, mCat_n, mCat_i, mCat_r, mCat_l, mCat_0, Nat.reduceAdd, Nat.reduceLeDiff, Nat.reduceLT, true_and, and_true, Nat.zero_le, bI_01, mInB_J, mInB_Z, mInB_N, hM.k, hM.r2, hM.a2, hkd]; done) | omega | (unfold R32 at *; omega)) only [e_144_264, e_144_264_n, e_144_265, e_144_268, e_144_269, e_144_270, e_144_301, e_144_303, e_144_317, e_144_317_n, e_144_318, e_144_320, XB_i, XB_n, va_rf_s, va_rf_n, mSI_K, mSI_I, mSI_J, mSI_P, mSI_N, mSJ_K, mSJ_I, mSJ_J, mSJ_P, mSJ_N, mSP_K, mSP_I, mSP_J, mSP_P, mSP_N, mNn, mNi, mNr, mN0, al20, al21, al22, al23, al25, true_or, or_true, and_self, if_true, if_false, mCat_n, mCat_i, mCat_r, mCat_l, mCat_0, Nat.reduceAdd, Nat.reduceLeDiff, Nat.reduceLT, true_and, and_true, Nat.zero_le, bI_01, bI_0, i10, tf0, iI_add, iI_sub, iI_mul, iI_neg, iI_add1, iI_sub1, iI_m1, nca, nc1, ncm1, iI_clJ, iI_cl0, iI_clN, Int.toNat_natCast, mU_n, mU_s, p_min, p_max, p_abs, ni_2, ni_3, ni_4, ni_7, ni_8, ni_9, ni_12, ni_24, ni_97, ni_100, ni_122, ni_200, ni_256, ni_4096, ni_5000, ni_9999, iI_lt, iI_le, iI_eq, iz_eq, iz_lt, iz_le, iz_gt, iz_ge, iy_eq, iy_lt, iy_le, iI_ltN, iI_leN, iI_eqN, if_pos, if_neg, hM.k, hM.r2, hM.a2, hkd]
      refine c_144_322 (by simp only [XB_i, XB_n, va_rf_s, va_rf_n, mSI_K, mSI_I, mSI_J, mSI_P, mSI_N, mSJ_K, mSJ_I, mSJ_J, mSJ_P, mSJ_N, mSP_K, mSP_I, mSP_J, mSP_P, mSP_N, mNn, mNi, mNr, mN0, al20, al21, al22, al23, al25, true_or, or_true, and_self, if_true, if_false, mCat_n, mCat_i, mCat_r, mCat_l, mCat_0, Nat.reduceAdd, Nat.reduceLeDiff, Nat.reduceLT, true_and, and_true, Nat.zero_le, bI_01]) (by rw [hM.k]) (m_cutLine hM hC (by omega) (by omega) hbb hB (fun c r h => cutN_FB h1p.fb w c r h) (fun T2 h2 f2 => ?_))
      refine nxt' T2 (f2.mono (fun b j h => Or.inl h)) ?_
      have en : NL (cutV w b false (cutN 1 (256 * tx) (256 * ty) w sh)) := cutS_NL (cutN_NL h1p.fb (h1p.nl (hl1 rfl)) w) (cutN_FB h1p.fb w)
      rw [eN]
      rw [en.rm] at h2
      exact h2
    · subst e
      have i1 : bI (decide ((2 : Nat) = 2)) = 1 := rfl
      rw [i1] at nxt' ⊢
      simp (maxSteps := 4000000) (disch := first | (simp (disch := omega) only [XB_i, XB_n, va_rf_s, va_rf_n, mSI_K, mSI_I, mSI_J, mSI_P, mSI_N, mSJ_K, mSJ_I, mSJ_J, mSJ_P, mSJ_N, mSP_K, mSP_I, mSP_J, mSP_P, mSP_N, mNn, mNi, mNr, mN0, al20, al21, al22, al23, al25, true_or, or_true, and_self, if_true, if_false, mCat_n, mCat_i, mCat_r, mCat_l, mCat_0, Nat.reduceAdd, Nat.reduceLeDiff, Nat.reduceLT, true_and, and_true, Nat.zero_le, bI_01, mInB_J, mInB_Z, mInB_N, hM.k, hM.r2, hM.a2, hkd]; done) | omega | (unfold R32 at *; omega)) only [e_144_264, e_144_264_n, e_144_265, e_144_268, e_144_269, e_144_270, e_144_301, e_144_303, e_144_306, e_144_306_n, e_144_307, e_144_309, XB_i, XB_n, va_rf_s, va_rf_n, mSI_K, mSI_I, mSI_J, mSI_P, mSI_N, mSJ_K, mSJ_I, mSJ_J, mSJ_P, mSJ_N, mSP_K, mSP_I, mSP_J, mSP_P, mSP_N, mNn, mNi, mNr, mN0, al20, al21, al22, al23, al25, true_or, or_true, and_self, if_true, if_false, mCat_n, mCat_i, mCat_r, mCat_l, mCat_0, Nat.reduceAdd, Nat.reduceLeDiff, Nat.reduceLT, true_and, and_true, Nat.zero_le, bI_01, bI_0, i10, tf0, iI_add, iI_sub, iI_mul, iI_neg, iI_add1, iI_sub1, iI_m1, nca, nc1, ncm1, iI_clJ, iI_cl0, iI_clN, Int.toNat_natCast, mU_n, mU_s, p_min, p_max, p_abs, ni_2, ni_3, ni_4, ni_7, ni_8, ni_9, ni_12, ni_24, ni_97, ni_100, ni_122, ni_200, ni_256, ni_4096, ni_5000, ni_9999, iI_lt, iI_le, iI_eq, iz_eq, iz_lt, iz_le, iz_gt, iz_ge, iy_eq, iy_lt, iy_le, iI_ltN, iI_leN, iI_eqN, if_pos, if_neg, hM.k, hM.r2, hM.a2, hkd]
      refine c_144_311 (by simp only [XB_i, XB_n, va_rf_s, va_rf_n, mSI_K, mSI_I, mSI_J, mSI_P, mSI_N, mSJ_K, mSJ_I, mSJ_J, mSJ_P, mSJ_N, mSP_K, mSP_I, mSP_J, mSP_P, mSP_N, mNn, mNi, mNr, mN0, al20, al21, al22, al23, al25, true_or, or_true, and_self, if_true, if_false, mCat_n, mCat_i, mCat_r, mCat_l, mCat_0, Nat.reduceAdd, Nat.reduceLeDiff, Nat.reduceLT, true_and, and_true, Nat.zero_le, bI_01]) (by rw [hM.k]) (m_cutRing hM hC (by omega) (by omega) hbb hB (cutN_oneP h1p w) (fun T2 h2 f2 => ?_))
      simp (maxSteps := 4000000) (disch := first | (simp (disch := omega) only [XB_i, XB_n, va_rf_s, va_rf_n, mSI_K, mSI_I, mSI_J, mSI_P, mSI_N, mSJ_K, mSJ_I, mSJ_J, mSJ_P, mSJ_N, mSP_K, mSP_I, mSP_J, mSP_P, mSP_N, mNn, mNi, mNr, mN0, al20, al21, al22, al23, al25, true_or, or_true, and_self, if_true, if_false, mCat_n, mCat_i, mCat_r, mCat_l, mCat_0, Nat.reduceAdd, Nat.reduceLeDiff, Nat.reduceLT, true_and, and_true, Nat.zero_le, bI_01, mInB_J, mInB_Z, mInB_N]; done) | omega | (unfold R32 at *; omega)) only [e_144_314, XB_i, XB_n, va_rf_s, va_rf_n, mSI_K, mSI_I, mSI_J, mSI_P, mSI_N, mSJ_K, mSJ_I, mSJ_J, mSJ_P, mSJ_N, mSP_K, mSP_I, mSP_J, mSP_P, mSP_N, mNn, mNi, mNr, mN0, al20, al21, al22, al23, al25, true_or, or_true, and_self, if_true, if_false, mCat_n, mCat_i, mCat_r, mCat_l, mCat_0, Nat.reduceAdd, Nat.reduceLeDiff, Nat.reduceLT, true_and, and_true, Nat.zero_le, bI_01, bI_0, i10, tf0, iI_add, iI_sub, iI_mul, iI_neg, iI_add1, iI_sub1, iI_m1, nca, nc1, ncm1, iI_clJ, iI_cl0, iI_clN, Int.toNat_natCast, mU_n, mU_s, p_min, p_max, p_abs, ni_2, ni_3, ni_4, ni_7, ni_8, ni_9, ni_12, ni_24, ni_97, ni_100, ni_122, ni_200, ni_256, ni_4096, ni_5000, ni_9999, iI_lt, iI_le, iI_eq, iz_eq, iz_lt, iz_le, iz_gt, iz_ge, iy_eq, iy_lt, iy_le, iI_ltN, iI_leN, iI_eqN, if_pos, if_neg]
      refine nxt' T2 (f2.mono (fun b j h => Or.inl h)) ?_
      rw [eN]
      exact h2
end MW
