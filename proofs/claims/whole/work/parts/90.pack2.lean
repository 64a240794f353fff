/-! Pack: what writes -/
theorem fndP_congr {p q : Nat → Bool} : ∀ (m i : Nat), (∀ j, i ≤ j → j < i + m → p j = q j) → fndP p m i = fndP q m i
  | 0, _, _ => rfl
  | m + 1, i, h => by
    unfold fndP
    rw [h i (Nat.le_refl i) (by omega), fndP_congr m (i + 1) (fun j h1 h2 => h j (by omega) (by omega))]
theorem tE_app {ts : List Te} {t : Te} {k : Nat} (h : k < ts.length) : tE (ts ++ [t]) k = tE ts k := by
  unfold tE
  simp [List.getD_eq_getElem?_getD, List.getElem?_append_left h]
theorem tE_end (ts : List Te) (t : Te) : tE (ts ++ [t]) ts.length = t := by
  unfold tE
  simp [List.getD_eq_getElem?_getD]
theorem tb_app {ts : List Te} {t : Te} {k : Nat} (h : k < ts.length) : tb (ts ++ [t]) k = tb ts k := by unfold tb; rw [tE_app h]
theorem tb_end (ts : List Te) (t : Te) : tb (ts ++ [t]) ts.length = t.2 := by unfold tb; rw [tE_end]
theorem fstN_app {ts : List Te} {t : Te} {k : Nat} (h : k < ts.length) : fstN (ts ++ [t]) k = fstN ts k := by
  unfold fstN
  rw [fndP_congr k 0 (fun j _ hj => by rw [tb_app h, tb_app (show j < ts.length by omega)])]
theorem fstN_end (ts : List Te) (t : Te) : fstN (ts ++ [t]) ts.length = fwN ts t.2 := by
  unfold fstN fwN
  rw [fndP_congr ts.length 0 (fun j _ hj => by rw [tb_end, tb_app (show j < ts.length by omega)])]
theorem stF_app {ts : List Te} {t : Te} : ∀ n, n ≤ ts.length → stF (ts ++ [t]) n = stF ts n
  | 0, _ => rfl
  | n + 1, h => by
    show stF (ts ++ [t]) n + _ = stF ts n + _
    rw [stF_app n (by omega), fstN_app (by omega), tb_app (by omega)]
theorem shF_app {ts : List Te} {t : Te} : ∀ n, n ≤ ts.length → shF (ts ++ [t]) n = shF ts n
  | 0, _ => rfl
  | n + 1, h => by
    show shF (ts ++ [t]) n + _ = shF ts n + _
    rw [shF_app n (by omega), fstN_app (by omega)]
theorem stF_end (ts : List Te) (t : Te) : stF (ts ++ [t]) (ts.length + 1) = stF ts ts.length + (if fwN ts t.2 = ts.length then t.2.length else 0) := by
  show stF (ts ++ [t]) ts.length + (if fstN (ts ++ [t]) ts.length = ts.length then (tb (ts ++ [t]) ts.length).length else 0) = _
  rw [stF_app _ (Nat.le_refl _), fstN_end, tb_end]
theorem shF_end (ts : List Te) (t : Te) : shF (ts ++ [t]) (ts.length + 1) = shF ts ts.length + (if fwN ts t.2 = ts.length then 0 else 1) := by
  show shF (ts ++ [t]) ts.length + (if fstN (ts ++ [t]) ts.length = ts.length then 0 else 1) = _
  rw [shF_app _ (Nat.le_refl _), fstN_end]
theorem fwN_spec (ts : List Te) (bs : List Nat) : (fwN ts bs < ts.length ∧ tb ts (fwN ts bs) = bs) ∨ fwN ts bs = ts.length := by
  unfold fwN
  rcases fndP_spec (fun k => decide (tb ts k = bs)) ts.length 0 with ⟨c, h1, h2, h3, h4, h5⟩ | ⟨h1, h2⟩
  · rw [h1]
    exact Or.inl ⟨by simpa using h3, of_decide_eq_true h4⟩
  · rw [h1]
    exact Or.inr rfl
def addB (ts : List Te) (bs : List Nat) : Bool := decide (ts.length < 100) && (decide (fwN ts bs < ts.length) || decide (stF ts ts.length + bs.length ≤ 5000))
section PW
variable {T : mT} {Q : mOut → mT → Prop} {p p2 o r : Nat} {ts us : List Te} {sf : Nat → Nat}
theorem ct_clear {ed : Int} {R : Rg} {Fs : List Ft} (hK : PackK T p) (hR0 : RegR T r R) (hd : r < p ∨ p + 84 ≤ r) (hE : EdR T (p + 2) Fs) (hQ : ∀ T2, PackR T2 p (ed, R, Fs, []) → Fr (iv p (p + 2)) T T2 → Q (.inl none) T2) : XW 44 0 [some (.ref (p)), some (.int (iI (ed))), some (.ref (r))] [] T Q := by
  obtain ⟨⟨k1, k2, k3, k4⟩, kr, ka⟩ := id hK
  have f1 : Fr (iv p (p + 2)) T (mSI T p 0 (iI ed)) := Fr.sI ⟨by omega, by omega⟩
  simp (maxSteps := 4000000) (disch := first | (simp (disch := omega) only [XB_i, XB_n, va_rf_s, va_rf_n, mSI_K, mSI_I, mSI_J, mSI_P, mSI_N, mSJ_K, mSJ_I, mSJ_J, mSJ_P, mSJ_N, mSP_K, mSP_I, mSP_J, mSP_P, mSP_N, mNn, mNi, mNr, mN0, al20, al21, al22, al23, al25, true_or, or_true, and_self, if_true, if_false, mCat_n, mCat_i, mCat_r, mCat_l, mCat_0, Nat.reduceAdd, Nat.reduceLeDiff, Nat.reduceLT, true_and, and_true, Nat.zero_le, bI_01, mInB_J, mInB_Z, mInB_N, k1, k2]; done) | omega | (unfold R32 at *; omega)) only [e_44_0, e_44_0_n, e_44_1, e_44_2, e_44_5, e_44_5_n, e_44_6, e_44_9, e_44_9_n, XB_i, XB_n, va_rf_s, va_rf_n, mSI_K, mSI_I, mSI_J, mSI_P, mSI_N, mSJ_K, mSJ_I, mSJ_J, mSJ_P, mSJ_N, mSP_K, mSP_I, mSP_J, mSP_P, mSP_N, mNn, mNi, mNr, mN0, al20, al21, al22, al23, al25, true_or, or_true, and_self, if_true, if_false, mCat_n, mCat_i, mCat_r, mCat_l, mCat_0, Nat.reduceAdd, Nat.reduceLeDiff, Nat.reduceLT, true_and, and_true, Nat.zero_le, bI_01, bI_0, i10, tf0, iI_add, iI_sub, iI_mul, iI_neg, iI_add1, iI_sub1, iI_m1, nca, nc1, ncm1, iI_clJ, iI_cl0, iI_clN, Int.toNat_natCast, mU_n, mU_s, p_min, p_max, p_abs, ni_2, ni_3, ni_4, ni_7, ni_8, ni_9, ni_12, ni_24, ni_97, ni_100, ni_122, ni_200, ni_256, ni_4096, ni_5000, ni_9999, iI_lt, iI_le, iI_eq, iz_eq, iz_lt, iz_le, iz_gt, iz_ge, iy_eq, iy_lt, iy_le, iI_ltN, iI_leN, iI_eqN, if_pos, if_neg, k1, k2]
  refine c_44_10 (by simp only [XB_i, XB_n, va_rf_s, va_rf_n, mSI_K, mSI_I, mSI_J, mSI_P, mSI_N, mSJ_K, mSJ_I, mSJ_J, mSJ_P, mSJ_N, mSP_K, mSP_I, mSP_J, mSP_P, mSP_N, mNn, mNi, mNr, mN0, al20, al21, al22, al23, al25, true_or, or_true, and_self, if_true, if_false, mCat_n, mCat_i, mCat_r, mCat_l, mCat_0, Nat.reduceAdd, Nat.reduceLeDiff, Nat.reduceLT, true_and, and_true, Nat.zero_le, bI_01]) (by rw [mSI_K, k4]) (ct_reg_copy (R := R) (by rw [mSI_K, k4]) (hR0.fr f1 (fun q => by have := q.1; have := q.2; omega)) (fun T2 h2 f2 => ?_))
  have f2' : Fr (iv p (p + 2)) (mSI T p 0 (iI ed)) T2 := f2.mono (fun b hb => ⟨by have := hb.1; omega, by have := hb.2; omega⟩)
  have n0 : ¬ iv (p + 1) (p + 1 + 1) p := fun q => by have := q.1; omega
  have g1 : T2.1 p = (5, 0) := by rw [f2.K]; exact k1
  simp (maxSteps := 4000000) (disch := first | (simp (disch := omega) only [XB_i, XB_n, va_rf_s, va_rf_n, mSI_K, mSI_I, mSI_J, mSI_P, mSI_N, mSJ_K, mSJ_I, mSJ_J, mSJ_P, mSJ_N, mSP_K, mSP_I, mSP_J, mSP_P, mSP_N, mNn, mNi, mNr, mN0, al20, al21, al22, al23, al25, true_or, or_true, and_self, if_true, if_false, mCat_n, mCat_i, mCat_r, mCat_l, mCat_0, Nat.reduceAdd, Nat.reduceLeDiff, Nat.reduceLT, true_and, and_true, Nat.zero_le, bI_01, mInB_J, mInB_Z, mInB_N, g1]; done) | omega | (unfold R32 at *; omega)) only [e_44_13, e_44_13_n, e_44_14, e_44_15, e_44_18, e_44_18_n, e_44_19, e_44_20, e_44_23, e_44_23_n, e_44_24, e_44_25, e_44_28, XB_i, XB_n, va_rf_s, va_rf_n, mSI_K, mSI_I, mSI_J, mSI_P, mSI_N, mSJ_K, mSJ_I, mSJ_J, mSJ_P, mSJ_N, mSP_K, mSP_I, mSP_J, mSP_P, mSP_N, mNn, mNi, mNr, mN0, al20, al21, al22, al23, al25, true_or, or_true, and_self, if_true, if_false, mCat_n, mCat_i, mCat_r, mCat_l, mCat_0, Nat.reduceAdd, Nat.reduceLeDiff, Nat.reduceLT, true_and, and_true, Nat.zero_le, bI_01, bI_0, i10, tf0, iI_add, iI_sub, iI_mul, iI_neg, iI_add1, iI_sub1, iI_m1, nca, nc1, ncm1, iI_clJ, iI_cl0, iI_clN, Int.toNat_natCast, mU_n, mU_s, p_min, p_max, p_abs, ni_2, ni_3, ni_4, ni_7, ni_8, ni_9, ni_12, ni_24, ni_97, ni_100, ni_122, ni_200, ni_256, ni_4096, ni_5000, ni_9999, iI_lt, iI_le, iI_eq, iz_eq, iz_lt, iz_le, iz_gt, iz_ge, iy_eq, iy_lt, iy_le, iI_ltN, iI_leN, iI_eqN, if_pos, if_neg, g1]
  have f3 : Fr (iv p (p + 1)) T2 (mSI (mSI (mSI T2 p 3 0) p 4 0) p 5 0) := Fr.iI (Fr.iI (Fr.sI ⟨by omega, by omega⟩) ⟨by omega, by omega⟩) ⟨by omega, by omega⟩
  have f13 : Fr (iv p (p + 2)) T (mSI (mSI (mSI T2 p 3 0) p 4 0) p 5 0) := (f1.tr f2').tr (f3.mono (fun b hb => ⟨by have := hb.1; omega, by have := hb.2; omega⟩))
  refine hQ _ ⟨?_, ⟨fun _ => 0, ⟨fun k hk => by simp at hk, fun k hk => by simp at hk, fun k hk => by simp at hk, fun k hk => by simp at hk, fun k hk => by simp at hk, fun k hk => by simp at hk, fun k hk => by simp at hk, fun k hk => by simp at hk, fun k i hk => by simp at hk⟩⟩, ⟨by (simp (disch := omega) only [mSI_I, mSI_J, mSI_P, mSJ_I, mSJ_J, mSJ_P, mSP_I, mSP_J, mSP_P, mU_n, mU_s] <;> first | done | rfl | assumption), by simp, by (simp (disch := omega) only [mSI_I, mSI_J, mSI_P, mSJ_I, mSJ_J, mSJ_P, mSP_I, mSP_J, mSP_P, mU_n, mU_s] <;> first | done | rfl | assumption), by simp [stF], by (simp (disch := omega) only [mSI_I, mSI_J, mSI_P, mSJ_I, mSJ_J, mSJ_P, mSP_I, mSP_J, mSP_P, mU_n, mU_s] <;> first | done | rfl | assumption)⟩, ?_, h2.fr f3 (fun q => by have := q.1; have := q.2; omega), hE.fr f13 (fun b hb q => by have := q.1; have := q.2; have := hb.1; have := hb.2; omega)⟩ f13
  · have : (mSI (mSI (mSI T2 p 3 0) p 4 0) p 5 0).2.2.2.1 p = T.2.2.2.1 p := by
      rw [mSI_P, mSI_P, mSI_P, f2.P n0, mSI_P]
    unfold PackK
    rw [this, f13.1]
    exact ⟨⟨k1, k2, k3, k4⟩, kr, ka⟩
  · have : T2.2.1 p 0 = iI ed := by rw [f2.I n0]; (simp (disch := omega) only [mSI_I, mSI_J, mSI_P, mSJ_I, mSJ_J, mSJ_P, mSP_I, mSP_J, mSP_P, mU_n, mU_s] <;> first | done | rfl | assumption)
    rw [← this]
    (simp (disch := omega) only [mSI_I, mSI_J, mSI_P, mSJ_I, mSJ_J, mSJ_P, mSP_I, mSP_J, mSP_P, mU_n, mU_s] <;> first | done | rfl | assumption)
/-- the end of addTile -/
theorem ct_add_end {t : Int × Int × Int × Int} {bs : List Nat} {s first : Nat} (hK : PackK T p) (hn : ts.length < 100) (c3 : T.2.1 p 3 = iI ts.length) (h76 : ∀ k, k < ts.length → T.2.1 (p + 76) k = iI (tE ts k).1.1) (h77 : ∀ k, k < ts.length → T.2.1 (p + 77) k = iI (tE ts k).1.2.1) (h78 : ∀ k, k < ts.length → T.2.1 (p + 78) k = iI (tE ts k).1.2.2.1) (h79 : ∀ k, k < ts.length → T.2.1 (p + 79) k = iI (tE ts k).1.2.2.2) (h80 : ∀ k, k < ts.length → T.2.1 (p + 80) k = iI (tb ts k).length) (h81 : ∀ k, k < ts.length → T.2.1 (p + 81) k = iI (fstN ts k)) (h82 : ∀ k, k < ts.length → T.2.1 (p + 82) k = iI (sf k)) (h82n : T.2.1 (p + 82) ts.length = iI s) (hle : ∀ k, k < ts.length → sf k + (tb ts k).length ≤ stF (ts ++ [(t, bs)]) (ts.length + 1)) (hlen : s + bs.length ≤ stF (ts ++ [(t, bs)]) (ts.length + 1)) (hby : ∀ k i, k < ts.length → i < (tb ts k).length → T.2.1 (p + 83) (sf k + i) = b8 ((tb ts k).getD i 0)) (hbyn : ∀ i, i < bs.length → T.2.1 (p + 83) (s + i) = b8 (bs.getD i 0)) (c4 : T.2.1 p 4 = iI (stF (ts ++ [(t, bs)]) (ts.length + 1))) (c4b : stF (ts ++ [(t, bs)]) (ts.length + 1) ≤ 5000) (c5 : T.2.1 p 5 = iI (shF (ts ++ [(t, bs)]) (ts.length + 1))) (hfi : first = fwN ts bs) (ho : OctR T o bs) (hd : o + 2 ≤ p ∨ p + 84 ≤ o) (hQ : ∀ T2, PackK T2 p → (∃ sf, TsR T2 p (ts ++ [(t, bs)]) sf) → PackN T2 p (ts ++ [(t, bs)]) → T2.2.1 p 0 = T.2.1 p 0 → Fr (fun b => b = p ∨ iv (p + 76) (p + 84) b) T T2 → Q (.inl (some (.int 1))) T2) : XW 45 127 [some (.ref (p)), some (.int (iI (t.1))), some (.int (iI (t.2.1))), some (.int (iI (t.2.2.1))), some (.int (iI (t.2.2.2))), some (.ref (o)), some (.int (iI ((first : Nat) : Int)))] [] T Q := by
  obtain ⟨⟨k1, k2, k3, k4⟩, ⟨r6, r7, r8, r9, r10, r11, r12, r13⟩, a6, a7, a8, a9, a10, a11, a12, a13⟩ := id hK
  have o1 := ho.1
  have o4 := ho.2.2.2.1
  have hL : (ts ++ [(t, bs)]).length = ts.length + 1 := by simp
  simp (maxSteps := 4000000) (disch := first | (simp (disch := omega) only [XB_i, XB_n, va_rf_s, va_rf_n, mSI_K, mSI_I, mSI_J, mSI_P, mSI_N, mSJ_K, mSJ_I, mSJ_J, mSJ_P, mSJ_N, mSP_K, mSP_I, mSP_J, mSP_P, mSP_N, mNn, mNi, mNr, mN0, al20, al21, al22, al23, al25, true_or, or_true, and_self, if_true, if_false, mCat_n, mCat_i, mCat_r, mCat_l, mCat_0, Nat.reduceAdd, Nat.reduceLeDiff, Nat.reduceLT, true_and, and_true, Nat.zero_le, bI_01, mInB_J, mInB_Z, mInB_N, k1, c3, r6, r7, r8, r9, r10, r11, a6, a7, a8, a9, a10, a11, o1, o4]; done) | omega | (unfold R32 at *; omega)) only [e_45_127, e_45_127_n, e_45_128, e_45_131, e_45_131_n, e_45_132, e_45_135, e_45_136, e_45_137, e_45_137_n, e_45_138, e_45_141, e_45_141_n, e_45_142, e_45_145, e_45_146, e_45_147, e_45_147_n, e_45_148, e_45_151, e_45_151_n, e_45_152, e_45_155, e_45_156, e_45_157, e_45_157_n, e_45_158, e_45_161, e_45_161_n, e_45_162, e_45_165, e_45_167, e_45_168, e_45_168_n, e_45_169, e_45_172, e_45_172_n, e_45_173, e_45_176, e_45_176_n, e_45_178, e_45_181, e_45_182, e_45_182_n, e_45_183, e_45_186, e_45_186_n, e_45_187, e_45_190, e_45_192, e_45_193, e_45_193_n, e_45_194, e_45_194_i, e_45_195, e_45_198, e_45_199, e_45_200, e_45_203, e_45_204, XB_i, XB_n, va_rf_s, va_rf_n, mSI_K, mSI_I, mSI_J, mSI_P, mSI_N, mSJ_K, mSJ_I, mSJ_J, mSJ_P, mSJ_N, mSP_K, mSP_I, mSP_J, mSP_P, mSP_N, mNn, mNi, mNr, mN0, al20, al21, al22, al23, al25, true_or, or_true, and_self, if_true, if_false, mCat_n, mCat_i, mCat_r, mCat_l, mCat_0, Nat.reduceAdd, Nat.reduceLeDiff, Nat.reduceLT, true_and, and_true, Nat.zero_le, bI_01, bI_0, i10, tf0, iI_add, iI_sub, iI_mul, iI_neg, iI_add1, iI_sub1, iI_m1, nca, nc1, ncm1, iI_clJ, iI_cl0, iI_clN, Int.toNat_natCast, mU_n, mU_s, p_min, p_max, p_abs, ni_2, ni_3, ni_4, ni_7, ni_8, ni_9, ni_12, ni_24, ni_97, ni_100, ni_122, ni_200, ni_256, ni_4096, ni_5000, ni_9999, iI_lt, iI_le, iI_eq, iz_eq, iz_lt, iz_le, iz_gt, iz_ge, iy_eq, iy_lt, iy_le, iI_ltN, iI_leN, iI_eqN, if_pos, if_neg, k1, c3, r6, r7, r8, r9, r10, r11, a6, a7, a8, a9, a10, a11, o1, o4]
  refine hQ _ hK ⟨fun k => if k = ts.length then s else sf k, ?_⟩ ⟨?_, by rw [hL]; omega, ?_, by rw [hL]; exact c4b, ?_⟩ ?_ ?_
  · unfold TsR
    rw [hL]
    refine ⟨fun k hk => ?_, fun k hk => ?_, fun k hk => ?_, fun k hk => ?_, fun k hk => ?_, fun k hk => ?_, fun k hk => ?_, fun k hk => ?_, fun k i hk hi => ?_⟩
    · by_cases e : k = ts.length
      · rw [e, tE_end]; (simp (disch := omega) only [mSI_I, mSI_J, mSI_P, mSJ_I, mSJ_J, mSJ_P, mSP_I, mSP_J, mSP_P, mU_n, mU_s] <;> first | done | rfl | assumption)
      · rw [tE_app (by omega), ← h76 k (by omega)]; (simp (disch := omega) only [mSI_I, mSI_J, mSI_P, mSJ_I, mSJ_J, mSJ_P, mSP_I, mSP_J, mSP_P, mU_n, mU_s] <;> first | done | rfl | assumption)
    · by_cases e : k = ts.length
      · rw [e, tE_end]; (simp (disch := omega) only [mSI_I, mSI_J, mSI_P, mSJ_I, mSJ_J, mSJ_P, mSP_I, mSP_J, mSP_P, mU_n, mU_s] <;> first | done | rfl | assumption)
      · rw [tE_app (by omega), ← h77 k (by omega)]; (simp (disch := omega) only [mSI_I, mSI_J, mSI_P, mSJ_I, mSJ_J, mSJ_P, mSP_I, mSP_J, mSP_P, mU_n, mU_s] <;> first | done | rfl | assumption)
    · by_cases e : k = ts.length
      · rw [e, tE_end]; (simp (disch := omega) only [mSI_I, mSI_J, mSI_P, mSJ_I, mSJ_J, mSJ_P, mSP_I, mSP_J, mSP_P, mU_n, mU_s] <;> first | done | rfl | assumption)
      · rw [tE_app (by omega), ← h78 k (by omega)]; (simp (disch := omega) only [mSI_I, mSI_J, mSI_P, mSJ_I, mSJ_J, mSJ_P, mSP_I, mSP_J, mSP_P, mU_n, mU_s] <;> first | done | rfl | assumption)
    · by_cases e : k = ts.length
      · rw [e, tE_end]; (simp (disch := omega) only [mSI_I, mSI_J, mSI_P, mSJ_I, mSJ_J, mSJ_P, mSP_I, mSP_J, mSP_P, mU_n, mU_s] <;> first | done | rfl | assumption)
      · rw [tE_app (by omega), ← h79 k (by omega)]; (simp (disch := omega) only [mSI_I, mSI_J, mSI_P, mSJ_I, mSJ_J, mSJ_P, mSP_I, mSP_J, mSP_P, mU_n, mU_s] <;> first | done | rfl | assumption)
    · by_cases e : k = ts.length
      · rw [e, tb_end]; (simp (disch := omega) only [mSI_I, mSI_J, mSI_P, mSJ_I, mSJ_J, mSJ_P, mSP_I, mSP_J, mSP_P, mU_n, mU_s] <;> first | done | rfl | assumption)
      · rw [tb_app (by omega), ← h80 k (by omega)]; (simp (disch := omega) only [mSI_I, mSI_J, mSI_P, mSJ_I, mSJ_J, mSJ_P, mSP_I, mSP_J, mSP_P, mU_n, mU_s] <;> first | done | rfl | assumption)
    · by_cases e : k = ts.length
      · rw [e, fstN_end, ← hfi]; (simp (disch := omega) only [mSI_I, mSI_J, mSI_P, mSJ_I, mSJ_J, mSJ_P, mSP_I, mSP_J, mSP_P, mU_n, mU_s] <;> first | done | rfl | assumption)
      · rw [fstN_app (by omega), ← h81 k (by omega)]; (simp (disch := omega) only [mSI_I, mSI_J, mSI_P, mSJ_I, mSJ_J, mSJ_P, mSP_I, mSP_J, mSP_P, mU_n, mU_s] <;> first | done | rfl | assumption)
    · dsimp only
      by_cases e : k = ts.length
      · rw [if_pos e, e, ← h82n]; (simp (disch := omega) only [mSI_I, mSI_J, mSI_P, mSJ_I, mSJ_J, mSJ_P, mSP_I, mSP_J, mSP_P, mU_n, mU_s] <;> first | done | rfl | assumption)
      · rw [if_neg e, ← h82 k (by omega)]; (simp (disch := omega) only [mSI_I, mSI_J, mSI_P, mSJ_I, mSJ_J, mSJ_P, mSP_I, mSP_J, mSP_P, mU_n, mU_s] <;> first | done | rfl | assumption)
    · dsimp only
      by_cases e : k = ts.length
      · rw [if_pos e, e, tb_end]; exact hlen
      · rw [if_neg e, tb_app (by omega)]; exact hle k (by omega)
    · dsimp only
      by_cases e : k = ts.length
      · subst e
        rw [tb_end] at hi ⊢
        rw [if_pos rfl, ← hbyn i hi]; (simp (disch := omega) only [mSI_I, mSI_J, mSI_P, mSJ_I, mSJ_J, mSJ_P, mSP_I, mSP_J, mSP_P, mU_n, mU_s] <;> first | done | rfl | assumption)
      · rw [tb_app (by omega)] at hi ⊢
        rw [if_neg e, ← hby k i (by omega) hi]; (simp (disch := omega) only [mSI_I, mSI_J, mSI_P, mSJ_I, mSJ_J, mSJ_P, mSP_I, mSP_J, mSP_P, mU_n, mU_s] <;> first | done | rfl | assumption)
  · rw [hL]; (simp (disch := omega) only [mSI_I, mSI_J, mSI_P, mSJ_I, mSJ_J, mSJ_P, mSP_I, mSP_J, mSP_P, mU_n, mU_s] <;> first | done | rfl | assumption)
  · rw [hL, ← c4]; (simp (disch := omega) only [mSI_I, mSI_J, mSI_P, mSJ_I, mSJ_J, mSJ_P, mSP_I, mSP_J, mSP_P, mU_n, mU_s] <;> first | done | rfl | assumption)
  · rw [hL, ← c5]; (simp (disch := omega) only [mSI_I, mSI_J, mSI_P, mSJ_I, mSJ_J, mSJ_P, mSP_I, mSP_J, mSP_P, mU_n, mU_s] <;> first | done | rfl | assumption)
  · (simp (disch := omega) only [mSI_I, mSI_J, mSI_P, mSJ_I, mSJ_J, mSJ_P, mSP_I, mSP_J, mSP_P, mU_n, mU_s] <;> first | done | rfl | assumption)
  · exact Fr.iI (Fr.iI (Fr.iI (Fr.iI (Fr.iI (Fr.iI (Fr.iI Fr.rf (Or.inr ⟨by omega, by omega⟩)) (Or.inr ⟨by omega, by omega⟩)) (Or.inr ⟨by omega, by omega⟩)) (Or.inr ⟨by omega, by omega⟩)) (Or.inr ⟨by omega, by omega⟩)) (Or.inr ⟨by omega, by omega⟩)) (Or.inl rfl)
theorem ct_add {t : Int × Int × Int × Int} {bs : List Nat} {D : Pk} (hP : PackR T p D) (hts : D.2.2.2 = ts) (ok : tsOk ts) (ho : OctR T o bs) (hb : ∀ x ∈ bs, x < 256) (hd : o + 2 ≤ p ∨ p + 84 ≤ o) (hQ : ∀ T2, PackR T2 p (D.1, D.2.1, D.2.2.1, if addB ts bs then ts ++ [(t, bs)] else ts) → Fr (fun b => b = p ∨ iv (p + 76) (p + 84) b) T T2 → Q (.inl (some (.int (bI (addB ts bs))))) T2) : XW 45 0 [some (.ref (p)), some (.int (iI (t.1))), some (.int (iI (t.2.1))), some (.int (iI (t.2.2.1))), some (.int (iI (t.2.2.2))), some (.ref (o)), none] [] T Q := by
  subst hts
  obtain ⟨hK, ⟨sf, hT⟩, hN, hE0, hR, hEd⟩ := id hP
  obtain ⟨⟨k1, k2, k3, k4⟩, ⟨r6, r7, r8, r9, r10, r11, r12, r13⟩, a6, a7, a8, a9, a10, a11, a12, a13⟩ := id hK
  obtain ⟨t1, t2, t3, t4, t5, t6, t7, t8, t9⟩ := id hT
  obtain ⟨n1, n2, n3, n4, n5⟩ := id hN
  obtain ⟨o1, o2, o3, o4, o5, o6⟩ := id ho
  generalize hts : D.2.2.2 = ts at *
  have bsh := shF_le ts ts.length
  have refuse : addB ts bs = false → Q (.inl (some (.int 0))) T := by
    intro q
    have := hQ T (by rw [q]; rw [← hts] at *; exact hP) Fr.rf
    rw [q] at this
    exact this
  have back : ∀ (T1 T2 : mT), addB ts bs = true → Fr (fun b => b = p ∨ iv (p + 76) (p + 84) b) T T1 → T1.2.1 p 0 = T.2.1 p 0 → PackK T2 p → (∃ sf, TsR T2 p (ts ++ [(t, bs)]) sf) → PackN T2 p (ts ++ [(t, bs)]) → T2.2.1 p 0 = T1.2.1 p 0 → Fr (fun b => b = p ∨ iv (p + 76) (p + 84) b) T1 T2 → Q (.inl (some (.int 1))) T2 := by
    intro T1 T2 q f1 e1 K2 TS2 N2 e2 f2
    have f12 := f1.tr f2
    have := hQ T2 (by rw [if_pos q]; exact ⟨K2, TS2, N2, by rw [e2, e1]; exact hE0, hR.fr f12 (by rintro (z | z); omega; have := z.1; omega), hEd.fr f12 (fun b hb z => by have := hb.1; have := hb.2; rcases z with z | z; omega; have := z.1; omega)⟩) f12
    rw [q] at this
    exact this
  have pf := fun Q => @p_first T Q p o ts sf bs hK hT hN ok ho hb
  by_cases q100 : ts.length < 100
  · rcases fwN_spec ts bs with ⟨q1, q2⟩ | q1
    · have qA : addB ts bs = true := by unfold addB; simp [q100, q1]
      have qne : ¬ fwN ts bs = ts.length := by omega
      have st := stF_end ts (t, bs)
      have sh := shF_end ts (t, bs)
      rw [if_neg qne] at st sh
      rw [Nat.add_zero (stF ts ts.length)] at st
      have b8' := t8 (fwN ts bs) q1
      rw [q2] at b8'
      simp (maxSteps := 4000000) (disch := first | (simp (disch := omega) only [XB_i, XB_n, va_rf_s, va_rf_n, mSI_K, mSI_I, mSI_J, mSI_P, mSI_N, mSJ_K, mSJ_I, mSJ_J, mSJ_P, mSJ_N, mSP_K, mSP_I, mSP_J, mSP_P, mSP_N, mNn, mNi, mNr, mN0, al20, al21, al22, al23, al25, true_or, or_true, and_self, if_true, if_false, mCat_n, mCat_i, mCat_r, mCat_l, mCat_0, Nat.reduceAdd, Nat.reduceLeDiff, Nat.reduceLT, true_and, and_true, Nat.zero_le, bI_01, mInB_J, mInB_Z, mInB_N, k1, n1, n5, pf, r12, a12, t7]; done) | omega | (unfold R32 at *; omega)) only [e_45_0, e_45_0_n, e_45_1, e_45_4, e_45_6, e_45_9, e_45_10, e_45_11, e_45_11_n, e_45_12, e_45_12_n, e_45_17, e_45_19, e_45_21, e_45_21_n, e_45_22, e_45_25, e_45_28, e_45_28_n, e_45_29, e_45_29_i, e_45_30, e_45_33, e_45_34, e_45_35, e_45_38, e_45_38_n, e_45_39, e_45_42, e_45_42_n, e_45_43, e_45_46, e_45_46_n, e_45_47, e_45_50, e_45_52, e_45_53, e_45_54, d_45_14, XB_i, XB_n, va_rf_s, va_rf_n, mSI_K, mSI_I, mSI_J, mSI_P, mSI_N, mSJ_K, mSJ_I, mSJ_J, mSJ_P, mSJ_N, mSP_K, mSP_I, mSP_J, mSP_P, mSP_N, mNn, mNi, mNr, mN0, al20, al21, al22, al23, al25, true_or, or_true, and_self, if_true, if_false, mCat_n, mCat_i, mCat_r, mCat_l, mCat_0, Nat.reduceAdd, Nat.reduceLeDiff, Nat.reduceLT, true_and, and_true, Nat.zero_le, bI_01, bI_0, i10, tf0, iI_add, iI_sub, iI_mul, iI_neg, iI_add1, iI_sub1, iI_m1, nca, nc1, ncm1, iI_clJ, iI_cl0, iI_clN, Int.toNat_natCast, mU_n, mU_s, p_min, p_max, p_abs, ni_2, ni_3, ni_4, ni_7, ni_8, ni_9, ni_12, ni_24, ni_97, ni_100, ni_122, ni_200, ni_256, ni_4096, ni_5000, ni_9999, iI_lt, iI_le, iI_eq, iz_eq, iz_lt, iz_le, iz_gt, iz_ge, iy_eq, iy_lt, iy_le, iI_ltN, iI_leN, iI_eqN, if_pos, if_neg, k1, n1, n5, pf, r12, a12, t7]
      have f1 : Fr (fun b => b = p ∨ iv (p + 76) (p + 84) b) T (mSI (mSI T p 5 (iI ((shF ts ts.length + 1 : Nat) : Int))) (p + 82) ts.length (iI ((sf (fwN ts bs) : Nat) : Int))) := Fr.iI (Fr.sI (Or.inl rfl)) (Or.inr ⟨by omega, by omega⟩)
      refine ct_add_end (ts := ts) (sf := sf) (s := sf (fwN ts bs)) (bs := bs) hK q100 (by rw [← n1]; (simp (disch := omega) only [mSI_I, mSI_J, mSI_P, mSJ_I, mSJ_J, mSJ_P, mSP_I, mSP_J, mSP_P, mU_n, mU_s] <;> first | done | rfl | assumption)) (fun k hk => by rw [← t1 k hk]; (simp (disch := omega) only [mSI_I, mSI_J, mSI_P, mSJ_I, mSJ_J, mSJ_P, mSP_I, mSP_J, mSP_P, mU_n, mU_s] <;> first | done | rfl | assumption)) (fun k hk => by rw [← t2 k hk]; (simp (disch := omega) only [mSI_I, mSI_J, mSI_P, mSJ_I, mSJ_J, mSJ_P, mSP_I, mSP_J, mSP_P, mU_n, mU_s] <;> first | done | rfl | assumption)) (fun k hk => by rw [← t3 k hk]; (simp (disch := omega) only [mSI_I, mSI_J, mSI_P, mSJ_I, mSJ_J, mSJ_P, mSP_I, mSP_J, mSP_P, mU_n, mU_s] <;> first | done | rfl | assumption)) (fun k hk => by rw [← t4 k hk]; (simp (disch := omega) only [mSI_I, mSI_J, mSI_P, mSJ_I, mSJ_J, mSJ_P, mSP_I, mSP_J, mSP_P, mU_n, mU_s] <;> first | done | rfl | assumption)) (fun k hk => by rw [← t5 k hk]; (simp (disch := omega) only [mSI_I, mSI_J, mSI_P, mSJ_I, mSJ_J, mSJ_P, mSP_I, mSP_J, mSP_P, mU_n, mU_s] <;> first | done | rfl | assumption)) (fun k hk => by rw [← t6 k hk]; (simp (disch := omega) only [mSI_I, mSI_J, mSI_P, mSJ_I, mSJ_J, mSJ_P, mSP_I, mSP_J, mSP_P, mU_n, mU_s] <;> first | done | rfl | assumption)) (fun k hk => by rw [← t7 k hk]; (simp (disch := omega) only [mSI_I, mSI_J, mSI_P, mSJ_I, mSJ_J, mSJ_P, mSP_I, mSP_J, mSP_P, mU_n, mU_s] <;> first | done | rfl | assumption)) (by (simp (disch := omega) only [mSI_I, mSI_J, mSI_P, mSJ_I, mSJ_J, mSJ_P, mSP_I, mSP_J, mSP_P, mU_n, mU_s] <;> first | done | rfl | assumption)) (fun k hk => by rw [st]; exact t8 k hk) (by rw [st]; exact b8') (fun k i hk hi => by rw [← t9 k i hk hi]; (simp (disch := omega) only [mSI_I, mSI_J, mSI_P, mSJ_I, mSJ_J, mSJ_P, mSP_I, mSP_J, mSP_P, mU_n, mU_s] <;> first | done | rfl | assumption)) (fun i hi => by have := t9 (fwN ts bs) i q1 (by rw [q2]; exact hi); rw [q2] at this; rw [← this]; (simp (disch := omega) only [mSI_I, mSI_J, mSI_P, mSJ_I, mSJ_J, mSJ_P, mSP_I, mSP_J, mSP_P, mU_n, mU_s] <;> first | done | rfl | assumption)) (by rw [st, ← n3]; (simp (disch := omega) only [mSI_I, mSI_J, mSI_P, mSJ_I, mSJ_J, mSJ_P, mSP_I, mSP_J, mSP_P, mU_n, mU_s] <;> first | done | rfl | assumption)) (by rw [st]; exact n4) (by rw [sh]; (simp (disch := omega) only [mSI_I, mSI_J, mSI_P, mSJ_I, mSJ_J, mSJ_P, mSP_I, mSP_J, mSP_P, mU_n, mU_s] <;> first | done | rfl | assumption)) rfl (ho.fr f1 (fun b hb z => by have := hb.1; have := hb.2; rcases z with z | z; omega; have := z.1; have := z.2; omega)) hd (fun T2 K2 TS2 N2 e2 f2 => back _ T2 qA f1 (by (simp (disch := omega) only [mSI_I, mSI_J, mSI_P, mSJ_I, mSJ_J, mSJ_P, mSP_I, mSP_J, mSP_P, mU_n, mU_s] <;> first | done | rfl | assumption)) K2 TS2 N2 e2 f2)
    · by_cases q5 : stF ts ts.length + bs.length ≤ 5000
      · have qA : addB ts bs = true := by unfold addB; simp [q100, q5]
        have st := stF_end ts (t, bs)
        have sh := shF_end ts (t, bs)
        rw [if_pos q1] at st sh
        dsimp only at st sh
        rw [Nat.add_zero (shF ts ts.length)] at sh
        simp (maxSteps := 4000000) (disch := first | (simp (disch := omega) only [XB_i, XB_n, va_rf_s, va_rf_n, mSI_K, mSI_I, mSI_J, mSI_P, mSI_N, mSJ_K, mSJ_I, mSJ_J, mSJ_P, mSJ_N, mSP_K, mSP_I, mSP_J, mSP_P, mSP_N, mNn, mNi, mNr, mN0, al20, al21, al22, al23, al25, true_or, or_true, and_self, if_true, if_false, mCat_n, mCat_i, mCat_r, mCat_l, mCat_0, Nat.reduceAdd, Nat.reduceLeDiff, Nat.reduceLT, true_and, and_true, Nat.zero_le, bI_01, mInB_J, mInB_Z, mInB_N, k1, n1, n3, pf, q1, o1, o2, o4, r13]; done) | omega | (unfold R32 at *; omega)) only [e_45_0, e_45_0_n, e_45_1, e_45_4, e_45_6, e_45_9, e_45_10, e_45_11, e_45_11_n, e_45_12, e_45_12_n, e_45_17, e_45_19, e_45_21, e_45_21_n, e_45_22, e_45_25, e_45_28, e_45_28_n, e_45_29, e_45_29_i, e_45_30, e_45_33, e_45_34, e_45_35, e_45_38, e_45_38_n, e_45_39, e_45_42, e_45_42_n, e_45_43, e_45_46, e_45_46_n, e_45_47, e_45_50, e_45_52, e_45_53, e_45_54, e_45_57, e_45_57_n, e_45_58, e_45_61, e_45_61_n, e_45_63, e_45_66, e_45_67, e_45_70, e_45_73, e_45_73_n, e_45_75, e_45_78, e_45_79, e_45_79_n, e_45_80, e_45_83, e_45_83_n, e_45_84, e_45_87, e_45_87_n, e_45_89, d_45_14, XB_i, XB_n, va_rf_s, va_rf_n, mSI_K, mSI_I, mSI_J, mSI_P, mSI_N, mSJ_K, mSJ_I, mSJ_J, mSJ_P, mSJ_N, mSP_K, mSP_I, mSP_J, mSP_P, mSP_N, mNn, mNi, mNr, mN0, al20, al21, al22, al23, al25, true_or, or_true, and_self, if_true, if_false, mCat_n, mCat_i, mCat_r, mCat_l, mCat_0, Nat.reduceAdd, Nat.reduceLeDiff, Nat.reduceLT, true_and, and_true, Nat.zero_le, bI_01, bI_0, i10, tf0, iI_add, iI_sub, iI_mul, iI_neg, iI_add1, iI_sub1, iI_m1, nca, nc1, ncm1, iI_clJ, iI_cl0, iI_clN, Int.toNat_natCast, mU_n, mU_s, p_min, p_max, p_abs, ni_2, ni_3, ni_4, ni_7, ni_8, ni_9, ni_12, ni_24, ni_97, ni_100, ni_122, ni_200, ni_256, ni_4096, ni_5000, ni_9999, iI_lt, iI_le, iI_eq, iz_eq, iz_lt, iz_le, iz_gt, iz_ge, iy_eq, iy_lt, iy_le, iI_ltN, iI_leN, iI_eqN, if_pos, if_neg, k1, n1, n3, pf, q1, o1, o2, o4, r13]
        rw [e_45_92 (cp_eq (n := bs.length) (s := 0) (d := stF ts ts.length) (n' := iI bs.length) (s' := 0) (d' := iI (stF ts ts.length)) rfl rfl rfl (by omega) (by simp only [XB_i, XB_n, va_rf_s, va_rf_n, mSI_K, mSI_I, mSI_J, mSI_P, mSI_N, mSJ_K, mSJ_I, mSJ_J, mSJ_P, mSJ_N, mSP_K, mSP_I, mSP_J, mSP_P, mSP_N, mNn, mNi, mNr, mN0, al20, al21, al22, al23, al25, true_or, or_true, and_self, if_true, if_false, mCat_n, mCat_i, mCat_r, mCat_l, mCat_0, Nat.reduceAdd, Nat.reduceLeDiff, Nat.reduceLT, true_and, and_true, Nat.zero_le, bI_01, a13]) (by simp only [XB_i, XB_n, va_rf_s, va_rf_n, mSI_K, mSI_I, mSI_J, mSI_P, mSI_N, mSJ_K, mSJ_I, mSJ_J, mSJ_P, mSJ_N, mSP_K, mSP_I, mSP_J, mSP_P, mSP_N, mNn, mNi, mNr, mN0, al20, al21, al22, al23, al25, true_or, or_true, and_self, if_true, if_false, mCat_n, mCat_i, mCat_r, mCat_l, mCat_0, Nat.reduceAdd, Nat.reduceLeDiff, Nat.reduceLT, true_and, and_true, Nat.zero_le, bI_01, a13, o3]) (by simp only [XB_i, XB_n, va_rf_s, va_rf_n, mSI_K, mSI_I, mSI_J, mSI_P, mSI_N, mSJ_K, mSJ_I, mSJ_J, mSJ_P, mSJ_N, mSP_K, mSP_I, mSP_J, mSP_P, mSP_N, mNn, mNi, mNr, mN0, al20, al21, al22, al23, al25, true_or, or_true, and_self, if_true, if_false, mCat_n, mCat_i, mCat_r, mCat_l, mCat_0, Nat.reduceAdd, Nat.reduceLeDiff, Nat.reduceLT, true_and, and_true, Nat.zero_le, bI_01, o3]; omega) (by simp only [XB_i, XB_n, va_rf_s, va_rf_n, mSI_K, mSI_I, mSI_J, mSI_P, mSI_N, mSJ_K, mSJ_I, mSJ_J, mSJ_P, mSJ_N, mSP_K, mSP_I, mSP_J, mSP_P, mSP_N, mNn, mNi, mNr, mN0, al20, al21, al22, al23, al25, true_or, or_true, and_self, if_true, if_false, mCat_n, mCat_i, mCat_r, mCat_l, mCat_0, Nat.reduceAdd, Nat.reduceLeDiff, Nat.reduceLT, true_and, and_true, Nat.zero_le, bI_01, a13]; omega) (by omega) (by simp only [XB_i, XB_n, va_rf_s, va_rf_n, mSI_K, mSI_I, mSI_J, mSI_P, mSI_N, mSJ_K, mSJ_I, mSJ_J, mSJ_P, mSJ_N, mSP_K, mSP_I, mSP_J, mSP_P, mSP_N, mNn, mNi, mNr, mN0, al20, al21, al22, al23, al25, true_or, or_true, and_self, if_true, if_false, mCat_n, mCat_i, mCat_r, mCat_l, mCat_0, Nat.reduceAdd, Nat.reduceLeDiff, Nat.reduceLT, true_and, and_true, Nat.zero_le, bI_01]))]
        have m1 : ∀ c, c ≠ p + 83 → (mCp T (p + 83) (o + 1) 0 (stF ts ts.length) bs.length).2.1 c = T.2.1 c := fun c hc => mCp_n hc
        have m2 := m1 p (by omega)
        have m3 := m1 o (by omega)
        simp (maxSteps := 4000000) (disch := first | (simp (disch := omega) only [XB_i, XB_n, va_rf_s, va_rf_n, mSI_K, mSI_I, mSI_J, mSI_P, mSI_N, mSJ_K, mSJ_I, mSJ_J, mSJ_P, mSJ_N, mSP_K, mSP_I, mSP_J, mSP_P, mSP_N, mNn, mNi, mNr, mN0, al20, al21, al22, al23, al25, true_or, or_true, and_self, if_true, if_false, mCat_n, mCat_i, mCat_r, mCat_l, mCat_0, Nat.reduceAdd, Nat.reduceLeDiff, Nat.reduceLT, true_and, and_true, Nat.zero_le, bI_01, mInB_J, mInB_Z, mInB_N, k1, n1, n3, o1, o4, r12, a12, mCp_K, mCp_P, m2, m3]; done) | omega | (unfold R32 at *; omega)) only [e_45_95, e_45_95_n, e_45_96, e_45_99, e_45_99_n, e_45_100, e_45_103, e_45_103_n, e_45_104, e_45_107, e_45_108, e_45_108_n, e_45_109, e_45_109_i, e_45_110, e_45_113, e_45_113_n, e_45_115, e_45_118, e_45_119, e_45_122, XB_i, XB_n, va_rf_s, va_rf_n, mSI_K, mSI_I, mSI_J, mSI_P, mSI_N, mSJ_K, mSJ_I, mSJ_J, mSJ_P, mSJ_N, mSP_K, mSP_I, mSP_J, mSP_P, mSP_N, mNn, mNi, mNr, mN0, al20, al21, al22, al23, al25, true_or, or_true, and_self, if_true, if_false, mCat_n, mCat_i, mCat_r, mCat_l, mCat_0, Nat.reduceAdd, Nat.reduceLeDiff, Nat.reduceLT, true_and, and_true, Nat.zero_le, bI_01, bI_0, i10, tf0, iI_add, iI_sub, iI_mul, iI_neg, iI_add1, iI_sub1, iI_m1, nca, nc1, ncm1, iI_clJ, iI_cl0, iI_clN, Int.toNat_natCast, mU_n, mU_s, p_min, p_max, p_abs, ni_2, ni_3, ni_4, ni_7, ni_8, ni_9, ni_12, ni_24, ni_97, ni_100, ni_122, ni_200, ni_256, ni_4096, ni_5000, ni_9999, iI_lt, iI_le, iI_eq, iz_eq, iz_lt, iz_le, iz_gt, iz_ge, iy_eq, iy_lt, iy_le, iI_ltN, iI_leN, iI_eqN, if_pos, if_neg, k1, n1, n3, o1, o4, r12, a12, mCp_K, mCp_P, m2, m3]
        have f1 : Fr (fun b => b = p ∨ iv (p + 76) (p + 84) b) T (mSI (mSI (mCp T (p + 83) (o + 1) 0 (stF ts ts.length) bs.length) (p + 82) ts.length (iI ((stF ts ts.length : Nat) : Int))) p 4 (iI ((stF ts ts.length + bs.length : Nat) : Int))) := Fr.iI (Fr.iI (Fr.cp Fr.rf (Or.inr ⟨by omega, by omega⟩)) (Or.inr ⟨by omega, by omega⟩)) (Or.inl rfl)
        have m76 := m1 (p + 76) (by omega)
        have m77 := m1 (p + 77) (by omega)
        have m78 := m1 (p + 78) (by omega)
        have m79 := m1 (p + 79) (by omega)
        have m80 := m1 (p + 80) (by omega)
        have m81 := m1 (p + 81) (by omega)
        have m82 := m1 (p + 82) (by omega)
        rw [← q1]
        rw [q1]
        refine ct_add_end (ts := ts) (sf := sf) (s := stF ts ts.length) (bs := bs) hK q100 (by rw [← n1, ← m2]; (simp (disch := omega) only [mSI_I, mSI_J, mSI_P, mSJ_I, mSJ_J, mSJ_P, mSP_I, mSP_J, mSP_P, mU_n, mU_s] <;> first | done | rfl | assumption)) (fun k hk => by rw [← t1 k hk, ← m76]; (simp (disch := omega) only [mSI_I, mSI_J, mSI_P, mSJ_I, mSJ_J, mSJ_P, mSP_I, mSP_J, mSP_P, mU_n, mU_s] <;> first | done | rfl | assumption)) (fun k hk => by rw [← t2 k hk, ← m77]; (simp (disch := omega) only [mSI_I, mSI_J, mSI_P, mSJ_I, mSJ_J, mSJ_P, mSP_I, mSP_J, mSP_P, mU_n, mU_s] <;> first | done | rfl | assumption)) (fun k hk => by rw [← t3 k hk, ← m78]; (simp (disch := omega) only [mSI_I, mSI_J, mSI_P, mSJ_I, mSJ_J, mSJ_P, mSP_I, mSP_J, mSP_P, mU_n, mU_s] <;> first | done | rfl | assumption)) (fun k hk => by rw [← t4 k hk, ← m79]; (simp (disch := omega) only [mSI_I, mSI_J, mSI_P, mSJ_I, mSJ_J, mSJ_P, mSP_I, mSP_J, mSP_P, mU_n, mU_s] <;> first | done | rfl | assumption)) (fun k hk => by rw [← t5 k hk, ← m80]; (simp (disch := omega) only [mSI_I, mSI_J, mSI_P, mSJ_I, mSJ_J, mSJ_P, mSP_I, mSP_J, mSP_P, mU_n, mU_s] <;> first | done | rfl | assumption)) (fun k hk => by rw [← t6 k hk, ← m81]; (simp (disch := omega) only [mSI_I, mSI_J, mSI_P, mSJ_I, mSJ_J, mSJ_P, mSP_I, mSP_J, mSP_P, mU_n, mU_s] <;> first | done | rfl | assumption)) (fun k hk => by rw [← t7 k hk, ← m82]; (simp (disch := omega) only [mSI_I, mSI_J, mSI_P, mSJ_I, mSJ_J, mSJ_P, mSP_I, mSP_J, mSP_P, mU_n, mU_s] <;> first | done | rfl | assumption)) (by (simp (disch := omega) only [mSI_I, mSI_J, mSI_P, mSJ_I, mSJ_J, mSJ_P, mSP_I, mSP_J, mSP_P, mU_n, mU_s] <;> first | done | rfl | assumption)) (fun k hk => by rw [st]; have := t8 k hk; omega) (by rw [st]; omega) (fun k i hk hi => ?_) (fun i hi => ?_) (by rw [st]; (simp (disch := omega) only [mSI_I, mSI_J, mSI_P, mSJ_I, mSJ_J, mSJ_P, mSP_I, mSP_J, mSP_P, mU_n, mU_s] <;> first | done | rfl | assumption)) (by rw [st]; exact q5) (by rw [sh, ← n5, ← m2]; (simp (disch := omega) only [mSI_I, mSI_J, mSI_P, mSJ_I, mSJ_J, mSJ_P, mSP_I, mSP_J, mSP_P, mU_n, mU_s] <;> first | done | rfl | assumption)) q1.symm (ho.fr f1 (fun b hb z => by have := hb.1; have := hb.2; rcases z with z | z; omega; have := z.1; have := z.2; omega)) hd (fun T2 K2 TS2 N2 e2 f2 => back _ T2 qA f1 (by rw [← m2]; (simp (disch := omega) only [mSI_I, mSI_J, mSI_P, mSJ_I, mSJ_J, mSJ_P, mSP_I, mSP_J, mSP_P, mU_n, mU_s] <;> first | done | rfl | assumption)) K2 TS2 N2 e2 f2)
        · rw [← t9 k i hk hi]
          have := t8 k hk
          simp (disch := omega) only [mSI_I, mU_n, mCp_o]
        · rw [← oct_gD ho i hi]
          simp (disch := omega) only [mSI_I, mU_n, mCp_s]
          rw [Nat.add_sub_cancel_left]
      · have qA : addB ts bs = false := by unfold addB; simp [q1, q5]
        simp (maxSteps := 4000000) (disch := first | (simp (disch := omega) only [XB_i, XB_n, va_rf_s, va_rf_n, mSI_K, mSI_I, mSI_J, mSI_P, mSI_N, mSJ_K, mSJ_I, mSJ_J, mSJ_P, mSJ_N, mSP_K, mSP_I, mSP_J, mSP_P, mSP_N, mNn, mNi, mNr, mN0, al20, al21, al22, al23, al25, true_or, or_true, and_self, if_true, if_false, mCat_n, mCat_i, mCat_r, mCat_l, mCat_0, Nat.reduceAdd, Nat.reduceLeDiff, Nat.reduceLT, true_and, and_true, Nat.zero_le, bI_01, mInB_J, mInB_Z, mInB_N, k1, n1, n3, pf, q1, o1, o4]; done) | omega | (unfold R32 at *; omega)) only [e_45_0, e_45_0_n, e_45_1, e_45_4, e_45_6, e_45_9, e_45_10, e_45_11, e_45_11_n, e_45_12, e_45_12_n, e_45_17, e_45_19, e_45_21, e_45_21_n, e_45_22, e_45_25, e_45_28, e_45_28_n, e_45_29, e_45_29_i, e_45_30, e_45_33, e_45_34, e_45_35, e_45_38, e_45_38_n, e_45_39, e_45_42, e_45_42_n, e_45_43, e_45_46, e_45_46_n, e_45_47, e_45_50, e_45_52, e_45_53, e_45_54, e_45_57, e_45_57_n, e_45_58, e_45_61, e_45_61_n, e_45_63, e_45_66, e_45_67, e_45_70, e_45_125, e_45_126, d_45_14, XB_i, XB_n, va_rf_s, va_rf_n, mSI_K, mSI_I, mSI_J, mSI_P, mSI_N, mSJ_K, mSJ_I, mSJ_J, mSJ_P, mSJ_N, mSP_K, mSP_I, mSP_J, mSP_P, mSP_N, mNn, mNi, mNr, mN0, al20, al21, al22, al23, al25, true_or, or_true, and_self, if_true, if_false, mCat_n, mCat_i, mCat_r, mCat_l, mCat_0, Nat.reduceAdd, Nat.reduceLeDiff, Nat.reduceLT, true_and, and_true, Nat.zero_le, bI_01, bI_0, i10, tf0, iI_add, iI_sub, iI_mul, iI_neg, iI_add1, iI_sub1, iI_m1, nca, nc1, ncm1, iI_clJ, iI_cl0, iI_clN, Int.toNat_natCast, mU_n, mU_s, p_min, p_max, p_abs, ni_2, ni_3, ni_4, ni_7, ni_8, ni_9, ni_12, ni_24, ni_97, ni_100, ni_122, ni_200, ni_256, ni_4096, ni_5000, ni_9999, iI_lt, iI_le, iI_eq, iz_eq, iz_lt, iz_le, iz_gt, iz_ge, iy_eq, iy_lt, iy_le, iI_ltN, iI_leN, iI_eqN, if_pos, if_neg, k1, n1, n3, pf, q1, o1, o4]
        exact refuse qA
  · have qA : addB ts bs = false := by unfold addB; simp [q100]
    simp (maxSteps := 4000000) (disch := first | (simp (disch := omega) only [XB_i, XB_n, va_rf_s, va_rf_n, mSI_K, mSI_I, mSI_J, mSI_P, mSI_N, mSJ_K, mSJ_I, mSJ_J, mSJ_P, mSJ_N, mSP_K, mSP_I, mSP_J, mSP_P, mSP_N, mNn, mNi, mNr, mN0, al20, al21, al22, al23, al25, true_or, or_true, and_self, if_true, if_false, mCat_n, mCat_i, mCat_r, mCat_l, mCat_0, Nat.reduceAdd, Nat.reduceLeDiff, Nat.reduceLT, true_and, and_true, Nat.zero_le, bI_01, mInB_J, mInB_Z, mInB_N, k1, n1]; done) | omega | (unfold R32 at *; omega)) only [e_45_0, e_45_0_n, e_45_1, e_45_4, e_45_6, e_45_9, e_45_10, XB_i, XB_n, va_rf_s, va_rf_n, mSI_K, mSI_I, mSI_J, mSI_P, mSI_N, mSJ_K, mSJ_I, mSJ_J, mSJ_P, mSJ_N, mSP_K, mSP_I, mSP_J, mSP_P, mSP_N, mNn, mNi, mNr, mN0, al20, al21, al22, al23, al25, true_or, or_true, and_self, if_true, if_false, mCat_n, mCat_i, mCat_r, mCat_l, mCat_0, Nat.reduceAdd, Nat.reduceLeDiff, Nat.reduceLT, true_and, and_true, Nat.zero_le, bI_01, bI_0, i10, tf0, iI_add, iI_sub, iI_mul, iI_neg, iI_add1, iI_sub1, iI_m1, nca, nc1, ncm1, iI_clJ, iI_cl0, iI_clN, Int.toNat_natCast, mU_n, mU_s, p_min, p_max, p_abs, ni_2, ni_3, ni_4, ni_7, ni_8, ni_9, ni_12, ni_24, ni_97, ni_100, ni_122, ni_200, ni_256, ni_4096, ni_5000, ni_9999, iI_lt, iI_le, iI_eq, iz_eq, iz_lt, iz_le, iz_gt, iz_ge, iy_eq, iy_lt, iy_le, iI_ltN, iI_leN, iI_eqN, if_pos, if_neg, k1, n1]
    exact refuse qA
end PW
