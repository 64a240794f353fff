/-! Packer -/
theorem cntF_b : ∀ (f n : Nat), n < 128 ^ (f + 1) → ∀ x ∈ cntF f n, x < 256
  | 0, n, h, x, hx => by
    unfold cntF at hx
    simp at hx
    omega
  | f + 1, n, h, x, hx => by
    unfold cntF at hx
    split at hx
    · simp at hx; omega
    · rcases List.mem_cons.mp hx with e | e
      · omega
      · refine cntF_b f (n / 128) ?_ x e
        rw [Nat.pow_succ] at h
        exact Nat.div_lt_of_lt_mul (by rw [Nat.mul_comm]; exact h)
theorem cntB_b {n : Nat} (h : n < 1000000) : ∀ x ∈ cntB n, x < 256 := cntF_b 4 n (by omega)
theorem corB_b {xa xb ya yb : Int} (hx : xb - xa ≤ 1000) (hy : yb - ya ≤ 1000) : ∀ (cs : List Cn) (x y : Int), cs.length ≤ 100 → (xa ≤ x ∧ x ≤ xb) → (ya ≤ y ∧ y ≤ yb) → (∀ c ∈ cs, bxI xa xb ya yb c) → ∀ b ∈ corB x y cs, b < 256 := by
  intro cs
  induction cs with
  | nil => intro x y _ _ _ _ b hb; simp [corB] at hb
  | cons c r ih =>
    intro x y hl h1 h2 hb b hm
    have hc := hb c List.mem_cons_self
    have hi := ih c.1 c.2.1 (by simp at hl; omega) hc.1 hc.2 (fun d hd => hb d (List.mem_cons_of_mem _ hd))
    have hr := runL_le r
    simp only [List.length_cons] at hl
    unfold corB at hm
    rcases List.mem_append.mp hm with hm | hm
    · rcases List.mem_append.mp hm with hm | hm
      · rcases List.mem_append.mp hm with hm | hm
        · split at hm
          · exact cntB_b (by omega) b hm
          · simp at hm
        · exact cntB_b (by unfold zig; unfold bxI at hc; split <;> omega) b hm
      · exact cntB_b (by unfold zig; unfold bxI at hc; split <;> omega) b hm
    · exact hi b hm
theorem wrB_b {F : Ft} (ok : fOk F) (hl12 : F.2.2.length ≤ 12) {z left top : Int} (hl : 0 ≤ left ∧ left ≤ 3840) (ht : 0 ≤ top ∧ top ≤ 3840) {k s step : Nat} (hk : F.1.2.1 = (k : Int)) (hs : step < 16384) (hss : s ≤ 9) : ∀ b ∈ wrB step k s left top (cutT k left top (shpC z F)), b < 256 := by
  obtain ⟨h1, h2, h3⟩ := cutT_all ok hl12 hl ht hk (z := z) rfl
  have h5 := pcs_le (cutT k left top (shpC z F))
  have bk := ok.k
  intro b hb
  unfold wrB at hb
  rcases List.mem_append.mp hb with hb | hb
  · rcases List.mem_append.mp hb with hb | hb
    · rcases List.mem_append.mp hb with hb | hb
      · exact cntB_b (by omega) b hb
      · simp at hb; omega
    · exact cntB_b (by omega) b hb
  · exact corB_b (by omega) (by omega) _ left top (by omega) (by omega) (by omega) h3 b hb
theorem mkF_b {z : Int} {Fs : List Ft} {left top : Int} (hl : 0 ≤ left ∧ left ≤ 3840) (ht : 0 ≤ top ∧ top ≤ 3840) (ok : ∀ j, j < Fs.length → fOk (fA Fs j) ∧ (fA Fs j).2.2.length ≤ 12) : ∀ (n i : Nat) (bf : Int) (bs : List Nat), i + n ≤ Fs.length → 0 ≤ bf → (∀ x ∈ bs, x < 256) → ∀ x ∈ mkF z Fs left top n i bf bs, x < 256 := by
  intro n
  induction n with
  | zero => intro i bf bs _ _ hb x hx; exact hb x hx
  | succ n ih =>
    intro i bf bs hn hbf hb x hx
    obtain ⟨fo, f12⟩ := ok i (by omega)
    have bn := fo.n
    have bs' := fo.s
    unfold mkF at hx
    split at hx
    · exact ih (i + 1) bf bs (by omega) hbf hb x hx
    · rename_i hne
      refine ih (i + 1) _ _ (by omega) (by omega) (fun y hy => ?_) x hx
      rcases List.mem_append.mp hy with hy | hy
      · exact hb y hy
      · have e : shE z Fs i = shpC z (fA Fs i) := by
          unfold shE at hne ⊢
          split
          · rfl
          · rename_i q; rw [if_neg q, cutT_nil] at hne; exact absurd rfl hne
        rw [e] at hy
        have bK := fo.k
        exact wrB_b fo f12 hl ht (by omega) (by omega) (by omega) y hy
theorem tileB_b {z : Int} {Fs : List Ft} {tx ty : Int} (hx : 0 ≤ tx ∧ tx ≤ 15) (hy : 0 ≤ ty ∧ ty ≤ 15) (ok : ∀ j, j < Fs.length → fOk (fA Fs j) ∧ (fA Fs j).2.2.length ≤ 12) : ∀ x ∈ tileB z Fs tx ty, x < 256 :=
  mkF_b (by omega) (by omega) ok Fs.length 0 0 [] (by omega) (by omega) (fun x hx => by simp at hx)
/-- every second bit -/
def eB (c : Nat) : Nat := c % 2 + 2 * (c / 4 % 2) + 4 * (c / 16 % 2) + 8 * (c / 64 % 2)
theorem eB_le (c : Nat) : eB c ≤ 15 := by unfold eB; omega
def esS (x n b : Int32) : Int32 := n ||| ((x >>> ((2 * b) &&& 31) &&& 1) <<< (b &&& 31))
theorem es_key : ∀ c : Fin 256, esS (iI (c.val : Int)) (esS (iI (c.val : Int)) (esS (iI (c.val : Int)) (esS (iI (c.val : Int)) 0 0) 1) 2) 3 = iI (eB c.val : Int) := by decide +kernel
theorem sh1_key : ∀ c : Fin 256, iI (c.val : Int) >>> ((1 : Int32) &&& 31) = iI ((c.val / 2 : Nat) : Int) := by decide +kernel
theorem p4_key : ∀ z : Fin 5, (1 : Int32) <<< (iI (2 * (z.val : Int)) &&& 31) = iI ((4 ^ z.val : Nat) : Int) := by decide +kernel
section ES
variable {T : mT} {Q : mOut → mT → Prop}
theorem l_esb {x n b b2 : Int32} (hb : (4 ≤ b) = False) (h2 : b + 1 = b2) : XW 55 4 [some (.int (x)), some (.int (n)), some (.int (b))] [] T Q = XW 55 4 [some (.int (x)), some (.int (esS x n b)), some (.int (b2))] [] T Q := by
  rw [e_55_4]
  simp only [e_55_0, e_55_1, e_55_2, e_55_3, e_55_5, e_55_6, e_55_9, e_55_10, e_55_11, e_55_12, e_55_13, e_55_14, e_55_15, e_55_16, e_55_17, e_55_18, e_55_19, e_55_20, e_55_21, e_55_24, e_55_27, e_55_28, XB_i, XB_n, va_rf_s, va_rf_n, mSI_K, mSI_I, mSI_J, mSI_P, mSI_N, mSJ_K, mSJ_I, mSJ_J, mSJ_P, mSJ_N, mSP_K, mSP_I, mSP_J, mSP_P, mSP_N, mNn, mNi, mNr, mN0, al20, al21, al22, al23, al25, true_or, or_true, and_self, if_true, if_false, mCat_n, mCat_i, mCat_r, mCat_l, mCat_0, Nat.reduceAdd, Nat.reduceLeDiff, Nat.reduceLT, true_and, and_true, Nat.zero_le, bI_01, hb, h2]
  rfl
theorem p_esb {c : Nat} (h : c < 256) : XW 55 0 [some (.int (iI ((c : Nat) : Int))), none, none] [] T Q = Q (.inl (some (.int (iI ((eB c : Nat) : Int))))) T := by
  simp only [e_55_0, e_55_1, e_55_2, e_55_3, XB_i, XB_n, va_rf_s, va_rf_n, mSI_K, mSI_I, mSI_J, mSI_P, mSI_N, mSJ_K, mSJ_I, mSJ_J, mSJ_P, mSJ_N, mSP_K, mSP_I, mSP_J, mSP_P, mSP_N, mNn, mNi, mNr, mN0, al20, al21, al22, al23, al25, true_or, or_true, and_self, if_true, if_false, mCat_n, mCat_i, mCat_r, mCat_l, mCat_0, Nat.reduceAdd, Nat.reduceLeDiff, Nat.reduceLT, true_and, and_true, Nat.zero_le, bI_01]
  rw [l_esb (b2 := 1) (by simp) (by decide), l_esb (b2 := 2) (by simp) (by decide), l_esb (b2 := 3) (by simp) (by decide), l_esb (b2 := 4) (by simp) (by decide), es_key ⟨c, h⟩, e_55_4]
  simp only [e_55_0, e_55_1, e_55_2, e_55_3, e_55_5, e_55_6, e_55_9, e_55_10, e_55_11, e_55_12, e_55_13, e_55_14, e_55_15, e_55_16, e_55_17, e_55_18, e_55_19, e_55_20, e_55_21, e_55_24, e_55_27, e_55_28, XB_i, XB_n, va_rf_s, va_rf_n, mSI_K, mSI_I, mSI_J, mSI_P, mSI_N, mSJ_K, mSJ_I, mSJ_J, mSJ_P, mSJ_N, mSP_K, mSP_I, mSP_J, mSP_P, mSP_N, mNn, mNi, mNr, mN0, al20, al21, al22, al23, al25, true_or, or_true, and_self, if_true, if_false, mCat_n, mCat_i, mCat_r, mCat_l, mCat_0, Nat.reduceAdd, Nat.reduceLeDiff, Nat.reduceLT, true_and, and_true, Nat.zero_le, bI_01]
  rfl
end ES
