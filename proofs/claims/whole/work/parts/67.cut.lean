/-! Path: the cut by a side -/
def insC (u l : Bool) (b : Int) (c : Cn) : Bool := inS u l b c.1 c.2.1
def bordC (u : Bool) (b : Int) (q c : Cn) (g : Bool) : Cn := if u then (b, crS b q.1 q.2.1 c.1 c.2.1, g) else (crS b q.2.1 q.1 c.2.1 c.1, b, g)
def cut1 (u l : Bool) (b : Int) (ring : Bool) (prev : Option Cn) (c : Cn) (out : List Cn) : List Cn := match prev with
  | some q => if !c.2.2 && (insC u l b c != insC u l b q) then out ++ [bordC u b q c (if ring then out.isEmpty else insC u l b c)] else out
  | none => out
def cut2 (u l : Bool) (b : Int) (ring : Bool) (c : Cn) (o : List Cn) : List Cn := if insC u l b c then o ++ [(c.1, c.2.1, if ring then o.isEmpty else c.2.2)] else o
def cutL (u l : Bool) (b : Int) (ring : Bool) : Option Cn → List Cn → List Cn → List Cn
  | _, [], out => out
  | prev, c :: r, out => cutL u l b ring (some c) r (cut2 u l b ring c (cut1 u l b ring prev c out))
def cutE (u l : Bool) (b : Int) (cs o : List Cn) : List Cn := match cs.head?, cs.getLast? with
  | some f, some q => if insC u l b f != insC u l b q then o ++ [bordC u b q f o.isEmpty] else o
  | _, _ => o
def cutS (u l : Bool) (b : Int) (ring : Bool) (cs : List Cn) : List Cn := if ring then cutE u l b cs (cutL u l b ring none cs []) else cutL u l b ring none cs []
theorem cut1_len {u l : Bool} {b : Int} {ring : Bool} {prev : Option Cn} {c : Cn} {out : List Cn} : out.length ≤ (cut1 u l b ring prev c out).length := by
  unfold cut1
  split
  · split
    · simp
    · exact Nat.le_refl _
  · exact Nat.le_refl _
theorem cut2_len {u l : Bool} {b : Int} {ring : Bool} {c : Cn} {o : List Cn} : o.length ≤ (cut2 u l b ring c o).length := by
  unfold cut2
  split
  · simp
  · exact Nat.le_refl _
theorem cutL_len {u l : Bool} {b : Int} {ring : Bool} : ∀ (rest : List Cn) (prev : Option Cn) (out : List Cn), out.length ≤ (cutL u l b ring prev rest out).length
  | [], _, _ => Nat.le_refl _
  | c :: r, prev, out => Nat.le_trans (Nat.le_trans cut1_len cut2_len) (cutL_len r (some c) _)
theorem bI_inj (a b : Bool) : (bI a = bI b) = (a = b) := by cases a <;> cases b <;> simp [bI]
theorem ct_path_border {T : mT} {Q : mOut → mT → Prop} {p o s r ro i j : Nat} {u l g : Bool} {b : Int} {cs out : List Cn} {c d : Cn} (hp : PathR T p r out) (ho : PathR T o ro cs) (hs : SideR T s u l b) (hb : -8192 ≤ b ∧ b ≤ 8192) (hi : cs[i]? = some c) (hj : cs[j]? = some d) (bc : cB c) (bd : cB d) (hl : out.length < r) (hQ : ∀ T2, PathR T2 p r (out ++ [bordC u b c d g]) → Fr (iv p (p + 4)) T T2 → Q (.inl none) T2) : XW 69 0 [some (.ref p), some (.ref o), some (.int (iI i)), some (.int (iI j)), some (.ref s), some (.int (bI g)), none] [] T Q := by
  have hr := ho.1.2.2.2.2.2.2.2
  have hlo := ho.2.2.1
  have hi2 : i < cs.length := (List.getElem?_eq_some_iff.mp hi).1
  have hj2 : j < cs.length := (List.getElem?_eq_some_iff.mp hj).1
  have i1 : mInB (iI (i : Int)) ro = true := mInB_N (by omega) (by omega)
  have i2 : mInB (iI (j : Int)) ro = true := mInB_N (by omega) (by omega)
  have k1 : (iI (i : Int)).toNatClampNeg = i := iI_clN (by omega)
  have k2 : (iI (j : Int)).toNatClampNeg = j := iI_clN (by omega)
  obtain ⟨c1, c2, c3⟩ := ho.2.2.2 i c hi
  obtain ⟨d1, d2, d3⟩ := ho.2.2.2 j d hj
  obtain ⟨s1, s2, s3, s4⟩ := id hs
  simp only [e_69_0, e_69_0_n, e_69_2, e_69_5, XB_i, XB_n, va_rf_s, va_rf_n, mSI_K, mSI_I, mSI_J, mSI_P, mSI_N, mSJ_K, mSJ_I, mSJ_J, mSJ_P, mSJ_N, mSP_K, mSP_I, mSP_J, mSP_P, mSP_N, mNn, mNi, mNr, mN0, al20, al21, al22, al23, al25, true_or, or_true, and_self, if_true, if_false, mCat_n, mCat_i, mCat_r, mCat_l, mCat_0, Nat.reduceAdd, Nat.reduceLeDiff, Nat.reduceLT, true_and, and_true, Nat.zero_le, bI_01, s1, s2, bI_0]
  cases u with
  | true =>
    rw [if_neg (by decide)]
    simp only [e_69_8, e_69_8_n, e_69_10, e_69_10_n, e_69_11, e_69_14, e_69_15, e_69_16, e_69_16_n, e_69_17, e_69_20, e_69_21, e_69_22, e_69_22_n, e_69_23, e_69_26, e_69_27, e_69_28, e_69_28_n, e_69_29, e_69_32, e_69_33, XB_i, XB_n, va_rf_s, va_rf_n, mSI_K, mSI_I, mSI_J, mSI_P, mSI_N, mSJ_K, mSJ_I, mSJ_J, mSJ_P, mSJ_N, mSP_K, mSP_I, mSP_J, mSP_P, mSP_N, mNn, mNi, mNr, mN0, al20, al21, al22, al23, al25, true_or, or_true, and_self, if_true, if_false, mCat_n, mCat_i, mCat_r, mCat_l, mCat_0, Nat.reduceAdd, Nat.reduceLeDiff, Nat.reduceLT, true_and, and_true, Nat.zero_le, bI_01, ho.1.1, ho.1.2.1, ho.1.2.2.1, ho.1.2.2.2.2.1, ho.1.2.2.2.2.2.1, i1, i2, k1, k2, c1, c2, d1, d2]
    refine c_69_34 (by simp only [XB_i, XB_n, va_rf_s, va_rf_n, mSI_K, mSI_I, mSI_J, mSI_P, mSI_N, mSJ_K, mSJ_I, mSJ_J, mSJ_P, mSJ_N, mSP_K, mSP_I, mSP_J, mSP_P, mSP_N, mNn, mNi, mNr, mN0, al20, al21, al22, al23, al25, true_or, or_true, and_self, if_true, if_false, mCat_n, mCat_i, mCat_r, mCat_l, mCat_0, Nat.reduceAdd, Nat.reduceLeDiff, Nat.reduceLT, true_and, and_true, Nat.zero_le, bI_01]) (by rw [s1]) (ct_cross hs hb bc.1 bc.2 bd.1 bd.2 ?_)
    simp only [e_69_37, e_69_39, e_69_39_n, e_69_40, e_69_40_n, e_69_42, e_69_45, e_69_47, XB_i, XB_n, va_rf_s, va_rf_n, mSI_K, mSI_I, mSI_J, mSI_P, mSI_N, mSJ_K, mSJ_I, mSJ_J, mSJ_P, mSJ_N, mSP_K, mSP_I, mSP_J, mSP_P, mSP_N, mNn, mNi, mNr, mN0, al20, al21, al22, al23, al25, true_or, or_true, and_self, if_true, if_false, mCat_n, mCat_i, mCat_r, mCat_l, mCat_0, Nat.reduceAdd, Nat.reduceLeDiff, Nat.reduceLT, true_and, and_true, Nat.zero_le, bI_01, s1, s4]
    refine c_69_49 (by simp only [XB_i, XB_n, va_rf_s, va_rf_n, mSI_K, mSI_I, mSI_J, mSI_P, mSI_N, mSJ_K, mSJ_I, mSJ_J, mSJ_P, mSJ_N, mSP_K, mSP_I, mSP_J, mSP_P, mSP_N, mNn, mNi, mNr, mN0, al20, al21, al22, al23, al25, true_or, or_true, and_self, if_true, if_false, mCat_n, mCat_i, mCat_r, mCat_l, mCat_0, Nat.reduceAdd, Nat.reduceLeDiff, Nat.reduceLT, true_and, and_true, Nat.zero_le, bI_01]) (by rw [hp.1.1]) (ct_path_add (c := bordC true b c d g) hp hl (fun T2 h2 f2 => ?_))
    simp only [e_69_52, e_69_55, e_69_55_n, e_69_57, e_69_57_n, e_69_58, e_69_61, e_69_62, e_69_63, e_69_63_n, e_69_64, e_69_67, e_69_68, e_69_69, e_69_69_n, e_69_70, e_69_73, e_69_74, e_69_75, e_69_75_n, e_69_76, e_69_79, e_69_80, e_69_84, e_69_86, e_69_86_n, e_69_87, e_69_89, e_69_89_n, e_69_91, e_69_94, e_69_99, XB_i, XB_n, va_rf_s, va_rf_n, mSI_K, mSI_I, mSI_J, mSI_P, mSI_N, mSJ_K, mSJ_I, mSJ_J, mSJ_P, mSJ_N, mSP_K, mSP_I, mSP_J, mSP_P, mSP_N, mNn, mNi, mNr, mN0, al20, al21, al22, al23, al25, true_or, or_true, and_self, if_true, if_false, mCat_n, mCat_i, mCat_r, mCat_l, mCat_0, Nat.reduceAdd, Nat.reduceLeDiff, Nat.reduceLT, true_and, and_true, Nat.zero_le, bI_01]
    exact hQ T2 h2 f2
  | false =>
    rw [if_pos rfl]
    simp only [e_69_55, e_69_55_n, e_69_57, e_69_57_n, e_69_58, e_69_61, e_69_62, e_69_63, e_69_63_n, e_69_64, e_69_67, e_69_68, e_69_69, e_69_69_n, e_69_70, e_69_73, e_69_74, e_69_75, e_69_75_n, e_69_76, e_69_79, e_69_80, XB_i, XB_n, va_rf_s, va_rf_n, mSI_K, mSI_I, mSI_J, mSI_P, mSI_N, mSJ_K, mSJ_I, mSJ_J, mSJ_P, mSJ_N, mSP_K, mSP_I, mSP_J, mSP_P, mSP_N, mNn, mNi, mNr, mN0, al20, al21, al22, al23, al25, true_or, or_true, and_self, if_true, if_false, mCat_n, mCat_i, mCat_r, mCat_l, mCat_0, Nat.reduceAdd, Nat.reduceLeDiff, Nat.reduceLT, true_and, and_true, Nat.zero_le, bI_01, ho.1.1, ho.1.2.1, ho.1.2.2.1, ho.1.2.2.2.2.1, ho.1.2.2.2.2.2.1, i1, i2, k1, k2, c1, c2, d1, d2]
    refine c_69_81 (by simp only [XB_i, XB_n, va_rf_s, va_rf_n, mSI_K, mSI_I, mSI_J, mSI_P, mSI_N, mSJ_K, mSJ_I, mSJ_J, mSJ_P, mSJ_N, mSP_K, mSP_I, mSP_J, mSP_P, mSP_N, mNn, mNi, mNr, mN0, al20, al21, al22, al23, al25, true_or, or_true, and_self, if_true, if_false, mCat_n, mCat_i, mCat_r, mCat_l, mCat_0, Nat.reduceAdd, Nat.reduceLeDiff, Nat.reduceLT, true_and, and_true, Nat.zero_le, bI_01]) (by rw [s1]) (ct_cross hs hb bc.2 bc.1 bd.2 bd.1 ?_)
    simp only [e_69_84, e_69_86, e_69_86_n, e_69_87, e_69_89, e_69_89_n, e_69_91, e_69_94, XB_i, XB_n, va_rf_s, va_rf_n, mSI_K, mSI_I, mSI_J, mSI_P, mSI_N, mSJ_K, mSJ_I, mSJ_J, mSJ_P, mSJ_N, mSP_K, mSP_I, mSP_J, mSP_P, mSP_N, mNn, mNi, mNr, mN0, al20, al21, al22, al23, al25, true_or, or_true, and_self, if_true, if_false, mCat_n, mCat_i, mCat_r, mCat_l, mCat_0, Nat.reduceAdd, Nat.reduceLeDiff, Nat.reduceLT, true_and, and_true, Nat.zero_le, bI_01, s1, s4]
    refine c_69_96 (by simp only [XB_i, XB_n, va_rf_s, va_rf_n, mSI_K, mSI_I, mSI_J, mSI_P, mSI_N, mSJ_K, mSJ_I, mSJ_J, mSJ_P, mSJ_N, mSP_K, mSP_I, mSP_J, mSP_P, mSP_N, mNn, mNi, mNr, mN0, al20, al21, al22, al23, al25, true_or, or_true, and_self, if_true, if_false, mCat_n, mCat_i, mCat_r, mCat_l, mCat_0, Nat.reduceAdd, Nat.reduceLeDiff, Nat.reduceLT, true_and, and_true, Nat.zero_le, bI_01]) (by rw [hp.1.1]) (ct_path_add (c := bordC false b c d g) hp hl (fun T2 h2 f2 => ?_))
    simp only [e_69_99, XB_i, XB_n, va_rf_s, va_rf_n, mSI_K, mSI_I, mSI_J, mSI_P, mSI_N, mSJ_K, mSJ_I, mSJ_J, mSJ_P, mSJ_N, mSP_K, mSP_I, mSP_J, mSP_P, mSP_N, mNn, mNi, mNr, mN0, al20, al21, al22, al23, al25, true_or, or_true, and_self, if_true, if_false, mCat_n, mCat_i, mCat_r, mCat_l, mCat_0, Nat.reduceAdd, Nat.reduceLeDiff, Nat.reduceLT, true_and, and_true, Nat.zero_le, bI_01]
    exact hQ T2 h2 f2
theorem isEmpty_len {α : Type} (l : List α) : l.isEmpty = decide (l.length = 0) := by cases l <;> simp
theorem ct_cut_loop {p o s r ro : Nat} {u l ring : Bool} {b : Int} {cs : List Cn} {Q : mOut → mT → Prop} (hpo : p + 4 ≤ o ∨ o + 4 ≤ p) (hps : s < p ∨ p + 4 ≤ s) (hb : -8192 ≤ b ∧ b ≤ 8192) (bcs : ∀ c ∈ cs, cB c) :
    ∀ (rest pre : List Cn) (T : mT) (out : List Cn) (l6 : Option Value), pre ++ rest = cs → PathR T p r out → PathR T o ro cs → SideR T s u l b → (cutL u l b ring pre.getLast? rest out).length ≤ r →
      (∀ T2, PathR T2 p r (cutL u l b ring pre.getLast? rest out) → Fr (iv p (p + 4)) T T2 → ∀ l6 : Option Value, XW 68 154 [some (.ref p), some (.ref o), some (.ref s), some (.int (bI ring)), some (.int (bI (match cs.getLast? with | some q => insC u l b q | none => false))), some (.int (iI cs.length)), l6] [] T2 Q) →
      XW 68 11 [some (.ref p), some (.ref o), some (.ref s), some (.int (bI ring)), some (.int (bI (match pre.getLast? with | some q => insC u l b q | none => false))), some (.int (iI pre.length)), l6] [] T Q := by
  intro rest
  induction rest with
  | nil =>
    intro pre T out l6 he hp ho hs hl hQ
    rw [List.append_nil] at he
    subst he
    have hr := ho.1.2.2.2.2.2.2.2
    have hlo := ho.2.2.1
    have hc : iI (pre.length : Int) ≤ iI (pre.length : Int) := by rw [iI_leN (by omega) (by omega)]; omega
    simp only [e_68_11, e_68_13, e_68_13_n, e_68_14, e_68_17, XB_i, XB_n, va_rf_s, va_rf_n, mSI_K, mSI_I, mSI_J, mSI_P, mSI_N, mSJ_K, mSJ_I, mSJ_J, mSJ_P, mSJ_N, mSP_K, mSP_I, mSP_J, mSP_P, mSP_N, mNn, mNi, mNr, mN0, al20, al21, al22, al23, al25, true_or, or_true, and_self, if_true, if_false, mCat_n, mCat_i, mCat_r, mCat_l, mCat_0, Nat.reduceAdd, Nat.reduceLeDiff, Nat.reduceLT, true_and, and_true, Nat.zero_le, bI_01, ho.1.1, ho.2.1, hc]
    exact hQ T hp Fr.rf l6
  | cons c rest ih =>
    intro pre T out l6 he hp ho hs hl hQ
    have hr := ho.1.2.2.2.2.2.2.2
    have hlo := ho.2.2.1
    have hlen : pre.length + (rest.length + 1) = cs.length := by rw [← he]; simp
    have hc : ¬ iI (cs.length : Int) ≤ iI (pre.length : Int) := by rw [iI_leN (by omega) (by omega)]; omega
    have hii : mInB (iI (pre.length : Int)) ro = true := mInB_N (by omega) (by omega)
    have hci : (iI (pre.length : Int)).toNatClampNeg = pre.length := iI_clN (by omega)
    have hcat : cs[pre.length]? = some c := by rw [← he, List.getElem?_append_right (by omega), Nat.sub_self]; rfl
    have hcm : c ∈ cs := List.mem_of_getElem? hcat
    obtain ⟨k1, k2, k3⟩ := ho.2.2.2 pre.length c hcat
    have e01 : (0 : Int32) = 0 ∨ (0 : Int32) = 1 := Or.inl rfl
    have h10 : ¬ (1 : Int32) = 0 := by decide
    have hmono : (cut2 u l b ring c (cut1 u l b ring pre.getLast? c out)).length ≤ r := Nat.le_trans (cutL_len rest (some c) _) hl
    /- the end of the turn -/
    have turn : ∀ (T1 : mT) (o2 : List Cn), o2 = cut2 u l b ring c (cut1 u l b ring pre.getLast? c out) → PathR T1 p r o2 → Fr (iv p (p + 4)) T T1 → XW 68 144 [some (.ref p), some (.ref o), some (.ref s), some (.int (bI ring)), some (.int (bI (match pre.getLast? with | some q => insC u l b q | none => false))), some (.int (iI pre.length)), some (.int (bI (insC u l b c)))] [] T1 Q := by
      intro T1 o2 ho2 h1 f1
      have hgl : (pre ++ [c]).getLast? = some c := by simp
      have := ih (pre ++ [c]) T1 o2 (some (.int (bI (insC u l b c)))) (by rw [← he]; simp) h1 (ho.fr f1 (fun b hb q => by have := hb.1; have := hb.2; have := q.1; have := q.2; omega)) (hs.fr f1 (fun q => by have := q.1; have := q.2; omega)) (by rw [hgl, ho2]; exact hl) (fun T3 h3 f3 l6 => hQ T3 (by rw [hgl, ho2] at h3; exact h3) (f1.tr f3) l6)
      rw [hgl, List.length_append] at this
      simp only [e_68_144, e_68_146, e_68_148, e_68_151, XB_i, XB_n, va_rf_s, va_rf_n, mSI_K, mSI_I, mSI_J, mSI_P, mSI_N, mSJ_K, mSJ_I, mSJ_J, mSJ_P, mSJ_N, mSP_K, mSP_I, mSP_J, mSP_P, mSP_N, mNn, mNi, mNr, mN0, al20, al21, al22, al23, al25, true_or, or_true, and_self, if_true, if_false, mCat_n, mCat_i, mCat_r, mCat_l, mCat_0, Nat.reduceAdd, Nat.reduceLeDiff, Nat.reduceLT, true_and, and_true, Nat.zero_le, bI_01, iI_1N]
      exact this
    /- the corner itself -/
    have corner : ∀ (T1 : mT) (o1 : List Cn), o1 = cut1 u l b ring pre.getLast? c out → PathR T1 p r o1 → Fr (iv p (p + 4)) T T1 → XW 68 95 [some (.ref p), some (.ref o), some (.ref s), some (.int (bI ring)), some (.int (bI (match pre.getLast? with | some q => insC u l b q | none => false))), some (.int (iI pre.length)), some (.int (bI (insC u l b c)))] [] T1 Q := by
      intro T1 o1 ho1 h1 f1
      have hoT : PathR T1 o ro cs := ho.fr f1 (fun b hb q => by have := hb.1; have := hb.2; have := q.1; have := q.2; omega)
      obtain ⟨m1, m2, m3⟩ := hoT.2.2.2 pre.length c hcat
      simp only [e_68_95, e_68_97, bI_0]
      by_cases hin : insC u l b c = true
      · rw [if_neg (by rw [hin]; decide)]
        have hlen1 : o1.length < r := by
          have : cut2 u l b ring c o1 = o1 ++ [(c.1, c.2.1, if ring then o1.isEmpty else c.2.2)] := by unfold cut2; rw [if_pos hin]
          rw [← ho1, this, List.length_append] at hmono
          simp at hmono
          omega
        have addc : XW 68 141 [some (.ref p), some (.ref o), some (.ref s), some (.int (bI ring)), some (.int (bI (match pre.getLast? with | some q => insC u l b q | none => false))), some (.int (iI pre.length)), some (.int (bI (insC u l b c)))] [.int (bI (if ring then o1.isEmpty else c.2.2)), .int (iI c.2.1), .int (iI c.1), .ref p] T1 Q := by
          refine c_68_141 (by simp only [XB_i, XB_n, va_rf_s, va_rf_n, mSI_K, mSI_I, mSI_J, mSI_P, mSI_N, mSJ_K, mSJ_I, mSJ_J, mSJ_P, mSJ_N, mSP_K, mSP_I, mSP_J, mSP_P, mSP_N, mNn, mNi, mNr, mN0, al20, al21, al22, al23, al25, true_or, or_true, and_self, if_true, if_false, mCat_n, mCat_i, mCat_r, mCat_l, mCat_0, Nat.reduceAdd, Nat.reduceLeDiff, Nat.reduceLT, true_and, and_true, Nat.zero_le, bI_01]) (by rw [h1.1.1]) (ct_path_add (c := (c.1, c.2.1, if ring then o1.isEmpty else c.2.2)) h1 hlen1 (fun T2 h2 f2 => ?_))
          simp only [XB_i, XB_n, va_rf_s, va_rf_n, mSI_K, mSI_I, mSI_J, mSI_P, mSI_N, mSJ_K, mSJ_I, mSJ_J, mSJ_P, mSJ_N, mSP_K, mSP_I, mSP_J, mSP_P, mSP_N, mNn, mNi, mNr, mN0, al20, al21, al22, al23, al25, true_or, or_true, and_self, if_true, if_false, mCat_n, mCat_i, mCat_r, mCat_l, mCat_0, Nat.reduceAdd, Nat.reduceLeDiff, Nat.reduceLT, true_and, and_true, Nat.zero_le, bI_01]
          exact turn T2 _ (by unfold cut2; rw [if_pos hin, ← ho1]) h2 (f1.tr f2)
        simp only [e_68_100, e_68_100_n, e_68_101, e_68_101_n, e_68_102, e_68_105, e_68_107, e_68_108, e_68_108_n, e_68_109, e_68_112, e_68_114, e_68_115, e_68_116, XB_i, XB_n, va_rf_s, va_rf_n, mSI_K, mSI_I, mSI_J, mSI_P, mSI_N, mSJ_K, mSJ_I, mSJ_J, mSJ_P, mSJ_N, mSP_K, mSP_I, mSP_J, mSP_P, mSP_N, mNn, mNi, mNr, mN0, al20, al21, al22, al23, al25, true_or, or_true, and_self, if_true, if_false, mCat_n, mCat_i, mCat_r, mCat_l, mCat_0, Nat.reduceAdd, Nat.reduceLeDiff, Nat.reduceLT, true_and, and_true, Nat.zero_le, bI_01, hoT.1.1, hoT.1.2.1, hoT.1.2.2.1, hoT.1.2.2.2.2.1, hoT.1.2.2.2.2.2.1, hii, hci, m1, m2, bI_0]
        cases ring with
        | true =>
          rw [if_neg (by decide)]
          have hz : (iI (o1.length : Int) = 0) = (o1.length = 0) := iI_eq0 (by have := h1.1.2.2.2.2.2.2.2; omega)
          simp only [e_68_119, e_68_119_n, e_68_120, e_68_123, XB_i, XB_n, va_rf_s, va_rf_n, mSI_K, mSI_I, mSI_J, mSI_P, mSI_N, mSJ_K, mSJ_I, mSJ_J, mSJ_P, mSJ_N, mSP_K, mSP_I, mSP_J, mSP_P, mSP_N, mNn, mNi, mNr, mN0, al20, al21, al22, al23, al25, true_or, or_true, and_self, if_true, if_false, mCat_n, mCat_i, mCat_r, mCat_l, mCat_0, Nat.reduceAdd, Nat.reduceLeDiff, Nat.reduceLT, true_and, and_true, Nat.zero_le, bI_01, h1.1.1, h1.2.1, hz]
          by_cases h0 : o1.length = 0
          · rw [if_pos h0]
            simp only [e_68_126, e_68_127]
            rw [show bI (if true = true then o1.isEmpty else c.2.2) = 1 by rw [if_pos rfl, isEmpty_len, h0]; rfl] at addc
            exact addc
          · rw [if_neg h0]
            simp only [e_68_130, e_68_131]
            rw [show bI (if true = true then o1.isEmpty else c.2.2) = 0 by rw [if_pos rfl, isEmpty_len, decide_eq_false h0]; rfl] at addc
            exact addc
        | false =>
          rw [if_pos rfl]
          simp only [e_68_134, e_68_134_n, e_68_135, e_68_138, e_68_140, XB_i, XB_n, va_rf_s, va_rf_n, mSI_K, mSI_I, mSI_J, mSI_P, mSI_N, mSJ_K, mSJ_I, mSJ_J, mSJ_P, mSJ_N, mSP_K, mSP_I, mSP_J, mSP_P, mSP_N, mNn, mNi, mNr, mN0, al20, al21, al22, al23, al25, true_or, or_true, and_self, if_true, if_false, mCat_n, mCat_i, mCat_r, mCat_l, mCat_0, Nat.reduceAdd, Nat.reduceLeDiff, Nat.reduceLT, true_and, and_true, Nat.zero_le, bI_01, hoT.1.1, hoT.1.2.2.2.1, hoT.1.2.2.2.2.2.2.1, hii, hci, m3]
          exact addc
      · have hinf : insC u l b c = false := by simpa using hin
        rw [if_pos hinf]
        exact turn T1 o1 (by unfold cut2; rw [if_neg hin]; exact ho1) h1 f1
    simp only [e_68_11, e_68_13, e_68_13_n, e_68_14, e_68_17, e_68_20, e_68_20_n, e_68_21, e_68_21_n, e_68_22, e_68_25, e_68_27, e_68_28, e_68_28_n, e_68_29, e_68_32, e_68_34, XB_i, XB_n, va_rf_s, va_rf_n, mSI_K, mSI_I, mSI_J, mSI_P, mSI_N, mSJ_K, mSJ_I, mSJ_J, mSJ_P, mSJ_N, mSP_K, mSP_I, mSP_J, mSP_P, mSP_N, mNn, mNi, mNr, mN0, al20, al21, al22, al23, al25, true_or, or_true, and_self, if_true, if_false, mCat_n, mCat_i, mCat_r, mCat_l, mCat_0, Nat.reduceAdd, Nat.reduceLeDiff, Nat.reduceLT, true_and, and_true, Nat.zero_le, bI_01, ho.1.1, ho.1.2.1, ho.1.2.2.1, ho.1.2.2.2.2.1, ho.1.2.2.2.2.2.1, ho.2.1, hc, hii, hci, k1, k2]
    refine c_68_35 (by simp only [XB_i, XB_n, va_rf_s, va_rf_n, mSI_K, mSI_I, mSI_J, mSI_P, mSI_N, mSJ_K, mSJ_I, mSJ_J, mSJ_P, mSJ_N, mSP_K, mSP_I, mSP_J, mSP_P, mSP_N, mNn, mNi, mNr, mN0, al20, al21, al22, al23, al25, true_or, or_true, and_self, if_true, if_false, mCat_n, mCat_i, mCat_r, mCat_l, mCat_0, Nat.reduceAdd, Nat.reduceLeDiff, Nat.reduceLT, true_and, and_true, Nat.zero_le, bI_01]) (by rw [hs.1]) (ct_holds hs ⟨by omega, by omega⟩ (bcs c hcm).x (bcs c hcm).y ?_)
    change XB _ _ _ _ _ (.inl (some (.int (bI (insC u l b c))))) _
    have hpos : (iI (pre.length : Int) ≤ 0) = (pre.length ≤ 0) := by rw [iI_0]; exact iI_leN (b := 0) (by omega) (by omega)
    simp only [e_68_38, e_68_40, e_68_42, XB_i, XB_n, va_rf_s, va_rf_n, mSI_K, mSI_I, mSI_J, mSI_P, mSI_N, mSJ_K, mSJ_I, mSJ_J, mSJ_P, mSJ_N, mSP_K, mSP_I, mSP_J, mSP_P, mSP_N, mNn, mNi, mNr, mN0, al20, al21, al22, al23, al25, true_or, or_true, and_self, if_true, if_false, mCat_n, mCat_i, mCat_r, mCat_l, mCat_0, Nat.reduceAdd, Nat.reduceLeDiff, Nat.reduceLT, true_and, and_true, Nat.zero_le, bI_01, hpos]
    cases hpre : pre.getLast? with
    | none =>
      have hn : pre = [] := List.getLast?_eq_none_iff.mp hpre
      rw [if_pos (by rw [hn]; exact Nat.le_refl 0)]
      have := corner T out (by rw [hpre]; rfl) hp Fr.rf
      rw [hpre] at this
      exact this
    | some q =>
      have hpl : 1 ≤ pre.length := by
        rcases Nat.eq_zero_or_pos pre.length with h0 | h0
        · rw [List.eq_nil_of_length_eq_zero h0] at hpre; cases hpre
        · exact h0
      rw [if_neg (by omega)]
      have same : cut1 u l b ring pre.getLast? c out = out → XW 68 95 [some (.ref p), some (.ref o), some (.ref s), some (.int (bI ring)), some (.int (bI (insC u l b q))), some (.int (iI pre.length)), some (.int (bI (insC u l b c)))] [] T Q := by
        intro hq
        have := corner T out hq.symm hp Fr.rf
        rw [hpre] at this
        exact this
      simp only [e_68_45, e_68_45_n, e_68_46, e_68_49, e_68_51, e_68_52, XB_i, XB_n, va_rf_s, va_rf_n, mSI_K, mSI_I, mSI_J, mSI_P, mSI_N, mSJ_K, mSJ_I, mSJ_J, mSJ_P, mSJ_N, mSP_K, mSP_I, mSP_J, mSP_P, mSP_N, mNn, mNi, mNr, mN0, al20, al21, al22, al23, al25, true_or, or_true, and_self, if_true, if_false, mCat_n, mCat_i, mCat_r, mCat_l, mCat_0, Nat.reduceAdd, Nat.reduceLeDiff, Nat.reduceLT, true_and, and_true, Nat.zero_le, bI_01, ho.1.1, ho.1.2.2.2.1, ho.1.2.2.2.2.2.2.1, hii, hci, k3, bI_0]
      by_cases hbg : c.2.2 = true
      · rw [if_neg (by rw [hbg]; decide)]
        exact same (by rw [hpre]; simp [cut1, hbg])
      · have hbf : c.2.2 = false := by simpa using hbg
        rw [if_pos hbf]
        simp only [e_68_55, e_68_57, e_68_59, bI_inj]
        by_cases hx : insC u l b c = insC u l b q
        · rw [if_pos hx]
          exact same (by rw [hpre]; simp [cut1, hx])
        · rw [if_neg hx]
          have hqat : cs[pre.length - 1]? = some q := by
            rw [← he, List.getElem?_append_left (by omega), ← List.getLast?_eq_getElem?]
            exact hpre
          have hc1 : cut1 u l b ring pre.getLast? c out = out ++ [bordC u b q c (if ring then out.isEmpty else insC u l b c)] := by
            rw [hpre]; simp [cut1, hbf, hx]
          have hlen1 : out.length < r := by
            have := Nat.le_trans cut2_len hmono
            rw [hc1, List.length_append] at this
            simp at this
            omega
          have bord : XW 68 92 [some (.ref p), some (.ref o), some (.ref s), some (.int (bI ring)), some (.int (bI (insC u l b q))), some (.int (iI pre.length)), some (.int (bI (insC u l b c)))] [.int (bI (if ring then out.isEmpty else insC u l b c)), .ref s, .int (iI pre.length), .int (iI ((pre.length - 1 : Nat) : Int)), .ref o, .ref p] T Q := by
            refine c_68_92 (by simp only [XB_i, XB_n, va_rf_s, va_rf_n, mSI_K, mSI_I, mSI_J, mSI_P, mSI_N, mSJ_K, mSJ_I, mSJ_J, mSJ_P, mSJ_N, mSP_K, mSP_I, mSP_J, mSP_P, mSP_N, mNn, mNi, mNr, mN0, al20, al21, al22, al23, al25, true_or, or_true, and_self, if_true, if_false, mCat_n, mCat_i, mCat_r, mCat_l, mCat_0, Nat.reduceAdd, Nat.reduceLeDiff, Nat.reduceLT, true_and, and_true, Nat.zero_le, bI_01]) (by rw [hp.1.1]) (ct_path_border hp ho hs hb hqat hcat (bcs q (List.mem_of_getElem? hqat)) (bcs c hcm) hlen1 (fun T2 h2 f2 => ?_))
            simp only [XB_i, XB_n, va_rf_s, va_rf_n, mSI_K, mSI_I, mSI_J, mSI_P, mSI_N, mSJ_K, mSJ_I, mSJ_J, mSJ_P, mSJ_N, mSP_K, mSP_I, mSP_J, mSP_P, mSP_N, mNn, mNi, mNr, mN0, al20, al21, al22, al23, al25, true_or, or_true, and_self, if_true, if_false, mCat_n, mCat_i, mCat_r, mCat_l, mCat_0, Nat.reduceAdd, Nat.reduceLeDiff, Nat.reduceLT, true_and, and_true, Nat.zero_le, bI_01]
            have := corner T2 _ hc1.symm h2 f2
            rw [hpre] at this
            exact this
          simp only [e_68_62, e_68_62_n, e_68_63, e_68_63_n, e_68_64, e_68_66, e_68_67, e_68_68, e_68_70, e_68_70_n, e_68_71, e_68_72, XB_i, XB_n, va_rf_s, va_rf_n, mSI_K, mSI_I, mSI_J, mSI_P, mSI_N, mSJ_K, mSJ_I, mSJ_J, mSJ_P, mSJ_N, mSP_K, mSP_I, mSP_J, mSP_P, mSP_N, mNn, mNi, mNr, mN0, al20, al21, al22, al23, al25, true_or, or_true, and_self, if_true, if_false, mCat_n, mCat_i, mCat_r, mCat_l, mCat_0, Nat.reduceAdd, Nat.reduceLeDiff, Nat.reduceLT, true_and, and_true, Nat.zero_le, bI_01, iI_m1N hpl, bI_0]
          cases ring with
          | true =>
            rw [if_neg (by decide)]
            have hz : (iI (out.length : Int) = 0) = (out.length = 0) := iI_eq0 (by have := hp.1.2.2.2.2.2.2.2; omega)
            simp only [e_68_75, e_68_75_n, e_68_76, e_68_79, XB_i, XB_n, va_rf_s, va_rf_n, mSI_K, mSI_I, mSI_J, mSI_P, mSI_N, mSJ_K, mSJ_I, mSJ_J, mSJ_P, mSJ_N, mSP_K, mSP_I, mSP_J, mSP_P, mSP_N, mNn, mNi, mNr, mN0, al20, al21, al22, al23, al25, true_or, or_true, and_self, if_true, if_false, mCat_n, mCat_i, mCat_r, mCat_l, mCat_0, Nat.reduceAdd, Nat.reduceLeDiff, Nat.reduceLT, true_and, and_true, Nat.zero_le, bI_01, hp.1.1, hp.2.1, hz]
            by_cases h0 : out.length = 0
            · rw [if_pos h0]
              simp only [e_68_82, e_68_83]
              rw [show bI (if true = true then out.isEmpty else insC u l b c) = 1 by rw [if_pos rfl, isEmpty_len, h0]; rfl] at bord
              exact bord
            · rw [if_neg h0]
              simp only [e_68_86, e_68_87]
              rw [show bI (if true = true then out.isEmpty else insC u l b c) = 0 by rw [if_pos rfl, isEmpty_len, decide_eq_false h0]; rfl] at bord
              exact bord
          | false =>
            rw [if_pos rfl]
            simp only [e_68_90]
            exact bord
theorem ct_path_cut {T : mT} {Q : mOut → mT → Prop} {p o s r ro : Nat} {u l ring : Bool} {b : Int} {cs old : List Cn} (hpo : p + 4 ≤ o ∨ o + 4 ≤ p) (hps : s < p ∨ p + 4 ≤ s) (hb : -8192 ≤ b ∧ b ≤ 8192) (bcs : ∀ c ∈ cs, cB c) (hp : PathR T p r old) (ho : PathR T o ro cs) (hs : SideR T s u l b) (hl : (cutS u l b ring cs).length ≤ r) (hQ : ∀ T2, PathR T2 p r (cutS u l b ring cs) → Fr (iv p (p + 4)) T T2 → Q (.inl none) T2) : XW 68 0 [some (.ref p), some (.ref o), some (.ref s), some (.int (bI ring)), none, none, none] [] T Q := by
  have f0 : Fr (iv p (p + 4)) T (mSI T p 3 0) := Fr.iI Fr.rf ⟨by omega, by omega⟩
  have hr := ho.1.2.2.2.2.2.2.2
  have hlo := ho.2.2.1
  have hlL : (cutL u l b ring none cs []).length ≤ r := by
    unfold cutS at hl
    split at hl
    · refine Nat.le_trans ?_ hl
      unfold cutE
      split
      · split
        · simp
        · exact Nat.le_refl _
      · exact Nat.le_refl _
    · exact hl
  simp only [e_68_0, e_68_0_n, e_68_1, e_68_2, e_68_5, e_68_6, e_68_8, e_68_9, XB_i, XB_n, va_rf_s, va_rf_n, mSI_K, mSI_I, mSI_J, mSI_P, mSI_N, mSJ_K, mSJ_I, mSJ_J, mSJ_P, mSJ_N, mSP_K, mSP_I, mSP_J, mSP_P, mSP_N, mNn, mNi, mNr, mN0, al20, al21, al22, al23, al25, true_or, or_true, and_self, if_true, if_false, mCat_n, mCat_i, mCat_r, mCat_l, mCat_0, Nat.reduceAdd, Nat.reduceLeDiff, Nat.reduceLT, true_and, and_true, Nat.zero_le, bI_01, hp.1.1]
  refine ct_cut_loop (ring := ring) hpo hps hb bcs cs [] _ [] none rfl hp.empty (ho.fr f0 (fun b hb q => by have := hb.1; have := hb.2; have := q.1; have := q.2; omega)) (hs.fr f0 (fun q => by have := q.1; have := q.2; omega)) hlL (fun T2 h2 f2 l6 => ?_)
  have fT : Fr (iv p (p + 4)) T T2 := f0.tr f2
  have hoT : PathR T2 o ro cs := ho.fr fT (fun b hb q => by have := hb.1; have := hb.2; have := q.1; have := q.2; omega)
  have hsT : SideR T2 s u l b := hs.fr fT (fun q => by have := q.1; have := q.2; omega)
  simp only [e_68_154, e_68_155, bI_0]
  cases ring with
  | false =>
    rw [if_pos rfl]
    simp only [e_68_211]
    exact hQ T2 h2 fT
  | true =>
    rw [if_neg (by decide)]
    have hpos : (iI (cs.length : Int) ≤ 0) = (cs.length ≤ 0) := by rw [iI_0]; exact iI_leN (b := 0) (by omega) (by omega)
    simp only [e_68_158, e_68_158_n, e_68_159, e_68_162, XB_i, XB_n, va_rf_s, va_rf_n, mSI_K, mSI_I, mSI_J, mSI_P, mSI_N, mSJ_K, mSJ_I, mSJ_J, mSJ_P, mSJ_N, mSP_K, mSP_I, mSP_J, mSP_P, mSP_N, mNn, mNi, mNr, mN0, al20, al21, al22, al23, al25, true_or, or_true, and_self, if_true, if_false, mCat_n, mCat_i, mCat_r, mCat_l, mCat_0, Nat.reduceAdd, Nat.reduceLeDiff, Nat.reduceLT, true_and, and_true, Nat.zero_le, bI_01, hoT.1.1, hoT.2.1, hpos]
    by_cases h0 : cs.length ≤ 0
    · rw [if_pos h0]
      simp only [e_68_211]
      have hn : cs = [] := List.eq_nil_of_length_eq_zero (by omega)
      refine hQ T2 ?_ fT
      subst hn
      exact h2
    · rw [if_neg h0]
      obtain ⟨f, hf⟩ : ∃ f, cs[0]? = some f := ⟨cs[0], List.getElem?_eq_getElem (by omega)⟩
      obtain ⟨q, hq⟩ : ∃ q, cs[cs.length - 1]? = some q := ⟨cs[cs.length - 1], List.getElem?_eq_getElem (by omega)⟩
      have hh : cs.head? = some f := by rw [List.head?_eq_getElem?]; exact hf
      have hg : cs.getLast? = some q := by rw [List.getLast?_eq_getElem?]; exact hq
      obtain ⟨m1, m2, m3⟩ := hoT.2.2.2 0 f hf
      have i0 : mInB (0 : Int32) ro = true := mInB_N (j := 0) (by omega) (by omega)
      have c0 : (0 : Int32).toNatClampNeg = 0 := rfl
      have bf := bcs f (List.mem_of_getElem? hf)
      have bq := bcs q (List.mem_of_getElem? hq)
      simp only [e_68_165, e_68_165_n, e_68_166, e_68_166_n, e_68_167, e_68_170, e_68_171, e_68_172, e_68_172_n, e_68_173, e_68_176, e_68_177, XB_i, XB_n, va_rf_s, va_rf_n, mSI_K, mSI_I, mSI_J, mSI_P, mSI_N, mSJ_K, mSJ_I, mSJ_J, mSJ_P, mSJ_N, mSP_K, mSP_I, mSP_J, mSP_P, mSP_N, mNn, mNi, mNr, mN0, al20, al21, al22, al23, al25, true_or, or_true, and_self, if_true, if_false, mCat_n, mCat_i, mCat_r, mCat_l, mCat_0, Nat.reduceAdd, Nat.reduceLeDiff, Nat.reduceLT, true_and, and_true, Nat.zero_le, bI_01, hoT.1.1, hoT.1.2.1, hoT.1.2.2.1, hoT.1.2.2.2.2.1, hoT.1.2.2.2.2.2.1, i0, c0, m1, m2]
      refine c_68_178 (by simp only [XB_i, XB_n, va_rf_s, va_rf_n, mSI_K, mSI_I, mSI_J, mSI_P, mSI_N, mSJ_K, mSJ_I, mSJ_J, mSJ_P, mSJ_N, mSP_K, mSP_I, mSP_J, mSP_P, mSP_N, mNn, mNi, mNr, mN0, al20, al21, al22, al23, al25, true_or, or_true, and_self, if_true, if_false, mCat_n, mCat_i, mCat_r, mCat_l, mCat_0, Nat.reduceAdd, Nat.reduceLeDiff, Nat.reduceLT, true_and, and_true, Nat.zero_le, bI_01]) (by rw [hsT.1]) (ct_holds hsT ⟨by omega, by omega⟩ bf.x bf.y ?_)
      change XB _ _ _ _ _ (.inl (some (.int (bI (insC u l b f))))) _
      rw [hg]
      simp only [e_68_181, e_68_183, XB_i, XB_n, va_rf_s, va_rf_n, mSI_K, mSI_I, mSI_J, mSI_P, mSI_N, mSJ_K, mSJ_I, mSJ_J, mSJ_P, mSJ_N, mSP_K, mSP_I, mSP_J, mSP_P, mSP_N, mNn, mNi, mNr, mN0, al20, al21, al22, al23, al25, true_or, or_true, and_self, if_true, if_false, mCat_n, mCat_i, mCat_r, mCat_l, mCat_0, Nat.reduceAdd, Nat.reduceLeDiff, Nat.reduceLT, true_and, and_true, Nat.zero_le, bI_01, bI_inj]
      by_cases hx : insC u l b f = insC u l b q
      · rw [if_pos hx]
        simp only [e_68_211]
        refine hQ T2 ?_ fT
        have : cutS u l b true cs = cutL u l b true none cs [] := by unfold cutS cutE; rw [if_pos rfl, hh, hg]; simp [hx]
        rw [this]
        exact h2
      · rw [if_neg hx]
        have he : cutS u l b true cs = cutL u l b true none cs [] ++ [bordC u b q f (cutL u l b true none cs []).isEmpty] := by unfold cutS cutE; rw [if_pos rfl, hh, hg]; simp [hx]
        have hlen1 : (cutL u l b true none cs []).length < r := by
          rw [he, List.length_append] at hl
          simp at hl
          omega
        have bord : ∀ g, g = (cutL u l b true none cs []).isEmpty → XW 68 208 [some (.ref p), some (.ref o), some (.ref s), some (.int (bI true)), some (.int (bI (insC u l b q))), some (.int (iI cs.length)), l6] [.int (bI g), .ref s, .int 0, .int (iI ((cs.length - 1 : Nat) : Int)), .ref o, .ref p] T2 Q := by
          intro g hge
          refine c_68_208 (by simp only [XB_i, XB_n, va_rf_s, va_rf_n, mSI_K, mSI_I, mSI_J, mSI_P, mSI_N, mSJ_K, mSJ_I, mSJ_J, mSJ_P, mSJ_N, mSP_K, mSP_I, mSP_J, mSP_P, mSP_N, mNn, mNi, mNr, mN0, al20, al21, al22, al23, al25, true_or, or_true, and_self, if_true, if_false, mCat_n, mCat_i, mCat_r, mCat_l, mCat_0, Nat.reduceAdd, Nat.reduceLeDiff, Nat.reduceLT, true_and, and_true, Nat.zero_le, bI_01]) (by rw [h2.1.1]) (ct_path_border (j := 0) h2 hoT hsT hb hq hf bq bf hlen1 (fun T3 h3 f3 => ?_))
          simp only [e_68_211, XB_i, XB_n, va_rf_s, va_rf_n, mSI_K, mSI_I, mSI_J, mSI_P, mSI_N, mSJ_K, mSJ_I, mSJ_J, mSJ_P, mSJ_N, mSP_K, mSP_I, mSP_J, mSP_P, mSP_N, mNn, mNi, mNr, mN0, al20, al21, al22, al23, al25, true_or, or_true, and_self, if_true, if_false, mCat_n, mCat_i, mCat_r, mCat_l, mCat_0, Nat.reduceAdd, Nat.reduceLeDiff, Nat.reduceLT, true_and, and_true, Nat.zero_le, bI_01]
          refine hQ T3 ?_ (fT.tr f3)
          rw [he, ← hge]
          exact h3
        have hz : (iI ((cutL u l b true none cs []).length : Int) = 0) = ((cutL u l b true none cs []).length = 0) := iI_eq0 (by have := h2.1.2.2.2.2.2.2.2; omega)
        simp only [e_68_186, e_68_186_n, e_68_187, e_68_187_n, e_68_188, e_68_188_n, e_68_189, e_68_192, e_68_193, e_68_194, e_68_195, e_68_195_n, e_68_196, e_68_196_n, e_68_197, e_68_200, XB_i, XB_n, va_rf_s, va_rf_n, mSI_K, mSI_I, mSI_J, mSI_P, mSI_N, mSJ_K, mSJ_I, mSJ_J, mSJ_P, mSJ_N, mSP_K, mSP_I, mSP_J, mSP_P, mSP_N, mNn, mNi, mNr, mN0, al20, al21, al22, al23, al25, true_or, or_true, and_self, if_true, if_false, mCat_n, mCat_i, mCat_r, mCat_l, mCat_0, Nat.reduceAdd, Nat.reduceLeDiff, Nat.reduceLT, true_and, and_true, Nat.zero_le, bI_01, hoT.1.1, hoT.2.1, h2.1.1, h2.2.1, iI_m1N (show 1 ≤ cs.length by omega)]
        rw [List.getLast?_nil]
        simp only [hz]
        by_cases h00 : (cutL u l b true none cs []).length = 0
        · rw [if_pos h00]
          simp only [e_68_203, e_68_204]
          exact bord true (by rw [isEmpty_len, h00]; rfl)
        · rw [if_neg h00]
          simp only [e_68_207]
          exact bord false (by rw [isEmpty_len, decide_eq_false h00])
