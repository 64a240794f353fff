/-! what is new on the heap -/
def Ag (T T2 : mT) (b : Nat) : Prop := T2.1 b = T.1 b ∧ T2.2.1 b = T.2.1 b ∧ T2.2.2.1 b = T.2.2.1 b ∧ T2.2.2.2.1 b = T.2.2.2.1 b
theorem Ag.rf {T : mT} {b : Nat} : Ag T T b := ⟨rfl, rfl, rfl, rfl⟩
theorem Ag.tr {T T2 T3 : mT} {b : Nat} (h : Ag T T2 b) (g : Ag T2 T3 b) : Ag T T3 b := ⟨g.1.trans h.1, g.2.1.trans h.2.1, g.2.2.1.trans h.2.2.1, g.2.2.2.trans h.2.2.2⟩
theorem Ag.nw {T : mT} {b k n w : Nat} (h : b < T.2.2.2.2.1) : Ag T (mNw T k n w) b :=
  ⟨va_up_n _ _ (by omega), va_up_n _ _ (by omega), va_up_n _ _ (by omega), va_up_n _ _ (by omega)⟩
theorem Ag.sP {T T2 : mT} {b a j : Nat} {v : Option Nat} (h : Ag T T2 b) (hb : b ≠ a) : Ag T (mSP T2 a j v) b :=
  ⟨h.1, h.2.1, h.2.2.1, by rw [← h.2.2.2]; funext i; exact mU_n _ _ (by rintro ⟨e, _⟩; exact hb e)⟩
theorem KZ.nw {T : mT} (h : KZ T) (k n w : Nat) : KZ (mNw T k n w) := fun b hb => by
  have hb' : T.2.2.2.2.1 + 1 ≤ b := hb
  have := h b (by omega)
  rw [← this]
  exact va_up_n _ _ (by omega)
/-- an object of kind K that has just come to be at a -/
def Fz (T : mT) (a K : Nat) : Prop := T.1 a = (K, 0) ∧ (∀ j, T.2.1 a j = 0) ∧ T.2.2.2.2.1 = a + 1 ∧ KZ T
theorem Fz.nw {T : mT} {a K w : Nat} (hn : T.2.2.2.2.1 = a) (hz : KZ T) : Fz (mNw T K 0 w) a K := by
  subst hn
  exact ⟨va_up_s _ _ _, fun j => by show va_up T.2.1 T.2.2.2.2.1 (fun _ => 0) T.2.2.2.2.1 j = 0; rw [va_up_s], rfl, hz.nw _ _ _⟩
/-- made from a on: n addresses, u slots -/
def Md (T T2 : mT) (a n u : Nat) : Prop := T2.2.2.2.2.1 = a + n ∧ T2.2.2.2.2.2 = T.2.2.2.2.2 + u ∧ KZ T2 ∧ (∀ j, T2.2.1 a j = 0) ∧ T2.1 a = T.1 a ∧ ∀ b, b < a → Ag T T2 b
/-- being made: fields with their addresses from a on and what lies there -/
def BK (T0 T : mT) (a K nx u : Nat) (L : List (Nat × Nat × Nat × Nat)) : Prop := T.1 a = (K, 0) ∧ (∀ j, T.2.1 a j = 0) ∧ T.2.2.2.2.1 = a + nx ∧ KZ T ∧ 0 < nx ∧ T.2.2.2.2.2 = T0.2.2.2.2.2 + u ∧ (∀ b, b < a → Ag T0 T b) ∧ ∀ e ∈ L, e.2.1 < nx ∧ T.2.2.2.1 a e.1 = some (a + e.2.1) ∧ T.1 (a + e.2.1) = e.2.2
section BKS
variable {T0 T T2 : mT} {a K nx u : Nat} {L : List (Nat × Nat × Nat × Nat)}
theorem BK.go (h : Fz T a K) : BK T T a K 1 0 [] := ⟨h.1, h.2.1, h.2.2.1, h.2.2.2, by omega, rfl, fun _ _ => Ag.rf, fun e he => absurd he List.not_mem_nil⟩
theorem BK.md (h0 : Fz T0 a K) (h : BK T0 T a K nx u L) : Md T0 T a nx u := ⟨h.2.2.1, h.2.2.2.2.2.1, h.2.2.2.1, h.2.1, by rw [h.1, h0.1], h.2.2.2.2.2.2.1⟩
theorem BK.nxe (h : BK T0 T a K nx u L) : T.2.2.2.2.1 = a + nx := h.2.2.1
theorem BK.k0 (h : BK T0 T a K nx u L) : (T.1 a).1 = K := by rw [h.1]
theorem BK.k1 (h : BK T0 T a K nx u L) {k n w : Nat} : ((mNw T k n w).1 a).1 = K := by
  have := h.2.2.2.2.1
  rw [(Ag.nw (T := T) (b := a) (by rw [h.nxe]; omega)).1, h.1]
theorem BK.fz (h : BK T0 T a K nx u L) {k w : Nat} : Fz (mNw T k 0 w) (a + nx) k := Fz.nw h.nxe h.2.2.2.1
theorem BK.ag2 (h : BK T0 T a K nx u L) {k w n v : Nat} (hm : Md (mNw T k 0 w) T2 (a + nx) n v) {b : Nat} (hb : b < a + nx) : Ag T T2 b := (Ag.nw (by rw [h.nxe]; exact hb)).tr (hm.2.2.2.2.2 b hb)
theorem BK.k2 (h : BK T0 T a K nx u L) {k w n v : Nat} (hm : Md (mNw T k 0 w) T2 (a + nx) n v) : (T2.1 a).1 = K := by
  have := h.2.2.2.2.1
  rw [(h.ag2 hm (b := a) (by omega)).1, h.1]
theorem BK.l (h : BK T0 T a K nx u L) {f o k n : Nat} (hm : (f, o, k, n) ∈ L) : T.2.2.2.1 a f = some (a + o) ∧ T.1 (a + o) = (k, n) := (h.2.2.2.2.2.2.2 _ hm).2
theorem BK.arr (h : BK T0 T a K nx u L) {f k n : Nat} (hf : ∀ e ∈ L, e.1 ≠ f) : BK T0 (mSP (mNw T k n n) a f (some (a + nx))) a K (nx + 1) (u + n) ((f, nx, k, n) :: L) ∧ (∀ b, b < a + nx → b ≠ a → Ag T (mSP (mNw T k n n) a f (some (a + nx))) b) ∧ (∀ j, (mSP (mNw T k n n) a f (some (a + nx))).2.1 (a + nx) j = 0) := by
  obtain ⟨h1, h2, h3, h4, h5, h6, h7, h8⟩ := h
  have g : ∀ b, b < a + nx → Ag T (mNw T k n n) b := fun b hb => Ag.nw (by omega)
  have ga := g a (by omega)
  refine ⟨⟨?_, ?_, ?_, ?_, by omega, ?_, ?_, ?_⟩, fun b hb hn => (g b hb).sP hn, ?_⟩
  · exact ga.1.trans h1
  · intro j; show (mNw T k n n).2.1 a j = 0; rw [ga.2.1]; exact h2 j
  · show T.2.2.2.2.1 + 1 = _; omega
  · exact fun b hb => h4.nw k n n b hb
  · show T.2.2.2.2.2 + n = _; omega
  · exact fun b hb => (h7 b hb).tr ((g b (by omega)).sP (by omega))
  · intro e he
    rcases List.mem_cons.mp he with q | q
    · subst q
      refine ⟨by show nx < nx + 1; omega, mU_s _ _ _ _, ?_⟩
      show va_up T.1 T.2.2.2.2.1 (k, n) (a + nx) = (k, n)
      rw [h3, va_up_s]
    · obtain ⟨e1, e2, e3⟩ := h8 e q
      refine ⟨by omega, ?_, ?_⟩
      · show mU (mNw T k n n).2.2.2.1 a f _ a e.1 = _
        rw [mU_n _ _ (by rintro ⟨_, z⟩; exact hf e q z), ga.2.2.2]
        exact e2
      · exact ((g _ (by omega)).1).trans e3
  · intro j
    show va_up T.2.1 T.2.2.2.2.1 (fun _ => 0) (a + nx) j = 0
    rw [h3, va_up_s]
theorem BK.obj (h : BK T0 T a K nx u L) {f k w n v : Nat} (hm : Md (mNw T k 0 w) T2 (a + nx) n v) (hn : 0 < n) (hf : ∀ e ∈ L, e.1 ≠ f) : BK T0 (mSP T2 a f (some (a + nx))) a K (nx + n) (u + w + v) ((f, nx, k, 0) :: L) ∧ (∀ b, b < a + nx → b ≠ a → Ag T (mSP T2 a f (some (a + nx))) b) ∧ (∀ b, b ≠ a → Ag T2 (mSP T2 a f (some (a + nx))) b) := by
  have g : ∀ b, b < a + nx → Ag T T2 b := fun b hb => h.ag2 hm hb
  obtain ⟨h1, h2, h3, h4, h5, h6, h7, h8⟩ := h
  obtain ⟨m1, m2, m3, m4, m5, m6⟩ := hm
  have ga := g a (by omega)
  refine ⟨⟨?_, ?_, ?_, ?_, by omega, ?_, ?_, ?_⟩, fun b hb hn => (g b hb).sP hn, fun b hn => Ag.rf.sP hn⟩
  · exact ga.1.trans h1
  · intro j; show T2.2.1 a j = 0; rw [ga.2.1]; exact h2 j
  · show T2.2.2.2.2.1 = _; omega
  · exact m3
  · show T2.2.2.2.2.2 = _
    have : (mNw T k 0 w).2.2.2.2.2 = T.2.2.2.2.2 + w := rfl
    omega
  · exact fun b hb => (h7 b hb).tr ((g b (by omega)).sP (by omega))
  · intro e he
    rcases List.mem_cons.mp he with q | q
    · subst q
      refine ⟨by show nx < nx + n; omega, mU_s _ _ _ _, ?_⟩
      show T2.1 (a + nx) = (k, 0)
      rw [m5]
      show va_up T.1 T.2.2.2.2.1 (k, 0) (a + nx) = (k, 0)
      rw [h3, va_up_s]
    · obtain ⟨e1, e2, e3⟩ := h8 e q
      refine ⟨by omega, ?_, ?_⟩
      · show mU T2.2.2.2.1 a f _ a e.1 = _
        rw [mU_n _ _ (by rintro ⟨_, z⟩; exact hf e q z), ga.2.2.2]
        exact e2
      · exact ((g _ (by omega)).1).trans e3
/-- the same, put into an array of its own -/
theorem BK.aas (h : BK T0 T a K nx u L) {c j k w n v : Nat} (hm : Md (mNw T k 0 w) T2 (a + nx) n v) (hc : a < c) (hc2 : c < a + nx) : BK T0 (mSP T2 c j (some (a + nx))) a K (nx + n) (u + w + v) L ∧ (∀ b, b < a + nx → b ≠ c → Ag T (mSP T2 c j (some (a + nx))) b) ∧ (∀ b, b ≠ c → Ag T2 (mSP T2 c j (some (a + nx))) b) ∧ ((mSP T2 c j (some (a + nx))).2.2.2.1 c j = some (a + nx) ∧ (mSP T2 c j (some (a + nx))).1 c = T.1 c ∧ ∀ i, i ≠ j → (mSP T2 c j (some (a + nx))).2.2.2.1 c i = T.2.2.2.1 c i) ∧ (T2.1 (a + nx)).1 = k := by
  have g : ∀ b, b < a + nx → Ag T T2 b := fun b hb => h.ag2 hm hb
  obtain ⟨h1, h2, h3, h4, h5, h6, h7, h8⟩ := h
  obtain ⟨m1, m2, m3, m4, m5, m6⟩ := hm
  have ga := g a (by omega)
  refine ⟨⟨?_, ?_, ?_, ?_, by omega, ?_, ?_, ?_⟩, fun b hb hn => (g b hb).sP hn, fun b hn => Ag.rf.sP hn, ⟨mU_s _ _ _ _, (g c hc2).1, fun i hi => ?_⟩, ?_⟩
  · exact ga.1.trans h1
  · intro j; show T2.2.1 a j = 0; rw [ga.2.1]; exact h2 j
  · show T2.2.2.2.2.1 = _; omega
  · exact m3
  · show T2.2.2.2.2.2 = _
    have : (mNw T k 0 w).2.2.2.2.2 = T.2.2.2.2.2 + w := rfl
    omega
  · exact fun b hb => (h7 b hb).tr ((g b (by omega)).sP (by omega))
  · intro e he
    obtain ⟨e1, e2, e3⟩ := h8 e he
    refine ⟨by omega, ?_, ?_⟩
    · show mU T2.2.2.2.1 c j _ a e.1 = _
      rw [mU_n _ _ (by rintro ⟨z, _⟩; omega), ga.2.2.2]
      exact e2
    · exact ((g _ (by omega)).1).trans e3
  · show mU T2.2.2.2.1 c j _ c i = _
    rw [mU_n _ _ (by rintro ⟨_, z⟩; exact hi z), (g c hc2).2.2.2]
  · rw [m5]
    show (va_up T.1 T.2.2.2.2.1 (k, 0) (a + nx)).1 = k
    rw [h3, va_up_s]
end BKS
section AGS
variable {T T2 : mT}
theorem FeatK.ag {a : Nat} (h : FeatK T a) (hs : ∀ b, iv a (a + 3) b → Ag T T2 b) : FeatK T2 a := by
  unfold FeatK
  rw [(hs a ⟨by omega, by omega⟩).1, (hs a ⟨by omega, by omega⟩).2.2.2, (hs (a + 1) ⟨by omega, by omega⟩).1, (hs (a + 2) ⟨by omega, by omega⟩).1]
  exact h
theorem EdR.ag {e : Nat} (h : EdR T e []) (hs : ∀ b, iv e (e + 74) b → Ag T T2 b) : EdR T2 e [] := by
  obtain ⟨ad, ⟨h1, h2, h3, h4, h5⟩, h6, h7, h8, h9⟩ := h
  have s0 := hs e ⟨by omega, by omega⟩
  have s1 := hs (e + 1) ⟨by omega, by omega⟩
  exact ⟨ad, ⟨by rw [s0.1]; exact h1, by rw [s0.2.2.2]; exact h2, by rw [s1.1]; exact h3, fun j hj => by rw [s1.2.2.2]; exact h4 j hj, fun j hj => (h5 j hj).ag (fun b hb => hs b ⟨by have := h6.1 j hj; have := hb.1; omega, by have := h6.1 j hj; have := hb.2; omega⟩)⟩, h6, by rw [s0.2.1]; exact h7, h8, fun j hj => absurd hj (by simp)⟩
theorem OctR.ag {a : Nat} (h : OctR T a []) (hs : ∀ b, iv a (a + 2) b → Ag T T2 b) : OctR T2 a [] := by
  unfold OctR
  rw [(hs a ⟨by omega, by omega⟩).1, (hs a ⟨by omega, by omega⟩).2.2.2, (hs a ⟨by omega, by omega⟩).2.1, (hs (a + 1) ⟨by omega, by omega⟩).1, (hs (a + 1) ⟨by omega, by omega⟩).2.1]
  exact h
theorem PathR.ag {p r : Nat} (h : PathR T p r []) (hs : ∀ b, iv p (p + 4) b → Ag T T2 b) : PathR T2 p r [] := by
  obtain ⟨h1, h2, h3, h4⟩ := h
  refine ⟨?_, ?_, h3, fun j c hj => absurd hj (by simp)⟩
  · unfold PK
    rw [(hs p ⟨by omega, by omega⟩).1, (hs p ⟨by omega, by omega⟩).2.2.2, (hs (p + 1) ⟨by omega, by omega⟩).1, (hs (p + 2) ⟨by omega, by omega⟩).1, (hs (p + 3) ⟨by omega, by omega⟩).1]
    exact h1
  · rw [(hs p ⟨by omega, by omega⟩).2.1]; exact h2
def Mk0 (T : mT) (m : Nat) : Prop := MkK T m ∧ (∀ j, j < 24 → PathR T (m + 12 + 4 * j) 13 []) ∧ (T.2.2.2.1 m 4 = some (m + 3) ∧ T.2.2.2.1 m 5 = some (m + 7)) ∧ PathR T (m + 3) 60 [] ∧ PathR T (m + 7) 60 []
theorem Mk0.r {m : Nat} (h : Mk0 T m) : MkR T m (fun _ => []) := ⟨h.1, h.2.1, m + 3, m + 7, [], [], ⟨Or.inl ⟨rfl, rfl⟩, h.2.2.1.1, h.2.2.1.2⟩, h.2.2.2.1, h.2.2.2.2⟩
theorem Mk0.ag {m : Nat} (h : Mk0 T m) (hs : ∀ b, iv m (m + 108) b → Ag T T2 b) : Mk0 T2 m := by
  obtain ⟨h1, h2, h3, h4, h5⟩ := h
  have s0 := hs m ⟨by omega, by omega⟩
  have s1 := hs (m + 1) ⟨by omega, by omega⟩
  refine ⟨?_, fun j hj => (h2 j hj).ag (fun b hb => hs b ⟨by have := hb.1; omega, by have := hb.2; omega⟩), by rw [s0.2.2.2]; exact h3, h4.ag (fun b hb => hs b ⟨by have := hb.1; omega, by have := hb.2; omega⟩), h5.ag (fun b hb => hs b ⟨by have := hb.1; omega, by have := hb.2; omega⟩)⟩
  unfold MkK
  rw [s0.1, s0.2.2.2, s1.1, s1.2.2.2, (hs (m + 2) ⟨by omega, by omega⟩).1, (hs (m + 11) ⟨by omega, by omega⟩).1]
  exact h1
theorem PackK.ag {p : Nat} (h : PackK T p) (hs : ∀ b, iv p (p + 84) b → Ag T T2 b) : PackK T2 p := by
  unfold PackK
  rw [(hs p ⟨by omega, by omega⟩).1, (hs p ⟨by omega, by omega⟩).2.2.2, (hs (p + 1) ⟨by omega, by omega⟩).1, (hs (p + 76) ⟨by omega, by omega⟩).1, (hs (p + 77) ⟨by omega, by omega⟩).1, (hs (p + 78) ⟨by omega, by omega⟩).1, (hs (p + 79) ⟨by omega, by omega⟩).1, (hs (p + 80) ⟨by omega, by omega⟩).1, (hs (p + 81) ⟨by omega, by omega⟩).1, (hs (p + 82) ⟨by omega, by omega⟩).1, (hs (p + 83) ⟨by omega, by omega⟩).1]
  exact h
def Sp0 (T : mT) (p : Nat) : Prop := PackK T p ∧ EdR T (p + 2) []
theorem Sp0.ag {p : Nat} (h : Sp0 T p) (hs : ∀ b, iv p (p + 84) b → Ag T T2 b) : Sp0 T2 p := ⟨h.1.ag hs, h.2.ag (fun b hb => hs b ⟨by have := hb.1; omega, by have := hb.2; omega⟩)⟩
def Df0 (T : mT) (d : Nat) : Prop := DifK T d ∧ Sp0 T (d + 1) ∧ Sp0 T (d + 85)
theorem Df0.ag {d : Nat} (h : Df0 T d) (hs : ∀ b, iv d (d + 174) b → Ag T T2 b) : Df0 T2 d := by
  obtain ⟨h1, h2, h3⟩ := h
  refine ⟨?_, h2.ag (fun b hb => hs b ⟨by have := hb.1; omega, by have := hb.2; omega⟩), h3.ag (fun b hb => hs b ⟨by have := hb.1; omega, by have := hb.2; omega⟩)⟩
  unfold DifK
  rw [(hs d ⟨by omega, by omega⟩).1, (hs d ⟨by omega, by omega⟩).2.2.2, (hs (d + 169) ⟨by omega, by omega⟩).1, (hs (d + 170) ⟨by omega, by omega⟩).1, (hs (d + 171) ⟨by omega, by omega⟩).1, (hs (d + 172) ⟨by omega, by omega⟩).1, (hs (d + 173) ⟨by omega, by omega⟩).1]
  exact h1
end AGS
