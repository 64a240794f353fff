/-! AtlasDesk: its state -/
theorem iI_rem {x y : Int} (hx : 0 ≤ x) (hx2 : x < 2147483648) (hy : 0 < y) (hy2 : y < 2147483648) : iI x - iI x / iI y * iI y = iI (x % y) := by
  rw [iI_div ⟨by omega, by omega⟩ ⟨by omega, by omega⟩ (by omega), iI_mul, iI_sub]
  congr 1
  rw [Int.tdiv_eq_ediv_of_nonneg hx, Int.mul_comm]
  have := Int.mul_ediv_add_emod x y
  omega
/-- told corners, present features, kept, how many are closed, bytes in hand, region, pack, difference -/
abbrev St : Type := List Pt × List Ft × (Nat → List Ft) × Nat × List Nat × Option Rg × Option Pk × Option (Pk × Pk)
def esL (Fs : List Ft) : Prop := esOk Fs ∧ Fs.length ≤ 24 ∧ ∀ j, j < Fs.length → (fA Fs j).2.2.length ≤ 12
def pkOk (D : Pk) : Prop := RgB D.2.1 ∧ esL D.2.2.1 ∧ tsOk D.2.2.2 ∧ R32 D.1
def StOk (cs : List Pt) (Fs : List Ft) (kp : Nat → List Ft) (cl : Nat) (hb : List Nat) (rg : Option Rg) (pk : Option Pk) (df : Option (Pk × Pk)) : Prop := csB cs ∧ esL Fs ∧ (∀ i, esL (kp i)) ∧ cl < 1000000000 ∧ (∀ x ∈ hb, x < 256) ∧ (∀ R, rg = some R → RgB R) ∧ (∀ D, pk = some D → pkOk D) ∧ (∀ A B, df = some (A, B) → pkOk A ∧ pkOk B)
/-- above the used addresses nothing is -/
def KZ (T : mT) : Prop := ∀ b, T.2.2.2.2.1 ≤ b → T.1 b = (0, 0)
def DX (T : mT) (x cl : Nat) (rs ps ds : Bool) (p q d e : Nat) : Prop := (T.1 x = (11, 0) ∧ T.2.2.2.1 x 0 = some (x + 1) ∧ T.2.2.2.1 x 1 = some (x + 4) ∧ T.2.2.2.1 x 2 = some (x + 78) ∧ T.2.2.2.1 x 4 = some (x + 79) ∧ T.2.2.2.1 x 5 = some (x + 190) ∧ T.2.2.2.1 x 6 = some (x + 192) ∧ T.2.2.2.1 x 8 = some p ∧ T.2.2.2.1 x 9 = some q ∧ T.2.2.2.1 x 11 = some d ∧ T.2.2.2.1 x 12 = some e) ∧ T.2.1 x 3 = iI cl ∧ T.2.1 x 7 = bI rs ∧ T.2.1 x 10 = bI ps ∧ T.2.1 x 13 = bI ds
def DA (x p q d e : Nat) : Prop := ((p = x + 193 ∧ q = x + 277) ∨ (p = x + 277 ∧ q = x + 193)) ∧ ((d = x + 361 ∧ e = x + 535) ∨ (d = x + 535 ∧ e = x + 361))
def DKp (T : mT) (x : Nat) : Prop := T.1 (x + 78) = (24, 2) ∧ T.2.2.2.1 (x + 78) 0 = some (x + 709) ∧ T.2.2.2.1 (x + 78) 1 = some (x + 783)
def DMk (T : mT) (x : Nat) : Prop := PkrR T (x + 79) (x + 80) (x + 188) ∧ ∃ sh bs, MkR T (x + 80) sh ∧ OctR T (x + 188) bs
def SpR (T : mT) (p : Nat) : Prop := PackK T p ∧ ∃ Gs, EdR T (p + 2) Gs
def DfR (T : mT) (d : Nat) : Prop := DifK T d ∧ SpR T (d + 1) ∧ SpR T (d + 85)
def DRg (T : mT) (x : Nat) (rg : Option Rg) : Prop := T.1 (x + 192) = (8, 0) ∧ ∀ R, rg = some R → RegR T (x + 192) R
def DPk (T : mT) (p : Nat) (pk : Option Pk) : Prop := SpR T p ∧ ∀ D, pk = some D → PackR T p D
def DDf (T : mT) (d : Nat) (df : Option (Pk × Pk)) : Prop := DfR T d ∧ ∀ A B, df = some (A, B) → PackR T (d + 1) A ∧ PackR T (d + 85) B ∧ DifR T d (cmP A.2.2.2 B.2.2.2)
theorem DKp.fr {S : Nat → Prop} {T T2 : mT} {x : Nat} (h : DKp T x) (hf : Fr S T T2) (hs : ¬ S (x + 78)) : DKp T2 x := by
  unfold DKp
  rw [hf.K, hf.P hs]
  exact h
theorem DMk.fr {S : Nat → Prop} {T T2 : mT} {x : Nat} (h : DMk T x) (hf : Fr S T T2) (hs : ∀ b, iv (x + 79) (x + 190) b → ¬ S b) : DMk T2 x := by
  obtain ⟨h1, sh, bs, h2, h3⟩ := h
  exact ⟨h1.fr hf (hs _ ⟨by omega, by omega⟩), sh, bs, h2.fr hf (fun b hb => hs b ⟨by have := hb.1; omega, by have := hb.2; omega⟩), h3.fr hf (fun b hb => hs b ⟨by have := hb.1; omega, by have := hb.2; omega⟩)⟩
theorem SpR.fr {S : Nat → Prop} {T T2 : mT} {p : Nat} (h : SpR T p) (hf : Fr S T T2) (hs : ∀ b, iv p (p + 84) b → ¬ S b) : SpR T2 p := by
  obtain ⟨h1, Gs, h2⟩ := h
  exact ⟨h1.fr hf (hs _ ⟨by omega, by omega⟩), Gs, h2.fr hf (fun b hb => hs b ⟨by have := hb.1; omega, by have := hb.2; omega⟩)⟩
theorem PackR.sp {T : mT} {p : Nat} {D : Pk} (h : PackR T p D) : SpR T p := ⟨h.1, D.2.2.1, h.2.2.2.2.2⟩
theorem DfR.fr {S : Nat → Prop} {T T2 : mT} {d : Nat} (h : DfR T d) (hf : Fr S T T2) (hs : ∀ b, iv d (d + 174) b → ¬ S b) : DfR T2 d := by
  obtain ⟨h1, h2, h3⟩ := h
  exact ⟨h1.fr hf (hs _ ⟨by omega, by omega⟩), h2.fr hf (fun b hb => hs b ⟨by have := hb.1; omega, by have := hb.2; omega⟩), h3.fr hf (fun b hb => hs b ⟨by have := hb.1; omega, by have := hb.2; omega⟩)⟩
theorem DRg.fr {S : Nat → Prop} {T T2 : mT} {x : Nat} {rg : Option Rg} (h : DRg T x rg) (hf : Fr S T T2) (hs : ¬ S (x + 192)) : DRg T2 x rg := ⟨by rw [hf.K]; exact h.1, fun R hR => (h.2 R hR).fr hf hs⟩
theorem DPk.fr {S : Nat → Prop} {T T2 : mT} {p : Nat} {pk : Option Pk} (h : DPk T p pk) (hf : Fr S T T2) (hs : ∀ b, iv p (p + 84) b → ¬ S b) : DPk T2 p pk := ⟨h.1.fr hf hs, fun D hD => (h.2 D hD).fr hf hs⟩
theorem DDf.fr {S : Nat → Prop} {T T2 : mT} {d : Nat} {df : Option (Pk × Pk)} (h : DDf T d df) (hf : Fr S T T2) (hs : ∀ b, iv d (d + 174) b → ¬ S b) : DDf T2 d df := by
  refine ⟨h.1.fr hf hs, fun A B hD => ?_⟩
  obtain ⟨h1, h2, h3⟩ := h.2 A B hD
  exact ⟨h1.fr hf (fun b hb => hs b ⟨by have := hb.1; omega, by have := hb.2; omega⟩), h2.fr hf (fun b hb => hs b ⟨by have := hb.1; omega, by have := hb.2; omega⟩), h3.fr hf (fun b hb => hs b (by rcases hb with q | q; exact ⟨by omega, by omega⟩; exact ⟨by have := q.1; omega, by have := q.2; omega⟩))⟩
/-- what lies beside the object itself -/
def DB (T : mT) (x : Nat) (p q d e : Nat) (cs : List Pt) (Fs : List Ft) (kp : Nat → List Ft) (hb : List Nat) (rg : Option Rg) (pk : Option Pk) (df : Option (Pk × Pk)) : Prop := (FeatK T (x + 1) ∧ FeatC T (x + 1) cs) ∧ EdR T (x + 4) Fs ∧ DKp T x ∧ EdR T (x + 709) (kp 0) ∧ EdR T (x + 783) (kp 1) ∧ DMk T x ∧ OctR T (x + 190) hb ∧ DRg T x rg ∧ DPk T p pk ∧ SpR T q ∧ DDf T d df ∧ DfR T e
def DeskR (T : mT) (x : Nat) (cs : List Pt) (Fs : List Ft) (kp : Nat → List Ft) (cl : Nat) (hb : List Nat) (rg : Option Rg) (pk : Option Pk) (df : Option (Pk × Pk)) : Prop := ∃ p q d e, DA x p q d e ∧ DX T x cl rg.isSome pk.isSome df.isSome p q d e ∧ DB T x p q d e cs Fs kp hb rg pk df
/-- the heap may have grown by an exception's object -/
def Gr (S : Nat → Prop) (T T2 : mT) : Prop := T2.1 = T.1 ∧ (T.2.2.2.2.1 ≤ T2.2.2.2.2.1 ∧ T2.2.2.2.2.1 ≤ T.2.2.2.2.1 + 1 ∧ T2.2.2.2.2.2 ≤ T.2.2.2.2.2 + 6) ∧ ∀ b, ¬ S b → b < T.2.2.2.2.1 → T2.2.1 b = T.2.1 b ∧ T2.2.2.1 b = T.2.2.1 b ∧ T2.2.2.2.1 b = T.2.2.2.1 b
theorem Fr.gr {S : Nat → Prop} {T T2 : mT} (h : Fr S T T2) : Gr S T T2 := ⟨h.1, by rw [h.2.1]; exact ⟨Nat.le_refl _, by omega, by omega⟩, fun b hb _ => h.2.2 b hb⟩
theorem mNw_K {T : mT} (hz : KZ T) : (mNw T 0 0 6).1 = T.1 := by
  funext b
  show va_up T.1 T.2.2.2.2.1 (0, 0) b = T.1 b
  unfold va_up
  split
  · rename_i h; rw [h]; exact (hz _ (Nat.le_refl _)).symm
  · rfl
theorem mNw_o {T : mT} {b : Nat} (h : b < T.2.2.2.2.1) : (mNw T 0 0 6).2.1 b = T.2.1 b ∧ (mNw T 0 0 6).2.2.1 b = T.2.2.1 b ∧ (mNw T 0 0 6).2.2.2.1 b = T.2.2.2.1 b := by
  refine ⟨?_, ?_, ?_⟩
  · show va_up T.2.1 T.2.2.2.2.1 _ b = _
    unfold va_up; rw [if_neg (by omega)]
  · show va_up T.2.2.1 T.2.2.2.2.1 _ b = _
    unfold va_up; rw [if_neg (by omega)]
  · show va_up T.2.2.2.1 T.2.2.2.2.1 _ b = _
    unfold va_up; rw [if_neg (by omega)]
theorem Gr.th {S : Nat → Prop} {T T2 : mT} (h : Fr S T T2) (hz : KZ T) : Gr S T (mNw T2 0 0 6) := by
  have hz2 : KZ T2 := fun b hb => by rw [h.1]; rw [h.2.1] at hb; exact hz b hb
  have n : T2.2.2.2.2 = T.2.2.2.2 := h.2.1
  refine ⟨by rw [mNw_K hz2, h.1], ?_, fun b hb hl => ?_⟩
  · show T.2.2.2.2.1 ≤ T2.2.2.2.2.1 + 1 ∧ T2.2.2.2.2.1 + 1 ≤ T.2.2.2.2.1 + 1 ∧ T2.2.2.2.2.2 + 6 ≤ T.2.2.2.2.2 + 6
    rw [n]
    omega
  · obtain ⟨g1, g2, g3⟩ := mNw_o (T := T2) (b := b) (by rw [n]; exact hl)
    obtain ⟨f1, f2, f3⟩ := h.2.2 b hb
    exact ⟨g1.trans f1, g2.trans f2, g3.trans f3⟩
/-- as if it hadn't grown -/
def unG (T T2 : mT) : mT := (T2.1, T2.2.1, T2.2.2.1, T2.2.2.2.1, T.2.2.2.2)
theorem Gr.un {S : Nat → Prop} {T T2 : mT} (h : Gr S T T2) : Fr (fun b => S b ∨ T.2.2.2.2.1 ≤ b) T (unG T T2) := ⟨h.1, rfl, fun b hb => h.2.2 b (fun q => hb (Or.inl q)) (by have : ¬ T.2.2.2.2.1 ≤ b := fun q => hb (Or.inr q); omega)⟩
section DK
variable {T T2 : mT} {x cl p q d e : Nat} {cs : List Pt} {Fs : List Ft} {kp : Nat → List Ft} {hb : List Nat} {rg : Option Rg} {pk : Option Pk} {df : Option (Pk × Pk)}
theorem DA.b (h : DA x p q d e) : (x + 193 ≤ p ∧ p + 84 ≤ x + 361) ∧ (x + 193 ≤ q ∧ q + 84 ≤ x + 361) ∧ (p + 84 ≤ q ∨ q + 84 ≤ p) ∧ (x + 361 ≤ d ∧ d + 174 ≤ x + 709) ∧ (x + 361 ≤ e ∧ e + 174 ≤ x + 709) ∧ (d + 174 ≤ e ∨ e + 174 ≤ d) := by
  unfold DA at h
  omega
theorem DB.fr {S : Nat → Prop} (hA : DA x p q d e) (h : DB T x p q d e cs Fs kp hb rg pk df) (hf : Fr S T T2) (hs : ∀ b, iv (x + 1) (x + 857) b → ¬ S b) : DB T2 x p q d e cs Fs kp hb rg pk df := by
  have := hA.b
  obtain ⟨⟨h1, h1'⟩, h2, h3, h4, h5, h6, h7, h8, h9, h10, h11, h12⟩ := h
  have go : ∀ {lo hi : Nat}, x + 1 ≤ lo → hi ≤ x + 857 → ∀ b, iv lo hi b → ¬ S b := fun h1 h2 b hb => hs b ⟨by have := hb.1; omega, by have := hb.2; omega⟩
  exact ⟨⟨h1.fr hf (hs _ ⟨by omega, by omega⟩), h1'.fr hf (go (by omega) (by omega))⟩, h2.fr hf (go (by omega) (by omega)), h3.fr hf (hs _ ⟨by omega, by omega⟩), h4.fr hf (go (by omega) (by omega)), h5.fr hf (go (by omega) (by omega)), h6.fr hf (go (by omega) (by omega)), h7.fr hf (go (by omega) (by omega)), h8.fr hf (hs _ ⟨by omega, by omega⟩), h9.fr hf (go (by omega) (by omega)), h10.fr hf (go (by omega) (by omega)), h11.fr hf (go (by omega) (by omega)), h12.fr hf (go (by omega) (by omega))⟩
theorem DX.fr {S : Nat → Prop} {rs ps ds : Bool} (h : DX T x cl rs ps ds p q d e) (hf : Fr S T T2) (hs : ¬ S x) : DX T2 x cl rs ps ds p q d e := by
  unfold DX
  rw [hf.K, hf.P hs, hf.I hs]
  exact h
theorem DeskR.fr {S : Nat → Prop} (h : DeskR T x cs Fs kp cl hb rg pk df) (hf : Fr S T T2) (hs : ∀ b, iv x (x + 857) b → ¬ S b) : DeskR T2 x cs Fs kp cl hb rg pk df := by
  obtain ⟨p, q, d, e, hA, hX, hB⟩ := h
  exact ⟨p, q, d, e, hA, hX.fr hf (hs x ⟨by omega, by omega⟩), hB.fr hA hf (fun b hb => hs b ⟨by have := hb.1; omega, hb.2⟩)⟩
theorem DeskR.un {T0 : mT} (h : DeskR (unG T0 T) x cs Fs kp cl hb rg pk df) : DeskR T x cs Fs kp cl hb rg pk df := h
theorem DeskR.gr {S : Nat → Prop} (h : DeskR T x cs Fs kp cl hb rg pk df) (hf : Gr S T T2) (hx : x + 857 ≤ T.2.2.2.2.1) (hs : ∀ b, iv x (x + 857) b → ¬ S b) : DeskR T2 x cs Fs kp cl hb rg pk df :=
  (h.fr hf.un (fun b hb q => by rcases q with q | q; exact hs b hb q; have := hb.2; omega)).un
theorem DeskR.th (h : DeskR T x cs Fs kp cl hb rg pk df) (hz : KZ T) (hx : x + 857 ≤ T.2.2.2.2.1) : DeskR (mNw T 0 0 6) x cs Fs kp cl hb rg pk df := h.gr (S := fun _ => False) (Gr.th Fr.rf hz) hx (fun _ _ q => q)
end DK
