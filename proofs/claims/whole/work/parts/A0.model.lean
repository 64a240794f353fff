/-! the reference: its heap -/
/-- only the places in S were written -/
def Mf (S : Nat → Nat → Prop) (T T2 : mT) : Prop := T2.1 = T.1 ∧ T2.2.2.2.1 = T.2.2.2.1 ∧ T2.2.2.2.2 = T.2.2.2.2 ∧ ∀ b j, ¬ S b j → T2.2.1 b j = T.2.1 b j ∧ T2.2.2.1 b j = T.2.2.1 b j
theorem Mf.rf {S : Nat → Nat → Prop} {T : mT} : Mf S T T := ⟨rfl, rfl, rfl, fun _ _ _ => ⟨rfl, rfl⟩⟩
theorem Mf.tr {S : Nat → Nat → Prop} {T T1 T2 : mT} (h : Mf S T T1) (g : Mf S T1 T2) : Mf S T T2 := ⟨g.1.trans h.1, g.2.1.trans h.2.1, g.2.2.1.trans h.2.2.1, fun b j q => ⟨(g.2.2.2 b j q).1.trans (h.2.2.2 b j q).1, (g.2.2.2 b j q).2.trans (h.2.2.2 b j q).2⟩⟩
theorem Mf.mono {S S2 : Nat → Nat → Prop} {T T2 : mT} (h : Mf S T T2) (hs : ∀ b j, S b j → S2 b j) : Mf S2 T T2 := ⟨h.1, h.2.1, h.2.2.1, fun b j q => h.2.2.2 b j (fun z => q (hs b j z))⟩
theorem Mf.I {S : Nat → Nat → Prop} {T T2 : mT} (h : Mf S T T2) {b j : Nat} (q : ¬ S b j) : T2.2.1 b j = T.2.1 b j := (h.2.2.2 b j q).1
theorem Mf.J {S : Nat → Nat → Prop} {T T2 : mT} (h : Mf S T T2) {b j : Nat} (q : ¬ S b j) : T2.2.2.1 b j = T.2.2.1 b j := (h.2.2.2 b j q).2
theorem Mf.sI {S : Nat → Nat → Prop} {T T1 : mT} {a k : Nat} {x : Int32} (h : Mf S T T1) (q : S a k) : Mf S T (mSI T1 a k x) := h.tr ⟨rfl, rfl, rfl, fun b j z => ⟨mU_n _ _ (fun y => z (by rw [y.1, y.2]; exact q)), rfl⟩⟩
theorem Mf.sJ {S : Nat → Nat → Prop} {T T1 : mT} {a k : Nat} {x : Int64} (h : Mf S T T1) (q : S a k) : Mf S T (mSJ T1 a k x) := h.tr ⟨rfl, rfl, rfl, fun b j z => ⟨rfl, mU_n _ _ (fun y => z (by rw [y.1, y.2]; exact q))⟩⟩
theorem Mf.fr {S : Nat → Nat → Prop} {S2 : Nat → Prop} {T T2 : mT} (h : Mf S T T2) (hs : ∀ b j, S b j → S2 b) : Fr S2 T T2 := ⟨h.1, h.2.2.1, fun b q => ⟨funext (fun j => h.I (fun z => q (hs b j z))), funext (fun j => h.J (fun z => q (hs b j z))), by rw [h.2.1]⟩⟩
/-- a cell of the model itself -/
def mc (m : Nat) (js : List Nat) : Nat → Nat → Prop := fun b j => b = m ∧ j ∈ js
def ModK (T : mT) (m : Nat) : Prop := T.1 m = (12, 0) ∧ (T.2.2.2.1 m 0 = some (m + 1) ∧ T.1 (m + 1) = (21, 3)) ∧ (T.2.2.2.1 m 1 = some (m + 2) ∧ T.1 (m + 2) = (21, 72)) ∧ (T.2.2.2.1 m 2 = some (m + 3) ∧ T.1 (m + 3) = (21, 72)) ∧ (T.2.2.2.1 m 3 = some (m + 4) ∧ T.1 (m + 4) = (21, 72)) ∧ (T.2.2.2.1 m 4 = some (m + 5) ∧ T.1 (m + 5) = (21, 72)) ∧ (T.2.2.2.1 m 5 = some (m + 6) ∧ T.1 (m + 6) = (22, 72)) ∧ (T.2.2.2.1 m 6 = some (m + 7) ∧ T.1 (m + 7) = (21, 72)) ∧ (T.2.2.2.1 m 7 = some (m + 8) ∧ T.1 (m + 8) = (21, 864)) ∧ (T.2.2.2.1 m 8 = some (m + 9) ∧ T.1 (m + 9) = (21, 864)) ∧ (T.2.2.2.1 m 10 = some (m + 10) ∧ T.1 (m + 10) = (21, 12)) ∧ (T.2.2.2.1 m 11 = some (m + 11) ∧ T.1 (m + 11) = (21, 12)) ∧ (T.2.2.2.1 m 14 = some (m + 12) ∧ T.1 (m + 12) = (21, 5)) ∧ (T.2.2.2.1 m 17 = some (m + 13) ∧ T.1 (m + 13) = (23, 5)) ∧ (T.2.2.2.1 m 18 = some (m + 14) ∧ T.1 (m + 14) = (21, 5)) ∧ (T.2.2.2.1 m 19 = some (m + 15) ∧ T.1 (m + 15) = (21, 25)) ∧ (T.2.2.2.1 m 20 = some (m + 16) ∧ T.1 (m + 16) = (21, 5)) ∧ (T.2.2.2.1 m 21 = some (m + 17) ∧ T.1 (m + 17) = (21, 500)) ∧ (T.2.2.2.1 m 22 = some (m + 18) ∧ T.1 (m + 18) = (21, 500)) ∧ (T.2.2.2.1 m 23 = some (m + 19) ∧ T.1 (m + 19) = (21, 500)) ∧ (T.2.2.2.1 m 24 = some (m + 20) ∧ T.1 (m + 20) = (21, 500)) ∧ (T.2.2.2.1 m 25 = some (m + 21) ∧ T.1 (m + 21) = (21, 500)) ∧ (T.2.2.2.1 m 26 = some (m + 22) ∧ T.1 (m + 22) = (21, 500)) ∧ (T.2.2.2.1 m 27 = some (m + 23) ∧ T.1 (m + 23) = (21, 5)) ∧ (T.2.2.2.1 m 28 = some (m + 24) ∧ T.1 (m + 24) = (20, 25000)) ∧ (T.2.2.2.1 m 29 = some (m + 25) ∧ T.1 (m + 25) = (21, 5)) ∧ (T.2.2.2.1 m 30 = some (m + 26) ∧ T.1 (m + 26) = (21, 120)) ∧ (T.2.2.2.1 m 31 = some (m + 27) ∧ T.1 (m + 27) = (21, 120)) ∧ (T.2.2.2.1 m 32 = some (m + 28) ∧ T.1 (m + 28) = (21, 120)) ∧ (T.2.2.2.1 m 33 = some (m + 29) ∧ T.1 (m + 29) = (22, 120)) ∧ (T.2.2.2.1 m 34 = some (m + 30) ∧ T.1 (m + 30) = (21, 120)) ∧ (T.2.2.2.1 m 35 = some (m + 31) ∧ T.1 (m + 31) = (21, 120)) ∧ (T.2.2.2.1 m 36 = some (m + 32) ∧ T.1 (m + 32) = (21, 12000)) ∧ (T.2.2.2.1 m 38 = some (m + 33) ∧ T.1 (m + 33) = (21, 12000)) ∧ (T.2.2.2.1 m 40 = some (m + 34) ∧ T.1 (m + 34) = (21, 400)) ∧ (T.2.2.2.1 m 41 = some (m + 35) ∧ T.1 (m + 35) = (21, 400)) ∧ (T.2.2.2.1 m 42 = some (m + 36) ∧ T.1 (m + 36) = (23, 400)) ∧ (T.2.2.2.1 m 44 = some (m + 37) ∧ T.1 (m + 37) = (21, 400)) ∧ (T.2.2.2.1 m 45 = some (m + 38) ∧ T.1 (m + 38) = (21, 400)) ∧ (T.2.2.2.1 m 46 = some (m + 39) ∧ T.1 (m + 39) = (23, 400)) ∧ (T.2.2.2.1 m 48 = some (m + 40) ∧ T.1 (m + 40) = (23, 16))
theorem ModK.k {T : mT} {m : Nat} (h : ModK T m) : T.1 m = (12, 0) := h.1
theorem ModK.r0 {T : mT} {m : Nat} (h : ModK T m) : T.2.2.2.1 m 0 = some (m + 1) := h.2.1.1
theorem ModK.a0 {T : mT} {m : Nat} (h : ModK T m) : T.1 (m + 1) = (21, 3) := h.2.1.2
theorem ModK.r1 {T : mT} {m : Nat} (h : ModK T m) : T.2.2.2.1 m 1 = some (m + 2) := h.2.2.1.1
theorem ModK.a1 {T : mT} {m : Nat} (h : ModK T m) : T.1 (m + 2) = (21, 72) := h.2.2.1.2
theorem ModK.r2 {T : mT} {m : Nat} (h : ModK T m) : T.2.2.2.1 m 2 = some (m + 3) := h.2.2.2.1.1
theorem ModK.a2 {T : mT} {m : Nat} (h : ModK T m) : T.1 (m + 3) = (21, 72) := h.2.2.2.1.2
theorem ModK.r3 {T : mT} {m : Nat} (h : ModK T m) : T.2.2.2.1 m 3 = some (m + 4) := h.2.2.2.2.1.1
theorem ModK.a3 {T : mT} {m : Nat} (h : ModK T m) : T.1 (m + 4) = (21, 72) := h.2.2.2.2.1.2
theorem ModK.r4 {T : mT} {m : Nat} (h : ModK T m) : T.2.2.2.1 m 4 = some (m + 5) := h.2.2.2.2.2.1.1
theorem ModK.a4 {T : mT} {m : Nat} (h : ModK T m) : T.1 (m + 5) = (21, 72) := h.2.2.2.2.2.1.2
theorem ModK.r5 {T : mT} {m : Nat} (h : ModK T m) : T.2.2.2.1 m 5 = some (m + 6) := h.2.2.2.2.2.2.1.1
theorem ModK.a5 {T : mT} {m : Nat} (h : ModK T m) : T.1 (m + 6) = (22, 72) := h.2.2.2.2.2.2.1.2
theorem ModK.r6 {T : mT} {m : Nat} (h : ModK T m) : T.2.2.2.1 m 6 = some (m + 7) := h.2.2.2.2.2.2.2.1.1
theorem ModK.a6 {T : mT} {m : Nat} (h : ModK T m) : T.1 (m + 7) = (21, 72) := h.2.2.2.2.2.2.2.1.2
theorem ModK.r7 {T : mT} {m : Nat} (h : ModK T m) : T.2.2.2.1 m 7 = some (m + 8) := h.2.2.2.2.2.2.2.2.1.1
theorem ModK.a7 {T : mT} {m : Nat} (h : ModK T m) : T.1 (m + 8) = (21, 864) := h.2.2.2.2.2.2.2.2.1.2
theorem ModK.r8 {T : mT} {m : Nat} (h : ModK T m) : T.2.2.2.1 m 8 = some (m + 9) := h.2.2.2.2.2.2.2.2.2.1.1
theorem ModK.a8 {T : mT} {m : Nat} (h : ModK T m) : T.1 (m + 9) = (21, 864) := h.2.2.2.2.2.2.2.2.2.1.2
theorem ModK.r10 {T : mT} {m : Nat} (h : ModK T m) : T.2.2.2.1 m 10 = some (m + 10) := h.2.2.2.2.2.2.2.2.2.2.1.1
theorem ModK.a10 {T : mT} {m : Nat} (h : ModK T m) : T.1 (m + 10) = (21, 12) := h.2.2.2.2.2.2.2.2.2.2.1.2
theorem ModK.r11 {T : mT} {m : Nat} (h : ModK T m) : T.2.2.2.1 m 11 = some (m + 11) := h.2.2.2.2.2.2.2.2.2.2.2.1.1
theorem ModK.a11 {T : mT} {m : Nat} (h : ModK T m) : T.1 (m + 11) = (21, 12) := h.2.2.2.2.2.2.2.2.2.2.2.1.2
theorem ModK.r14 {T : mT} {m : Nat} (h : ModK T m) : T.2.2.2.1 m 14 = some (m + 12) := h.2.2.2.2.2.2.2.2.2.2.2.2.1.1
theorem ModK.a14 {T : mT} {m : Nat} (h : ModK T m) : T.1 (m + 12) = (21, 5) := h.2.2.2.2.2.2.2.2.2.2.2.2.1.2
theorem ModK.r17 {T : mT} {m : Nat} (h : ModK T m) : T.2.2.2.1 m 17 = some (m + 13) := h.2.2.2.2.2.2.2.2.2.2.2.2.2.1.1
theorem ModK.a17 {T : mT} {m : Nat} (h : ModK T m) : T.1 (m + 13) = (23, 5) := h.2.2.2.2.2.2.2.2.2.2.2.2.2.1.2
theorem ModK.r18 {T : mT} {m : Nat} (h : ModK T m) : T.2.2.2.1 m 18 = some (m + 14) := h.2.2.2.2.2.2.2.2.2.2.2.2.2.2.1.1
theorem ModK.a18 {T : mT} {m : Nat} (h : ModK T m) : T.1 (m + 14) = (21, 5) := h.2.2.2.2.2.2.2.2.2.2.2.2.2.2.1.2
theorem ModK.r19 {T : mT} {m : Nat} (h : ModK T m) : T.2.2.2.1 m 19 = some (m + 15) := h.2.2.2.2.2.2.2.2.2.2.2.2.2.2.2.1.1
theorem ModK.a19 {T : mT} {m : Nat} (h : ModK T m) : T.1 (m + 15) = (21, 25) := h.2.2.2.2.2.2.2.2.2.2.2.2.2.2.2.1.2
theorem ModK.r20 {T : mT} {m : Nat} (h : ModK T m) : T.2.2.2.1 m 20 = some (m + 16) := h.2.2.2.2.2.2.2.2.2.2.2.2.2.2.2.2.1.1
theorem ModK.a20 {T : mT} {m : Nat} (h : ModK T m) : T.1 (m + 16) = (21, 5) := h.2.2.2.2.2.2.2.2.2.2.2.2.2.2.2.2.1.2
theorem ModK.r21 {T : mT} {m : Nat} (h : ModK T m) : T.2.2.2.1 m 21 = some (m + 17) := h.2.2.2.2.2.2.2.2.2.2.2.2.2.2.2.2.2.1.1
theorem ModK.a21 {T : mT} {m : Nat} (h : ModK T m) : T.1 (m + 17) = (21, 500) := h.2.2.2.2.2.2.2.2.2.2.2.2.2.2.2.2.2.1.2
theorem ModK.r22 {T : mT} {m : Nat} (h : ModK T m) : T.2.2.2.1 m 22 = some (m + 18) := h.2.2.2.2.2.2.2.2.2.2.2.2.2.2.2.2.2.2.1.1
theorem ModK.a22 {T : mT} {m : Nat} (h : ModK T m) : T.1 (m + 18) = (21, 500) := h.2.2.2.2.2.2.2.2.2.2.2.2.2.2.2.2.2.2.1.2
theorem ModK.r23 {T : mT} {m : Nat} (h : ModK T m) : T.2.2.2.1 m 23 = some (m + 19) := h.2.2.2.2.2.2.2.2.2.2.2.2.2.2.2.2.2.2.2.1.1
theorem ModK.a23 {T : mT} {m : Nat} (h : ModK T m) : T.1 (m + 19) = (21, 500) := h.2.2.2.2.2.2.2.2.2.2.2.2.2.2.2.2.2.2.2.1.2
theorem ModK.r24 {T : mT} {m : Nat} (h : ModK T m) : T.2.2.2.1 m 24 = some (m + 20) := h.2.2.2.2.2.2.2.2.2.2.2.2.2.2.2.2.2.2.2.2.1.1
theorem ModK.a24 {T : mT} {m : Nat} (h : ModK T m) : T.1 (m + 20) = (21, 500) := h.2.2.2.2.2.2.2.2.2.2.2.2.2.2.2.2.2.2.2.2.1.2
theorem ModK.r25 {T : mT} {m : Nat} (h : ModK T m) : T.2.2.2.1 m 25 = some (m + 21) := h.2.2.2.2.2.2.2.2.2.2.2.2.2.2.2.2.2.2.2.2.2.1.1
theorem ModK.a25 {T : mT} {m : Nat} (h : ModK T m) : T.1 (m + 21) = (21, 500) := h.2.2.2.2.2.2.2.2.2.2.2.2.2.2.2.2.2.2.2.2.2.1.2
theorem ModK.r26 {T : mT} {m : Nat} (h : ModK T m) : T.2.2.2.1 m 26 = some (m + 22) := h.2.2.2.2.2.2.2.2.2.2.2.2.2.2.2.2.2.2.2.2.2.2.1.1
theorem ModK.a26 {T : mT} {m : Nat} (h : ModK T m) : T.1 (m + 22) = (21, 500) := h.2.2.2.2.2.2.2.2.2.2.2.2.2.2.2.2.2.2.2.2.2.2.1.2
theorem ModK.r27 {T : mT} {m : Nat} (h : ModK T m) : T.2.2.2.1 m 27 = some (m + 23) := h.2.2.2.2.2.2.2.2.2.2.2.2.2.2.2.2.2.2.2.2.2.2.2.1.1
theorem ModK.a27 {T : mT} {m : Nat} (h : ModK T m) : T.1 (m + 23) = (21, 5) := h.2.2.2.2.2.2.2.2.2.2.2.2.2.2.2.2.2.2.2.2.2.2.2.1.2
theorem ModK.r28 {T : mT} {m : Nat} (h : ModK T m) : T.2.2.2.1 m 28 = some (m + 24) := h.2.2.2.2.2.2.2.2.2.2.2.2.2.2.2.2.2.2.2.2.2.2.2.2.1.1
theorem ModK.a28 {T : mT} {m : Nat} (h : ModK T m) : T.1 (m + 24) = (20, 25000) := h.2.2.2.2.2.2.2.2.2.2.2.2.2.2.2.2.2.2.2.2.2.2.2.2.1.2
theorem ModK.r29 {T : mT} {m : Nat} (h : ModK T m) : T.2.2.2.1 m 29 = some (m + 25) := h.2.2.2.2.2.2.2.2.2.2.2.2.2.2.2.2.2.2.2.2.2.2.2.2.2.1.1
theorem ModK.a29 {T : mT} {m : Nat} (h : ModK T m) : T.1 (m + 25) = (21, 5) := h.2.2.2.2.2.2.2.2.2.2.2.2.2.2.2.2.2.2.2.2.2.2.2.2.2.1.2
theorem ModK.r30 {T : mT} {m : Nat} (h : ModK T m) : T.2.2.2.1 m 30 = some (m + 26) := h.2.2.2.2.2.2.2.2.2.2.2.2.2.2.2.2.2.2.2.2.2.2.2.2.2.2.1.1
theorem ModK.a30 {T : mT} {m : Nat} (h : ModK T m) : T.1 (m + 26) = (21, 120) := h.2.2.2.2.2.2.2.2.2.2.2.2.2.2.2.2.2.2.2.2.2.2.2.2.2.2.1.2
theorem ModK.r31 {T : mT} {m : Nat} (h : ModK T m) : T.2.2.2.1 m 31 = some (m + 27) := h.2.2.2.2.2.2.2.2.2.2.2.2.2.2.2.2.2.2.2.2.2.2.2.2.2.2.2.1.1
theorem ModK.a31 {T : mT} {m : Nat} (h : ModK T m) : T.1 (m + 27) = (21, 120) := h.2.2.2.2.2.2.2.2.2.2.2.2.2.2.2.2.2.2.2.2.2.2.2.2.2.2.2.1.2
theorem ModK.r32 {T : mT} {m : Nat} (h : ModK T m) : T.2.2.2.1 m 32 = some (m + 28) := h.2.2.2.2.2.2.2.2.2.2.2.2.2.2.2.2.2.2.2.2.2.2.2.2.2.2.2.2.1.1
theorem ModK.a32 {T : mT} {m : Nat} (h : ModK T m) : T.1 (m + 28) = (21, 120) := h.2.2.2.2.2.2.2.2.2.2.2.2.2.2.2.2.2.2.2.2.2.2.2.2.2.2.2.2.1.2
theorem ModK.r33 {T : mT} {m : Nat} (h : ModK T m) : T.2.2.2.1 m 33 = some (m + 29) := h.2.2.2.2.2.2.2.2.2.2.2.2.2.2.2.2.2.2.2.2.2.2.2.2.2.2.2.2.2.1.1
theorem ModK.a33 {T : mT} {m : Nat} (h : ModK T m) : T.1 (m + 29) = (22, 120) := h.2.2.2.2.2.2.2.2.2.2.2.2.2.2.2.2.2.2.2.2.2.2.2.2.2.2.2.2.2.1.2
theorem ModK.r34 {T : mT} {m : Nat} (h : ModK T m) : T.2.2.2.1 m 34 = some (m + 30) := h.2.2.2.2.2.2.2.2.2.2.2.2.2.2.2.2.2.2.2.2.2.2.2.2.2.2.2.2.2.2.1.1
theorem ModK.a34 {T : mT} {m : Nat} (h : ModK T m) : T.1 (m + 30) = (21, 120) := h.2.2.2.2.2.2.2.2.2.2.2.2.2.2.2.2.2.2.2.2.2.2.2.2.2.2.2.2.2.2.1.2
theorem ModK.r35 {T : mT} {m : Nat} (h : ModK T m) : T.2.2.2.1 m 35 = some (m + 31) := h.2.2.2.2.2.2.2.2.2.2.2.2.2.2.2.2.2.2.2.2.2.2.2.2.2.2.2.2.2.2.2.1.1
theorem ModK.a35 {T : mT} {m : Nat} (h : ModK T m) : T.1 (m + 31) = (21, 120) := h.2.2.2.2.2.2.2.2.2.2.2.2.2.2.2.2.2.2.2.2.2.2.2.2.2.2.2.2.2.2.2.1.2
theorem ModK.r36 {T : mT} {m : Nat} (h : ModK T m) : T.2.2.2.1 m 36 = some (m + 32) := h.2.2.2.2.2.2.2.2.2.2.2.2.2.2.2.2.2.2.2.2.2.2.2.2.2.2.2.2.2.2.2.2.1.1
theorem ModK.a36 {T : mT} {m : Nat} (h : ModK T m) : T.1 (m + 32) = (21, 12000) := h.2.2.2.2.2.2.2.2.2.2.2.2.2.2.2.2.2.2.2.2.2.2.2.2.2.2.2.2.2.2.2.2.1.2
theorem ModK.r38 {T : mT} {m : Nat} (h : ModK T m) : T.2.2.2.1 m 38 = some (m + 33) := h.2.2.2.2.2.2.2.2.2.2.2.2.2.2.2.2.2.2.2.2.2.2.2.2.2.2.2.2.2.2.2.2.2.1.1
theorem ModK.a38 {T : mT} {m : Nat} (h : ModK T m) : T.1 (m + 33) = (21, 12000) := h.2.2.2.2.2.2.2.2.2.2.2.2.2.2.2.2.2.2.2.2.2.2.2.2.2.2.2.2.2.2.2.2.2.1.2
theorem ModK.r40 {T : mT} {m : Nat} (h : ModK T m) : T.2.2.2.1 m 40 = some (m + 34) := h.2.2.2.2.2.2.2.2.2.2.2.2.2.2.2.2.2.2.2.2.2.2.2.2.2.2.2.2.2.2.2.2.2.2.1.1
theorem ModK.a40 {T : mT} {m : Nat} (h : ModK T m) : T.1 (m + 34) = (21, 400) := h.2.2.2.2.2.2.2.2.2.2.2.2.2.2.2.2.2.2.2.2.2.2.2.2.2.2.2.2.2.2.2.2.2.2.1.2
theorem ModK.r41 {T : mT} {m : Nat} (h : ModK T m) : T.2.2.2.1 m 41 = some (m + 35) := h.2.2.2.2.2.2.2.2.2.2.2.2.2.2.2.2.2.2.2.2.2.2.2.2.2.2.2.2.2.2.2.2.2.2.2.1.1
theorem ModK.a41 {T : mT} {m : Nat} (h : ModK T m) : T.1 (m + 35) = (21, 400) := h.2.2.2.2.2.2.2.2.2.2.2.2.2.2.2.2.2.2.2.2.2.2.2.2.2.2.2.2.2.2.2.2.2.2.2.1.2
theorem ModK.r42 {T : mT} {m : Nat} (h : ModK T m) : T.2.2.2.1 m 42 = some (m + 36) := h.2.2.2.2.2.2.2.2.2.2.2.2.2.2.2.2.2.2.2.2.2.2.2.2.2.2.2.2.2.2.2.2.2.2.2.2.1.1
theorem ModK.a42 {T : mT} {m : Nat} (h : ModK T m) : T.1 (m + 36) = (23, 400) := h.2.2.2.2.2.2.2.2.2.2.2.2.2.2.2.2.2.2.2.2.2.2.2.2.2.2.2.2.2.2.2.2.2.2.2.2.1.2
theorem ModK.r44 {T : mT} {m : Nat} (h : ModK T m) : T.2.2.2.1 m 44 = some (m + 37) := h.2.2.2.2.2.2.2.2.2.2.2.2.2.2.2.2.2.2.2.2.2.2.2.2.2.2.2.2.2.2.2.2.2.2.2.2.2.1.1
theorem ModK.a44 {T : mT} {m : Nat} (h : ModK T m) : T.1 (m + 37) = (21, 400) := h.2.2.2.2.2.2.2.2.2.2.2.2.2.2.2.2.2.2.2.2.2.2.2.2.2.2.2.2.2.2.2.2.2.2.2.2.2.1.2
theorem ModK.r45 {T : mT} {m : Nat} (h : ModK T m) : T.2.2.2.1 m 45 = some (m + 38) := h.2.2.2.2.2.2.2.2.2.2.2.2.2.2.2.2.2.2.2.2.2.2.2.2.2.2.2.2.2.2.2.2.2.2.2.2.2.2.1.1
theorem ModK.a45 {T : mT} {m : Nat} (h : ModK T m) : T.1 (m + 38) = (21, 400) := h.2.2.2.2.2.2.2.2.2.2.2.2.2.2.2.2.2.2.2.2.2.2.2.2.2.2.2.2.2.2.2.2.2.2.2.2.2.2.1.2
theorem ModK.r46 {T : mT} {m : Nat} (h : ModK T m) : T.2.2.2.1 m 46 = some (m + 39) := h.2.2.2.2.2.2.2.2.2.2.2.2.2.2.2.2.2.2.2.2.2.2.2.2.2.2.2.2.2.2.2.2.2.2.2.2.2.2.2.1.1
theorem ModK.a46 {T : mT} {m : Nat} (h : ModK T m) : T.1 (m + 39) = (23, 400) := h.2.2.2.2.2.2.2.2.2.2.2.2.2.2.2.2.2.2.2.2.2.2.2.2.2.2.2.2.2.2.2.2.2.2.2.2.2.2.2.1.2
theorem ModK.r48 {T : mT} {m : Nat} (h : ModK T m) : T.2.2.2.1 m 48 = some (m + 40) := h.2.2.2.2.2.2.2.2.2.2.2.2.2.2.2.2.2.2.2.2.2.2.2.2.2.2.2.2.2.2.2.2.2.2.2.2.2.2.2.2.1
theorem ModK.a48 {T : mT} {m : Nat} (h : ModK T m) : T.1 (m + 40) = (23, 16) := h.2.2.2.2.2.2.2.2.2.2.2.2.2.2.2.2.2.2.2.2.2.2.2.2.2.2.2.2.2.2.2.2.2.2.2.2.2.2.2.2.2
theorem ModK.mf {S : Nat → Nat → Prop} {T T2 : mT} {m : Nat} (h : ModK T m) (hf : Mf S T T2) : ModK T2 m := by
  unfold ModK
  rw [hf.1, hf.2.1]
  exact h
theorem nx2 (k : Nat) : (2 : Int) * (k : Int) = ((2 * k : Nat) : Int) := by omega
theorem nx5 (k : Nat) : (5 : Int) * (k : Int) = ((5 * k : Nat) : Int) := by omega
theorem nx12 (k : Nat) : (12 : Int) * (k : Int) = ((12 * k : Nat) : Int) := by omega
theorem nx24 (k : Nat) : (24 : Int) * (k : Int) = ((24 * k : Nat) : Int) := by omega
theorem nx100 (k : Nat) : (100 : Int) * (k : Int) = ((100 * k : Nat) : Int) := by omega
theorem nx5k (k : Nat) : (5000 : Int) * (k : Int) = ((5000 * k : Nat) : Int) := by omega
theorem nx0 (n : Nat) : n + 0 = n := rfl
section M0
variable {T : mT} {Q : mOut → mT → Prop} {m : Nat}
theorem m_thrown {t : Int32} (hM : ModK T m) (ht : T.2.1 m 13 = t) : XW 114 0 [some (.ref (m))] [] T Q = Q (.inl (some (.int (t)))) T := by
  simp (maxSteps := 4000000) (disch := first | (simp (disch := omega) only [XB_i, XB_n, va_rf_s, va_rf_n, mSI_K, mSI_I, mSI_J, mSI_P, mSI_N, mSJ_K, mSJ_I, mSJ_J, mSJ_P, mSJ_N, mSP_K, mSP_I, mSP_J, mSP_P, mSP_N, mNn, mNi, mNr, mN0, al20, al21, al22, al23, al25, true_or, or_true, and_self, if_true, if_false, mCat_n, mCat_i, mCat_r, mCat_l, mCat_0, Nat.reduceAdd, Nat.reduceLeDiff, Nat.reduceLT, true_and, and_true, Nat.zero_le, bI_01, mInB_J, mInB_Z, mInB_N, hM.k, ht]; done) | omega | (unfold R32 at *; omega)) only [e_114_0, e_114_0_n, e_114_1, e_114_4, XB_i, XB_n, va_rf_s, va_rf_n, mSI_K, mSI_I, mSI_J, mSI_P, mSI_N, mSJ_K, mSJ_I, mSJ_J, mSJ_P, mSJ_N, mSP_K, mSP_I, mSP_J, mSP_P, mSP_N, mNn, mNi, mNr, mN0, al20, al21, al22, al23, al25, true_or, or_true, and_self, if_true, if_false, mCat_n, mCat_i, mCat_r, mCat_l, mCat_0, Nat.reduceAdd, Nat.reduceLeDiff, Nat.reduceLT, true_and, and_true, Nat.zero_le, bI_01, bI_0, i10, tf0, iI_add, iI_sub, iI_mul, iI_neg, iI_add1, iI_sub1, iI_m1, nca, nc1, ncm1, iI_clJ, iI_cl0, iI_clN, Int.toNat_natCast, mU_n, mU_s, p_min, p_max, p_abs, ni_2, ni_3, ni_4, ni_7, ni_8, ni_9, ni_12, ni_24, ni_97, ni_100, ni_122, ni_200, ni_256, ni_4096, ni_5000, ni_9999, iI_lt, iI_le, iI_eq, iz_eq, iz_lt, iz_le, iz_gt, iz_ge, iy_eq, iy_lt, iy_le, iI_ltN, iI_leN, iI_eqN, if_pos, if_neg, hM.k, ht]
theorem m_within {x l h : Int} (hx : R32 x) (hl : R32 l) (hh : R32 h) : XW 115 0 [some (.int (iI (x))), some (.int (iI (l))), some (.int (iI (h)))] [] T Q = Q (.inl (some (.int (bI (decide (l ≤ x) && decide (x ≤ h)))))) T := by
  by_cases q1 : l ≤ x
  · by_cases q2 : x ≤ h
    · rw [decide_eq_true q1, decide_eq_true q2]
      simp (maxSteps := 4000000) (disch := first | (simp (disch := omega) only [XB_i, XB_n, va_rf_s, va_rf_n, mSI_K, mSI_I, mSI_J, mSI_P, mSI_N, mSJ_K, mSJ_I, mSJ_J, mSJ_P, mSJ_N, mSP_K, mSP_I, mSP_J, mSP_P, mSP_N, mNn, mNi, mNr, mN0, al20, al21, al22, al23, al25, true_or, or_true, and_self, if_true, if_false, mCat_n, mCat_i, mCat_r, mCat_l, mCat_0, Nat.reduceAdd, Nat.reduceLeDiff, Nat.reduceLT, true_and, and_true, Nat.zero_le, bI_01, mInB_J, mInB_Z, mInB_N]; done) | omega | (unfold R32 at *; omega)) only [e_115_0, e_115_1, e_115_2, e_115_5, e_115_6, e_115_7, e_115_10, e_115_11, e_115_14, e_115_15, XB_i, XB_n, va_rf_s, va_rf_n, mSI_K, mSI_I, mSI_J, mSI_P, mSI_N, mSJ_K, mSJ_I, mSJ_J, mSJ_P, mSJ_N, mSP_K, mSP_I, mSP_J, mSP_P, mSP_N, mNn, mNi, mNr, mN0, al20, al21, al22, al23, al25, true_or, or_true, and_self, if_true, if_false, mCat_n, mCat_i, mCat_r, mCat_l, mCat_0, Nat.reduceAdd, Nat.reduceLeDiff, Nat.reduceLT, true_and, and_true, Nat.zero_le, bI_01, bI_0, i10, tf0, iI_add, iI_sub, iI_mul, iI_neg, iI_add1, iI_sub1, iI_m1, nca, nc1, ncm1, iI_clJ, iI_cl0, iI_clN, Int.toNat_natCast, mU_n, mU_s, p_min, p_max, p_abs, ni_2, ni_3, ni_4, ni_7, ni_8, ni_9, ni_12, ni_24, ni_97, ni_100, ni_122, ni_200, ni_256, ni_4096, ni_5000, ni_9999, iI_lt, iI_le, iI_eq, iz_eq, iz_lt, iz_le, iz_gt, iz_ge, iy_eq, iy_lt, iy_le, iI_ltN, iI_leN, iI_eqN, if_pos, if_neg]
      rfl
    · rw [decide_eq_true q1, decide_eq_false q2]
      simp (maxSteps := 4000000) (disch := first | (simp (disch := omega) only [XB_i, XB_n, va_rf_s, va_rf_n, mSI_K, mSI_I, mSI_J, mSI_P, mSI_N, mSJ_K, mSJ_I, mSJ_J, mSJ_P, mSJ_N, mSP_K, mSP_I, mSP_J, mSP_P, mSP_N, mNn, mNi, mNr, mN0, al20, al21, al22, al23, al25, true_or, or_true, and_self, if_true, if_false, mCat_n, mCat_i, mCat_r, mCat_l, mCat_0, Nat.reduceAdd, Nat.reduceLeDiff, Nat.reduceLT, true_and, and_true, Nat.zero_le, bI_01, mInB_J, mInB_Z, mInB_N]; done) | omega | (unfold R32 at *; omega)) only [e_115_0, e_115_1, e_115_2, e_115_5, e_115_6, e_115_7, e_115_10, e_115_11, e_115_14, e_115_15, XB_i, XB_n, va_rf_s, va_rf_n, mSI_K, mSI_I, mSI_J, mSI_P, mSI_N, mSJ_K, mSJ_I, mSJ_J, mSJ_P, mSJ_N, mSP_K, mSP_I, mSP_J, mSP_P, mSP_N, mNn, mNi, mNr, mN0, al20, al21, al22, al23, al25, true_or, or_true, and_self, if_true, if_false, mCat_n, mCat_i, mCat_r, mCat_l, mCat_0, Nat.reduceAdd, Nat.reduceLeDiff, Nat.reduceLT, true_and, and_true, Nat.zero_le, bI_01, bI_0, i10, tf0, iI_add, iI_sub, iI_mul, iI_neg, iI_add1, iI_sub1, iI_m1, nca, nc1, ncm1, iI_clJ, iI_cl0, iI_clN, Int.toNat_natCast, mU_n, mU_s, p_min, p_max, p_abs, ni_2, ni_3, ni_4, ni_7, ni_8, ni_9, ni_12, ni_24, ni_97, ni_100, ni_122, ni_200, ni_256, ni_4096, ni_5000, ni_9999, iI_lt, iI_le, iI_eq, iz_eq, iz_lt, iz_le, iz_gt, iz_ge, iy_eq, iy_lt, iy_le, iI_ltN, iI_leN, iI_eqN, if_pos, if_neg]
      rfl
  · rw [decide_eq_false q1]
    simp (maxSteps := 4000000) (disch := first | (simp (disch := omega) only [XB_i, XB_n, va_rf_s, va_rf_n, mSI_K, mSI_I, mSI_J, mSI_P, mSI_N, mSJ_K, mSJ_I, mSJ_J, mSJ_P, mSJ_N, mSP_K, mSP_I, mSP_J, mSP_P, mSP_N, mNn, mNi, mNr, mN0, al20, al21, al22, al23, al25, true_or, or_true, and_self, if_true, if_false, mCat_n, mCat_i, mCat_r, mCat_l, mCat_0, Nat.reduceAdd, Nat.reduceLeDiff, Nat.reduceLT, true_and, and_true, Nat.zero_le, bI_01, mInB_J, mInB_Z, mInB_N]; done) | omega | (unfold R32 at *; omega)) only [e_115_0, e_115_1, e_115_2, e_115_5, e_115_6, e_115_7, e_115_10, e_115_11, e_115_14, e_115_15, XB_i, XB_n, va_rf_s, va_rf_n, mSI_K, mSI_I, mSI_J, mSI_P, mSI_N, mSJ_K, mSJ_I, mSJ_J, mSJ_P, mSJ_N, mSP_K, mSP_I, mSP_J, mSP_P, mSP_N, mNn, mNi, mNr, mN0, al20, al21, al22, al23, al25, true_or, or_true, and_self, if_true, if_false, mCat_n, mCat_i, mCat_r, mCat_l, mCat_0, Nat.reduceAdd, Nat.reduceLeDiff, Nat.reduceLT, true_and, and_true, Nat.zero_le, bI_01, bI_0, i10, tf0, iI_add, iI_sub, iI_mul, iI_neg, iI_add1, iI_sub1, iI_m1, nca, nc1, ncm1, iI_clJ, iI_cl0, iI_clN, Int.toNat_natCast, mU_n, mU_s, p_min, p_max, p_abs, ni_2, ni_3, ni_4, ni_7, ni_8, ni_9, ni_12, ni_24, ni_97, ni_100, ni_122, ni_200, ni_256, ni_4096, ni_5000, ni_9999, iI_lt, iI_le, iI_eq, iz_eq, iz_lt, iz_le, iz_gt, iz_ge, iy_eq, iy_lt, iy_le, iI_ltN, iI_leN, iI_eqN, if_pos, if_neg]
    rfl
def iwB (x : Int) : Bool := decide (0 ≤ x) && decide (x ≤ 4095)
theorem m_inWorld {x : Int} (hx : R32 x) : XW 116 0 [some (.int (iI (x)))] [] T Q = Q (.inl (some (.int (bI (iwB x))))) T := by
  have e1 : (0 : Int32) = iI 0 := rfl
  have e2 : (4095 : Int32) = iI 4095 := rfl
  have pw := fun Q => @m_within T Q x 0 4095 hx ⟨by omega, by omega⟩ ⟨by omega, by omega⟩
  have pw' : ∀ Q, XW 115 0 [some (.int (iI (x))), some (.int (0)), some (.int (4095))] [] T Q = Q (.inl (some (.int (bI (iwB x))))) T := pw
  simp only [e_116_0, e_116_1, e_116_2, e_116_8, d_116_5, XB_i, XB_n, va_rf_s, va_rf_n, mSI_K, mSI_I, mSI_J, mSI_P, mSI_N, mSJ_K, mSJ_I, mSJ_J, mSJ_P, mSJ_N, mSP_K, mSP_I, mSP_J, mSP_P, mSP_N, mNn, mNi, mNr, mN0, al20, al21, al22, al23, al25, true_or, or_true, and_self, if_true, if_false, mCat_n, mCat_i, mCat_r, mCat_l, mCat_0, Nat.reduceAdd, Nat.reduceLeDiff, Nat.reduceLT, true_and, and_true, Nat.zero_le, bI_01, pw']
end M0
