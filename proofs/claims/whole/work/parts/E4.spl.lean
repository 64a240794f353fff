/-! the sixteen calls round them -/
theorem hdl_is {k pc z h : Nat} (hz : hdl k pc z = some h) : (k, pc, z, h) ∈ hdlL := by
  unfold hdl at hz
  cases e : hdlL.find? (fun q => Nat.beq q.1 k && (Nat.beq q.2.1 pc && Nat.beq q.2.2.1 z)) with
  | none => rw [e] at hz; cases hz
  | some q =>
    rw [e] at hz
    have h1 := List.find?_some e
    have h2 := List.mem_of_find?_eq_some e
    simp only [Bool.and_eq_true] at h1
    obtain ⟨q1, q2, q3, q4⟩ := q
    have e1 : q1 = k := Nat.eq_of_beq_eq_true h1.1
    have e2 : q2 = pc := Nat.eq_of_beq_eq_true h1.2.1
    have e3 : q3 = z := Nat.eq_of_beq_eq_true h1.2.2
    have e4 : q4 = h := by simpa using hz
    subst e1; subst e2; subst e3; subst e4
    exact h2
theorem ca_185 : mCaOk mth rFt rLt 185 11 3 93 6 10 := ⟨(mWs_in (List.mem_of_getElem? (i := 540) (by decide +kernel)) (by decide +kernel)), (mWs_in (List.mem_of_getElem? (i := 70) (by decide +kernel)) (by decide +kernel)), by decide, by decide +kernel, by decide, 7, 5, by decide +kernel, Or.inr (Or.inr (Or.inl ⟨rfl, rfl, by decide +kernel, (mWs_in (List.mem_of_getElem? (i := 537) (by decide +kernel)) (by decide +kernel)), (mWs_in (List.mem_of_getElem? (i := 538) (by decide +kernel)) (by decide +kernel)), _, rfl, by decide, (mWs_in (List.mem_of_getElem? (i := 539) (by decide +kernel)) (by decide +kernel))⟩))⟩
theorem hd_185 : ∀ z h, hdl 185 11 z = some h → mHd (mth 185).1.cls [(0, 16, 19, 13), (0, 16, 23, 15)] 11 z h := by
  intro z h hz
  have h1 := hdl_is hz
  simp only [hdlL, List.mem_cons, List.not_mem_nil, or_false, Prod.mk.injEq] at h1
  have h2 : (z = 0 ∧ h = 19) ∨ (z = 1 ∧ h = 23) := by omega
  rcases h2 with ⟨rfl, rfl⟩ | ⟨rfl, rfl⟩
  · exact ⟨[], ⟨0, 16, 19, 13⟩, [⟨0, 16, 23, 15⟩], rfl, rfl, by decide, by decide, (mWs_in (List.mem_of_getElem? (i := 535) (by decide +kernel)) (by decide +kernel)), List.mem_of_getElem? (i := 610) (by decide +kernel), fun y hy => absurd hy List.not_mem_nil⟩
  · exact ⟨[⟨0, 16, 19, 13⟩], ⟨0, 16, 23, 15⟩, [], rfl, rfl, by decide, by decide, (mWs_in (List.mem_of_getElem? (i := 536) (by decide +kernel)) (by decide +kernel)), List.mem_of_getElem? (i := 678) (by decide +kernel), fun y hy => by cases List.mem_singleton.mp hy; exact ⟨by decide, by decide, rfl, Or.inl (mWs_in (List.mem_of_getElem? (i := 535) (by decide +kernel)) (by decide +kernel))⟩⟩
theorem sp_185 {l : Launch} : mSpOk l mth rFt rLt hdl 185 11 10 93 6 10 := m_sp10 ca_185 (cc := (mth 185).2.1) (nn := (mth 185).2.2.1) (rr := (mth 185).2.2.2) (mWs_in (List.mem_of_getElem? (i := 534) (by decide +kernel)) (by decide +kernel)) hd_185
theorem ca_186 : mCaOk mth rFt rLt 186 9 3 96 5 10 := ⟨(mWs_in (List.mem_of_getElem? (i := 699) (by decide +kernel)) (by decide +kernel)), (mWs_in (List.mem_of_getElem? (i := 70) (by decide +kernel)) (by decide +kernel)), by decide, by decide +kernel, by decide, 17, 4, by decide +kernel, Or.inr (Or.inr (Or.inl ⟨rfl, rfl, by decide +kernel, (mWs_in (List.mem_of_getElem? (i := 696) (by decide +kernel)) (by decide +kernel)), (mWs_in (List.mem_of_getElem? (i := 697) (by decide +kernel)) (by decide +kernel)), _, rfl, by decide, (mWs_in (List.mem_of_getElem? (i := 698) (by decide +kernel)) (by decide +kernel))⟩))⟩
theorem hd_186 : ∀ z h, hdl 186 9 z = some h → mHd (mth 186).1.cls [(0, 14, 17, 21)] 9 z h := by
  intro z h hz
  have h1 := hdl_is hz
  simp only [hdlL, List.mem_cons, List.not_mem_nil, or_false, Prod.mk.injEq] at h1
  have h2 : (z = 2 ∧ h = 17) := by omega
  rcases h2 with ⟨rfl, rfl⟩
  · exact ⟨[], ⟨0, 14, 17, 21⟩, [], rfl, rfl, by decide, by decide, (mWs_in (List.mem_of_getElem? (i := 695) (by decide +kernel)) (by decide +kernel)), List.mem_of_getElem? (i := 710) (by decide +kernel), fun y hy => absurd hy List.not_mem_nil⟩
theorem sp_186 {l : Launch} : mSpOk l mth rFt rLt hdl 186 9 10 96 5 10 := m_sp10 ca_186 (cc := (mth 186).2.1) (nn := (mth 186).2.2.1) (rr := (mth 186).2.2.2) (mWs_in (List.mem_of_getElem? (i := 694) (by decide +kernel)) (by decide +kernel)) hd_186
theorem ca_187 : mCaOk mth rFt rLt 187 8 3 98 6 10 := ⟨(mWs_in (List.mem_of_getElem? (i := 855) (by decide +kernel)) (by decide +kernel)), (mWs_in (List.mem_of_getElem? (i := 70) (by decide +kernel)) (by decide +kernel)), by decide, by decide +kernel, by decide, 23, 5, by decide +kernel, Or.inr (Or.inr (Or.inl ⟨rfl, rfl, by decide +kernel, (mWs_in (List.mem_of_getElem? (i := 852) (by decide +kernel)) (by decide +kernel)), (mWs_in (List.mem_of_getElem? (i := 853) (by decide +kernel)) (by decide +kernel)), _, rfl, by decide, (mWs_in (List.mem_of_getElem? (i := 854) (by decide +kernel)) (by decide +kernel))⟩))⟩
theorem hd_187 : ∀ z h, hdl 187 8 z = some h → mHd (mth 187).1.cls [(0, 11, 14, 13)] 8 z h := by
  intro z h hz
  have h1 := hdl_is hz
  simp only [hdlL, List.mem_cons, List.not_mem_nil, or_false, Prod.mk.injEq] at h1
  have h2 : (z = 0 ∧ h = 14) := by omega
  rcases h2 with ⟨rfl, rfl⟩
  · exact ⟨[], ⟨0, 11, 14, 13⟩, [], rfl, rfl, by decide, by decide, (mWs_in (List.mem_of_getElem? (i := 535) (by decide +kernel)) (by decide +kernel)), List.mem_of_getElem? (i := 610) (by decide +kernel), fun y hy => absurd hy List.not_mem_nil⟩
theorem sp_187 {l : Launch} : mSpOk l mth rFt rLt hdl 187 8 10 98 6 10 := m_sp10 ca_187 (cc := (mth 187).2.1) (nn := (mth 187).2.2.1) (rr := (mth 187).2.2.2) (mWs_in (List.mem_of_getElem? (i := 851) (by decide +kernel)) (by decide +kernel)) hd_187
theorem ca_188 : mCaOk mth rFt rLt 188 4 3 99 2 10 := ⟨(mWs_in (List.mem_of_getElem? (i := 868) (by decide +kernel)) (by decide +kernel)), (mWs_in (List.mem_of_getElem? (i := 70) (by decide +kernel)) (by decide +kernel)), by decide, by decide +kernel, by decide, 27, 1, by decide +kernel, Or.inr (Or.inr (Or.inl ⟨rfl, rfl, by decide +kernel, (mWs_in (List.mem_of_getElem? (i := 865) (by decide +kernel)) (by decide +kernel)), (mWs_in (List.mem_of_getElem? (i := 866) (by decide +kernel)) (by decide +kernel)), _, rfl, by decide, (mWs_in (List.mem_of_getElem? (i := 867) (by decide +kernel)) (by decide +kernel))⟩))⟩
theorem hd_188 : ∀ z h, hdl 188 4 z = some h → mHd (mth 188).1.cls [(0, 9, 12, 21), (0, 9, 15, 15)] 4 z h := by
  intro z h hz
  have h1 := hdl_is hz
  simp only [hdlL, List.mem_cons, List.not_mem_nil, or_false, Prod.mk.injEq] at h1
  have h2 : (z = 2 ∧ h = 12) ∨ (z = 1 ∧ h = 15) := by omega
  rcases h2 with ⟨rfl, rfl⟩ | ⟨rfl, rfl⟩
  · exact ⟨[], ⟨0, 9, 12, 21⟩, [⟨0, 9, 15, 15⟩], rfl, rfl, by decide, by decide, (mWs_in (List.mem_of_getElem? (i := 695) (by decide +kernel)) (by decide +kernel)), List.mem_of_getElem? (i := 710) (by decide +kernel), fun y hy => absurd hy List.not_mem_nil⟩
  · exact ⟨[⟨0, 9, 12, 21⟩], ⟨0, 9, 15, 15⟩, [], rfl, rfl, by decide, by decide, (mWs_in (List.mem_of_getElem? (i := 536) (by decide +kernel)) (by decide +kernel)), List.mem_of_getElem? (i := 678) (by decide +kernel), fun y hy => by cases List.mem_singleton.mp hy; exact ⟨by decide, by decide, rfl, Or.inr (mWs_in (List.mem_of_getElem? (i := 695) (by decide +kernel)) (by decide +kernel))⟩⟩
theorem sp_188 {l : Launch} : mSpOk l mth rFt rLt hdl 188 4 10 99 2 10 := m_sp10 ca_188 (cc := (mth 188).2.1) (nn := (mth 188).2.2.1) (rr := (mth 188).2.2.2) (mWs_in (List.mem_of_getElem? (i := 864) (by decide +kernel)) (by decide +kernel)) hd_188
theorem ca_189 : mCaOk mth rFt rLt 189 5 3 103 3 10 := ⟨(mWs_in (List.mem_of_getElem? (i := 931) (by decide +kernel)) (by decide +kernel)), (mWs_in (List.mem_of_getElem? (i := 70) (by decide +kernel)) (by decide +kernel)), by decide, by decide +kernel, by decide, 31, 2, by decide +kernel, Or.inr (Or.inr (Or.inl ⟨rfl, rfl, by decide +kernel, (mWs_in (List.mem_of_getElem? (i := 928) (by decide +kernel)) (by decide +kernel)), (mWs_in (List.mem_of_getElem? (i := 929) (by decide +kernel)) (by decide +kernel)), _, rfl, by decide, (mWs_in (List.mem_of_getElem? (i := 930) (by decide +kernel)) (by decide +kernel))⟩))⟩
theorem hd_189 : ∀ z h, hdl 189 5 z = some h → mHd (mth 189).1.cls [(0, 10, 13, 21), (0, 10, 17, 15)] 5 z h := by
  intro z h hz
  have h1 := hdl_is hz
  simp only [hdlL, List.mem_cons, List.not_mem_nil, or_false, Prod.mk.injEq] at h1
  have h2 : (z = 2 ∧ h = 13) ∨ (z = 1 ∧ h = 17) := by omega
  rcases h2 with ⟨rfl, rfl⟩ | ⟨rfl, rfl⟩
  · exact ⟨[], ⟨0, 10, 13, 21⟩, [⟨0, 10, 17, 15⟩], rfl, rfl, by decide, by decide, (mWs_in (List.mem_of_getElem? (i := 695) (by decide +kernel)) (by decide +kernel)), List.mem_of_getElem? (i := 710) (by decide +kernel), fun y hy => absurd hy List.not_mem_nil⟩
  · exact ⟨[⟨0, 10, 13, 21⟩], ⟨0, 10, 17, 15⟩, [], rfl, rfl, by decide, by decide, (mWs_in (List.mem_of_getElem? (i := 536) (by decide +kernel)) (by decide +kernel)), List.mem_of_getElem? (i := 678) (by decide +kernel), fun y hy => by cases List.mem_singleton.mp hy; exact ⟨by decide, by decide, rfl, Or.inr (mWs_in (List.mem_of_getElem? (i := 695) (by decide +kernel)) (by decide +kernel))⟩⟩
theorem sp_189 {l : Launch} : mSpOk l mth rFt rLt hdl 189 5 10 103 3 10 := m_sp10 ca_189 (cc := (mth 189).2.1) (nn := (mth 189).2.2.1) (rr := (mth 189).2.2.2) (mWs_in (List.mem_of_getElem? (i := 927) (by decide +kernel)) (by decide +kernel)) hd_189
theorem ca_190 : mCaOk mth rFt rLt 190 3 3 105 1 10 := ⟨(mWs_in (List.mem_of_getElem? (i := 955) (by decide +kernel)) (by decide +kernel)), (mWs_in (List.mem_of_getElem? (i := 70) (by decide +kernel)) (by decide +kernel)), by decide, by decide +kernel, by decide, 35, 0, by decide +kernel, Or.inr (Or.inr (Or.inl ⟨rfl, rfl, by decide +kernel, (mWs_in (List.mem_of_getElem? (i := 952) (by decide +kernel)) (by decide +kernel)), (mWs_in (List.mem_of_getElem? (i := 953) (by decide +kernel)) (by decide +kernel)), _, rfl, by decide, (mWs_in (List.mem_of_getElem? (i := 954) (by decide +kernel)) (by decide +kernel))⟩))⟩
theorem hd_190 : ∀ z h, hdl 190 3 z = some h → mHd (mth 190).1.cls [(0, 8, 11, 15)] 3 z h := by
  intro z h hz
  have h1 := hdl_is hz
  simp only [hdlL, List.mem_cons, List.not_mem_nil, or_false, Prod.mk.injEq] at h1
  have h2 : (z = 1 ∧ h = 11) := by omega
  rcases h2 with ⟨rfl, rfl⟩
  · exact ⟨[], ⟨0, 8, 11, 15⟩, [], rfl, rfl, by decide, by decide, (mWs_in (List.mem_of_getElem? (i := 536) (by decide +kernel)) (by decide +kernel)), List.mem_of_getElem? (i := 678) (by decide +kernel), fun y hy => absurd hy List.not_mem_nil⟩
theorem sp_190 {l : Launch} : mSpOk l mth rFt rLt hdl 190 3 10 105 1 10 := m_sp10 ca_190 (cc := (mth 190).2.1) (nn := (mth 190).2.2.1) (rr := (mth 190).2.2.2) (mWs_in (List.mem_of_getElem? (i := 951) (by decide +kernel)) (by decide +kernel)) hd_190
theorem ca_191 : mCaOk mth rFt rLt 191 6 3 106 3 10 := ⟨(mWs_in (List.mem_of_getElem? (i := 979) (by decide +kernel)) (by decide +kernel)), (mWs_in (List.mem_of_getElem? (i := 70) (by decide +kernel)) (by decide +kernel)), by decide, by decide +kernel, by decide, 39, 2, by decide +kernel, Or.inr (Or.inr (Or.inl ⟨rfl, rfl, by decide +kernel, (mWs_in (List.mem_of_getElem? (i := 976) (by decide +kernel)) (by decide +kernel)), (mWs_in (List.mem_of_getElem? (i := 977) (by decide +kernel)) (by decide +kernel)), _, rfl, by decide, (mWs_in (List.mem_of_getElem? (i := 978) (by decide +kernel)) (by decide +kernel))⟩))⟩
theorem hd_191 : ∀ z h, hdl 191 6 z = some h → mHd (mth 191).1.cls [(0, 11, 14, 43)] 6 z h := by
  intro z h hz
  have h1 := hdl_is hz
  simp only [hdlL, List.mem_cons, List.not_mem_nil, or_false, Prod.mk.injEq] at h1
  have h2 : (z = 3 ∧ h = 14) := by omega
  rcases h2 with ⟨rfl, rfl⟩
  · exact ⟨[], ⟨0, 11, 14, 43⟩, [], rfl, rfl, by decide, by decide, (mWs_in (List.mem_of_getElem? (i := 975) (by decide +kernel)) (by decide +kernel)), List.mem_of_getElem? (i := 1005) (by decide +kernel), fun y hy => absurd hy List.not_mem_nil⟩
theorem sp_191 {l : Launch} : mSpOk l mth rFt rLt hdl 191 6 10 106 3 10 := m_sp10 ca_191 (cc := (mth 191).2.1) (nn := (mth 191).2.2.1) (rr := (mth 191).2.2.2) (mWs_in (List.mem_of_getElem? (i := 974) (by decide +kernel)) (by decide +kernel)) hd_191
theorem ca_192 : mCaOk mth rFt rLt 192 9 3 107 5 10 := ⟨(mWs_in (List.mem_of_getElem? (i := 1025) (by decide +kernel)) (by decide +kernel)), (mWs_in (List.mem_of_getElem? (i := 70) (by decide +kernel)) (by decide +kernel)), by decide, by decide +kernel, by decide, 45, 4, by decide +kernel, Or.inr (Or.inr (Or.inl ⟨rfl, rfl, by decide +kernel, (mWs_in (List.mem_of_getElem? (i := 1022) (by decide +kernel)) (by decide +kernel)), (mWs_in (List.mem_of_getElem? (i := 1023) (by decide +kernel)) (by decide +kernel)), _, rfl, by decide, (mWs_in (List.mem_of_getElem? (i := 1024) (by decide +kernel)) (by decide +kernel))⟩))⟩
theorem hd_192 : ∀ z h, hdl 192 9 z = some h → mHd (mth 192).1.cls [(0, 14, 17, 43)] 9 z h := by
  intro z h hz
  have h1 := hdl_is hz
  simp only [hdlL, List.mem_cons, List.not_mem_nil, or_false, Prod.mk.injEq] at h1
  have h2 : (z = 3 ∧ h = 17) := by omega
  rcases h2 with ⟨rfl, rfl⟩
  · exact ⟨[], ⟨0, 14, 17, 43⟩, [], rfl, rfl, by decide, by decide, (mWs_in (List.mem_of_getElem? (i := 975) (by decide +kernel)) (by decide +kernel)), List.mem_of_getElem? (i := 1005) (by decide +kernel), fun y hy => absurd hy List.not_mem_nil⟩
theorem sp_192 {l : Launch} : mSpOk l mth rFt rLt hdl 192 9 10 107 5 10 := m_sp10 ca_192 (cc := (mth 192).2.1) (nn := (mth 192).2.2.1) (rr := (mth 192).2.2.2) (mWs_in (List.mem_of_getElem? (i := 1021) (by decide +kernel)) (by decide +kernel)) hd_192
theorem st_185 {l : Launch} : mSpOk l mth rFt rLt hdl 193 206 11 185 7 0 := m_sp11 (hh := [(0, 16, 19, 13), (0, 16, 23, 15)]) ⟨⟨(mWs_in (List.mem_of_getElem? (i := 534) (by decide +kernel)) (by decide +kernel)), (mWs_in (List.mem_of_getElem? (i := 69) (by decide +kernel)) (by decide +kernel)), (mWs_in (List.mem_of_getElem? (i := 533) (by decide +kernel)) (by decide +kernel))⟩, by decide, by decide +kernel, by decide, 59, by decide +kernel, by decide +kernel, (mWs_in (List.mem_of_getElem? (i := 532) (by decide +kernel)) (by decide +kernel))⟩ (hdl_no (by decide))
theorem st_186 {l : Launch} : mSpOk l mth rFt rLt hdl 193 359 11 186 6 0 := m_sp11 (hh := [(0, 14, 17, 21)]) ⟨⟨(mWs_in (List.mem_of_getElem? (i := 694) (by decide +kernel)) (by decide +kernel)), (mWs_in (List.mem_of_getElem? (i := 69) (by decide +kernel)) (by decide +kernel)), (mWs_in (List.mem_of_getElem? (i := 693) (by decide +kernel)) (by decide +kernel))⟩, by decide, by decide +kernel, by decide, 77, by decide +kernel, by decide +kernel, (mWs_in (List.mem_of_getElem? (i := 692) (by decide +kernel)) (by decide +kernel))⟩ (hdl_no (by decide))
theorem st_187 {l : Launch} : mSpOk l mth rFt rLt hdl 193 481 11 187 6 0 := m_sp11 (hh := [(0, 11, 14, 13)]) ⟨⟨(mWs_in (List.mem_of_getElem? (i := 851) (by decide +kernel)) (by decide +kernel)), (mWs_in (List.mem_of_getElem? (i := 69) (by decide +kernel)) (by decide +kernel)), (mWs_in (List.mem_of_getElem? (i := 850) (by decide +kernel)) (by decide +kernel))⟩, by decide, by decide +kernel, by decide, 85, by decide +kernel, by decide +kernel, (mWs_in (List.mem_of_getElem? (i := 849) (by decide +kernel)) (by decide +kernel))⟩ (hdl_no (by decide))
theorem st_188 {l : Launch} : mSpOk l mth rFt rLt hdl 193 542 11 188 3 0 := m_sp11 (hh := [(0, 9, 12, 21), (0, 9, 15, 15)]) ⟨⟨(mWs_in (List.mem_of_getElem? (i := 864) (by decide +kernel)) (by decide +kernel)), (mWs_in (List.mem_of_getElem? (i := 69) (by decide +kernel)) (by decide +kernel)), (mWs_in (List.mem_of_getElem? (i := 863) (by decide +kernel)) (by decide +kernel))⟩, by decide, by decide +kernel, by decide, 89, by decide +kernel, by decide +kernel, (mWs_in (List.mem_of_getElem? (i := 862) (by decide +kernel)) (by decide +kernel))⟩ (hdl_no (by decide))
theorem st_189 {l : Launch} : mSpOk l mth rFt rLt hdl 193 715 11 189 4 0 := m_sp11 (hh := [(0, 10, 13, 21), (0, 10, 17, 15)]) ⟨⟨(mWs_in (List.mem_of_getElem? (i := 927) (by decide +kernel)) (by decide +kernel)), (mWs_in (List.mem_of_getElem? (i := 69) (by decide +kernel)) (by decide +kernel)), (mWs_in (List.mem_of_getElem? (i := 926) (by decide +kernel)) (by decide +kernel))⟩, by decide, by decide +kernel, by decide, 106, by decide +kernel, by decide +kernel, (mWs_in (List.mem_of_getElem? (i := 925) (by decide +kernel)) (by decide +kernel))⟩ (hdl_no (by decide))
theorem st_190 {l : Launch} : mSpOk l mth rFt rLt hdl 193 808 11 190 2 0 := m_sp11 (hh := [(0, 8, 11, 15)]) ⟨⟨(mWs_in (List.mem_of_getElem? (i := 951) (by decide +kernel)) (by decide +kernel)), (mWs_in (List.mem_of_getElem? (i := 69) (by decide +kernel)) (by decide +kernel)), (mWs_in (List.mem_of_getElem? (i := 950) (by decide +kernel)) (by decide +kernel))⟩, by decide, by decide +kernel, by decide, 114, by decide +kernel, by decide +kernel, (mWs_in (List.mem_of_getElem? (i := 949) (by decide +kernel)) (by decide +kernel))⟩ (hdl_no (by decide))
theorem st_191 {l : Launch} : mSpOk l mth rFt rLt hdl 193 880 11 191 4 0 := m_sp11 (hh := [(0, 11, 14, 43)]) ⟨⟨(mWs_in (List.mem_of_getElem? (i := 974) (by decide +kernel)) (by decide +kernel)), (mWs_in (List.mem_of_getElem? (i := 69) (by decide +kernel)) (by decide +kernel)), (mWs_in (List.mem_of_getElem? (i := 973) (by decide +kernel)) (by decide +kernel))⟩, by decide, by decide +kernel, by decide, 118, by decide +kernel, by decide +kernel, (mWs_in (List.mem_of_getElem? (i := 972) (by decide +kernel)) (by decide +kernel))⟩ (hdl_no (by decide))
theorem st_192 {l : Launch} : mSpOk l mth rFt rLt hdl 193 976 11 192 6 0 := m_sp11 (hh := [(0, 14, 17, 43)]) ⟨⟨(mWs_in (List.mem_of_getElem? (i := 1021) (by decide +kernel)) (by decide +kernel)), (mWs_in (List.mem_of_getElem? (i := 69) (by decide +kernel)) (by decide +kernel)), (mWs_in (List.mem_of_getElem? (i := 1020) (by decide +kernel)) (by decide +kernel))⟩, by decide, by decide +kernel, by decide, 122, by decide +kernel, by decide +kernel, (mWs_in (List.mem_of_getElem? (i := 1019) (by decide +kernel)) (by decide +kernel))⟩ (hdl_no (by decide))
theorem mSpl_ok {l : Launch} : mSpl l := by
  intro q hq
  simp only [splL, List.mem_cons, List.not_mem_nil, or_false] at hq
  rcases hq with rfl | rfl | rfl | rfl | rfl | rfl | rfl | rfl | rfl | rfl | rfl | rfl | rfl | rfl | rfl | rfl
  · exact sp_185
  · exact sp_186
  · exact sp_187
  · exact sp_188
  · exact sp_189
  · exact sp_190
  · exact sp_191
  · exact sp_192
  · exact st_185
  · exact st_186
  · exact st_187
  · exact st_188
  · exact st_189
  · exact st_190
  · exact st_191
  · exact st_192
