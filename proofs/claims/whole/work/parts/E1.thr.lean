/-! the eleven throws -/
def b13 : ByteArray := ⟨#[0x2a, 0x2b, 0xb7, 0x00, 0x0d, 0xb1]⟩
def icz (z : Nat) : Nat × Nat × Nat × ByteArray := match z with
  | 0 => (91, 95, 7, Bundle.six)
  | 1 => (98, 102, 7, Bundle.six)
  | 2 => (123, 127, 7, Bundle.six)
  | _ => (246, 250, 13, b13)
def wz (z : Nat) : List Cond := (m_own "AtlasDesk" (icz z).2.1 (mExn z) (icz z).2.2.1 (icz z).2.2.2 "java/lang/RuntimeException" ["java/lang/Exception"]).filter vx_no
/-- the words of exception z stand among the tables' -/
def wzOk (z : Nat) : Prop := (∀ w ∈ wz z, w ∈ lw_tbl ∧ (goodWord w = true ∨ mNest w = true)) ∧ (∀ w ∈ Jvm.Cond.classLink "AtlasDesk" (icz z).1 (mExn z) :: Jvm.Cond.initialized (mExn z) :: wz z, vx_ot w = true) ∧ Jvm.Cond.classLink "AtlasDesk" (icz z).1 (mExn z) ∈ mWs ∧ Jvm.Cond.initialized (mExn z) ∈ mWs ∧ Bundle.fit (mExn z) = true ∧ (decode (icz z).2.2.2 0 = .ok (.aload_n 0, 1) ∧ decode (icz z).2.2.2 1 = .ok (.aload_n 1, 1) ∧ decode (icz z).2.2.2 2 = .ok (.invokespecial (icz z).2.2.1, 3) ∧ decode (icz z).2.2.2 5 = .ok (.return_, 1))
theorem in_by {ws : List Cond} {ps : List Nat} (hp : ws = ps.filterMap (fun i => lw_tbl[i]?)) (h : ws.all (fun w => goodWord w || mNest w) = true) : ∀ w ∈ ws, w ∈ lw_tbl ∧ (goodWord w = true ∨ mNest w = true) := by
  intro w hw
  have h1 := List.all_eq_true.mp h w hw
  rw [hp] at hw
  obtain ⟨i, -, hi⟩ := List.mem_filterMap.mp hw
  exact ⟨List.mem_of_getElem? hi, by simpa using h1⟩
theorem wz_0 : wzOk 0 := ⟨in_by (ps := [84, 630, 639, 644, 647, 649, 631, 632, 97, 98, 633, 638, 645, 665, 620, 666, 622, 667, 624, 634, 636, 626, 661, 662, 664, 626, 652, 653, 654, 655, 612, 655, 656, 657, 658, 614, 658, 659, 660, 661, 616, 651, 609, 610, 617, 618, 619, 621, 623, 625, 629, 628, 627]) (by decide +kernel) (by decide +kernel), List.all_eq_true.mp (by decide +kernel), mWs_in (List.mem_of_getElem? (i := 608) (by decide +kernel)) (by decide +kernel), mWs_in (List.mem_of_getElem? (i := 87) (by decide +kernel)) (by decide +kernel), by decide +kernel, by decide +kernel, by decide +kernel, by decide +kernel, by decide +kernel⟩
theorem wz_1 : wzOk 1 := ⟨in_by (ps := [84, 630, 639, 644, 647, 649, 631, 632, 97, 98, 633, 638, 645, 665, 620, 666, 622, 667, 624, 634, 636, 626, 661, 662, 664, 626, 687, 688, 689, 655, 612, 655, 656, 657, 658, 614, 658, 659, 660, 661, 616, 686, 677, 678, 679, 641, 680, 681, 682, 683, 629, 628, 684]) (by decide +kernel) (by decide +kernel), List.all_eq_true.mp (by decide +kernel), mWs_in (List.mem_of_getElem? (i := 676) (by decide +kernel)) (by decide +kernel), mWs_in (List.mem_of_getElem? (i := 88) (by decide +kernel)) (by decide +kernel), by decide +kernel, by decide +kernel, by decide +kernel, by decide +kernel, by decide +kernel⟩
theorem wz_2 : wzOk 2 := ⟨in_by (ps := [84, 630, 639, 644, 647, 649, 631, 632, 97, 98, 633, 638, 645, 665, 620, 666, 622, 667, 624, 634, 636, 626, 661, 662, 664, 626, 719, 720, 721, 655, 612, 655, 656, 657, 658, 614, 658, 659, 660, 661, 616, 718, 709, 710, 711, 642, 712, 713, 714, 715, 629, 628, 716]) (by decide +kernel) (by decide +kernel), List.all_eq_true.mp (by decide +kernel), mWs_in (List.mem_of_getElem? (i := 708) (by decide +kernel)) (by decide +kernel), mWs_in (List.mem_of_getElem? (i := 89) (by decide +kernel)) (by decide +kernel), by decide +kernel, by decide +kernel, by decide +kernel, by decide +kernel, by decide +kernel⟩
theorem wz_3 : wzOk 3 := ⟨in_by (ps := [84, 630, 639, 644, 647, 649, 631, 632, 97, 98, 633, 638, 645, 665, 620, 666, 622, 667, 624, 634, 636, 626, 661, 662, 664, 626, 1014, 1015, 1016, 655, 612, 655, 656, 657, 658, 614, 658, 659, 660, 661, 616, 1013, 1004, 1005, 1006, 643, 1007, 1008, 1009, 1010, 629, 628, 1011]) (by decide +kernel) (by decide +kernel), List.all_eq_true.mp (by decide +kernel), mWs_in (List.mem_of_getElem? (i := 1003) (by decide +kernel)) (by decide +kernel), mWs_in (List.mem_of_getElem? (i := 90) (by decide +kernel)) (by decide +kernel), by decide +kernel, by decide +kernel, by decide +kernel, by decide +kernel, by decide +kernel⟩
theorem m_thr {l : Launch} (hl : l.stackTraces = false) {k pc z is : Nat} {text : String} (hz : wzOk z) (hc : (mth k).1.cls = "AtlasDesk") (hcode : Jvm.Cond.code (mth k).1 (mth k).2.1 (mth k).2.2.1 (mth k).2.2.2 ∈ mWs) (hstr : Jvm.Cond.stringRef "AtlasDesk" is text ∈ lw_tbl)
    (d0 : decode (mth k).2.1 pc = .ok (.new (icz z).1, 3)) (d3 : decode (mth k).2.1 (pc + 3) = .ok (.dup, 1)) (d4 : decode (mth k).2.1 (pc + 4) = .ok (.ldc is, 2)) (d6 : decode (mth k).2.1 (pc + 6) = .ok (.invokespecial (icz z).2.1, 3)) (d9 : decode (mth k).2.1 (pc + 9) = .ok (.athrow, 1)) (hr : 6 ≤ rFt k ∧ 100 ≤ rLt k) : ∀ lv T, mSd l mth rFt rLt k pc lv [] T (.inr z) (mNw T 0 0 6) := by
  intro lv T p e R s m args below meth c D cA B0 n0 u0 hC hF hL hn hu hc1 hc2 H locs ls hR hS hls
  obtain ⟨w1, w2, w3, w4, w5, q0, q1, q2, q5⟩ := hz
  obtain ⟨hx, hb, hml, hown, hts, hK, hrt, hlk, hnm, hB, hX, hY, hT1, hT2⟩ := hC
  rw [hc] at hown
  obtain ⟨sa, hsa⟩ := hY.1 _ _ _ hstr
  have e1 : (mNw T 0 0 6).2.2.2.2.1 = T.2.2.2.2.1 + 1 := rfl
  have e2 : (mNw T 0 0 6).2.2.2.2.2 = T.2.2.2.2.2 + 6 := rfl
  rw [e1] at hc1
  rw [e2] at hc2
  have hcells : T.2.2.2.2.1 - n0 + 1 = (mNw T 0 0 6).2.2.2.2.1 - n0 := by rw [e1]; omega
  have hslots : T.2.2.2.2.2 - u0 + 6 = (mNw T 0 0 6).2.2.2.2.2 - u0 := by rw [e2]; omega
  refine m_throw (A := fun q => B0 ≤ q) (own := "AtlasDesk") (cls := mExn z) (text := text) (sa := sa) (Yn := "java/lang/RuntimeException") (names := ["java/lang/Exception"]) hx hb hl q0 q1 q2 q5 hown w5 (by decide +kernel) (by intro n hn; cases List.mem_singleton.mp hn; decide +kernel) (hts _ w3) (hts _ w4) hsa
    (fun w hw => ?_) w2 hY.2.2.1 hY.2.2.2 hS (by rw [hml]; exact hls.2.1) d0 d3 d4 d6 d9 (fun x hx => (hT2 _ _ _ hcode x hx).elim) (by show 1 + 4 < _; omega) (by show 0 + (13 * (1 + 2) + 43) ≤ _; omega) (by omega) (by omega) hlk ?_
  · obtain ⟨h1, h2⟩ := w1 w hw
    by_cases hg : goodWord w = true
    · exact hts _ (mWs_in h1 hg)
    · rcases h2 with h2 | h2
      · exact absurd h2 hg
      · exact va_Nw.use (by cases w <;> first | rfl | (simp [mNest] at h2)) (hX.1 w h1 h2)
  · intro U ce hrun hend hsz hce hcv hcl hW hsm hkp
    rw [hcells, hslots] at hsm
    have hH := hR.1
    refine ⟨H.size, ce, locs, hrun, hend, by rw [e1, hH], hce, hcv, hcl, hW, hsm, hS.2.2, ?_, ?_⟩
    · obtain ⟨r1, r2, r3, r4, r5⟩ := hR.moved hW.alike
      have hk : ∀ a, a ≠ T.2.2.2.2.1 → (mNw T 0 0 6).1 a = T.1 a ∧ (mNw T 0 0 6).2.1 a = T.2.1 a ∧ (mNw T 0 0 6).2.2.1 a = T.2.2.1 a ∧ (mNw T 0 0 6).2.2.2.1 a = T.2.2.2.1 a := fun a ha => ⟨va_up_n _ _ ha, va_up_n _ _ ha, va_up_n _ _ ha, va_up_n _ _ ha⟩
      have hk0 : (mNw T 0 0 6).1 T.2.2.2.2.1 = (0, 0) := va_up_s _ _ _
      refine ⟨by rw [hsz, e1, hH], by omega, fun a h0 h3 => ?_, fun a h3 => ?_, fun a h2 j => ?_⟩
      · have ha : a ≠ T.2.2.2.2.1 := fun q => by rw [q, hk0] at h0; exact h0 rfl
        obtain ⟨k1, k2, k3, k4⟩ := hk a ha
        rw [k1] at h0 h3
        obtain ⟨g1, g2, g3⟩ := r3 a h0 h3
        exact ⟨g1, by omega, mAt_congr g3 k1 k2 k3 k4 (hkp a g2)⟩
      · have ha : a ≠ T.2.2.2.2.1 := fun q => by rw [q, hk0] at h3; cases h3
        obtain ⟨k1, k2, k3, k4⟩ := hk a ha
        rw [k1] at h3
        obtain ⟨g1, g2⟩ := r4 a h3
        rw [k1, k2]
        exact ⟨g1, g2.kept (hkp a (by omega))⟩
      · have ha : a ≠ T.2.2.2.2.1 := fun q => by rw [q, hk0] at h2; cases h2
        obtain ⟨k1, k2, k3, k4⟩ := hk a ha
        rw [k1] at h2
        rw [k2]
        exact r5 a h2 j
    · have h1 := hS.1
      exact ⟨by omega, fun q hq hn => by rw [hkp q (by omega)]; exact hS.2.1 q hq hn⟩
theorem mThr_ok {l : Launch} (hl : l.stackTraces = false) : mThr l := by
  intro q hq
  simp only [thrL, List.mem_cons, List.not_mem_nil, or_false] at hq
  rcases hq with rfl | rfl | rfl | rfl | rfl | rfl | rfl | rfl | rfl | rfl | rfl
  · exact m_thr (is := 93) (text := "not a feature") hl wz_0 rfl (mWs_in (List.mem_of_getElem? (i := 540) (by decide +kernel)) (by decide +kernel)) (List.mem_of_getElem? (i := 650) (by decide +kernel)) (by decide +kernel) (by decide +kernel) (by decide +kernel) (by decide +kernel) (by decide +kernel) (by decide)
  · exact m_thr (is := 100) (text := "there are 24 features") hl wz_1 rfl (mWs_in (List.mem_of_getElem? (i := 540) (by decide +kernel)) (by decide +kernel)) (List.mem_of_getElem? (i := 685) (by decide +kernel)) (by decide +kernel) (by decide +kernel) (by decide +kernel) (by decide +kernel) (by decide +kernel) (by decide)
  · exact m_thr (is := 125) (text := "no such edition or tile") hl wz_2 rfl (mWs_in (List.mem_of_getElem? (i := 699) (by decide +kernel)) (by decide +kernel)) (List.mem_of_getElem? (i := 717) (by decide +kernel)) (by decide +kernel) (by decide +kernel) (by decide +kernel) (by decide +kernel) (by decide +kernel) (by decide)
  · exact m_thr (is := 155) (text := "not a region") hl wz_0 rfl (mWs_in (List.mem_of_getElem? (i := 855) (by decide +kernel)) (by decide +kernel)) (List.mem_of_getElem? (i := 857) (by decide +kernel)) (by decide +kernel) (by decide +kernel) (by decide +kernel) (by decide +kernel) (by decide +kernel) (by decide)
  · exact m_thr (is := 168) (text := "no such edition") hl wz_2 rfl (mWs_in (List.mem_of_getElem? (i := 868) (by decide +kernel)) (by decide +kernel)) (List.mem_of_getElem? (i := 869) (by decide +kernel)) (by decide +kernel) (by decide +kernel) (by decide +kernel) (by decide +kernel) (by decide +kernel) (by decide)
  · exact m_thr (is := 174) (text := "no region, or the pack is refused") hl wz_1 rfl (mWs_in (List.mem_of_getElem? (i := 868) (by decide +kernel)) (by decide +kernel)) (List.mem_of_getElem? (i := 924) (by decide +kernel)) (by decide +kernel) (by decide +kernel) (by decide +kernel) (by decide +kernel) (by decide +kernel) (by decide)
  · exact m_thr (is := 168) (text := "no such edition") hl wz_2 rfl (mWs_in (List.mem_of_getElem? (i := 931) (by decide +kernel)) (by decide +kernel)) (List.mem_of_getElem? (i := 869) (by decide +kernel)) (by decide +kernel) (by decide +kernel) (by decide +kernel) (by decide +kernel) (by decide +kernel) (by decide)
  · exact m_thr (is := 220) (text := "no region, or a pack is refused") hl wz_1 rfl (mWs_in (List.mem_of_getElem? (i := 931) (by decide +kernel)) (by decide +kernel)) (List.mem_of_getElem? (i := 932) (by decide +kernel)) (by decide +kernel) (by decide +kernel) (by decide +kernel) (by decide +kernel) (by decide +kernel) (by decide)
  · exact m_thr (is := 237) (text := "the difference does not fit a pack in hand") hl wz_1 rfl (mWs_in (List.mem_of_getElem? (i := 955) (by decide +kernel)) (by decide +kernel)) (List.mem_of_getElem? (i := 965) (by decide +kernel)) (by decide +kernel) (by decide +kernel) (by decide +kernel) (by decide +kernel) (by decide +kernel) (by decide)
  · exact m_thr (is := 248) (text := "no such name") hl wz_3 rfl (mWs_in (List.mem_of_getElem? (i := 979) (by decide +kernel)) (by decide +kernel)) (List.mem_of_getElem? (i := 1012) (by decide +kernel)) (by decide +kernel) (by decide +kernel) (by decide +kernel) (by decide +kernel) (by decide +kernel) (by decide)
  · exact m_thr (is := 255) (text := "no such point") hl wz_3 rfl (mWs_in (List.mem_of_getElem? (i := 1025) (by decide +kernel)) (by decide +kernel)) (List.mem_of_getElem? (i := 1047) (by decide +kernel)) (by decide +kernel) (by decide +kernel) (by decide +kernel) (by decide +kernel) (by decide +kernel) (by decide)
