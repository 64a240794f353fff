/-! tables of X7 (written by a program) -/
theorem dX7_init_0 : decode cX7_init 0 = .ok (.aload_n 0, 1) := by decide +kernel
theorem dX7_init_1 : decode cX7_init 1 = .ok (.invokespecial 3, 3) := by decide +kernel
theorem dX7_init_4 : decode cX7_init 4 = .ok (.return_, 1) := by decide +kernel
def tb_70 (pc : Nat) : Option mEnt := bif Nat.ble pc 0 then (bif Nat.beq pc 0 then some (.inl (o_al 0 1)) else none) else (bif Nat.ble pc 1 then (bif Nat.beq pc 1 then some (.inr (5, 0, 0, 0)) else none) else (bif Nat.beq pc 4 then some (.inr (0, 0, 0, 3)) else none))
theorem k_70_0 : mOk M_70.1 M_70.2.1 M_70.2.2.1 M_70.2.2.2 0 (o_al 0 1) := ok_aload_n dX7_init_0 rfl
set_option maxRecDepth 20000 in
set_option maxHeartbeats 4000000 in
theorem tk_70 (l : Launch) (H9 : mThr l) (H10 : mSpl l) (pc : Nat) (q : mEnt) (h : tb_70 pc = some q) : EE l 70 pc q := nd h (fun h => lf (P := EE l 70) h k_70_0) (fun h => nd h (fun h => lf (P := EE l 70) h (EE_ob (⟨3, dX7_init_1, m_290, m_97, m_98, by decide, by decide⟩))) (fun h => lf (P := EE l 70) h (EE_re (Or.inr (Or.inr (Or.inr (Or.inr ⟨rfl, dX7_init_4, rfl⟩)))))))
theorem dX7_set_0 : decode cX7_set 0 = .ok (.aload_n 0, 1) := by decide +kernel
theorem dX7_set_1 : decode cX7_set 1 = .ok (.iload_n 1, 1) := by decide +kernel
theorem dX7_set_2 : decode cX7_set 2 = .ok (.putfield 9, 3) := by decide +kernel
theorem dX7_set_5 : decode cX7_set 5 = .ok (.aload_n 0, 1) := by decide +kernel
theorem dX7_set_6 : decode cX7_set 6 = .ok (.iload_n 2, 1) := by decide +kernel
theorem dX7_set_7 : decode cX7_set 7 = .ok (.putfield 15, 3) := by decide +kernel
theorem dX7_set_10 : decode cX7_set 10 = .ok (.aload_n 0, 1) := by decide +kernel
theorem dX7_set_11 : decode cX7_set 11 = .ok (.iload_n 3, 1) := by decide +kernel
theorem dX7_set_12 : decode cX7_set 12 = .ok (.putfield 18, 3) := by decide +kernel
theorem dX7_set_15 : decode cX7_set 15 = .ok (.aload_n 0, 1) := by decide +kernel
theorem dX7_set_16 : decode cX7_set 16 = .ok (.iload 4, 2) := by decide +kernel
theorem dX7_set_18 : decode cX7_set 18 = .ok (.putfield 21, 3) := by decide +kernel
theorem dX7_set_21 : decode cX7_set 21 = .ok (.aload_n 0, 1) := by decide +kernel
theorem dX7_set_22 : decode cX7_set 22 = .ok (.iload 5, 2) := by decide +kernel
theorem dX7_set_24 : decode cX7_set 24 = .ok (.putfield 24, 3) := by decide +kernel
theorem dX7_set_27 : decode cX7_set 27 = .ok (.return_, 1) := by decide +kernel
def tb_71 (pc : Nat) : Option mEnt := bif Nat.ble pc 11 then (bif Nat.ble pc 5 then (bif Nat.ble pc 1 then (bif Nat.ble pc 0 then (bif Nat.beq pc 0 then some (.inl (o_al 0 1)) else none) else (bif Nat.beq pc 1 then some (.inl (o_il 1 1)) else none)) else (bif Nat.ble pc 2 then (bif Nat.beq pc 2 then some (.inl (o_pI 7 0)) else none) else (bif Nat.beq pc 5 then some (.inl (o_al 0 1)) else none))) else (bif Nat.ble pc 7 then (bif Nat.ble pc 6 then (bif Nat.beq pc 6 then some (.inl (o_il 2 1)) else none) else (bif Nat.beq pc 7 then some (.inl (o_pI 7 1)) else none)) else (bif Nat.ble pc 10 then (bif Nat.beq pc 10 then some (.inl (o_al 0 1)) else none) else (bif Nat.beq pc 11 then some (.inl (o_il 3 1)) else none)))) else (bif Nat.ble pc 18 then (bif Nat.ble pc 15 then (bif Nat.ble pc 12 then (bif Nat.beq pc 12 then some (.inl (o_pI 7 2)) else none) else (bif Nat.beq pc 15 then some (.inl (o_al 0 1)) else none)) else (bif Nat.ble pc 16 then (bif Nat.beq pc 16 then some (.inl (o_il 4 2)) else none) else (bif Nat.beq pc 18 then some (.inl (o_pI 7 3)) else none))) else (bif Nat.ble pc 22 then (bif Nat.ble pc 21 then (bif Nat.beq pc 21 then some (.inl (o_al 0 1)) else none) else (bif Nat.beq pc 22 then some (.inl (o_il 5 2)) else none)) else (bif Nat.ble pc 24 then (bif Nat.beq pc 24 then some (.inl (o_pI 7 4)) else none) else (bif Nat.beq pc 27 then some (.inr (0, 0, 0, 3)) else none))))
theorem k_71_0 : mOk M_71.1 M_71.2.1 M_71.2.2.1 M_71.2.2.2 0 (o_al 0 1) := ok_aload_n dX7_set_0 rfl
theorem k_71_1 : mOk M_71.1 M_71.2.1 M_71.2.2.1 M_71.2.2.2 1 (o_il 1 1) := ok_iload_n dX7_set_1 rfl
theorem k_71_2 : mOk M_71.1 M_71.2.1 M_71.2.2.1 M_71.2.2.2 2 (o_pI 7 0) := ok_pI dX7_set_2 (mFw_of f_RX7_9_c (Or.inl rfl)) rfl
theorem k_71_5 : mOk M_71.1 M_71.2.1 M_71.2.2.1 M_71.2.2.2 5 (o_al 0 1) := ok_aload_n dX7_set_5 rfl
theorem k_71_6 : mOk M_71.1 M_71.2.1 M_71.2.2.1 M_71.2.2.2 6 (o_il 2 1) := ok_iload_n dX7_set_6 rfl
theorem k_71_7 : mOk M_71.1 M_71.2.1 M_71.2.2.1 M_71.2.2.2 7 (o_pI 7 1) := ok_pI dX7_set_7 (mFw_of f_RX7_15_c (Or.inl rfl)) rfl
theorem k_71_10 : mOk M_71.1 M_71.2.1 M_71.2.2.1 M_71.2.2.2 10 (o_al 0 1) := ok_aload_n dX7_set_10 rfl
theorem k_71_11 : mOk M_71.1 M_71.2.1 M_71.2.2.1 M_71.2.2.2 11 (o_il 3 1) := ok_iload_n dX7_set_11 rfl
theorem k_71_12 : mOk M_71.1 M_71.2.1 M_71.2.2.1 M_71.2.2.2 12 (o_pI 7 2) := ok_pI dX7_set_12 (mFw_of f_RX7_18_c (Or.inl rfl)) rfl
theorem k_71_15 : mOk M_71.1 M_71.2.1 M_71.2.2.1 M_71.2.2.2 15 (o_al 0 1) := ok_aload_n dX7_set_15 rfl
theorem k_71_16 : mOk M_71.1 M_71.2.1 M_71.2.2.1 M_71.2.2.2 16 (o_il 4 2) := ok_iload dX7_set_16
theorem k_71_18 : mOk M_71.1 M_71.2.1 M_71.2.2.1 M_71.2.2.2 18 (o_pI 7 3) := ok_pI dX7_set_18 (mFw_of f_RX7_21_c (Or.inl rfl)) rfl
theorem k_71_21 : mOk M_71.1 M_71.2.1 M_71.2.2.1 M_71.2.2.2 21 (o_al 0 1) := ok_aload_n dX7_set_21 rfl
theorem k_71_22 : mOk M_71.1 M_71.2.1 M_71.2.2.1 M_71.2.2.2 22 (o_il 5 2) := ok_iload dX7_set_22
theorem k_71_24 : mOk M_71.1 M_71.2.1 M_71.2.2.1 M_71.2.2.2 24 (o_pI 7 4) := ok_pI dX7_set_24 (mFw_of f_RX7_24_c (Or.inl rfl)) rfl
set_option maxRecDepth 20000 in
set_option maxHeartbeats 4000000 in
theorem tk_71 (l : Launch) (H9 : mThr l) (H10 : mSpl l) (pc : Nat) (q : mEnt) (h : tb_71 pc = some q) : EE l 71 pc q := nd h (fun h => nd h (fun h => nd h (fun h => nd h (fun h => lf (P := EE l 71) h k_71_0) (fun h => lf (P := EE l 71) h k_71_1)) (fun h => nd h (fun h => lf (P := EE l 71) h k_71_2) (fun h => lf (P := EE l 71) h k_71_5))) (fun h => nd h (fun h => nd h (fun h => lf (P := EE l 71) h k_71_6) (fun h => lf (P := EE l 71) h k_71_7)) (fun h => nd h (fun h => lf (P := EE l 71) h k_71_10) (fun h => lf (P := EE l 71) h k_71_11)))) (fun h => nd h (fun h => nd h (fun h => nd h (fun h => lf (P := EE l 71) h k_71_12) (fun h => lf (P := EE l 71) h k_71_15)) (fun h => nd h (fun h => lf (P := EE l 71) h k_71_16) (fun h => lf (P := EE l 71) h k_71_18))) (fun h => nd h (fun h => nd h (fun h => lf (P := EE l 71) h k_71_21) (fun h => lf (P := EE l 71) h k_71_22)) (fun h => nd h (fun h => lf (P := EE l 71) h k_71_24) (fun h => lf (P := EE l 71) h (EE_re (Or.inr (Or.inr (Or.inr (Or.inr ⟨rfl, dX7_set_27, rfl⟩)))))))))
theorem dX7_copyFrom_0 : decode cX7_copyFrom 0 = .ok (.aload_n 0, 1) := by decide +kernel
theorem dX7_copyFrom_1 : decode cX7_copyFrom 1 = .ok (.aload_n 1, 1) := by decide +kernel
theorem dX7_copyFrom_2 : decode cX7_copyFrom 2 = .ok (.getfield 9, 3) := by decide +kernel
theorem dX7_copyFrom_5 : decode cX7_copyFrom 5 = .ok (.aload_n 1, 1) := by decide +kernel
theorem dX7_copyFrom_6 : decode cX7_copyFrom 6 = .ok (.getfield 15, 3) := by decide +kernel
theorem dX7_copyFrom_9 : decode cX7_copyFrom 9 = .ok (.aload_n 1, 1) := by decide +kernel
theorem dX7_copyFrom_10 : decode cX7_copyFrom 10 = .ok (.getfield 18, 3) := by decide +kernel
theorem dX7_copyFrom_13 : decode cX7_copyFrom 13 = .ok (.aload_n 1, 1) := by decide +kernel
theorem dX7_copyFrom_14 : decode cX7_copyFrom 14 = .ok (.getfield 21, 3) := by decide +kernel
theorem dX7_copyFrom_17 : decode cX7_copyFrom 17 = .ok (.aload_n 1, 1) := by decide +kernel
theorem dX7_copyFrom_18 : decode cX7_copyFrom 18 = .ok (.getfield 24, 3) := by decide +kernel
theorem dX7_copyFrom_21 : decode cX7_copyFrom 21 = .ok (.invokevirtual 27, 3) := by decide +kernel
theorem dX7_copyFrom_24 : decode cX7_copyFrom 24 = .ok (.return_, 1) := by decide +kernel
def tb_72 (pc : Nat) : Option mEnt := bif Nat.ble pc 9 then (bif Nat.ble pc 2 then (bif Nat.ble pc 0 then (bif Nat.beq pc 0 then some (.inl (o_al 0 1)) else none) else (bif Nat.ble pc 1 then (bif Nat.beq pc 1 then some (.inl (o_al 1 1)) else none) else (bif Nat.beq pc 2 then some (.inl (o_gI 7 0)) else none))) else (bif Nat.ble pc 5 then (bif Nat.beq pc 5 then some (.inl (o_al 1 1)) else none) else (bif Nat.ble pc 6 then (bif Nat.beq pc 6 then some (.inl (o_gI 7 1)) else none) else (bif Nat.beq pc 9 then some (.inl (o_al 1 1)) else none)))) else (bif Nat.ble pc 14 then (bif Nat.ble pc 10 then (bif Nat.beq pc 10 then some (.inl (o_gI 7 2)) else none) else (bif Nat.ble pc 13 then (bif Nat.beq pc 13 then some (.inl (o_al 1 1)) else none) else (bif Nat.beq pc 14 then some (.inl (o_gI 7 3)) else none))) else (bif Nat.ble pc 18 then (bif Nat.ble pc 17 then (bif Nat.beq pc 17 then some (.inl (o_al 1 1)) else none) else (bif Nat.beq pc 18 then some (.inl (o_gI 7 4)) else none)) else (bif Nat.ble pc 21 then (bif Nat.beq pc 21 then some (.inr (3, 71, 6, 7)) else none) else (bif Nat.beq pc 24 then some (.inr (0, 0, 0, 3)) else none))))
theorem k_72_0 : mOk M_72.1 M_72.2.1 M_72.2.2.1 M_72.2.2.2 0 (o_al 0 1) := ok_aload_n dX7_copyFrom_0 rfl
theorem k_72_1 : mOk M_72.1 M_72.2.1 M_72.2.2.1 M_72.2.2.2 1 (o_al 1 1) := ok_aload_n dX7_copyFrom_1 rfl
theorem k_72_2 : mOk M_72.1 M_72.2.1 M_72.2.2.1 M_72.2.2.2 2 (o_gI 7 0) := ok_gI dX7_copyFrom_2 f_RX7_9 (Or.inl rfl)
theorem k_72_5 : mOk M_72.1 M_72.2.1 M_72.2.2.1 M_72.2.2.2 5 (o_al 1 1) := ok_aload_n dX7_copyFrom_5 rfl
theorem k_72_6 : mOk M_72.1 M_72.2.1 M_72.2.2.1 M_72.2.2.2 6 (o_gI 7 1) := ok_gI dX7_copyFrom_6 f_RX7_15 (Or.inl rfl)
theorem k_72_9 : mOk M_72.1 M_72.2.1 M_72.2.2.1 M_72.2.2.2 9 (o_al 1 1) := ok_aload_n dX7_copyFrom_9 rfl
theorem k_72_10 : mOk M_72.1 M_72.2.1 M_72.2.2.1 M_72.2.2.2 10 (o_gI 7 2) := ok_gI dX7_copyFrom_10 f_RX7_18 (Or.inl rfl)
theorem k_72_13 : mOk M_72.1 M_72.2.1 M_72.2.2.1 M_72.2.2.2 13 (o_al 1 1) := ok_aload_n dX7_copyFrom_13 rfl
theorem k_72_14 : mOk M_72.1 M_72.2.1 M_72.2.2.1 M_72.2.2.2 14 (o_gI 7 3) := ok_gI dX7_copyFrom_14 f_RX7_21 (Or.inl rfl)
theorem k_72_17 : mOk M_72.1 M_72.2.1 M_72.2.2.1 M_72.2.2.2 17 (o_al 1 1) := ok_aload_n dX7_copyFrom_17 rfl
theorem k_72_18 : mOk M_72.1 M_72.2.1 M_72.2.2.1 M_72.2.2.2 18 (o_gI 7 4) := ok_gI dX7_copyFrom_18 f_RX7_24 (Or.inl rfl)
set_option maxRecDepth 20000 in
set_option maxHeartbeats 4000000 in
theorem tk_72 (l : Launch) (H9 : mThr l) (H10 : mSpl l) (pc : Nat) (q : mEnt) (h : tb_72 pc = some q) : EE l 72 pc q := nd h (fun h => nd h (fun h => nd h (fun h => lf (P := EE l 72) h k_72_0) (fun h => nd h (fun h => lf (P := EE l 72) h k_72_1) (fun h => lf (P := EE l 72) h k_72_2))) (fun h => nd h (fun h => lf (P := EE l 72) h k_72_5) (fun h => nd h (fun h => lf (P := EE l 72) h k_72_6) (fun h => lf (P := EE l 72) h k_72_9)))) (fun h => nd h (fun h => nd h (fun h => lf (P := EE l 72) h k_72_10) (fun h => nd h (fun h => lf (P := EE l 72) h k_72_13) (fun h => lf (P := EE l 72) h k_72_14))) (fun h => nd h (fun h => nd h (fun h => lf (P := EE l 72) h k_72_17) (fun h => lf (P := EE l 72) h k_72_18)) (fun h => nd h (fun h => lf (P := EE l 72) h (EE_ca (by decide) (⟨m_861, m_78, ⟨by decide, by decide⟩, by decide +kernel, ⟨by decide, by decide⟩, 27, 5, by decide +kernel, Or.inr (Or.inr (Or.inl ⟨rfl, rfl, dX7_copyFrom_21, m_882, m_859, _, rfl, by decide, m_860⟩))⟩) rfl)) (fun h => lf (P := EE l 72) h (EE_re (Or.inr (Or.inr (Or.inr (Or.inr ⟨rfl, dX7_copyFrom_24, rfl⟩)))))))))
theorem dX7_isLike_0 : decode cX7_isLike 0 = .ok (.aload_n 0, 1) := by decide +kernel
theorem dX7_isLike_1 : decode cX7_isLike 1 = .ok (.getfield 9, 3) := by decide +kernel
theorem dX7_isLike_4 : decode cX7_isLike 4 = .ok (.aload_n 1, 1) := by decide +kernel
theorem dX7_isLike_5 : decode cX7_isLike 5 = .ok (.getfield 9, 3) := by decide +kernel
theorem dX7_isLike_8 : decode cX7_isLike 8 = .ok (.if_icmp .ne 51, 3) := by decide +kernel
theorem dX7_isLike_11 : decode cX7_isLike 11 = .ok (.aload_n 0, 1) := by decide +kernel
theorem dX7_isLike_12 : decode cX7_isLike 12 = .ok (.getfield 15, 3) := by decide +kernel
theorem dX7_isLike_15 : decode cX7_isLike 15 = .ok (.aload_n 1, 1) := by decide +kernel
theorem dX7_isLike_16 : decode cX7_isLike 16 = .ok (.getfield 15, 3) := by decide +kernel
theorem dX7_isLike_19 : decode cX7_isLike 19 = .ok (.if_icmp .ne 40, 3) := by decide +kernel
theorem dX7_isLike_22 : decode cX7_isLike 22 = .ok (.aload_n 0, 1) := by decide +kernel
theorem dX7_isLike_23 : decode cX7_isLike 23 = .ok (.getfield 18, 3) := by decide +kernel
theorem dX7_isLike_26 : decode cX7_isLike 26 = .ok (.aload_n 1, 1) := by decide +kernel
theorem dX7_isLike_27 : decode cX7_isLike 27 = .ok (.getfield 18, 3) := by decide +kernel
theorem dX7_isLike_30 : decode cX7_isLike 30 = .ok (.if_icmp .ne 29, 3) := by decide +kernel
theorem dX7_isLike_33 : decode cX7_isLike 33 = .ok (.aload_n 0, 1) := by decide +kernel
theorem dX7_isLike_34 : decode cX7_isLike 34 = .ok (.getfield 21, 3) := by decide +kernel
theorem dX7_isLike_37 : decode cX7_isLike 37 = .ok (.aload_n 1, 1) := by decide +kernel
theorem dX7_isLike_38 : decode cX7_isLike 38 = .ok (.getfield 21, 3) := by decide +kernel
theorem dX7_isLike_41 : decode cX7_isLike 41 = .ok (.if_icmp .ne 18, 3) := by decide +kernel
theorem dX7_isLike_44 : decode cX7_isLike 44 = .ok (.aload_n 0, 1) := by decide +kernel
theorem dX7_isLike_45 : decode cX7_isLike 45 = .ok (.getfield 24, 3) := by decide +kernel
theorem dX7_isLike_48 : decode cX7_isLike 48 = .ok (.aload_n 1, 1) := by decide +kernel
theorem dX7_isLike_49 : decode cX7_isLike 49 = .ok (.getfield 24, 3) := by decide +kernel
theorem dX7_isLike_52 : decode cX7_isLike 52 = .ok (.if_icmp .ne 7, 3) := by decide +kernel
theorem dX7_isLike_55 : decode cX7_isLike 55 = .ok (.iconst 1, 1) := by decide +kernel
theorem dX7_isLike_56 : decode cX7_isLike 56 = .ok (.goto 4, 3) := by decide +kernel
theorem dX7_isLike_59 : decode cX7_isLike 59 = .ok (.iconst 0, 1) := by decide +kernel
theorem dX7_isLike_60 : decode cX7_isLike 60 = .ok (.ireturn, 1) := by decide +kernel
def tb_73 (pc : Nat) : Option mEnt := bif Nat.ble pc 27 then (bif Nat.ble pc 12 then (bif Nat.ble pc 4 then (bif Nat.ble pc 0 then (bif Nat.beq pc 0 then some (.inl (o_al 0 1)) else none) else (bif Nat.ble pc 1 then (bif Nat.beq pc 1 then some (.inl (o_gI 7 0)) else none) else (bif Nat.beq pc 4 then some (.inl (o_al 1 1)) else none))) else (bif Nat.ble pc 8 then (bif Nat.ble pc 5 then (bif Nat.beq pc 5 then some (.inl (o_gI 7 0)) else none) else (bif Nat.beq pc 8 then some (.inl (o_cne 59)) else none)) else (bif Nat.ble pc 11 then (bif Nat.beq pc 11 then some (.inl (o_al 0 1)) else none) else (bif Nat.beq pc 12 then some (.inl (o_gI 7 1)) else none)))) else (bif Nat.ble pc 19 then (bif Nat.ble pc 15 then (bif Nat.beq pc 15 then some (.inl (o_al 1 1)) else none) else (bif Nat.ble pc 16 then (bif Nat.beq pc 16 then some (.inl (o_gI 7 1)) else none) else (bif Nat.beq pc 19 then some (.inl (o_cne 59)) else none))) else (bif Nat.ble pc 23 then (bif Nat.ble pc 22 then (bif Nat.beq pc 22 then some (.inl (o_al 0 1)) else none) else (bif Nat.beq pc 23 then some (.inl (o_gI 7 2)) else none)) else (bif Nat.ble pc 26 then (bif Nat.beq pc 26 then some (.inl (o_al 1 1)) else none) else (bif Nat.beq pc 27 then some (.inl (o_gI 7 2)) else none))))) else (bif Nat.ble pc 44 then (bif Nat.ble pc 34 then (bif Nat.ble pc 30 then (bif Nat.beq pc 30 then some (.inl (o_cne 59)) else none) else (bif Nat.ble pc 33 then (bif Nat.beq pc 33 then some (.inl (o_al 0 1)) else none) else (bif Nat.beq pc 34 then some (.inl (o_gI 7 3)) else none))) else (bif Nat.ble pc 38 then (bif Nat.ble pc 37 then (bif Nat.beq pc 37 then some (.inl (o_al 1 1)) else none) else (bif Nat.beq pc 38 then some (.inl (o_gI 7 3)) else none)) else (bif Nat.ble pc 41 then (bif Nat.beq pc 41 then some (.inl (o_cne 59)) else none) else (bif Nat.beq pc 44 then some (.inl (o_al 0 1)) else none)))) else (bif Nat.ble pc 52 then (bif Nat.ble pc 48 then (bif Nat.ble pc 45 then (bif Nat.beq pc 45 then some (.inl (o_gI 7 4)) else none) else (bif Nat.beq pc 48 then some (.inl (o_al 1 1)) else none)) else (bif Nat.ble pc 49 then (bif Nat.beq pc 49 then some (.inl (o_gI 7 4)) else none) else (bif Nat.beq pc 52 then some (.inl (o_cne 59)) else none))) else (bif Nat.ble pc 56 then (bif Nat.ble pc 55 then (bif Nat.beq pc 55 then some (.inl (oS 1 (s_push (.int 1)))) else none) else (bif Nat.beq pc 56 then some (.inl (o_goto 60)) else none)) else (bif Nat.ble pc 59 then (bif Nat.beq pc 59 then some (.inl (oS 1 (s_push (.int 0)))) else none) else (bif Nat.beq pc 60 then some (.inr (0, 0, 0, 4)) else none)))))
theorem k_73_0 : mOk M_73.1 M_73.2.1 M_73.2.2.1 M_73.2.2.2 0 (o_al 0 1) := ok_aload_n dX7_isLike_0 rfl
theorem k_73_1 : mOk M_73.1 M_73.2.1 M_73.2.2.1 M_73.2.2.2 1 (o_gI 7 0) := ok_gI dX7_isLike_1 f_RX7_9 (Or.inl rfl)
theorem k_73_4 : mOk M_73.1 M_73.2.1 M_73.2.2.1 M_73.2.2.2 4 (o_al 1 1) := ok_aload_n dX7_isLike_4 rfl
theorem k_73_5 : mOk M_73.1 M_73.2.1 M_73.2.2.1 M_73.2.2.2 5 (o_gI 7 0) := ok_gI dX7_isLike_5 f_RX7_9 (Or.inl rfl)
theorem k_73_8 : mOk M_73.1 M_73.2.1 M_73.2.2.1 M_73.2.2.2 8 (o_cne 59) := ok_cne dX7_isLike_8 (by decide)
theorem k_73_11 : mOk M_73.1 M_73.2.1 M_73.2.2.1 M_73.2.2.2 11 (o_al 0 1) := ok_aload_n dX7_isLike_11 rfl
theorem k_73_12 : mOk M_73.1 M_73.2.1 M_73.2.2.1 M_73.2.2.2 12 (o_gI 7 1) := ok_gI dX7_isLike_12 f_RX7_15 (Or.inl rfl)
theorem k_73_15 : mOk M_73.1 M_73.2.1 M_73.2.2.1 M_73.2.2.2 15 (o_al 1 1) := ok_aload_n dX7_isLike_15 rfl
theorem k_73_16 : mOk M_73.1 M_73.2.1 M_73.2.2.1 M_73.2.2.2 16 (o_gI 7 1) := ok_gI dX7_isLike_16 f_RX7_15 (Or.inl rfl)
theorem k_73_19 : mOk M_73.1 M_73.2.1 M_73.2.2.1 M_73.2.2.2 19 (o_cne 59) := ok_cne dX7_isLike_19 (by decide)
theorem k_73_22 : mOk M_73.1 M_73.2.1 M_73.2.2.1 M_73.2.2.2 22 (o_al 0 1) := ok_aload_n dX7_isLike_22 rfl
theorem k_73_23 : mOk M_73.1 M_73.2.1 M_73.2.2.1 M_73.2.2.2 23 (o_gI 7 2) := ok_gI dX7_isLike_23 f_RX7_18 (Or.inl rfl)
theorem k_73_26 : mOk M_73.1 M_73.2.1 M_73.2.2.1 M_73.2.2.2 26 (o_al 1 1) := ok_aload_n dX7_isLike_26 rfl
theorem k_73_27 : mOk M_73.1 M_73.2.1 M_73.2.2.1 M_73.2.2.2 27 (o_gI 7 2) := ok_gI dX7_isLike_27 f_RX7_18 (Or.inl rfl)
theorem k_73_30 : mOk M_73.1 M_73.2.1 M_73.2.2.1 M_73.2.2.2 30 (o_cne 59) := ok_cne dX7_isLike_30 (by decide)
theorem k_73_33 : mOk M_73.1 M_73.2.1 M_73.2.2.1 M_73.2.2.2 33 (o_al 0 1) := ok_aload_n dX7_isLike_33 rfl
theorem k_73_34 : mOk M_73.1 M_73.2.1 M_73.2.2.1 M_73.2.2.2 34 (o_gI 7 3) := ok_gI dX7_isLike_34 f_RX7_21 (Or.inl rfl)
theorem k_73_37 : mOk M_73.1 M_73.2.1 M_73.2.2.1 M_73.2.2.2 37 (o_al 1 1) := ok_aload_n dX7_isLike_37 rfl
theorem k_73_38 : mOk M_73.1 M_73.2.1 M_73.2.2.1 M_73.2.2.2 38 (o_gI 7 3) := ok_gI dX7_isLike_38 f_RX7_21 (Or.inl rfl)
theorem k_73_41 : mOk M_73.1 M_73.2.1 M_73.2.2.1 M_73.2.2.2 41 (o_cne 59) := ok_cne dX7_isLike_41 (by decide)
theorem k_73_44 : mOk M_73.1 M_73.2.1 M_73.2.2.1 M_73.2.2.2 44 (o_al 0 1) := ok_aload_n dX7_isLike_44 rfl
theorem k_73_45 : mOk M_73.1 M_73.2.1 M_73.2.2.1 M_73.2.2.2 45 (o_gI 7 4) := ok_gI dX7_isLike_45 f_RX7_24 (Or.inl rfl)
theorem k_73_48 : mOk M_73.1 M_73.2.1 M_73.2.2.1 M_73.2.2.2 48 (o_al 1 1) := ok_aload_n dX7_isLike_48 rfl
theorem k_73_49 : mOk M_73.1 M_73.2.1 M_73.2.2.1 M_73.2.2.2 49 (o_gI 7 4) := ok_gI dX7_isLike_49 f_RX7_24 (Or.inl rfl)
theorem k_73_52 : mOk M_73.1 M_73.2.1 M_73.2.2.1 M_73.2.2.2 52 (o_cne 59) := ok_cne dX7_isLike_52 (by decide)
theorem k_73_55 : mOk M_73.1 M_73.2.1 M_73.2.2.1 M_73.2.2.2 55 (oS 1 (s_push (.int 1))) := ok_iconst dX7_isLike_55 (by decide)
theorem k_73_56 : mOk M_73.1 M_73.2.1 M_73.2.2.1 M_73.2.2.2 56 (o_goto 60) := ok_goto dX7_isLike_56 (by decide)
theorem k_73_59 : mOk M_73.1 M_73.2.1 M_73.2.2.1 M_73.2.2.2 59 (oS 1 (s_push (.int 0))) := ok_iconst dX7_isLike_59 (by decide)
set_option maxRecDepth 20000 in
set_option maxHeartbeats 4000000 in
theorem tk_73 (l : Launch) (H9 : mThr l) (H10 : mSpl l) (pc : Nat) (q : mEnt) (h : tb_73 pc = some q) : EE l 73 pc q := nd h (fun h => nd h (fun h => nd h (fun h => nd h (fun h => lf (P := EE l 73) h k_73_0) (fun h => nd h (fun h => lf (P := EE l 73) h k_73_1) (fun h => lf (P := EE l 73) h k_73_4))) (fun h => nd h (fun h => nd h (fun h => lf (P := EE l 73) h k_73_5) (fun h => lf (P := EE l 73) h k_73_8)) (fun h => nd h (fun h => lf (P := EE l 73) h k_73_11) (fun h => lf (P := EE l 73) h k_73_12)))) (fun h => nd h (fun h => nd h (fun h => lf (P := EE l 73) h k_73_15) (fun h => nd h (fun h => lf (P := EE l 73) h k_73_16) (fun h => lf (P := EE l 73) h k_73_19))) (fun h => nd h (fun h => nd h (fun h => lf (P := EE l 73) h k_73_22) (fun h => lf (P := EE l 73) h k_73_23)) (fun h => nd h (fun h => lf (P := EE l 73) h k_73_26) (fun h => lf (P := EE l 73) h k_73_27))))) (fun h => nd h (fun h => nd h (fun h => nd h (fun h => lf (P := EE l 73) h k_73_30) (fun h => nd h (fun h => lf (P := EE l 73) h k_73_33) (fun h => lf (P := EE l 73) h k_73_34))) (fun h => nd h (fun h => nd h (fun h => lf (P := EE l 73) h k_73_37) (fun h => lf (P := EE l 73) h k_73_38)) (fun h => nd h (fun h => lf (P := EE l 73) h k_73_41) (fun h => lf (P := EE l 73) h k_73_44)))) (fun h => nd h (fun h => nd h (fun h => nd h (fun h => lf (P := EE l 73) h k_73_45) (fun h => lf (P := EE l 73) h k_73_48)) (fun h => nd h (fun h => lf (P := EE l 73) h k_73_49) (fun h => lf (P := EE l 73) h k_73_52))) (fun h => nd h (fun h => nd h (fun h => lf (P := EE l 73) h k_73_55) (fun h => lf (P := EE l 73) h k_73_56)) (fun h => nd h (fun h => lf (P := EE l 73) h k_73_59) (fun h => lf (P := EE l 73) h (EE_re (Or.inr (Or.inl ⟨rfl, dX7_isLike_60, rfl⟩))))))))
theorem dX7_hasTile_0 : decode cX7_hasTile 0 = .ok (.bipush 12, 2) := by decide +kernel
theorem dX7_hasTile_2 : decode cX7_hasTile 2 = .ok (.iload_n 1, 1) := by decide +kernel
theorem dX7_hasTile_3 : decode cX7_hasTile 3 = .ok (.isub, 1) := by decide +kernel
theorem dX7_hasTile_4 : decode cX7_hasTile 4 = .ok (.istore 4, 2) := by decide +kernel
theorem dX7_hasTile_6 : decode cX7_hasTile 6 = .ok (.iload_n 2, 1) := by decide +kernel
theorem dX7_hasTile_7 : decode cX7_hasTile 7 = .ok (.aload_n 0, 1) := by decide +kernel
theorem dX7_hasTile_8 : decode cX7_hasTile 8 = .ok (.getfield 9, 3) := by decide +kernel
theorem dX7_hasTile_11 : decode cX7_hasTile 11 = .ok (.iload 4, 2) := by decide +kernel
theorem dX7_hasTile_13 : decode cX7_hasTile 13 = .ok (.ishr, 1) := by decide +kernel
theorem dX7_hasTile_14 : decode cX7_hasTile 14 = .ok (.if_icmp .lt 40, 3) := by decide +kernel
theorem dX7_hasTile_17 : decode cX7_hasTile 17 = .ok (.iload_n 2, 1) := by decide +kernel
theorem dX7_hasTile_18 : decode cX7_hasTile 18 = .ok (.aload_n 0, 1) := by decide +kernel
theorem dX7_hasTile_19 : decode cX7_hasTile 19 = .ok (.getfield 18, 3) := by decide +kernel
theorem dX7_hasTile_22 : decode cX7_hasTile 22 = .ok (.iload 4, 2) := by decide +kernel
theorem dX7_hasTile_24 : decode cX7_hasTile 24 = .ok (.ishr, 1) := by decide +kernel
theorem dX7_hasTile_25 : decode cX7_hasTile 25 = .ok (.if_icmp .gt 29, 3) := by decide +kernel
theorem dX7_hasTile_28 : decode cX7_hasTile 28 = .ok (.iload_n 3, 1) := by decide +kernel
theorem dX7_hasTile_29 : decode cX7_hasTile 29 = .ok (.aload_n 0, 1) := by decide +kernel
theorem dX7_hasTile_30 : decode cX7_hasTile 30 = .ok (.getfield 15, 3) := by decide +kernel
theorem dX7_hasTile_33 : decode cX7_hasTile 33 = .ok (.iload 4, 2) := by decide +kernel
theorem dX7_hasTile_35 : decode cX7_hasTile 35 = .ok (.ishr, 1) := by decide +kernel
theorem dX7_hasTile_36 : decode cX7_hasTile 36 = .ok (.if_icmp .lt 18, 3) := by decide +kernel
theorem dX7_hasTile_39 : decode cX7_hasTile 39 = .ok (.iload_n 3, 1) := by decide +kernel
theorem dX7_hasTile_40 : decode cX7_hasTile 40 = .ok (.aload_n 0, 1) := by decide +kernel
theorem dX7_hasTile_41 : decode cX7_hasTile 41 = .ok (.getfield 21, 3) := by decide +kernel
theorem dX7_hasTile_44 : decode cX7_hasTile 44 = .ok (.iload 4, 2) := by decide +kernel
theorem dX7_hasTile_46 : decode cX7_hasTile 46 = .ok (.ishr, 1) := by decide +kernel
theorem dX7_hasTile_47 : decode cX7_hasTile 47 = .ok (.if_icmp .gt 7, 3) := by decide +kernel
theorem dX7_hasTile_50 : decode cX7_hasTile 50 = .ok (.iconst 1, 1) := by decide +kernel
theorem dX7_hasTile_51 : decode cX7_hasTile 51 = .ok (.goto 4, 3) := by decide +kernel
theorem dX7_hasTile_54 : decode cX7_hasTile 54 = .ok (.iconst 0, 1) := by decide +kernel
theorem dX7_hasTile_55 : decode cX7_hasTile 55 = .ok (.ireturn, 1) := by decide +kernel
def tb_74 (pc : Nat) : Option mEnt := bif Nat.ble pc 25 then (bif Nat.ble pc 11 then (bif Nat.ble pc 4 then (bif Nat.ble pc 2 then (bif Nat.ble pc 0 then (bif Nat.beq pc 0 then some (.inl (oS 2 (s_push (.int 12)))) else none) else (bif Nat.beq pc 2 then some (.inl (o_il 1 1)) else none)) else (bif Nat.ble pc 3 then (bif Nat.beq pc 3 then some (.inl (oS 1 (s_ii (fun a b => a - b)))) else none) else (bif Nat.beq pc 4 then some (.inl (o_is 4 2)) else none))) else (bif Nat.ble pc 7 then (bif Nat.ble pc 6 then (bif Nat.beq pc 6 then some (.inl (o_il 2 1)) else none) else (bif Nat.beq pc 7 then some (.inl (o_al 0 1)) else none)) else (bif Nat.ble pc 8 then (bif Nat.beq pc 8 then some (.inl (o_gI 7 0)) else none) else (bif Nat.beq pc 11 then some (.inl (o_il 4 2)) else none)))) else (bif Nat.ble pc 18 then (bif Nat.ble pc 14 then (bif Nat.ble pc 13 then (bif Nat.beq pc 13 then some (.inl (oS 1 (s_ii (fun a b => a >>> (b &&& 31))))) else none) else (bif Nat.beq pc 14 then some (.inl (o_clt 54)) else none)) else (bif Nat.ble pc 17 then (bif Nat.beq pc 17 then some (.inl (o_il 2 1)) else none) else (bif Nat.beq pc 18 then some (.inl (o_al 0 1)) else none))) else (bif Nat.ble pc 22 then (bif Nat.ble pc 19 then (bif Nat.beq pc 19 then some (.inl (o_gI 7 2)) else none) else (bif Nat.beq pc 22 then some (.inl (o_il 4 2)) else none)) else (bif Nat.ble pc 24 then (bif Nat.beq pc 24 then some (.inl (oS 1 (s_ii (fun a b => a >>> (b &&& 31))))) else none) else (bif Nat.beq pc 25 then some (.inl (o_cgt 54)) else none))))) else (bif Nat.ble pc 40 then (bif Nat.ble pc 33 then (bif Nat.ble pc 29 then (bif Nat.ble pc 28 then (bif Nat.beq pc 28 then some (.inl (o_il 3 1)) else none) else (bif Nat.beq pc 29 then some (.inl (o_al 0 1)) else none)) else (bif Nat.ble pc 30 then (bif Nat.beq pc 30 then some (.inl (o_gI 7 1)) else none) else (bif Nat.beq pc 33 then some (.inl (o_il 4 2)) else none))) else (bif Nat.ble pc 36 then (bif Nat.ble pc 35 then (bif Nat.beq pc 35 then some (.inl (oS 1 (s_ii (fun a b => a >>> (b &&& 31))))) else none) else (bif Nat.beq pc 36 then some (.inl (o_clt 54)) else none)) else (bif Nat.ble pc 39 then (bif Nat.beq pc 39 then some (.inl (o_il 3 1)) else none) else (bif Nat.beq pc 40 then some (.inl (o_al 0 1)) else none)))) else (bif Nat.ble pc 47 then (bif Nat.ble pc 44 then (bif Nat.ble pc 41 then (bif Nat.beq pc 41 then some (.inl (o_gI 7 3)) else none) else (bif Nat.beq pc 44 then some (.inl (o_il 4 2)) else none)) else (bif Nat.ble pc 46 then (bif Nat.beq pc 46 then some (.inl (oS 1 (s_ii (fun a b => a >>> (b &&& 31))))) else none) else (bif Nat.beq pc 47 then some (.inl (o_cgt 54)) else none))) else (bif Nat.ble pc 51 then (bif Nat.ble pc 50 then (bif Nat.beq pc 50 then some (.inl (oS 1 (s_push (.int 1)))) else none) else (bif Nat.beq pc 51 then some (.inl (o_goto 55)) else none)) else (bif Nat.ble pc 54 then (bif Nat.beq pc 54 then some (.inl (oS 1 (s_push (.int 0)))) else none) else (bif Nat.beq pc 55 then some (.inr (0, 0, 0, 4)) else none)))))
theorem k_74_0 : mOk M_74.1 M_74.2.1 M_74.2.2.1 M_74.2.2.2 0 (oS 2 (s_push (.int 12))) := ok_bipush dX7_hasTile_0 (by decide)
theorem k_74_2 : mOk M_74.1 M_74.2.1 M_74.2.2.1 M_74.2.2.2 2 (o_il 1 1) := ok_iload_n dX7_hasTile_2 rfl
theorem k_74_3 : mOk M_74.1 M_74.2.1 M_74.2.2.1 M_74.2.2.2 3 (oS 1 (s_ii (fun a b => a - b))) := ok_isub dX7_hasTile_3
theorem k_74_4 : mOk M_74.1 M_74.2.1 M_74.2.2.1 M_74.2.2.2 4 (o_is 4 2) := ok_istore dX7_hasTile_4
theorem k_74_6 : mOk M_74.1 M_74.2.1 M_74.2.2.1 M_74.2.2.2 6 (o_il 2 1) := ok_iload_n dX7_hasTile_6 rfl
theorem k_74_7 : mOk M_74.1 M_74.2.1 M_74.2.2.1 M_74.2.2.2 7 (o_al 0 1) := ok_aload_n dX7_hasTile_7 rfl
theorem k_74_8 : mOk M_74.1 M_74.2.1 M_74.2.2.1 M_74.2.2.2 8 (o_gI 7 0) := ok_gI dX7_hasTile_8 f_RX7_9 (Or.inl rfl)
theorem k_74_11 : mOk M_74.1 M_74.2.1 M_74.2.2.1 M_74.2.2.2 11 (o_il 4 2) := ok_iload dX7_hasTile_11
theorem k_74_13 : mOk M_74.1 M_74.2.1 M_74.2.2.1 M_74.2.2.2 13 (oS 1 (s_ii (fun a b => a >>> (b &&& 31)))) := ok_ishr dX7_hasTile_13
theorem k_74_14 : mOk M_74.1 M_74.2.1 M_74.2.2.1 M_74.2.2.2 14 (o_clt 54) := ok_clt dX7_hasTile_14 (by decide)
theorem k_74_17 : mOk M_74.1 M_74.2.1 M_74.2.2.1 M_74.2.2.2 17 (o_il 2 1) := ok_iload_n dX7_hasTile_17 rfl
theorem k_74_18 : mOk M_74.1 M_74.2.1 M_74.2.2.1 M_74.2.2.2 18 (o_al 0 1) := ok_aload_n dX7_hasTile_18 rfl
theorem k_74_19 : mOk M_74.1 M_74.2.1 M_74.2.2.1 M_74.2.2.2 19 (o_gI 7 2) := ok_gI dX7_hasTile_19 f_RX7_18 (Or.inl rfl)
theorem k_74_22 : mOk M_74.1 M_74.2.1 M_74.2.2.1 M_74.2.2.2 22 (o_il 4 2) := ok_iload dX7_hasTile_22
theorem k_74_24 : mOk M_74.1 M_74.2.1 M_74.2.2.1 M_74.2.2.2 24 (oS 1 (s_ii (fun a b => a >>> (b &&& 31)))) := ok_ishr dX7_hasTile_24
theorem k_74_25 : mOk M_74.1 M_74.2.1 M_74.2.2.1 M_74.2.2.2 25 (o_cgt 54) := ok_cgt dX7_hasTile_25 (by decide)
theorem k_74_28 : mOk M_74.1 M_74.2.1 M_74.2.2.1 M_74.2.2.2 28 (o_il 3 1) := ok_iload_n dX7_hasTile_28 rfl
theorem k_74_29 : mOk M_74.1 M_74.2.1 M_74.2.2.1 M_74.2.2.2 29 (o_al 0 1) := ok_aload_n dX7_hasTile_29 rfl
theorem k_74_30 : mOk M_74.1 M_74.2.1 M_74.2.2.1 M_74.2.2.2 30 (o_gI 7 1) := ok_gI dX7_hasTile_30 f_RX7_15 (Or.inl rfl)
theorem k_74_33 : mOk M_74.1 M_74.2.1 M_74.2.2.1 M_74.2.2.2 33 (o_il 4 2) := ok_iload dX7_hasTile_33
theorem k_74_35 : mOk M_74.1 M_74.2.1 M_74.2.2.1 M_74.2.2.2 35 (oS 1 (s_ii (fun a b => a >>> (b &&& 31)))) := ok_ishr dX7_hasTile_35
theorem k_74_36 : mOk M_74.1 M_74.2.1 M_74.2.2.1 M_74.2.2.2 36 (o_clt 54) := ok_clt dX7_hasTile_36 (by decide)
theorem k_74_39 : mOk M_74.1 M_74.2.1 M_74.2.2.1 M_74.2.2.2 39 (o_il 3 1) := ok_iload_n dX7_hasTile_39 rfl
theorem k_74_40 : mOk M_74.1 M_74.2.1 M_74.2.2.1 M_74.2.2.2 40 (o_al 0 1) := ok_aload_n dX7_hasTile_40 rfl
theorem k_74_41 : mOk M_74.1 M_74.2.1 M_74.2.2.1 M_74.2.2.2 41 (o_gI 7 3) := ok_gI dX7_hasTile_41 f_RX7_21 (Or.inl rfl)
theorem k_74_44 : mOk M_74.1 M_74.2.1 M_74.2.2.1 M_74.2.2.2 44 (o_il 4 2) := ok_iload dX7_hasTile_44
theorem k_74_46 : mOk M_74.1 M_74.2.1 M_74.2.2.1 M_74.2.2.2 46 (oS 1 (s_ii (fun a b => a >>> (b &&& 31)))) := ok_ishr dX7_hasTile_46
theorem k_74_47 : mOk M_74.1 M_74.2.1 M_74.2.2.1 M_74.2.2.2 47 (o_cgt 54) := ok_cgt dX7_hasTile_47 (by decide)
theorem k_74_50 : mOk M_74.1 M_74.2.1 M_74.2.2.1 M_74.2.2.2 50 (oS 1 (s_push (.int 1))) := ok_iconst dX7_hasTile_50 (by decide)
theorem k_74_51 : mOk M_74.1 M_74.2.1 M_74.2.2.1 M_74.2.2.2 51 (o_goto 55) := ok_goto dX7_hasTile_51 (by decide)
theorem k_74_54 : mOk M_74.1 M_74.2.1 M_74.2.2.1 M_74.2.2.2 54 (oS 1 (s_push (.int 0))) := ok_iconst dX7_hasTile_54 (by decide)
set_option maxRecDepth 20000 in
set_option maxHeartbeats 4000000 in
theorem tk_74 (l : Launch) (H9 : mThr l) (H10 : mSpl l) (pc : Nat) (q : mEnt) (h : tb_74 pc = some q) : EE l 74 pc q := nd h (fun h => nd h (fun h => nd h (fun h => nd h (fun h => nd h (fun h => lf (P := EE l 74) h k_74_0) (fun h => lf (P := EE l 74) h k_74_2)) (fun h => nd h (fun h => lf (P := EE l 74) h k_74_3) (fun h => lf (P := EE l 74) h k_74_4))) (fun h => nd h (fun h => nd h (fun h => lf (P := EE l 74) h k_74_6) (fun h => lf (P := EE l 74) h k_74_7)) (fun h => nd h (fun h => lf (P := EE l 74) h k_74_8) (fun h => lf (P := EE l 74) h k_74_11)))) (fun h => nd h (fun h => nd h (fun h => nd h (fun h => lf (P := EE l 74) h k_74_13) (fun h => lf (P := EE l 74) h k_74_14)) (fun h => nd h (fun h => lf (P := EE l 74) h k_74_17) (fun h => lf (P := EE l 74) h k_74_18))) (fun h => nd h (fun h => nd h (fun h => lf (P := EE l 74) h k_74_19) (fun h => lf (P := EE l 74) h k_74_22)) (fun h => nd h (fun h => lf (P := EE l 74) h k_74_24) (fun h => lf (P := EE l 74) h k_74_25))))) (fun h => nd h (fun h => nd h (fun h => nd h (fun h => nd h (fun h => lf (P := EE l 74) h k_74_28) (fun h => lf (P := EE l 74) h k_74_29)) (fun h => nd h (fun h => lf (P := EE l 74) h k_74_30) (fun h => lf (P := EE l 74) h k_74_33))) (fun h => nd h (fun h => nd h (fun h => lf (P := EE l 74) h k_74_35) (fun h => lf (P := EE l 74) h k_74_36)) (fun h => nd h (fun h => lf (P := EE l 74) h k_74_39) (fun h => lf (P := EE l 74) h k_74_40)))) (fun h => nd h (fun h => nd h (fun h => nd h (fun h => lf (P := EE l 74) h k_74_41) (fun h => lf (P := EE l 74) h k_74_44)) (fun h => nd h (fun h => lf (P := EE l 74) h k_74_46) (fun h => lf (P := EE l 74) h k_74_47))) (fun h => nd h (fun h => nd h (fun h => lf (P := EE l 74) h k_74_50) (fun h => lf (P := EE l 74) h k_74_51)) (fun h => nd h (fun h => lf (P := EE l 74) h k_74_54) (fun h => lf (P := EE l 74) h (EE_re (Or.inr (Or.inl ⟨rfl, dX7_hasTile_55, rfl⟩))))))))
theorem dX7_meets_0 : decode cX7_meets 0 = .ok (.aload_n 1, 1) := by decide +kernel
theorem dX7_meets_1 : decode cX7_meets 1 = .ok (.getfield 31, 3) := by decide +kernel
theorem dX7_meets_4 : decode cX7_meets 4 = .ok (.ifCond .ne 11, 3) := by decide +kernel
theorem dX7_meets_7 : decode cX7_meets 7 = .ok (.aload_n 0, 1) := by decide +kernel
theorem dX7_meets_8 : decode cX7_meets 8 = .ok (.aload_n 1, 1) := by decide +kernel
theorem dX7_meets_9 : decode cX7_meets 9 = .ok (.iconst 0, 1) := by decide +kernel
theorem dX7_meets_10 : decode cX7_meets 10 = .ok (.iconst 0, 1) := by decide +kernel
theorem dX7_meets_11 : decode cX7_meets 11 = .ok (.invokevirtual 36, 3) := by decide +kernel
theorem dX7_meets_14 : decode cX7_meets 14 = .ok (.ireturn, 1) := by decide +kernel
theorem dX7_meets_15 : decode cX7_meets 15 = .ok (.aload_n 1, 1) := by decide +kernel
theorem dX7_meets_16 : decode cX7_meets 16 = .ok (.getfield 31, 3) := by decide +kernel
theorem dX7_meets_19 : decode cX7_meets 19 = .ok (.iconst 2, 1) := by decide +kernel
theorem dX7_meets_20 : decode cX7_meets 20 = .ok (.if_icmp .ne 10, 3) := by decide +kernel
theorem dX7_meets_23 : decode cX7_meets 23 = .ok (.aload_n 1, 1) := by decide +kernel
theorem dX7_meets_24 : decode cX7_meets 24 = .ok (.getfield 40, 3) := by decide +kernel
theorem dX7_meets_27 : decode cX7_meets 27 = .ok (.goto 9, 3) := by decide +kernel
theorem dX7_meets_30 : decode cX7_meets 30 = .ok (.aload_n 1, 1) := by decide +kernel
theorem dX7_meets_31 : decode cX7_meets 31 = .ok (.getfield 40, 3) := by decide +kernel
theorem dX7_meets_34 : decode cX7_meets 34 = .ok (.iconst 1, 1) := by decide +kernel
theorem dX7_meets_35 : decode cX7_meets 35 = .ok (.isub, 1) := by decide +kernel
theorem dX7_meets_36 : decode cX7_meets 36 = .ok (.istore_n 2, 1) := by decide +kernel
theorem dX7_meets_37 : decode cX7_meets 37 = .ok (.iconst 0, 1) := by decide +kernel
theorem dX7_meets_38 : decode cX7_meets 38 = .ok (.istore_n 3, 1) := by decide +kernel
theorem dX7_meets_39 : decode cX7_meets 39 = .ok (.iload_n 3, 1) := by decide +kernel
theorem dX7_meets_40 : decode cX7_meets 40 = .ok (.iload_n 2, 1) := by decide +kernel
theorem dX7_meets_41 : decode cX7_meets 41 = .ok (.if_icmp .ge 25, 3) := by decide +kernel
theorem dX7_meets_44 : decode cX7_meets 44 = .ok (.aload_n 0, 1) := by decide +kernel
theorem dX7_meets_45 : decode cX7_meets 45 = .ok (.aload_n 1, 1) := by decide +kernel
theorem dX7_meets_46 : decode cX7_meets 46 = .ok (.iload_n 3, 1) := by decide +kernel
theorem dX7_meets_47 : decode cX7_meets 47 = .ok (.aload_n 1, 1) := by decide +kernel
theorem dX7_meets_48 : decode cX7_meets 48 = .ok (.iload_n 3, 1) := by decide +kernel
theorem dX7_meets_49 : decode cX7_meets 49 = .ok (.invokevirtual 43, 3) := by decide +kernel
theorem dX7_meets_52 : decode cX7_meets 52 = .ok (.invokevirtual 36, 3) := by decide +kernel
theorem dX7_meets_55 : decode cX7_meets 55 = .ok (.ifCond .eq 5, 3) := by decide +kernel
theorem dX7_meets_58 : decode cX7_meets 58 = .ok (.iconst 1, 1) := by decide +kernel
theorem dX7_meets_59 : decode cX7_meets 59 = .ok (.ireturn, 1) := by decide +kernel
theorem dX7_meets_60 : decode cX7_meets 60 = .ok (.iinc 3 1, 3) := by decide +kernel
theorem dX7_meets_63 : decode cX7_meets 63 = .ok (.goto (-24), 3) := by decide +kernel
theorem dX7_meets_66 : decode cX7_meets 66 = .ok (.aload_n 1, 1) := by decide +kernel
theorem dX7_meets_67 : decode cX7_meets 67 = .ok (.getfield 31, 3) := by decide +kernel
theorem dX7_meets_70 : decode cX7_meets 70 = .ok (.iconst 2, 1) := by decide +kernel
theorem dX7_meets_71 : decode cX7_meets 71 = .ok (.if_icmp .ne 22, 3) := by decide +kernel
theorem dX7_meets_74 : decode cX7_meets 74 = .ok (.aload_n 1, 1) := by decide +kernel
theorem dX7_meets_75 : decode cX7_meets 75 = .ok (.aload_n 0, 1) := by decide +kernel
theorem dX7_meets_76 : decode cX7_meets 76 = .ok (.getfield 9, 3) := by decide +kernel
theorem dX7_meets_79 : decode cX7_meets 79 = .ok (.aload_n 0, 1) := by decide +kernel
theorem dX7_meets_80 : decode cX7_meets 80 = .ok (.getfield 15, 3) := by decide +kernel
theorem dX7_meets_83 : decode cX7_meets 83 = .ok (.invokevirtual 47, 3) := by decide +kernel
theorem dX7_meets_86 : decode cX7_meets 86 = .ok (.ifCond .eq 7, 3) := by decide +kernel
theorem dX7_meets_89 : decode cX7_meets 89 = .ok (.iconst 1, 1) := by decide +kernel
theorem dX7_meets_90 : decode cX7_meets 90 = .ok (.goto 4, 3) := by decide +kernel
theorem dX7_meets_93 : decode cX7_meets 93 = .ok (.iconst 0, 1) := by decide +kernel
theorem dX7_meets_94 : decode cX7_meets 94 = .ok (.ireturn, 1) := by decide +kernel
def tb_75 (pc : Nat) : Option mEnt := bif Nat.ble pc 41 then (bif Nat.ble pc 20 then (bif Nat.ble pc 9 then (bif Nat.ble pc 4 then (bif Nat.ble pc 0 then (bif Nat.beq pc 0 then some (.inl (o_al 1 1)) else none) else (bif Nat.ble pc 1 then (bif Nat.beq pc 1 then some (.inl (o_gI 2 1)) else none) else (bif Nat.beq pc 4 then some (.inl (o_zne 15)) else none))) else (bif Nat.ble pc 7 then (bif Nat.beq pc 7 then some (.inl (o_al 0 1)) else none) else (bif Nat.ble pc 8 then (bif Nat.beq pc 8 then some (.inl (o_al 1 1)) else none) else (bif Nat.beq pc 9 then some (.inl (oS 1 (s_push (.int 0)))) else none)))) else (bif Nat.ble pc 14 then (bif Nat.ble pc 10 then (bif Nat.beq pc 10 then some (.inl (oS 1 (s_push (.int 0)))) else none) else (bif Nat.ble pc 11 then (bif Nat.beq pc 11 then some (.inr (3, 76, 4, 7)) else none) else (bif Nat.beq pc 14 then some (.inr (0, 0, 0, 4)) else none))) else (bif Nat.ble pc 16 then (bif Nat.ble pc 15 then (bif Nat.beq pc 15 then some (.inl (o_al 1 1)) else none) else (bif Nat.beq pc 16 then some (.inl (o_gI 2 1)) else none)) else (bif Nat.ble pc 19 then (bif Nat.beq pc 19 then some (.inl (oS 1 (s_push (.int 2)))) else none) else (bif Nat.beq pc 20 then some (.inl (o_cne 30)) else none))))) else (bif Nat.ble pc 34 then (bif Nat.ble pc 27 then (bif Nat.ble pc 23 then (bif Nat.beq pc 23 then some (.inl (o_al 1 1)) else none) else (bif Nat.ble pc 24 then (bif Nat.beq pc 24 then some (.inl (o_gI 2 5)) else none) else (bif Nat.beq pc 27 then some (.inl (o_goto 36)) else none))) else (bif Nat.ble pc 30 then (bif Nat.beq pc 30 then some (.inl (o_al 1 1)) else none) else (bif Nat.ble pc 31 then (bif Nat.beq pc 31 then some (.inl (o_gI 2 5)) else none) else (bif Nat.beq pc 34 then some (.inl (oS 1 (s_push (.int 1)))) else none)))) else (bif Nat.ble pc 37 then (bif Nat.ble pc 35 then (bif Nat.beq pc 35 then some (.inl (oS 1 (s_ii (fun a b => a - b)))) else none) else (bif Nat.ble pc 36 then (bif Nat.beq pc 36 then some (.inl (o_is 2 1)) else none) else (bif Nat.beq pc 37 then some (.inl (oS 1 (s_push (.int 0)))) else none))) else (bif Nat.ble pc 39 then (bif Nat.ble pc 38 then (bif Nat.beq pc 38 then some (.inl (o_is 3 1)) else none) else (bif Nat.beq pc 39 then some (.inl (o_il 3 1)) else none)) else (bif Nat.ble pc 40 then (bif Nat.beq pc 40 then some (.inl (o_il 2 1)) else none) else (bif Nat.beq pc 41 then some (.inl (o_cge 66)) else none)))))) else (bif Nat.ble pc 66 then (bif Nat.ble pc 49 then (bif Nat.ble pc 46 then (bif Nat.ble pc 44 then (bif Nat.beq pc 44 then some (.inl (o_al 0 1)) else none) else (bif Nat.ble pc 45 then (bif Nat.beq pc 45 then some (.inl (o_al 1 1)) else none) else (bif Nat.beq pc 46 then some (.inl (o_il 3 1)) else none))) else (bif Nat.ble pc 47 then (bif Nat.beq pc 47 then some (.inl (o_al 1 1)) else none) else (bif Nat.ble pc 48 then (bif Nat.beq pc 48 then some (.inl (o_il 3 1)) else none) else (bif Nat.beq pc 49 then some (.inr (3, 29, 2, 2)) else none)))) else (bif Nat.ble pc 58 then (bif Nat.ble pc 52 then (bif Nat.beq pc 52 then some (.inr (3, 76, 4, 7)) else none) else (bif Nat.ble pc 55 then (bif Nat.beq pc 55 then some (.inl (o_zeq 60)) else none) else (bif Nat.beq pc 58 then some (.inl (oS 1 (s_push (.int 1)))) else none))) else (bif Nat.ble pc 60 then (bif Nat.ble pc 59 then (bif Nat.beq pc 59 then some (.inr (0, 0, 0, 4)) else none) else (bif Nat.beq pc 60 then some (.inl (o_inc 3 1)) else none)) else (bif Nat.ble pc 63 then (bif Nat.beq pc 63 then some (.inl (o_goto 39)) else none) else (bif Nat.beq pc 66 then some (.inl (o_al 1 1)) else none))))) else (bif Nat.ble pc 79 then (bif Nat.ble pc 71 then (bif Nat.ble pc 67 then (bif Nat.beq pc 67 then some (.inl (o_gI 2 1)) else none) else (bif Nat.ble pc 70 then (bif Nat.beq pc 70 then some (.inl (oS 1 (s_push (.int 2)))) else none) else (bif Nat.beq pc 71 then some (.inl (o_cne 93)) else none))) else (bif Nat.ble pc 75 then (bif Nat.ble pc 74 then (bif Nat.beq pc 74 then some (.inl (o_al 1 1)) else none) else (bif Nat.beq pc 75 then some (.inl (o_al 0 1)) else none)) else (bif Nat.ble pc 76 then (bif Nat.beq pc 76 then some (.inl (o_gI 7 0)) else none) else (bif Nat.beq pc 79 then some (.inl (o_al 0 1)) else none)))) else (bif Nat.ble pc 86 then (bif Nat.ble pc 80 then (bif Nat.beq pc 80 then some (.inl (o_gI 7 1)) else none) else (bif Nat.ble pc 83 then (bif Nat.beq pc 83 then some (.inr (3, 30, 3, 2)) else none) else (bif Nat.beq pc 86 then some (.inl (o_zeq 93)) else none))) else (bif Nat.ble pc 90 then (bif Nat.ble pc 89 then (bif Nat.beq pc 89 then some (.inl (oS 1 (s_push (.int 1)))) else none) else (bif Nat.beq pc 90 then some (.inl (o_goto 94)) else none)) else (bif Nat.ble pc 93 then (bif Nat.beq pc 93 then some (.inl (oS 1 (s_push (.int 0)))) else none) else (bif Nat.beq pc 94 then some (.inr (0, 0, 0, 4)) else none))))))
theorem k_75_0 : mOk M_75.1 M_75.2.1 M_75.2.2.1 M_75.2.2.2 0 (o_al 1 1) := ok_aload_n dX7_meets_0 rfl
theorem k_75_1 : mOk M_75.1 M_75.2.1 M_75.2.2.1 M_75.2.2.2 1 (o_gI 2 1) := ok_gI dX7_meets_1 f_RX7_31 (Or.inl rfl)
theorem k_75_4 : mOk M_75.1 M_75.2.1 M_75.2.2.1 M_75.2.2.2 4 (o_zne 15) := ok_zne dX7_meets_4 (by decide)
theorem k_75_7 : mOk M_75.1 M_75.2.1 M_75.2.2.1 M_75.2.2.2 7 (o_al 0 1) := ok_aload_n dX7_meets_7 rfl
theorem k_75_8 : mOk M_75.1 M_75.2.1 M_75.2.2.1 M_75.2.2.2 8 (o_al 1 1) := ok_aload_n dX7_meets_8 rfl
theorem k_75_9 : mOk M_75.1 M_75.2.1 M_75.2.2.1 M_75.2.2.2 9 (oS 1 (s_push (.int 0))) := ok_iconst dX7_meets_9 (by decide)
theorem k_75_10 : mOk M_75.1 M_75.2.1 M_75.2.2.1 M_75.2.2.2 10 (oS 1 (s_push (.int 0))) := ok_iconst dX7_meets_10 (by decide)
theorem k_75_15 : mOk M_75.1 M_75.2.1 M_75.2.2.1 M_75.2.2.2 15 (o_al 1 1) := ok_aload_n dX7_meets_15 rfl
theorem k_75_16 : mOk M_75.1 M_75.2.1 M_75.2.2.1 M_75.2.2.2 16 (o_gI 2 1) := ok_gI dX7_meets_16 f_RX7_31 (Or.inl rfl)
theorem k_75_19 : mOk M_75.1 M_75.2.1 M_75.2.2.1 M_75.2.2.2 19 (oS 1 (s_push (.int 2))) := ok_iconst dX7_meets_19 (by decide)
theorem k_75_20 : mOk M_75.1 M_75.2.1 M_75.2.2.1 M_75.2.2.2 20 (o_cne 30) := ok_cne dX7_meets_20 (by decide)
theorem k_75_23 : mOk M_75.1 M_75.2.1 M_75.2.2.1 M_75.2.2.2 23 (o_al 1 1) := ok_aload_n dX7_meets_23 rfl
theorem k_75_24 : mOk M_75.1 M_75.2.1 M_75.2.2.1 M_75.2.2.2 24 (o_gI 2 5) := ok_gI dX7_meets_24 f_RX7_40 (Or.inl rfl)
theorem k_75_27 : mOk M_75.1 M_75.2.1 M_75.2.2.1 M_75.2.2.2 27 (o_goto 36) := ok_goto dX7_meets_27 (by decide)
theorem k_75_30 : mOk M_75.1 M_75.2.1 M_75.2.2.1 M_75.2.2.2 30 (o_al 1 1) := ok_aload_n dX7_meets_30 rfl
theorem k_75_31 : mOk M_75.1 M_75.2.1 M_75.2.2.1 M_75.2.2.2 31 (o_gI 2 5) := ok_gI dX7_meets_31 f_RX7_40 (Or.inl rfl)
theorem k_75_34 : mOk M_75.1 M_75.2.1 M_75.2.2.1 M_75.2.2.2 34 (oS 1 (s_push (.int 1))) := ok_iconst dX7_meets_34 (by decide)
theorem k_75_35 : mOk M_75.1 M_75.2.1 M_75.2.2.1 M_75.2.2.2 35 (oS 1 (s_ii (fun a b => a - b))) := ok_isub dX7_meets_35
theorem k_75_36 : mOk M_75.1 M_75.2.1 M_75.2.2.1 M_75.2.2.2 36 (o_is 2 1) := ok_istore_n dX7_meets_36 rfl
theorem k_75_37 : mOk M_75.1 M_75.2.1 M_75.2.2.1 M_75.2.2.2 37 (oS 1 (s_push (.int 0))) := ok_iconst dX7_meets_37 (by decide)
theorem k_75_38 : mOk M_75.1 M_75.2.1 M_75.2.2.1 M_75.2.2.2 38 (o_is 3 1) := ok_istore_n dX7_meets_38 rfl
theorem k_75_39 : mOk M_75.1 M_75.2.1 M_75.2.2.1 M_75.2.2.2 39 (o_il 3 1) := ok_iload_n dX7_meets_39 rfl
theorem k_75_40 : mOk M_75.1 M_75.2.1 M_75.2.2.1 M_75.2.2.2 40 (o_il 2 1) := ok_iload_n dX7_meets_40 rfl
theorem k_75_41 : mOk M_75.1 M_75.2.1 M_75.2.2.1 M_75.2.2.2 41 (o_cge 66) := ok_cge dX7_meets_41 (by decide)
theorem k_75_44 : mOk M_75.1 M_75.2.1 M_75.2.2.1 M_75.2.2.2 44 (o_al 0 1) := ok_aload_n dX7_meets_44 rfl
theorem k_75_45 : mOk M_75.1 M_75.2.1 M_75.2.2.1 M_75.2.2.2 45 (o_al 1 1) := ok_aload_n dX7_meets_45 rfl
theorem k_75_46 : mOk M_75.1 M_75.2.1 M_75.2.2.1 M_75.2.2.2 46 (o_il 3 1) := ok_iload_n dX7_meets_46 rfl
theorem k_75_47 : mOk M_75.1 M_75.2.1 M_75.2.2.1 M_75.2.2.2 47 (o_al 1 1) := ok_aload_n dX7_meets_47 rfl
theorem k_75_48 : mOk M_75.1 M_75.2.1 M_75.2.2.1 M_75.2.2.2 48 (o_il 3 1) := ok_iload_n dX7_meets_48 rfl
theorem k_75_55 : mOk M_75.1 M_75.2.1 M_75.2.2.1 M_75.2.2.2 55 (o_zeq 60) := ok_zeq dX7_meets_55 (by decide)
theorem k_75_58 : mOk M_75.1 M_75.2.1 M_75.2.2.1 M_75.2.2.2 58 (oS 1 (s_push (.int 1))) := ok_iconst dX7_meets_58 (by decide)
theorem k_75_60 : mOk M_75.1 M_75.2.1 M_75.2.2.1 M_75.2.2.2 60 (o_inc 3 1) := ok_iinc dX7_meets_60 (by decide)
theorem k_75_63 : mOk M_75.1 M_75.2.1 M_75.2.2.1 M_75.2.2.2 63 (o_goto 39) := ok_goto dX7_meets_63 (by decide)
theorem k_75_66 : mOk M_75.1 M_75.2.1 M_75.2.2.1 M_75.2.2.2 66 (o_al 1 1) := ok_aload_n dX7_meets_66 rfl
theorem k_75_67 : mOk M_75.1 M_75.2.1 M_75.2.2.1 M_75.2.2.2 67 (o_gI 2 1) := ok_gI dX7_meets_67 f_RX7_31 (Or.inl rfl)
theorem k_75_70 : mOk M_75.1 M_75.2.1 M_75.2.2.1 M_75.2.2.2 70 (oS 1 (s_push (.int 2))) := ok_iconst dX7_meets_70 (by decide)
theorem k_75_71 : mOk M_75.1 M_75.2.1 M_75.2.2.1 M_75.2.2.2 71 (o_cne 93) := ok_cne dX7_meets_71 (by decide)
theorem k_75_74 : mOk M_75.1 M_75.2.1 M_75.2.2.1 M_75.2.2.2 74 (o_al 1 1) := ok_aload_n dX7_meets_74 rfl
theorem k_75_75 : mOk M_75.1 M_75.2.1 M_75.2.2.1 M_75.2.2.2 75 (o_al 0 1) := ok_aload_n dX7_meets_75 rfl
theorem k_75_76 : mOk M_75.1 M_75.2.1 M_75.2.2.1 M_75.2.2.2 76 (o_gI 7 0) := ok_gI dX7_meets_76 f_RX7_9 (Or.inl rfl)
theorem k_75_79 : mOk M_75.1 M_75.2.1 M_75.2.2.1 M_75.2.2.2 79 (o_al 0 1) := ok_aload_n dX7_meets_79 rfl
theorem k_75_80 : mOk M_75.1 M_75.2.1 M_75.2.2.1 M_75.2.2.2 80 (o_gI 7 1) := ok_gI dX7_meets_80 f_RX7_15 (Or.inl rfl)
theorem k_75_86 : mOk M_75.1 M_75.2.1 M_75.2.2.1 M_75.2.2.2 86 (o_zeq 93) := ok_zeq dX7_meets_86 (by decide)
theorem k_75_89 : mOk M_75.1 M_75.2.1 M_75.2.2.1 M_75.2.2.2 89 (oS 1 (s_push (.int 1))) := ok_iconst dX7_meets_89 (by decide)
theorem k_75_90 : mOk M_75.1 M_75.2.1 M_75.2.2.1 M_75.2.2.2 90 (o_goto 94) := ok_goto dX7_meets_90 (by decide)
theorem k_75_93 : mOk M_75.1 M_75.2.1 M_75.2.2.1 M_75.2.2.2 93 (oS 1 (s_push (.int 0))) := ok_iconst dX7_meets_93 (by decide)
set_option maxRecDepth 20000 in
set_option maxHeartbeats 4000000 in
theorem tk_75 (l : Launch) (H9 : mThr l) (H10 : mSpl l) (pc : Nat) (q : mEnt) (h : tb_75 pc = some q) : EE l 75 pc q := nd h (fun h => nd h (fun h => nd h (fun h => nd h (fun h => nd h (fun h => lf (P := EE l 75) h k_75_0) (fun h => nd h (fun h => lf (P := EE l 75) h k_75_1) (fun h => lf (P := EE l 75) h k_75_4))) (fun h => nd h (fun h => lf (P := EE l 75) h k_75_7) (fun h => nd h (fun h => lf (P := EE l 75) h k_75_8) (fun h => lf (P := EE l 75) h k_75_9)))) (fun h => nd h (fun h => nd h (fun h => lf (P := EE l 75) h k_75_10) (fun h => nd h (fun h => lf (P := EE l 75) h (EE_ca (by decide) (⟨m_915, m_78, ⟨by decide, by decide⟩, by decide +kernel, ⟨by decide, by decide⟩, 36, 3, by decide +kernel, Or.inr (Or.inr (Or.inl ⟨rfl, rfl, dX7_meets_11, m_912, m_914, _, rfl, by decide, m_23⟩))⟩) rfl)) (fun h => lf (P := EE l 75) h (EE_re (Or.inr (Or.inl ⟨rfl, dX7_meets_14, rfl⟩)))))) (fun h => nd h (fun h => nd h (fun h => lf (P := EE l 75) h k_75_15) (fun h => lf (P := EE l 75) h k_75_16)) (fun h => nd h (fun h => lf (P := EE l 75) h k_75_19) (fun h => lf (P := EE l 75) h k_75_20))))) (fun h => nd h (fun h => nd h (fun h => nd h (fun h => lf (P := EE l 75) h k_75_23) (fun h => nd h (fun h => lf (P := EE l 75) h k_75_24) (fun h => lf (P := EE l 75) h k_75_27))) (fun h => nd h (fun h => lf (P := EE l 75) h k_75_30) (fun h => nd h (fun h => lf (P := EE l 75) h k_75_31) (fun h => lf (P := EE l 75) h k_75_34)))) (fun h => nd h (fun h => nd h (fun h => lf (P := EE l 75) h k_75_35) (fun h => nd h (fun h => lf (P := EE l 75) h k_75_36) (fun h => lf (P := EE l 75) h k_75_37))) (fun h => nd h (fun h => nd h (fun h => lf (P := EE l 75) h k_75_38) (fun h => lf (P := EE l 75) h k_75_39)) (fun h => nd h (fun h => lf (P := EE l 75) h k_75_40) (fun h => lf (P := EE l 75) h k_75_41)))))) (fun h => nd h (fun h => nd h (fun h => nd h (fun h => nd h (fun h => lf (P := EE l 75) h k_75_44) (fun h => nd h (fun h => lf (P := EE l 75) h k_75_45) (fun h => lf (P := EE l 75) h k_75_46))) (fun h => nd h (fun h => lf (P := EE l 75) h k_75_47) (fun h => nd h (fun h => lf (P := EE l 75) h k_75_48) (fun h => lf (P := EE l 75) h (EE_ca (by decide) (⟨m_575, m_71, ⟨by decide, by decide⟩, by decide +kernel, ⟨by decide, by decide⟩, 43, 1, by decide +kernel, Or.inr (Or.inr (Or.inl ⟨rfl, rfl, dX7_meets_49, m_919, m_573, _, rfl, by decide, m_574⟩))⟩) rfl))))) (fun h => nd h (fun h => nd h (fun h => lf (P := EE l 75) h (EE_ca (by decide) (⟨m_915, m_78, ⟨by decide, by decide⟩, by decide +kernel, ⟨by decide, by decide⟩, 36, 3, by decide +kernel, Or.inr (Or.inr (Or.inl ⟨rfl, rfl, dX7_meets_52, m_912, m_914, _, rfl, by decide, m_23⟩))⟩) rfl)) (fun h => nd h (fun h => lf (P := EE l 75) h k_75_55) (fun h => lf (P := EE l 75) h k_75_58))) (fun h => nd h (fun h => nd h (fun h => lf (P := EE l 75) h (EE_re (Or.inr (Or.inl ⟨rfl, dX7_meets_59, rfl⟩)))) (fun h => lf (P := EE l 75) h k_75_60)) (fun h => nd h (fun h => lf (P := EE l 75) h k_75_63) (fun h => lf (P := EE l 75) h k_75_66))))) (fun h => nd h (fun h => nd h (fun h => nd h (fun h => lf (P := EE l 75) h k_75_67) (fun h => nd h (fun h => lf (P := EE l 75) h k_75_70) (fun h => lf (P := EE l 75) h k_75_71))) (fun h => nd h (fun h => nd h (fun h => lf (P := EE l 75) h k_75_74) (fun h => lf (P := EE l 75) h k_75_75)) (fun h => nd h (fun h => lf (P := EE l 75) h k_75_76) (fun h => lf (P := EE l 75) h k_75_79)))) (fun h => nd h (fun h => nd h (fun h => lf (P := EE l 75) h k_75_80) (fun h => nd h (fun h => lf (P := EE l 75) h (EE_ca (by decide) (⟨m_923, m_71, ⟨by decide, by decide⟩, by decide +kernel, ⟨by decide, by decide⟩, 47, 2, by decide +kernel, Or.inr (Or.inr (Or.inl ⟨rfl, rfl, dX7_meets_83, m_920, m_921, _, rfl, by decide, m_922⟩))⟩) rfl)) (fun h => lf (P := EE l 75) h k_75_86))) (fun h => nd h (fun h => nd h (fun h => lf (P := EE l 75) h k_75_89) (fun h => lf (P := EE l 75) h k_75_90)) (fun h => nd h (fun h => lf (P := EE l 75) h k_75_93) (fun h => lf (P := EE l 75) h (EE_re (Or.inr (Or.inl ⟨rfl, dX7_meets_94, rfl⟩)))))))))
theorem dX7_meetsEdge_0 : decode cX7_meetsEdge 0 = .ok (.aload_n 1, 1) := by decide +kernel
theorem dX7_meetsEdge_1 : decode cX7_meetsEdge 1 = .ok (.getfield 51, 3) := by decide +kernel
theorem dX7_meetsEdge_4 : decode cX7_meetsEdge 4 = .ok (.iload_n 2, 1) := by decide +kernel
theorem dX7_meetsEdge_5 : decode cX7_meetsEdge 5 = .ok (.iaload, 1) := by decide +kernel
theorem dX7_meetsEdge_6 : decode cX7_meetsEdge 6 = .ok (.istore 4, 2) := by decide +kernel
theorem dX7_meetsEdge_8 : decode cX7_meetsEdge 8 = .ok (.aload_n 1, 1) := by decide +kernel
theorem dX7_meetsEdge_9 : decode cX7_meetsEdge 9 = .ok (.getfield 55, 3) := by decide +kernel
theorem dX7_meetsEdge_12 : decode cX7_meetsEdge 12 = .ok (.iload_n 2, 1) := by decide +kernel
theorem dX7_meetsEdge_13 : decode cX7_meetsEdge 13 = .ok (.iaload, 1) := by decide +kernel
theorem dX7_meetsEdge_14 : decode cX7_meetsEdge 14 = .ok (.istore 5, 2) := by decide +kernel
theorem dX7_meetsEdge_16 : decode cX7_meetsEdge 16 = .ok (.aload_n 1, 1) := by decide +kernel
theorem dX7_meetsEdge_17 : decode cX7_meetsEdge 17 = .ok (.getfield 51, 3) := by decide +kernel
theorem dX7_meetsEdge_20 : decode cX7_meetsEdge 20 = .ok (.iload_n 3, 1) := by decide +kernel
theorem dX7_meetsEdge_21 : decode cX7_meetsEdge 21 = .ok (.iaload, 1) := by decide +kernel
theorem dX7_meetsEdge_22 : decode cX7_meetsEdge 22 = .ok (.istore 6, 2) := by decide +kernel
theorem dX7_meetsEdge_24 : decode cX7_meetsEdge 24 = .ok (.aload_n 1, 1) := by decide +kernel
theorem dX7_meetsEdge_25 : decode cX7_meetsEdge 25 = .ok (.getfield 55, 3) := by decide +kernel
theorem dX7_meetsEdge_28 : decode cX7_meetsEdge 28 = .ok (.iload_n 3, 1) := by decide +kernel
theorem dX7_meetsEdge_29 : decode cX7_meetsEdge 29 = .ok (.iaload, 1) := by decide +kernel
theorem dX7_meetsEdge_30 : decode cX7_meetsEdge 30 = .ok (.istore 7, 2) := by decide +kernel
theorem dX7_meetsEdge_32 : decode cX7_meetsEdge 32 = .ok (.iload 4, 2) := by decide +kernel
theorem dX7_meetsEdge_34 : decode cX7_meetsEdge 34 = .ok (.iload 6, 2) := by decide +kernel
theorem dX7_meetsEdge_36 : decode cX7_meetsEdge 36 = .ok (.invokestatic 58, 3) := by decide +kernel
theorem dX7_meetsEdge_39 : decode cX7_meetsEdge 39 = .ok (.aload_n 0, 1) := by decide +kernel
theorem dX7_meetsEdge_40 : decode cX7_meetsEdge 40 = .ok (.getfield 9, 3) := by decide +kernel
theorem dX7_meetsEdge_43 : decode cX7_meetsEdge 43 = .ok (.if_icmp .lt 45, 3) := by decide +kernel
theorem dX7_meetsEdge_46 : decode cX7_meetsEdge 46 = .ok (.iload 4, 2) := by decide +kernel
theorem dX7_meetsEdge_48 : decode cX7_meetsEdge 48 = .ok (.iload 6, 2) := by decide +kernel
theorem dX7_meetsEdge_50 : decode cX7_meetsEdge 50 = .ok (.invokestatic 64, 3) := by decide +kernel
theorem dX7_meetsEdge_53 : decode cX7_meetsEdge 53 = .ok (.aload_n 0, 1) := by decide +kernel
theorem dX7_meetsEdge_54 : decode cX7_meetsEdge 54 = .ok (.getfield 18, 3) := by decide +kernel
theorem dX7_meetsEdge_57 : decode cX7_meetsEdge 57 = .ok (.if_icmp .gt 31, 3) := by decide +kernel
theorem dX7_meetsEdge_60 : decode cX7_meetsEdge 60 = .ok (.iload 5, 2) := by decide +kernel
theorem dX7_meetsEdge_62 : decode cX7_meetsEdge 62 = .ok (.iload 7, 2) := by decide +kernel
theorem dX7_meetsEdge_64 : decode cX7_meetsEdge 64 = .ok (.invokestatic 58, 3) := by decide +kernel
theorem dX7_meetsEdge_67 : decode cX7_meetsEdge 67 = .ok (.aload_n 0, 1) := by decide +kernel
theorem dX7_meetsEdge_68 : decode cX7_meetsEdge 68 = .ok (.getfield 15, 3) := by decide +kernel
theorem dX7_meetsEdge_71 : decode cX7_meetsEdge 71 = .ok (.if_icmp .lt 17, 3) := by decide +kernel
theorem dX7_meetsEdge_74 : decode cX7_meetsEdge 74 = .ok (.iload 5, 2) := by decide +kernel
theorem dX7_meetsEdge_76 : decode cX7_meetsEdge 76 = .ok (.iload 7, 2) := by decide +kernel
theorem dX7_meetsEdge_78 : decode cX7_meetsEdge 78 = .ok (.invokestatic 64, 3) := by decide +kernel
theorem dX7_meetsEdge_81 : decode cX7_meetsEdge 81 = .ok (.aload_n 0, 1) := by decide +kernel
theorem dX7_meetsEdge_82 : decode cX7_meetsEdge 82 = .ok (.getfield 21, 3) := by decide +kernel
theorem dX7_meetsEdge_85 : decode cX7_meetsEdge 85 = .ok (.if_icmp .le 5, 3) := by decide +kernel
theorem dX7_meetsEdge_88 : decode cX7_meetsEdge 88 = .ok (.iconst 0, 1) := by decide +kernel
theorem dX7_meetsEdge_89 : decode cX7_meetsEdge 89 = .ok (.ireturn, 1) := by decide +kernel
theorem dX7_meetsEdge_90 : decode cX7_meetsEdge 90 = .ok (.iload 4, 2) := by decide +kernel
theorem dX7_meetsEdge_92 : decode cX7_meetsEdge 92 = .ok (.iload 5, 2) := by decide +kernel
theorem dX7_meetsEdge_94 : decode cX7_meetsEdge 94 = .ok (.iload 6, 2) := by decide +kernel
theorem dX7_meetsEdge_96 : decode cX7_meetsEdge 96 = .ok (.iload 7, 2) := by decide +kernel
theorem dX7_meetsEdge_98 : decode cX7_meetsEdge 98 = .ok (.aload_n 0, 1) := by decide +kernel
theorem dX7_meetsEdge_99 : decode cX7_meetsEdge 99 = .ok (.getfield 9, 3) := by decide +kernel
theorem dX7_meetsEdge_102 : decode cX7_meetsEdge 102 = .ok (.aload_n 0, 1) := by decide +kernel
theorem dX7_meetsEdge_103 : decode cX7_meetsEdge 103 = .ok (.getfield 15, 3) := by decide +kernel
theorem dX7_meetsEdge_106 : decode cX7_meetsEdge 106 = .ok (.invokestatic 67, 3) := by decide +kernel
theorem dX7_meetsEdge_109 : decode cX7_meetsEdge 109 = .ok (.istore 8, 2) := by decide +kernel
theorem dX7_meetsEdge_111 : decode cX7_meetsEdge 111 = .ok (.iload 4, 2) := by decide +kernel
theorem dX7_meetsEdge_113 : decode cX7_meetsEdge 113 = .ok (.iload 5, 2) := by decide +kernel
theorem dX7_meetsEdge_115 : decode cX7_meetsEdge 115 = .ok (.iload 6, 2) := by decide +kernel
theorem dX7_meetsEdge_117 : decode cX7_meetsEdge 117 = .ok (.iload 7, 2) := by decide +kernel
theorem dX7_meetsEdge_119 : decode cX7_meetsEdge 119 = .ok (.aload_n 0, 1) := by decide +kernel
theorem dX7_meetsEdge_120 : decode cX7_meetsEdge 120 = .ok (.getfield 18, 3) := by decide +kernel
theorem dX7_meetsEdge_123 : decode cX7_meetsEdge 123 = .ok (.aload_n 0, 1) := by decide +kernel
theorem dX7_meetsEdge_124 : decode cX7_meetsEdge 124 = .ok (.getfield 15, 3) := by decide +kernel
theorem dX7_meetsEdge_127 : decode cX7_meetsEdge 127 = .ok (.invokestatic 67, 3) := by decide +kernel
theorem dX7_meetsEdge_130 : decode cX7_meetsEdge 130 = .ok (.istore 9, 2) := by decide +kernel
theorem dX7_meetsEdge_132 : decode cX7_meetsEdge 132 = .ok (.iload 4, 2) := by decide +kernel
theorem dX7_meetsEdge_134 : decode cX7_meetsEdge 134 = .ok (.iload 5, 2) := by decide +kernel
theorem dX7_meetsEdge_136 : decode cX7_meetsEdge 136 = .ok (.iload 6, 2) := by decide +kernel
theorem dX7_meetsEdge_138 : decode cX7_meetsEdge 138 = .ok (.iload 7, 2) := by decide +kernel
theorem dX7_meetsEdge_140 : decode cX7_meetsEdge 140 = .ok (.aload_n 0, 1) := by decide +kernel
theorem dX7_meetsEdge_141 : decode cX7_meetsEdge 141 = .ok (.getfield 9, 3) := by decide +kernel
theorem dX7_meetsEdge_144 : decode cX7_meetsEdge 144 = .ok (.aload_n 0, 1) := by decide +kernel
theorem dX7_meetsEdge_145 : decode cX7_meetsEdge 145 = .ok (.getfield 21, 3) := by decide +kernel
theorem dX7_meetsEdge_148 : decode cX7_meetsEdge 148 = .ok (.invokestatic 67, 3) := by decide +kernel
theorem dX7_meetsEdge_151 : decode cX7_meetsEdge 151 = .ok (.istore 10, 2) := by decide +kernel
theorem dX7_meetsEdge_153 : decode cX7_meetsEdge 153 = .ok (.iload 4, 2) := by decide +kernel
theorem dX7_meetsEdge_155 : decode cX7_meetsEdge 155 = .ok (.iload 5, 2) := by decide +kernel
theorem dX7_meetsEdge_157 : decode cX7_meetsEdge 157 = .ok (.iload 6, 2) := by decide +kernel
theorem dX7_meetsEdge_159 : decode cX7_meetsEdge 159 = .ok (.iload 7, 2) := by decide +kernel
theorem dX7_meetsEdge_161 : decode cX7_meetsEdge 161 = .ok (.aload_n 0, 1) := by decide +kernel
theorem dX7_meetsEdge_162 : decode cX7_meetsEdge 162 = .ok (.getfield 18, 3) := by decide +kernel
theorem dX7_meetsEdge_165 : decode cX7_meetsEdge 165 = .ok (.aload_n 0, 1) := by decide +kernel
theorem dX7_meetsEdge_166 : decode cX7_meetsEdge 166 = .ok (.getfield 21, 3) := by decide +kernel
theorem dX7_meetsEdge_169 : decode cX7_meetsEdge 169 = .ok (.invokestatic 67, 3) := by decide +kernel
theorem dX7_meetsEdge_172 : decode cX7_meetsEdge 172 = .ok (.istore 11, 2) := by decide +kernel
theorem dX7_meetsEdge_174 : decode cX7_meetsEdge 174 = .ok (.iload 8, 2) := by decide +kernel
theorem dX7_meetsEdge_176 : decode cX7_meetsEdge 176 = .ok (.ifCond .le 22, 3) := by decide +kernel
theorem dX7_meetsEdge_179 : decode cX7_meetsEdge 179 = .ok (.iload 9, 2) := by decide +kernel
theorem dX7_meetsEdge_181 : decode cX7_meetsEdge 181 = .ok (.ifCond .le 17, 3) := by decide +kernel
theorem dX7_meetsEdge_184 : decode cX7_meetsEdge 184 = .ok (.iload 10, 2) := by decide +kernel
theorem dX7_meetsEdge_186 : decode cX7_meetsEdge 186 = .ok (.ifCond .le 12, 3) := by decide +kernel
theorem dX7_meetsEdge_189 : decode cX7_meetsEdge 189 = .ok (.iload 11, 2) := by decide +kernel
theorem dX7_meetsEdge_191 : decode cX7_meetsEdge 191 = .ok (.ifCond .le 7, 3) := by decide +kernel
theorem dX7_meetsEdge_194 : decode cX7_meetsEdge 194 = .ok (.iconst 1, 1) := by decide +kernel
theorem dX7_meetsEdge_195 : decode cX7_meetsEdge 195 = .ok (.goto 4, 3) := by decide +kernel
theorem dX7_meetsEdge_198 : decode cX7_meetsEdge 198 = .ok (.iconst 0, 1) := by decide +kernel
theorem dX7_meetsEdge_199 : decode cX7_meetsEdge 199 = .ok (.istore 12, 2) := by decide +kernel
theorem dX7_meetsEdge_201 : decode cX7_meetsEdge 201 = .ok (.iload 8, 2) := by decide +kernel
theorem dX7_meetsEdge_203 : decode cX7_meetsEdge 203 = .ok (.ifCond .ge 22, 3) := by decide +kernel
theorem dX7_meetsEdge_206 : decode cX7_meetsEdge 206 = .ok (.iload 9, 2) := by decide +kernel
theorem dX7_meetsEdge_208 : decode cX7_meetsEdge 208 = .ok (.ifCond .ge 17, 3) := by decide +kernel
theorem dX7_meetsEdge_211 : decode cX7_meetsEdge 211 = .ok (.iload 10, 2) := by decide +kernel
theorem dX7_meetsEdge_213 : decode cX7_meetsEdge 213 = .ok (.ifCond .ge 12, 3) := by decide +kernel
theorem dX7_meetsEdge_216 : decode cX7_meetsEdge 216 = .ok (.iload 11, 2) := by decide +kernel
theorem dX7_meetsEdge_218 : decode cX7_meetsEdge 218 = .ok (.ifCond .ge 7, 3) := by decide +kernel
theorem dX7_meetsEdge_221 : decode cX7_meetsEdge 221 = .ok (.iconst 1, 1) := by decide +kernel
theorem dX7_meetsEdge_222 : decode cX7_meetsEdge 222 = .ok (.goto 4, 3) := by decide +kernel
theorem dX7_meetsEdge_225 : decode cX7_meetsEdge 225 = .ok (.iconst 0, 1) := by decide +kernel
theorem dX7_meetsEdge_226 : decode cX7_meetsEdge 226 = .ok (.istore 13, 2) := by decide +kernel
theorem dX7_meetsEdge_228 : decode cX7_meetsEdge 228 = .ok (.iload 12, 2) := by decide +kernel
theorem dX7_meetsEdge_230 : decode cX7_meetsEdge 230 = .ok (.ifCond .ne 12, 3) := by decide +kernel
theorem dX7_meetsEdge_233 : decode cX7_meetsEdge 233 = .ok (.iload 13, 2) := by decide +kernel
theorem dX7_meetsEdge_235 : decode cX7_meetsEdge 235 = .ok (.ifCond .ne 7, 3) := by decide +kernel
theorem dX7_meetsEdge_238 : decode cX7_meetsEdge 238 = .ok (.iconst 1, 1) := by decide +kernel
theorem dX7_meetsEdge_239 : decode cX7_meetsEdge 239 = .ok (.goto 4, 3) := by decide +kernel
theorem dX7_meetsEdge_242 : decode cX7_meetsEdge 242 = .ok (.iconst 0, 1) := by decide +kernel
theorem dX7_meetsEdge_243 : decode cX7_meetsEdge 243 = .ok (.ireturn, 1) := by decide +kernel
def tb_76 (pc : Nat) : Option mEnt := bif Nat.ble pc 115 then (bif Nat.ble pc 50 then (bif Nat.ble pc 21 then (bif Nat.ble pc 9 then (bif Nat.ble pc 4 then (bif Nat.ble pc 0 then (bif Nat.beq pc 0 then some (.inl (o_al 1 1)) else none) else (bif Nat.ble pc 1 then (bif Nat.beq pc 1 then some (.inl (o_gP 2 6)) else none) else (bif Nat.beq pc 4 then some (.inl (o_il 2 1)) else none))) else (bif Nat.ble pc 6 then (bif Nat.ble pc 5 then (bif Nat.beq pc 5 then some (.inl (o_iald)) else none) else (bif Nat.beq pc 6 then some (.inl (o_is 4 2)) else none)) else (bif Nat.ble pc 8 then (bif Nat.beq pc 8 then some (.inl (o_al 1 1)) else none) else (bif Nat.beq pc 9 then some (.inl (o_gP 2 7)) else none)))) else (bif Nat.ble pc 14 then (bif Nat.ble pc 12 then (bif Nat.beq pc 12 then some (.inl (o_il 2 1)) else none) else (bif Nat.ble pc 13 then (bif Nat.beq pc 13 then some (.inl (o_iald)) else none) else (bif Nat.beq pc 14 then some (.inl (o_is 5 2)) else none))) else (bif Nat.ble pc 17 then (bif Nat.ble pc 16 then (bif Nat.beq pc 16 then some (.inl (o_al 1 1)) else none) else (bif Nat.beq pc 17 then some (.inl (o_gP 2 6)) else none)) else (bif Nat.ble pc 20 then (bif Nat.beq pc 20 then some (.inl (o_il 3 1)) else none) else (bif Nat.beq pc 21 then some (.inl (o_iald)) else none))))) else (bif Nat.ble pc 32 then (bif Nat.ble pc 25 then (bif Nat.ble pc 22 then (bif Nat.beq pc 22 then some (.inl (o_is 6 2)) else none) else (bif Nat.ble pc 24 then (bif Nat.beq pc 24 then some (.inl (o_al 1 1)) else none) else (bif Nat.beq pc 25 then some (.inl (o_gP 2 7)) else none))) else (bif Nat.ble pc 29 then (bif Nat.ble pc 28 then (bif Nat.beq pc 28 then some (.inl (o_il 3 1)) else none) else (bif Nat.beq pc 29 then some (.inl (o_iald)) else none)) else (bif Nat.ble pc 30 then (bif Nat.beq pc 30 then some (.inl (o_is 7 2)) else none) else (bif Nat.beq pc 32 then some (.inl (o_il 4 2)) else none)))) else (bif Nat.ble pc 40 then (bif Nat.ble pc 36 then (bif Nat.ble pc 34 then (bif Nat.beq pc 34 then some (.inl (o_il 6 2)) else none) else (bif Nat.beq pc 36 then some (.inr (2, 183, 2, 0)) else none)) else (bif Nat.ble pc 39 then (bif Nat.beq pc 39 then some (.inl (o_al 0 1)) else none) else (bif Nat.beq pc 40 then some (.inl (o_gI 7 0)) else none))) else (bif Nat.ble pc 46 then (bif Nat.ble pc 43 then (bif Nat.beq pc 43 then some (.inl (o_clt 88)) else none) else (bif Nat.beq pc 46 then some (.inl (o_il 4 2)) else none)) else (bif Nat.ble pc 48 then (bif Nat.beq pc 48 then some (.inl (o_il 6 2)) else none) else (bif Nat.beq pc 50 then some (.inr (2, 184, 2, 0)) else none)))))) else (bif Nat.ble pc 85 then (bif Nat.ble pc 67 then (bif Nat.ble pc 57 then (bif Nat.ble pc 53 then (bif Nat.beq pc 53 then some (.inl (o_al 0 1)) else none) else (bif Nat.ble pc 54 then (bif Nat.beq pc 54 then some (.inl (o_gI 7 2)) else none) else (bif Nat.beq pc 57 then some (.inl (o_cgt 88)) else none))) else (bif Nat.ble pc 62 then (bif Nat.ble pc 60 then (bif Nat.beq pc 60 then some (.inl (o_il 5 2)) else none) else (bif Nat.beq pc 62 then some (.inl (o_il 7 2)) else none)) else (bif Nat.ble pc 64 then (bif Nat.beq pc 64 then some (.inr (2, 183, 2, 0)) else none) else (bif Nat.beq pc 67 then some (.inl (o_al 0 1)) else none)))) else (bif Nat.ble pc 76 then (bif Nat.ble pc 71 then (bif Nat.ble pc 68 then (bif Nat.beq pc 68 then some (.inl (o_gI 7 1)) else none) else (bif Nat.beq pc 71 then some (.inl (o_clt 88)) else none)) else (bif Nat.ble pc 74 then (bif Nat.beq pc 74 then some (.inl (o_il 5 2)) else none) else (bif Nat.beq pc 76 then some (.inl (o_il 7 2)) else none))) else (bif Nat.ble pc 81 then (bif Nat.ble pc 78 then (bif Nat.beq pc 78 then some (.inr (2, 184, 2, 0)) else none) else (bif Nat.beq pc 81 then some (.inl (o_al 0 1)) else none)) else (bif Nat.ble pc 82 then (bif Nat.beq pc 82 then some (.inl (o_gI 7 3)) else none) else (bif Nat.beq pc 85 then some (.inl (o_cle 90)) else none))))) else (bif Nat.ble pc 98 then (bif Nat.ble pc 90 then (bif Nat.ble pc 88 then (bif Nat.beq pc 88 then some (.inl (oS 1 (s_push (.int 0)))) else none) else (bif Nat.ble pc 89 then (bif Nat.beq pc 89 then some (.inr (0, 0, 0, 4)) else none) else (bif Nat.beq pc 90 then some (.inl (o_il 4 2)) else none))) else (bif Nat.ble pc 94 then (bif Nat.ble pc 92 then (bif Nat.beq pc 92 then some (.inl (o_il 5 2)) else none) else (bif Nat.beq pc 94 then some (.inl (o_il 6 2)) else none)) else (bif Nat.ble pc 96 then (bif Nat.beq pc 96 then some (.inl (o_il 7 2)) else none) else (bif Nat.beq pc 98 then some (.inl (o_al 0 1)) else none)))) else (bif Nat.ble pc 106 then (bif Nat.ble pc 102 then (bif Nat.ble pc 99 then (bif Nat.beq pc 99 then some (.inl (o_gI 7 0)) else none) else (bif Nat.beq pc 102 then some (.inl (o_al 0 1)) else none)) else (bif Nat.ble pc 103 then (bif Nat.beq pc 103 then some (.inl (o_gI 7 1)) else none) else (bif Nat.beq pc 106 then some (.inr (6, 112, 6, 0)) else none))) else (bif Nat.ble pc 111 then (bif Nat.ble pc 109 then (bif Nat.beq pc 109 then some (.inl (o_is 8 2)) else none) else (bif Nat.beq pc 111 then some (.inl (o_il 4 2)) else none)) else (bif Nat.ble pc 113 then (bif Nat.beq pc 113 then some (.inl (o_il 5 2)) else none) else (bif Nat.beq pc 115 then some (.inl (o_il 6 2)) else none))))))) else (bif Nat.ble pc 176 then (bif Nat.ble pc 144 then (bif Nat.ble pc 130 then (bif Nat.ble pc 120 then (bif Nat.ble pc 117 then (bif Nat.beq pc 117 then some (.inl (o_il 7 2)) else none) else (bif Nat.ble pc 119 then (bif Nat.beq pc 119 then some (.inl (o_al 0 1)) else none) else (bif Nat.beq pc 120 then some (.inl (o_gI 7 2)) else none))) else (bif Nat.ble pc 124 then (bif Nat.ble pc 123 then (bif Nat.beq pc 123 then some (.inl (o_al 0 1)) else none) else (bif Nat.beq pc 124 then some (.inl (o_gI 7 1)) else none)) else (bif Nat.ble pc 127 then (bif Nat.beq pc 127 then some (.inr (6, 112, 6, 0)) else none) else (bif Nat.beq pc 130 then some (.inl (o_is 9 2)) else none)))) else (bif Nat.ble pc 136 then (bif Nat.ble pc 132 then (bif Nat.beq pc 132 then some (.inl (o_il 4 2)) else none) else (bif Nat.ble pc 134 then (bif Nat.beq pc 134 then some (.inl (o_il 5 2)) else none) else (bif Nat.beq pc 136 then some (.inl (o_il 6 2)) else none))) else (bif Nat.ble pc 140 then (bif Nat.ble pc 138 then (bif Nat.beq pc 138 then some (.inl (o_il 7 2)) else none) else (bif Nat.beq pc 140 then some (.inl (o_al 0 1)) else none)) else (bif Nat.ble pc 141 then (bif Nat.beq pc 141 then some (.inl (o_gI 7 0)) else none) else (bif Nat.beq pc 144 then some (.inl (o_al 0 1)) else none))))) else (bif Nat.ble pc 159 then (bif Nat.ble pc 151 then (bif Nat.ble pc 145 then (bif Nat.beq pc 145 then some (.inl (o_gI 7 3)) else none) else (bif Nat.ble pc 148 then (bif Nat.beq pc 148 then some (.inr (6, 112, 6, 0)) else none) else (bif Nat.beq pc 151 then some (.inl (o_is 10 2)) else none))) else (bif Nat.ble pc 155 then (bif Nat.ble pc 153 then (bif Nat.beq pc 153 then some (.inl (o_il 4 2)) else none) else (bif Nat.beq pc 155 then some (.inl (o_il 5 2)) else none)) else (bif Nat.ble pc 157 then (bif Nat.beq pc 157 then some (.inl (o_il 6 2)) else none) else (bif Nat.beq pc 159 then some (.inl (o_il 7 2)) else none)))) else (bif Nat.ble pc 166 then (bif Nat.ble pc 162 then (bif Nat.ble pc 161 then (bif Nat.beq pc 161 then some (.inl (o_al 0 1)) else none) else (bif Nat.beq pc 162 then some (.inl (o_gI 7 2)) else none)) else (bif Nat.ble pc 165 then (bif Nat.beq pc 165 then some (.inl (o_al 0 1)) else none) else (bif Nat.beq pc 166 then some (.inl (o_gI 7 3)) else none))) else (bif Nat.ble pc 172 then (bif Nat.ble pc 169 then (bif Nat.beq pc 169 then some (.inr (6, 112, 6, 0)) else none) else (bif Nat.beq pc 172 then some (.inl (o_is 11 2)) else none)) else (bif Nat.ble pc 174 then (bif Nat.beq pc 174 then some (.inl (o_il 8 2)) else none) else (bif Nat.beq pc 176 then some (.inl (o_zle 198)) else none)))))) else (bif Nat.ble pc 211 then (bif Nat.ble pc 194 then (bif Nat.ble pc 184 then (bif Nat.ble pc 179 then (bif Nat.beq pc 179 then some (.inl (o_il 9 2)) else none) else (bif Nat.ble pc 181 then (bif Nat.beq pc 181 then some (.inl (o_zle 198)) else none) else (bif Nat.beq pc 184 then some (.inl (o_il 10 2)) else none))) else (bif Nat.ble pc 189 then (bif Nat.ble pc 186 then (bif Nat.beq pc 186 then some (.inl (o_zle 198)) else none) else (bif Nat.beq pc 189 then some (.inl (o_il 11 2)) else none)) else (bif Nat.ble pc 191 then (bif Nat.beq pc 191 then some (.inl (o_zle 198)) else none) else (bif Nat.beq pc 194 then some (.inl (oS 1 (s_push (.int 1)))) else none)))) else (bif Nat.ble pc 201 then (bif Nat.ble pc 198 then (bif Nat.ble pc 195 then (bif Nat.beq pc 195 then some (.inl (o_goto 199)) else none) else (bif Nat.beq pc 198 then some (.inl (oS 1 (s_push (.int 0)))) else none)) else (bif Nat.ble pc 199 then (bif Nat.beq pc 199 then some (.inl (o_is 12 2)) else none) else (bif Nat.beq pc 201 then some (.inl (o_il 8 2)) else none))) else (bif Nat.ble pc 206 then (bif Nat.ble pc 203 then (bif Nat.beq pc 203 then some (.inl (o_zge 225)) else none) else (bif Nat.beq pc 206 then some (.inl (o_il 9 2)) else none)) else (bif Nat.ble pc 208 then (bif Nat.beq pc 208 then some (.inl (o_zge 225)) else none) else (bif Nat.beq pc 211 then some (.inl (o_il 10 2)) else none))))) else (bif Nat.ble pc 226 then (bif Nat.ble pc 218 then (bif Nat.ble pc 213 then (bif Nat.beq pc 213 then some (.inl (o_zge 225)) else none) else (bif Nat.ble pc 216 then (bif Nat.beq pc 216 then some (.inl (o_il 11 2)) else none) else (bif Nat.beq pc 218 then some (.inl (o_zge 225)) else none))) else (bif Nat.ble pc 222 then (bif Nat.ble pc 221 then (bif Nat.beq pc 221 then some (.inl (oS 1 (s_push (.int 1)))) else none) else (bif Nat.beq pc 222 then some (.inl (o_goto 226)) else none)) else (bif Nat.ble pc 225 then (bif Nat.beq pc 225 then some (.inl (oS 1 (s_push (.int 0)))) else none) else (bif Nat.beq pc 226 then some (.inl (o_is 13 2)) else none)))) else (bif Nat.ble pc 235 then (bif Nat.ble pc 230 then (bif Nat.ble pc 228 then (bif Nat.beq pc 228 then some (.inl (o_il 12 2)) else none) else (bif Nat.beq pc 230 then some (.inl (o_zne 242)) else none)) else (bif Nat.ble pc 233 then (bif Nat.beq pc 233 then some (.inl (o_il 13 2)) else none) else (bif Nat.beq pc 235 then some (.inl (o_zne 242)) else none))) else (bif Nat.ble pc 239 then (bif Nat.ble pc 238 then (bif Nat.beq pc 238 then some (.inl (oS 1 (s_push (.int 1)))) else none) else (bif Nat.beq pc 239 then some (.inl (o_goto 243)) else none)) else (bif Nat.ble pc 242 then (bif Nat.beq pc 242 then some (.inl (oS 1 (s_push (.int 0)))) else none) else (bif Nat.beq pc 243 then some (.inr (0, 0, 0, 4)) else none)))))))
theorem k_76_0 : mOk M_76.1 M_76.2.1 M_76.2.2.1 M_76.2.2.2 0 (o_al 1 1) := ok_aload_n dX7_meetsEdge_0 rfl
theorem k_76_1 : mOk M_76.1 M_76.2.1 M_76.2.2.1 M_76.2.2.2 1 (o_gP 2 6) := ok_gP dX7_meetsEdge_1 f_RX7_51 rfl
theorem k_76_4 : mOk M_76.1 M_76.2.1 M_76.2.2.1 M_76.2.2.2 4 (o_il 2 1) := ok_iload_n dX7_meetsEdge_4 rfl
theorem k_76_5 : mOk M_76.1 M_76.2.1 M_76.2.2.1 M_76.2.2.2 5 (o_iald) := ok_iald dX7_meetsEdge_5
theorem k_76_6 : mOk M_76.1 M_76.2.1 M_76.2.2.1 M_76.2.2.2 6 (o_is 4 2) := ok_istore dX7_meetsEdge_6
theorem k_76_8 : mOk M_76.1 M_76.2.1 M_76.2.2.1 M_76.2.2.2 8 (o_al 1 1) := ok_aload_n dX7_meetsEdge_8 rfl
theorem k_76_9 : mOk M_76.1 M_76.2.1 M_76.2.2.1 M_76.2.2.2 9 (o_gP 2 7) := ok_gP dX7_meetsEdge_9 f_RX7_55 rfl
theorem k_76_12 : mOk M_76.1 M_76.2.1 M_76.2.2.1 M_76.2.2.2 12 (o_il 2 1) := ok_iload_n dX7_meetsEdge_12 rfl
theorem k_76_13 : mOk M_76.1 M_76.2.1 M_76.2.2.1 M_76.2.2.2 13 (o_iald) := ok_iald dX7_meetsEdge_13
theorem k_76_14 : mOk M_76.1 M_76.2.1 M_76.2.2.1 M_76.2.2.2 14 (o_is 5 2) := ok_istore dX7_meetsEdge_14
theorem k_76_16 : mOk M_76.1 M_76.2.1 M_76.2.2.1 M_76.2.2.2 16 (o_al 1 1) := ok_aload_n dX7_meetsEdge_16 rfl
theorem k_76_17 : mOk M_76.1 M_76.2.1 M_76.2.2.1 M_76.2.2.2 17 (o_gP 2 6) := ok_gP dX7_meetsEdge_17 f_RX7_51 rfl
theorem k_76_20 : mOk M_76.1 M_76.2.1 M_76.2.2.1 M_76.2.2.2 20 (o_il 3 1) := ok_iload_n dX7_meetsEdge_20 rfl
theorem k_76_21 : mOk M_76.1 M_76.2.1 M_76.2.2.1 M_76.2.2.2 21 (o_iald) := ok_iald dX7_meetsEdge_21
theorem k_76_22 : mOk M_76.1 M_76.2.1 M_76.2.2.1 M_76.2.2.2 22 (o_is 6 2) := ok_istore dX7_meetsEdge_22
theorem k_76_24 : mOk M_76.1 M_76.2.1 M_76.2.2.1 M_76.2.2.2 24 (o_al 1 1) := ok_aload_n dX7_meetsEdge_24 rfl
theorem k_76_25 : mOk M_76.1 M_76.2.1 M_76.2.2.1 M_76.2.2.2 25 (o_gP 2 7) := ok_gP dX7_meetsEdge_25 f_RX7_55 rfl
theorem k_76_28 : mOk M_76.1 M_76.2.1 M_76.2.2.1 M_76.2.2.2 28 (o_il 3 1) := ok_iload_n dX7_meetsEdge_28 rfl
theorem k_76_29 : mOk M_76.1 M_76.2.1 M_76.2.2.1 M_76.2.2.2 29 (o_iald) := ok_iald dX7_meetsEdge_29
theorem k_76_30 : mOk M_76.1 M_76.2.1 M_76.2.2.1 M_76.2.2.2 30 (o_is 7 2) := ok_istore dX7_meetsEdge_30
theorem k_76_32 : mOk M_76.1 M_76.2.1 M_76.2.2.1 M_76.2.2.2 32 (o_il 4 2) := ok_iload dX7_meetsEdge_32
theorem k_76_34 : mOk M_76.1 M_76.2.1 M_76.2.2.1 M_76.2.2.2 34 (o_il 6 2) := ok_iload dX7_meetsEdge_34
theorem k_76_39 : mOk M_76.1 M_76.2.1 M_76.2.2.1 M_76.2.2.2 39 (o_al 0 1) := ok_aload_n dX7_meetsEdge_39 rfl
theorem k_76_40 : mOk M_76.1 M_76.2.1 M_76.2.2.1 M_76.2.2.2 40 (o_gI 7 0) := ok_gI dX7_meetsEdge_40 f_RX7_9 (Or.inl rfl)
theorem k_76_43 : mOk M_76.1 M_76.2.1 M_76.2.2.1 M_76.2.2.2 43 (o_clt 88) := ok_clt dX7_meetsEdge_43 (by decide)
theorem k_76_46 : mOk M_76.1 M_76.2.1 M_76.2.2.1 M_76.2.2.2 46 (o_il 4 2) := ok_iload dX7_meetsEdge_46
theorem k_76_48 : mOk M_76.1 M_76.2.1 M_76.2.2.1 M_76.2.2.2 48 (o_il 6 2) := ok_iload dX7_meetsEdge_48
theorem k_76_53 : mOk M_76.1 M_76.2.1 M_76.2.2.1 M_76.2.2.2 53 (o_al 0 1) := ok_aload_n dX7_meetsEdge_53 rfl
theorem k_76_54 : mOk M_76.1 M_76.2.1 M_76.2.2.1 M_76.2.2.2 54 (o_gI 7 2) := ok_gI dX7_meetsEdge_54 f_RX7_18 (Or.inl rfl)
theorem k_76_57 : mOk M_76.1 M_76.2.1 M_76.2.2.1 M_76.2.2.2 57 (o_cgt 88) := ok_cgt dX7_meetsEdge_57 (by decide)
theorem k_76_60 : mOk M_76.1 M_76.2.1 M_76.2.2.1 M_76.2.2.2 60 (o_il 5 2) := ok_iload dX7_meetsEdge_60
theorem k_76_62 : mOk M_76.1 M_76.2.1 M_76.2.2.1 M_76.2.2.2 62 (o_il 7 2) := ok_iload dX7_meetsEdge_62
theorem k_76_67 : mOk M_76.1 M_76.2.1 M_76.2.2.1 M_76.2.2.2 67 (o_al 0 1) := ok_aload_n dX7_meetsEdge_67 rfl
theorem k_76_68 : mOk M_76.1 M_76.2.1 M_76.2.2.1 M_76.2.2.2 68 (o_gI 7 1) := ok_gI dX7_meetsEdge_68 f_RX7_15 (Or.inl rfl)
theorem k_76_71 : mOk M_76.1 M_76.2.1 M_76.2.2.1 M_76.2.2.2 71 (o_clt 88) := ok_clt dX7_meetsEdge_71 (by decide)
theorem k_76_74 : mOk M_76.1 M_76.2.1 M_76.2.2.1 M_76.2.2.2 74 (o_il 5 2) := ok_iload dX7_meetsEdge_74
theorem k_76_76 : mOk M_76.1 M_76.2.1 M_76.2.2.1 M_76.2.2.2 76 (o_il 7 2) := ok_iload dX7_meetsEdge_76
theorem k_76_81 : mOk M_76.1 M_76.2.1 M_76.2.2.1 M_76.2.2.2 81 (o_al 0 1) := ok_aload_n dX7_meetsEdge_81 rfl
theorem k_76_82 : mOk M_76.1 M_76.2.1 M_76.2.2.1 M_76.2.2.2 82 (o_gI 7 3) := ok_gI dX7_meetsEdge_82 f_RX7_21 (Or.inl rfl)
theorem k_76_85 : mOk M_76.1 M_76.2.1 M_76.2.2.1 M_76.2.2.2 85 (o_cle 90) := ok_cle dX7_meetsEdge_85 (by decide)
theorem k_76_88 : mOk M_76.1 M_76.2.1 M_76.2.2.1 M_76.2.2.2 88 (oS 1 (s_push (.int 0))) := ok_iconst dX7_meetsEdge_88 (by decide)
theorem k_76_90 : mOk M_76.1 M_76.2.1 M_76.2.2.1 M_76.2.2.2 90 (o_il 4 2) := ok_iload dX7_meetsEdge_90
theorem k_76_92 : mOk M_76.1 M_76.2.1 M_76.2.2.1 M_76.2.2.2 92 (o_il 5 2) := ok_iload dX7_meetsEdge_92
theorem k_76_94 : mOk M_76.1 M_76.2.1 M_76.2.2.1 M_76.2.2.2 94 (o_il 6 2) := ok_iload dX7_meetsEdge_94
theorem k_76_96 : mOk M_76.1 M_76.2.1 M_76.2.2.1 M_76.2.2.2 96 (o_il 7 2) := ok_iload dX7_meetsEdge_96
theorem k_76_98 : mOk M_76.1 M_76.2.1 M_76.2.2.1 M_76.2.2.2 98 (o_al 0 1) := ok_aload_n dX7_meetsEdge_98 rfl
theorem k_76_99 : mOk M_76.1 M_76.2.1 M_76.2.2.1 M_76.2.2.2 99 (o_gI 7 0) := ok_gI dX7_meetsEdge_99 f_RX7_9 (Or.inl rfl)
theorem k_76_102 : mOk M_76.1 M_76.2.1 M_76.2.2.1 M_76.2.2.2 102 (o_al 0 1) := ok_aload_n dX7_meetsEdge_102 rfl
theorem k_76_103 : mOk M_76.1 M_76.2.1 M_76.2.2.1 M_76.2.2.2 103 (o_gI 7 1) := ok_gI dX7_meetsEdge_103 f_RX7_15 (Or.inl rfl)
theorem k_76_109 : mOk M_76.1 M_76.2.1 M_76.2.2.1 M_76.2.2.2 109 (o_is 8 2) := ok_istore dX7_meetsEdge_109
theorem k_76_111 : mOk M_76.1 M_76.2.1 M_76.2.2.1 M_76.2.2.2 111 (o_il 4 2) := ok_iload dX7_meetsEdge_111
theorem k_76_113 : mOk M_76.1 M_76.2.1 M_76.2.2.1 M_76.2.2.2 113 (o_il 5 2) := ok_iload dX7_meetsEdge_113
theorem k_76_115 : mOk M_76.1 M_76.2.1 M_76.2.2.1 M_76.2.2.2 115 (o_il 6 2) := ok_iload dX7_meetsEdge_115
theorem k_76_117 : mOk M_76.1 M_76.2.1 M_76.2.2.1 M_76.2.2.2 117 (o_il 7 2) := ok_iload dX7_meetsEdge_117
theorem k_76_119 : mOk M_76.1 M_76.2.1 M_76.2.2.1 M_76.2.2.2 119 (o_al 0 1) := ok_aload_n dX7_meetsEdge_119 rfl
theorem k_76_120 : mOk M_76.1 M_76.2.1 M_76.2.2.1 M_76.2.2.2 120 (o_gI 7 2) := ok_gI dX7_meetsEdge_120 f_RX7_18 (Or.inl rfl)
theorem k_76_123 : mOk M_76.1 M_76.2.1 M_76.2.2.1 M_76.2.2.2 123 (o_al 0 1) := ok_aload_n dX7_meetsEdge_123 rfl
theorem k_76_124 : mOk M_76.1 M_76.2.1 M_76.2.2.1 M_76.2.2.2 124 (o_gI 7 1) := ok_gI dX7_meetsEdge_124 f_RX7_15 (Or.inl rfl)
theorem k_76_130 : mOk M_76.1 M_76.2.1 M_76.2.2.1 M_76.2.2.2 130 (o_is 9 2) := ok_istore dX7_meetsEdge_130
theorem k_76_132 : mOk M_76.1 M_76.2.1 M_76.2.2.1 M_76.2.2.2 132 (o_il 4 2) := ok_iload dX7_meetsEdge_132
theorem k_76_134 : mOk M_76.1 M_76.2.1 M_76.2.2.1 M_76.2.2.2 134 (o_il 5 2) := ok_iload dX7_meetsEdge_134
theorem k_76_136 : mOk M_76.1 M_76.2.1 M_76.2.2.1 M_76.2.2.2 136 (o_il 6 2) := ok_iload dX7_meetsEdge_136
theorem k_76_138 : mOk M_76.1 M_76.2.1 M_76.2.2.1 M_76.2.2.2 138 (o_il 7 2) := ok_iload dX7_meetsEdge_138
theorem k_76_140 : mOk M_76.1 M_76.2.1 M_76.2.2.1 M_76.2.2.2 140 (o_al 0 1) := ok_aload_n dX7_meetsEdge_140 rfl
theorem k_76_141 : mOk M_76.1 M_76.2.1 M_76.2.2.1 M_76.2.2.2 141 (o_gI 7 0) := ok_gI dX7_meetsEdge_141 f_RX7_9 (Or.inl rfl)
theorem k_76_144 : mOk M_76.1 M_76.2.1 M_76.2.2.1 M_76.2.2.2 144 (o_al 0 1) := ok_aload_n dX7_meetsEdge_144 rfl
theorem k_76_145 : mOk M_76.1 M_76.2.1 M_76.2.2.1 M_76.2.2.2 145 (o_gI 7 3) := ok_gI dX7_meetsEdge_145 f_RX7_21 (Or.inl rfl)
theorem k_76_151 : mOk M_76.1 M_76.2.1 M_76.2.2.1 M_76.2.2.2 151 (o_is 10 2) := ok_istore dX7_meetsEdge_151
theorem k_76_153 : mOk M_76.1 M_76.2.1 M_76.2.2.1 M_76.2.2.2 153 (o_il 4 2) := ok_iload dX7_meetsEdge_153
theorem k_76_155 : mOk M_76.1 M_76.2.1 M_76.2.2.1 M_76.2.2.2 155 (o_il 5 2) := ok_iload dX7_meetsEdge_155
theorem k_76_157 : mOk M_76.1 M_76.2.1 M_76.2.2.1 M_76.2.2.2 157 (o_il 6 2) := ok_iload dX7_meetsEdge_157
theorem k_76_159 : mOk M_76.1 M_76.2.1 M_76.2.2.1 M_76.2.2.2 159 (o_il 7 2) := ok_iload dX7_meetsEdge_159
theorem k_76_161 : mOk M_76.1 M_76.2.1 M_76.2.2.1 M_76.2.2.2 161 (o_al 0 1) := ok_aload_n dX7_meetsEdge_161 rfl
theorem k_76_162 : mOk M_76.1 M_76.2.1 M_76.2.2.1 M_76.2.2.2 162 (o_gI 7 2) := ok_gI dX7_meetsEdge_162 f_RX7_18 (Or.inl rfl)
theorem k_76_165 : mOk M_76.1 M_76.2.1 M_76.2.2.1 M_76.2.2.2 165 (o_al 0 1) := ok_aload_n dX7_meetsEdge_165 rfl
theorem k_76_166 : mOk M_76.1 M_76.2.1 M_76.2.2.1 M_76.2.2.2 166 (o_gI 7 3) := ok_gI dX7_meetsEdge_166 f_RX7_21 (Or.inl rfl)
theorem k_76_172 : mOk M_76.1 M_76.2.1 M_76.2.2.1 M_76.2.2.2 172 (o_is 11 2) := ok_istore dX7_meetsEdge_172
theorem k_76_174 : mOk M_76.1 M_76.2.1 M_76.2.2.1 M_76.2.2.2 174 (o_il 8 2) := ok_iload dX7_meetsEdge_174
theorem k_76_176 : mOk M_76.1 M_76.2.1 M_76.2.2.1 M_76.2.2.2 176 (o_zle 198) := ok_zle dX7_meetsEdge_176 (by decide)
theorem k_76_179 : mOk M_76.1 M_76.2.1 M_76.2.2.1 M_76.2.2.2 179 (o_il 9 2) := ok_iload dX7_meetsEdge_179
theorem k_76_181 : mOk M_76.1 M_76.2.1 M_76.2.2.1 M_76.2.2.2 181 (o_zle 198) := ok_zle dX7_meetsEdge_181 (by decide)
theorem k_76_184 : mOk M_76.1 M_76.2.1 M_76.2.2.1 M_76.2.2.2 184 (o_il 10 2) := ok_iload dX7_meetsEdge_184
theorem k_76_186 : mOk M_76.1 M_76.2.1 M_76.2.2.1 M_76.2.2.2 186 (o_zle 198) := ok_zle dX7_meetsEdge_186 (by decide)
theorem k_76_189 : mOk M_76.1 M_76.2.1 M_76.2.2.1 M_76.2.2.2 189 (o_il 11 2) := ok_iload dX7_meetsEdge_189
theorem k_76_191 : mOk M_76.1 M_76.2.1 M_76.2.2.1 M_76.2.2.2 191 (o_zle 198) := ok_zle dX7_meetsEdge_191 (by decide)
theorem k_76_194 : mOk M_76.1 M_76.2.1 M_76.2.2.1 M_76.2.2.2 194 (oS 1 (s_push (.int 1))) := ok_iconst dX7_meetsEdge_194 (by decide)
theorem k_76_195 : mOk M_76.1 M_76.2.1 M_76.2.2.1 M_76.2.2.2 195 (o_goto 199) := ok_goto dX7_meetsEdge_195 (by decide)
theorem k_76_198 : mOk M_76.1 M_76.2.1 M_76.2.2.1 M_76.2.2.2 198 (oS 1 (s_push (.int 0))) := ok_iconst dX7_meetsEdge_198 (by decide)
theorem k_76_199 : mOk M_76.1 M_76.2.1 M_76.2.2.1 M_76.2.2.2 199 (o_is 12 2) := ok_istore dX7_meetsEdge_199
theorem k_76_201 : mOk M_76.1 M_76.2.1 M_76.2.2.1 M_76.2.2.2 201 (o_il 8 2) := ok_iload dX7_meetsEdge_201
theorem k_76_203 : mOk M_76.1 M_76.2.1 M_76.2.2.1 M_76.2.2.2 203 (o_zge 225) := ok_zge dX7_meetsEdge_203 (by decide)
theorem k_76_206 : mOk M_76.1 M_76.2.1 M_76.2.2.1 M_76.2.2.2 206 (o_il 9 2) := ok_iload dX7_meetsEdge_206
theorem k_76_208 : mOk M_76.1 M_76.2.1 M_76.2.2.1 M_76.2.2.2 208 (o_zge 225) := ok_zge dX7_meetsEdge_208 (by decide)
theorem k_76_211 : mOk M_76.1 M_76.2.1 M_76.2.2.1 M_76.2.2.2 211 (o_il 10 2) := ok_iload dX7_meetsEdge_211
theorem k_76_213 : mOk M_76.1 M_76.2.1 M_76.2.2.1 M_76.2.2.2 213 (o_zge 225) := ok_zge dX7_meetsEdge_213 (by decide)
theorem k_76_216 : mOk M_76.1 M_76.2.1 M_76.2.2.1 M_76.2.2.2 216 (o_il 11 2) := ok_iload dX7_meetsEdge_216
theorem k_76_218 : mOk M_76.1 M_76.2.1 M_76.2.2.1 M_76.2.2.2 218 (o_zge 225) := ok_zge dX7_meetsEdge_218 (by decide)
theorem k_76_221 : mOk M_76.1 M_76.2.1 M_76.2.2.1 M_76.2.2.2 221 (oS 1 (s_push (.int 1))) := ok_iconst dX7_meetsEdge_221 (by decide)
theorem k_76_222 : mOk M_76.1 M_76.2.1 M_76.2.2.1 M_76.2.2.2 222 (o_goto 226) := ok_goto dX7_meetsEdge_222 (by decide)
theorem k_76_225 : mOk M_76.1 M_76.2.1 M_76.2.2.1 M_76.2.2.2 225 (oS 1 (s_push (.int 0))) := ok_iconst dX7_meetsEdge_225 (by decide)
theorem k_76_226 : mOk M_76.1 M_76.2.1 M_76.2.2.1 M_76.2.2.2 226 (o_is 13 2) := ok_istore dX7_meetsEdge_226
theorem k_76_228 : mOk M_76.1 M_76.2.1 M_76.2.2.1 M_76.2.2.2 228 (o_il 12 2) := ok_iload dX7_meetsEdge_228
theorem k_76_230 : mOk M_76.1 M_76.2.1 M_76.2.2.1 M_76.2.2.2 230 (o_zne 242) := ok_zne dX7_meetsEdge_230 (by decide)
theorem k_76_233 : mOk M_76.1 M_76.2.1 M_76.2.2.1 M_76.2.2.2 233 (o_il 13 2) := ok_iload dX7_meetsEdge_233
theorem k_76_235 : mOk M_76.1 M_76.2.1 M_76.2.2.1 M_76.2.2.2 235 (o_zne 242) := ok_zne dX7_meetsEdge_235 (by decide)
theorem k_76_238 : mOk M_76.1 M_76.2.1 M_76.2.2.1 M_76.2.2.2 238 (oS 1 (s_push (.int 1))) := ok_iconst dX7_meetsEdge_238 (by decide)
theorem k_76_239 : mOk M_76.1 M_76.2.1 M_76.2.2.1 M_76.2.2.2 239 (o_goto 243) := ok_goto dX7_meetsEdge_239 (by decide)
theorem k_76_242 : mOk M_76.1 M_76.2.1 M_76.2.2.1 M_76.2.2.2 242 (oS 1 (s_push (.int 0))) := ok_iconst dX7_meetsEdge_242 (by decide)
set_option maxRecDepth 20000 in
set_option maxHeartbeats 4000000 in
theorem tk_76 (l : Launch) (H9 : mThr l) (H10 : mSpl l) (pc : Nat) (q : mEnt) (h : tb_76 pc = some q) : EE l 76 pc q := nd h (fun h => nd h (fun h => nd h (fun h => nd h (fun h => nd h (fun h => nd h (fun h => lf (P := EE l 76) h k_76_0) (fun h => nd h (fun h => lf (P := EE l 76) h k_76_1) (fun h => lf (P := EE l 76) h k_76_4))) (fun h => nd h (fun h => nd h (fun h => lf (P := EE l 76) h k_76_5) (fun h => lf (P := EE l 76) h k_76_6)) (fun h => nd h (fun h => lf (P := EE l 76) h k_76_8) (fun h => lf (P := EE l 76) h k_76_9)))) (fun h => nd h (fun h => nd h (fun h => lf (P := EE l 76) h k_76_12) (fun h => nd h (fun h => lf (P := EE l 76) h k_76_13) (fun h => lf (P := EE l 76) h k_76_14))) (fun h => nd h (fun h => nd h (fun h => lf (P := EE l 76) h k_76_16) (fun h => lf (P := EE l 76) h k_76_17)) (fun h => nd h (fun h => lf (P := EE l 76) h k_76_20) (fun h => lf (P := EE l 76) h k_76_21))))) (fun h => nd h (fun h => nd h (fun h => nd h (fun h => lf (P := EE l 76) h k_76_22) (fun h => nd h (fun h => lf (P := EE l 76) h k_76_24) (fun h => lf (P := EE l 76) h k_76_25))) (fun h => nd h (fun h => nd h (fun h => lf (P := EE l 76) h k_76_28) (fun h => lf (P := EE l 76) h k_76_29)) (fun h => nd h (fun h => lf (P := EE l 76) h k_76_30) (fun h => lf (P := EE l 76) h k_76_32)))) (fun h => nd h (fun h => nd h (fun h => nd h (fun h => lf (P := EE l 76) h k_76_34) (fun h => lf (P := EE l 76) h (EE_ca (by decide) (⟨m_603, m_82, ⟨by decide, by decide⟩, by decide +kernel, ⟨by decide, by decide⟩, 58, 2, by decide +kernel, Or.inl ⟨rfl, rfl, dX7_meetsEdge_36, m_916, m_602⟩⟩) rfl))) (fun h => nd h (fun h => lf (P := EE l 76) h k_76_39) (fun h => lf (P := EE l 76) h k_76_40))) (fun h => nd h (fun h => nd h (fun h => lf (P := EE l 76) h k_76_43) (fun h => lf (P := EE l 76) h k_76_46)) (fun h => nd h (fun h => lf (P := EE l 76) h k_76_48) (fun h => lf (P := EE l 76) h (EE_ca (by decide) (⟨m_600, m_82, ⟨by decide, by decide⟩, by decide +kernel, ⟨by decide, by decide⟩, 64, 2, by decide +kernel, Or.inl ⟨rfl, rfl, dX7_meetsEdge_50, m_917, m_599⟩⟩) rfl))))))) (fun h => nd h (fun h => nd h (fun h => nd h (fun h => nd h (fun h => lf (P := EE l 76) h k_76_53) (fun h => nd h (fun h => lf (P := EE l 76) h k_76_54) (fun h => lf (P := EE l 76) h k_76_57))) (fun h => nd h (fun h => nd h (fun h => lf (P := EE l 76) h k_76_60) (fun h => lf (P := EE l 76) h k_76_62)) (fun h => nd h (fun h => lf (P := EE l 76) h (EE_ca (by decide) (⟨m_603, m_82, ⟨by decide, by decide⟩, by decide +kernel, ⟨by decide, by decide⟩, 58, 2, by decide +kernel, Or.inl ⟨rfl, rfl, dX7_meetsEdge_64, m_916, m_602⟩⟩) rfl)) (fun h => lf (P := EE l 76) h k_76_67)))) (fun h => nd h (fun h => nd h (fun h => nd h (fun h => lf (P := EE l 76) h k_76_68) (fun h => lf (P := EE l 76) h k_76_71)) (fun h => nd h (fun h => lf (P := EE l 76) h k_76_74) (fun h => lf (P := EE l 76) h k_76_76))) (fun h => nd h (fun h => nd h (fun h => lf (P := EE l 76) h (EE_ca (by decide) (⟨m_600, m_82, ⟨by decide, by decide⟩, by decide +kernel, ⟨by decide, by decide⟩, 64, 2, by decide +kernel, Or.inl ⟨rfl, rfl, dX7_meetsEdge_78, m_917, m_599⟩⟩) rfl)) (fun h => lf (P := EE l 76) h k_76_81)) (fun h => nd h (fun h => lf (P := EE l 76) h k_76_82) (fun h => lf (P := EE l 76) h k_76_85))))) (fun h => nd h (fun h => nd h (fun h => nd h (fun h => lf (P := EE l 76) h k_76_88) (fun h => nd h (fun h => lf (P := EE l 76) h (EE_re (Or.inr (Or.inl ⟨rfl, dX7_meetsEdge_89, rfl⟩)))) (fun h => lf (P := EE l 76) h k_76_90))) (fun h => nd h (fun h => nd h (fun h => lf (P := EE l 76) h k_76_92) (fun h => lf (P := EE l 76) h k_76_94)) (fun h => nd h (fun h => lf (P := EE l 76) h k_76_96) (fun h => lf (P := EE l 76) h k_76_98)))) (fun h => nd h (fun h => nd h (fun h => nd h (fun h => lf (P := EE l 76) h k_76_99) (fun h => lf (P := EE l 76) h k_76_102)) (fun h => nd h (fun h => lf (P := EE l 76) h k_76_103) (fun h => lf (P := EE l 76) h (EE_ca (by decide) (⟨m_586, m_70, ⟨by decide, by decide⟩, by decide +kernel, ⟨by decide, by decide⟩, 67, 6, by decide +kernel, Or.inr (Or.inl ⟨rfl, rfl, dX7_meetsEdge_106, ⟨"AtlasDesk", m_918⟩, m_585⟩)⟩) rfl)))) (fun h => nd h (fun h => nd h (fun h => lf (P := EE l 76) h k_76_109) (fun h => lf (P := EE l 76) h k_76_111)) (fun h => nd h (fun h => lf (P := EE l 76) h k_76_113) (fun h => lf (P := EE l 76) h k_76_115))))))) (fun h => nd h (fun h => nd h (fun h => nd h (fun h => nd h (fun h => nd h (fun h => lf (P := EE l 76) h k_76_117) (fun h => nd h (fun h => lf (P := EE l 76) h k_76_119) (fun h => lf (P := EE l 76) h k_76_120))) (fun h => nd h (fun h => nd h (fun h => lf (P := EE l 76) h k_76_123) (fun h => lf (P := EE l 76) h k_76_124)) (fun h => nd h (fun h => lf (P := EE l 76) h (EE_ca (by decide) (⟨m_586, m_70, ⟨by decide, by decide⟩, by decide +kernel, ⟨by decide, by decide⟩, 67, 6, by decide +kernel, Or.inr (Or.inl ⟨rfl, rfl, dX7_meetsEdge_127, ⟨"AtlasDesk", m_918⟩, m_585⟩)⟩) rfl)) (fun h => lf (P := EE l 76) h k_76_130)))) (fun h => nd h (fun h => nd h (fun h => lf (P := EE l 76) h k_76_132) (fun h => nd h (fun h => lf (P := EE l 76) h k_76_134) (fun h => lf (P := EE l 76) h k_76_136))) (fun h => nd h (fun h => nd h (fun h => lf (P := EE l 76) h k_76_138) (fun h => lf (P := EE l 76) h k_76_140)) (fun h => nd h (fun h => lf (P := EE l 76) h k_76_141) (fun h => lf (P := EE l 76) h k_76_144))))) (fun h => nd h (fun h => nd h (fun h => nd h (fun h => lf (P := EE l 76) h k_76_145) (fun h => nd h (fun h => lf (P := EE l 76) h (EE_ca (by decide) (⟨m_586, m_70, ⟨by decide, by decide⟩, by decide +kernel, ⟨by decide, by decide⟩, 67, 6, by decide +kernel, Or.inr (Or.inl ⟨rfl, rfl, dX7_meetsEdge_148, ⟨"AtlasDesk", m_918⟩, m_585⟩)⟩) rfl)) (fun h => lf (P := EE l 76) h k_76_151))) (fun h => nd h (fun h => nd h (fun h => lf (P := EE l 76) h k_76_153) (fun h => lf (P := EE l 76) h k_76_155)) (fun h => nd h (fun h => lf (P := EE l 76) h k_76_157) (fun h => lf (P := EE l 76) h k_76_159)))) (fun h => nd h (fun h => nd h (fun h => nd h (fun h => lf (P := EE l 76) h k_76_161) (fun h => lf (P := EE l 76) h k_76_162)) (fun h => nd h (fun h => lf (P := EE l 76) h k_76_165) (fun h => lf (P := EE l 76) h k_76_166))) (fun h => nd h (fun h => nd h (fun h => lf (P := EE l 76) h (EE_ca (by decide) (⟨m_586, m_70, ⟨by decide, by decide⟩, by decide +kernel, ⟨by decide, by decide⟩, 67, 6, by decide +kernel, Or.inr (Or.inl ⟨rfl, rfl, dX7_meetsEdge_169, ⟨"AtlasDesk", m_918⟩, m_585⟩)⟩) rfl)) (fun h => lf (P := EE l 76) h k_76_172)) (fun h => nd h (fun h => lf (P := EE l 76) h k_76_174) (fun h => lf (P := EE l 76) h k_76_176)))))) (fun h => nd h (fun h => nd h (fun h => nd h (fun h => nd h (fun h => lf (P := EE l 76) h k_76_179) (fun h => nd h (fun h => lf (P := EE l 76) h k_76_181) (fun h => lf (P := EE l 76) h k_76_184))) (fun h => nd h (fun h => nd h (fun h => lf (P := EE l 76) h k_76_186) (fun h => lf (P := EE l 76) h k_76_189)) (fun h => nd h (fun h => lf (P := EE l 76) h k_76_191) (fun h => lf (P := EE l 76) h k_76_194)))) (fun h => nd h (fun h => nd h (fun h => nd h (fun h => lf (P := EE l 76) h k_76_195) (fun h => lf (P := EE l 76) h k_76_198)) (fun h => nd h (fun h => lf (P := EE l 76) h k_76_199) (fun h => lf (P := EE l 76) h k_76_201))) (fun h => nd h (fun h => nd h (fun h => lf (P := EE l 76) h k_76_203) (fun h => lf (P := EE l 76) h k_76_206)) (fun h => nd h (fun h => lf (P := EE l 76) h k_76_208) (fun h => lf (P := EE l 76) h k_76_211))))) (fun h => nd h (fun h => nd h (fun h => nd h (fun h => lf (P := EE l 76) h k_76_213) (fun h => nd h (fun h => lf (P := EE l 76) h k_76_216) (fun h => lf (P := EE l 76) h k_76_218))) (fun h => nd h (fun h => nd h (fun h => lf (P := EE l 76) h k_76_221) (fun h => lf (P := EE l 76) h k_76_222)) (fun h => nd h (fun h => lf (P := EE l 76) h k_76_225) (fun h => lf (P := EE l 76) h k_76_226)))) (fun h => nd h (fun h => nd h (fun h => nd h (fun h => lf (P := EE l 76) h k_76_228) (fun h => lf (P := EE l 76) h k_76_230)) (fun h => nd h (fun h => lf (P := EE l 76) h k_76_233) (fun h => lf (P := EE l 76) h k_76_235))) (fun h => nd h (fun h => nd h (fun h => lf (P := EE l 76) h k_76_238) (fun h => lf (P := EE l 76) h k_76_239)) (fun h => nd h (fun h => lf (P := EE l 76) h k_76_242) (fun h => lf (P := EE l 76) h (EE_re (Or.inr (Or.inl ⟨rfl, dX7_meetsEdge_243, rfl⟩))))))))))
