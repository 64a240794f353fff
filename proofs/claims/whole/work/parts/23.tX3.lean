/-! tables of X3 (written by a program) -/
theorem dX3_init_0 : decode cX3_init 0 = .ok (.aload_n 0, 1) := by decide +kernel
theorem dX3_init_1 : decode cX3_init 1 = .ok (.invokespecial 3, 3) := by decide +kernel
theorem dX3_init_4 : decode cX3_init 4 = .ok (.aload_n 0, 1) := by decide +kernel
theorem dX3_init_5 : decode cX3_init 5 = .ok (.sipush 5880, 3) := by decide +kernel
theorem dX3_init_8 : decode cX3_init 8 = .ok (.newarray .byte, 2) := by decide +kernel
theorem dX3_init_10 : decode cX3_init 10 = .ok (.putfield 9, 3) := by decide +kernel
theorem dX3_init_13 : decode cX3_init 13 = .ok (.return_, 1) := by decide +kernel
def tb_39 (pc : Nat) : Option mEnt := bif Nat.ble pc 4 then (bif Nat.ble pc 0 then (bif Nat.beq pc 0 then some (.inl (o_al 0 1)) else none) else (bif Nat.ble pc 1 then (bif Nat.beq pc 1 then some (.inr (5, 0, 0, 0)) else none) else (bif Nat.beq pc 4 then some (.inl (o_al 0 1)) else none))) else (bif Nat.ble pc 8 then (bif Nat.ble pc 5 then (bif Nat.beq pc 5 then some (.inl (oS 3 (s_push (.int 5880)))) else none) else (bif Nat.beq pc 8 then some (.inl (o_newa 0)) else none)) else (bif Nat.ble pc 10 then (bif Nat.beq pc 10 then some (.inl (o_pP 3 0)) else none) else (bif Nat.beq pc 13 then some (.inr (0, 0, 0, 3)) else none)))
theorem k_39_0 : mOk M_39.1 M_39.2.1 M_39.2.2.1 M_39.2.2.2 0 (o_al 0 1) := ok_aload_n dX3_init_0 rfl
theorem k_39_4 : mOk M_39.1 M_39.2.1 M_39.2.2.1 M_39.2.2.2 4 (o_al 0 1) := ok_aload_n dX3_init_4 rfl
theorem k_39_5 : mOk M_39.1 M_39.2.1 M_39.2.2.1 M_39.2.2.2 5 (oS 3 (s_push (.int 5880))) := ok_sipush dX3_init_5 (by decide)
theorem k_39_8 : mOk M_39.1 M_39.2.1 M_39.2.2.1 M_39.2.2.2 8 (o_newa 0) := ok_newa dX3_init_8 (by decide) m_274 (fun _ => rfl) (fun _ _ h => h) (by decide) rfl
theorem k_39_10 : mOk M_39.1 M_39.2.1 M_39.2.2.1 M_39.2.2.2 10 (o_pP 3 0) := ok_pP dX3_init_10 (mFw_of f_RX3_9_c (Or.inr ⟨rfl, rfl, rfl⟩)) rfl
set_option maxRecDepth 20000 in
set_option maxHeartbeats 4000000 in
theorem tk_39 (l : Launch) (H9 : mThr l) (H10 : mSpl l) (pc : Nat) (q : mEnt) (h : tb_39 pc = some q) : EE l 39 pc q := nd h (fun h => nd h (fun h => lf (P := EE l 39) h k_39_0) (fun h => nd h (fun h => lf (P := EE l 39) h (EE_ob (⟨3, dX3_init_1, m_260, m_97, m_98, by decide, by decide⟩))) (fun h => lf (P := EE l 39) h k_39_4))) (fun h => nd h (fun h => nd h (fun h => lf (P := EE l 39) h k_39_5) (fun h => lf (P := EE l 39) h k_39_8)) (fun h => nd h (fun h => lf (P := EE l 39) h k_39_10) (fun h => lf (P := EE l 39) h (EE_re (Or.inr (Or.inr (Or.inr (Or.inr ⟨rfl, dX3_init_13, rfl⟩))))))))
theorem dX3_add_0 : decode cX3_add 0 = .ok (.aload_n 0, 1) := by decide +kernel
theorem dX3_add_1 : decode cX3_add 1 = .ok (.getfield 15, 3) := by decide +kernel
theorem dX3_add_4 : decode cX3_add 4 = .ok (.aload_n 0, 1) := by decide +kernel
theorem dX3_add_5 : decode cX3_add 5 = .ok (.getfield 9, 3) := by decide +kernel
theorem dX3_add_8 : decode cX3_add 8 = .ok (.arraylength, 1) := by decide +kernel
theorem dX3_add_9 : decode cX3_add 9 = .ok (.if_icmp .ge 24, 3) := by decide +kernel
theorem dX3_add_12 : decode cX3_add 12 = .ok (.aload_n 0, 1) := by decide +kernel
theorem dX3_add_13 : decode cX3_add 13 = .ok (.getfield 9, 3) := by decide +kernel
theorem dX3_add_16 : decode cX3_add 16 = .ok (.aload_n 0, 1) := by decide +kernel
theorem dX3_add_17 : decode cX3_add 17 = .ok (.getfield 15, 3) := by decide +kernel
theorem dX3_add_20 : decode cX3_add 20 = .ok (.iload_n 1, 1) := by decide +kernel
theorem dX3_add_21 : decode cX3_add 21 = .ok (.i2b, 1) := by decide +kernel
theorem dX3_add_22 : decode cX3_add 22 = .ok (.bastore, 1) := by decide +kernel
theorem dX3_add_23 : decode cX3_add 23 = .ok (.aload_n 0, 1) := by decide +kernel
theorem dX3_add_24 : decode cX3_add 24 = .ok (.dup, 1) := by decide +kernel
theorem dX3_add_25 : decode cX3_add 25 = .ok (.getfield 15, 3) := by decide +kernel
theorem dX3_add_28 : decode cX3_add 28 = .ok (.iconst 1, 1) := by decide +kernel
theorem dX3_add_29 : decode cX3_add 29 = .ok (.iadd, 1) := by decide +kernel
theorem dX3_add_30 : decode cX3_add 30 = .ok (.putfield 15, 3) := by decide +kernel
theorem dX3_add_33 : decode cX3_add 33 = .ok (.return_, 1) := by decide +kernel
def tb_40 (pc : Nat) : Option mEnt := bif Nat.ble pc 17 then (bif Nat.ble pc 8 then (bif Nat.ble pc 1 then (bif Nat.ble pc 0 then (bif Nat.beq pc 0 then some (.inl (o_al 0 1)) else none) else (bif Nat.beq pc 1 then some (.inl (o_gI 3 1)) else none)) else (bif Nat.ble pc 4 then (bif Nat.beq pc 4 then some (.inl (o_al 0 1)) else none) else (bif Nat.ble pc 5 then (bif Nat.beq pc 5 then some (.inl (o_gP 3 0)) else none) else (bif Nat.beq pc 8 then some (.inl (o_alen)) else none)))) else (bif Nat.ble pc 12 then (bif Nat.ble pc 9 then (bif Nat.beq pc 9 then some (.inl (o_cge 33)) else none) else (bif Nat.beq pc 12 then some (.inl (o_al 0 1)) else none)) else (bif Nat.ble pc 13 then (bif Nat.beq pc 13 then some (.inl (o_gP 3 0)) else none) else (bif Nat.ble pc 16 then (bif Nat.beq pc 16 then some (.inl (o_al 0 1)) else none) else (bif Nat.beq pc 17 then some (.inl (o_gI 3 1)) else none))))) else (bif Nat.ble pc 24 then (bif Nat.ble pc 21 then (bif Nat.ble pc 20 then (bif Nat.beq pc 20 then some (.inl (o_il 1 1)) else none) else (bif Nat.beq pc 21 then some (.inl (oS 1 (s_i1 (fun a => a.toInt8.toInt32)))) else none)) else (bif Nat.ble pc 22 then (bif Nat.beq pc 22 then some (.inl (o_bast)) else none) else (bif Nat.ble pc 23 then (bif Nat.beq pc 23 then some (.inl (o_al 0 1)) else none) else (bif Nat.beq pc 24 then some (.inl (oS 1 s_dup)) else none)))) else (bif Nat.ble pc 28 then (bif Nat.ble pc 25 then (bif Nat.beq pc 25 then some (.inl (o_gI 3 1)) else none) else (bif Nat.beq pc 28 then some (.inl (oS 1 (s_push (.int 1)))) else none)) else (bif Nat.ble pc 29 then (bif Nat.beq pc 29 then some (.inl (oS 1 (s_ii (fun a b => a + b)))) else none) else (bif Nat.ble pc 30 then (bif Nat.beq pc 30 then some (.inl (o_pI 3 1)) else none) else (bif Nat.beq pc 33 then some (.inr (0, 0, 0, 3)) else none)))))
theorem k_40_0 : mOk M_40.1 M_40.2.1 M_40.2.2.1 M_40.2.2.2 0 (o_al 0 1) := ok_aload_n dX3_add_0 rfl
theorem k_40_1 : mOk M_40.1 M_40.2.1 M_40.2.2.1 M_40.2.2.2 1 (o_gI 3 1) := ok_gI dX3_add_1 f_RX3_15 (Or.inl rfl)
theorem k_40_4 : mOk M_40.1 M_40.2.1 M_40.2.2.1 M_40.2.2.2 4 (o_al 0 1) := ok_aload_n dX3_add_4 rfl
theorem k_40_5 : mOk M_40.1 M_40.2.1 M_40.2.2.1 M_40.2.2.2 5 (o_gP 3 0) := ok_gP dX3_add_5 f_RX3_9 rfl
theorem k_40_8 : mOk M_40.1 M_40.2.1 M_40.2.2.1 M_40.2.2.2 8 (o_alen) := ok_alen dX3_add_8
theorem k_40_9 : mOk M_40.1 M_40.2.1 M_40.2.2.1 M_40.2.2.2 9 (o_cge 33) := ok_cge dX3_add_9 (by decide)
theorem k_40_12 : mOk M_40.1 M_40.2.1 M_40.2.2.1 M_40.2.2.2 12 (o_al 0 1) := ok_aload_n dX3_add_12 rfl
theorem k_40_13 : mOk M_40.1 M_40.2.1 M_40.2.2.1 M_40.2.2.2 13 (o_gP 3 0) := ok_gP dX3_add_13 f_RX3_9 rfl
theorem k_40_16 : mOk M_40.1 M_40.2.1 M_40.2.2.1 M_40.2.2.2 16 (o_al 0 1) := ok_aload_n dX3_add_16 rfl
theorem k_40_17 : mOk M_40.1 M_40.2.1 M_40.2.2.1 M_40.2.2.2 17 (o_gI 3 1) := ok_gI dX3_add_17 f_RX3_15 (Or.inl rfl)
theorem k_40_20 : mOk M_40.1 M_40.2.1 M_40.2.2.1 M_40.2.2.2 20 (o_il 1 1) := ok_iload_n dX3_add_20 rfl
theorem k_40_21 : mOk M_40.1 M_40.2.1 M_40.2.2.1 M_40.2.2.2 21 (oS 1 (s_i1 (fun a => a.toInt8.toInt32))) := ok_i2b dX3_add_21
theorem k_40_22 : mOk M_40.1 M_40.2.1 M_40.2.2.1 M_40.2.2.2 22 (o_bast) := ok_bast dX3_add_22
theorem k_40_23 : mOk M_40.1 M_40.2.1 M_40.2.2.1 M_40.2.2.2 23 (o_al 0 1) := ok_aload_n dX3_add_23 rfl
theorem k_40_24 : mOk M_40.1 M_40.2.1 M_40.2.2.1 M_40.2.2.2 24 (oS 1 s_dup) := ok_dup dX3_add_24
theorem k_40_25 : mOk M_40.1 M_40.2.1 M_40.2.2.1 M_40.2.2.2 25 (o_gI 3 1) := ok_gI dX3_add_25 f_RX3_15 (Or.inl rfl)
theorem k_40_28 : mOk M_40.1 M_40.2.1 M_40.2.2.1 M_40.2.2.2 28 (oS 1 (s_push (.int 1))) := ok_iconst dX3_add_28 (by decide)
theorem k_40_29 : mOk M_40.1 M_40.2.1 M_40.2.2.1 M_40.2.2.2 29 (oS 1 (s_ii (fun a b => a + b))) := ok_iadd dX3_add_29
theorem k_40_30 : mOk M_40.1 M_40.2.1 M_40.2.2.1 M_40.2.2.2 30 (o_pI 3 1) := ok_pI dX3_add_30 (mFw_of f_RX3_15_c (Or.inl rfl)) rfl
set_option maxRecDepth 20000 in
set_option maxHeartbeats 4000000 in
theorem tk_40 (l : Launch) (H9 : mThr l) (H10 : mSpl l) (pc : Nat) (q : mEnt) (h : tb_40 pc = some q) : EE l 40 pc q := nd h (fun h => nd h (fun h => nd h (fun h => nd h (fun h => lf (P := EE l 40) h k_40_0) (fun h => lf (P := EE l 40) h k_40_1)) (fun h => nd h (fun h => lf (P := EE l 40) h k_40_4) (fun h => nd h (fun h => lf (P := EE l 40) h k_40_5) (fun h => lf (P := EE l 40) h k_40_8)))) (fun h => nd h (fun h => nd h (fun h => lf (P := EE l 40) h k_40_9) (fun h => lf (P := EE l 40) h k_40_12)) (fun h => nd h (fun h => lf (P := EE l 40) h k_40_13) (fun h => nd h (fun h => lf (P := EE l 40) h k_40_16) (fun h => lf (P := EE l 40) h k_40_17))))) (fun h => nd h (fun h => nd h (fun h => nd h (fun h => lf (P := EE l 40) h k_40_20) (fun h => lf (P := EE l 40) h k_40_21)) (fun h => nd h (fun h => lf (P := EE l 40) h k_40_22) (fun h => nd h (fun h => lf (P := EE l 40) h k_40_23) (fun h => lf (P := EE l 40) h k_40_24)))) (fun h => nd h (fun h => nd h (fun h => lf (P := EE l 40) h k_40_25) (fun h => lf (P := EE l 40) h k_40_28)) (fun h => nd h (fun h => lf (P := EE l 40) h k_40_29) (fun h => nd h (fun h => lf (P := EE l 40) h k_40_30) (fun h => lf (P := EE l 40) h (EE_re (Or.inr (Or.inr (Or.inr (Or.inr ⟨rfl, dX3_add_33, rfl⟩))))))))))
theorem dX3_addCount_0 : decode cX3_addCount 0 = .ok (.iload_n 1, 1) := by decide +kernel
theorem dX3_addCount_1 : decode cX3_addCount 1 = .ok (.istore_n 2, 1) := by decide +kernel
theorem dX3_addCount_2 : decode cX3_addCount 2 = .ok (.iconst 0, 1) := by decide +kernel
theorem dX3_addCount_3 : decode cX3_addCount 3 = .ok (.istore_n 3, 1) := by decide +kernel
theorem dX3_addCount_4 : decode cX3_addCount 4 = .ok (.iload_n 3, 1) := by decide +kernel
theorem dX3_addCount_5 : decode cX3_addCount 5 = .ok (.iconst 4, 1) := by decide +kernel
theorem dX3_addCount_6 : decode cX3_addCount 6 = .ok (.if_icmp .ge 32, 3) := by decide +kernel
theorem dX3_addCount_9 : decode cX3_addCount 9 = .ok (.iload_n 2, 1) := by decide +kernel
theorem dX3_addCount_10 : decode cX3_addCount 10 = .ok (.bipush 127, 2) := by decide +kernel
theorem dX3_addCount_12 : decode cX3_addCount 12 = .ok (.if_icmp .le 26, 3) := by decide +kernel
theorem dX3_addCount_15 : decode cX3_addCount 15 = .ok (.aload_n 0, 1) := by decide +kernel
theorem dX3_addCount_16 : decode cX3_addCount 16 = .ok (.iload_n 2, 1) := by decide +kernel
theorem dX3_addCount_17 : decode cX3_addCount 17 = .ok (.bipush 127, 2) := by decide +kernel
theorem dX3_addCount_19 : decode cX3_addCount 19 = .ok (.iand, 1) := by decide +kernel
theorem dX3_addCount_20 : decode cX3_addCount 20 = .ok (.sipush 128, 3) := by decide +kernel
theorem dX3_addCount_23 : decode cX3_addCount 23 = .ok (.iadd, 1) := by decide +kernel
theorem dX3_addCount_24 : decode cX3_addCount 24 = .ok (.invokevirtual 19, 3) := by decide +kernel
theorem dX3_addCount_27 : decode cX3_addCount 27 = .ok (.iload_n 2, 1) := by decide +kernel
theorem dX3_addCount_28 : decode cX3_addCount 28 = .ok (.bipush 7, 2) := by decide +kernel
theorem dX3_addCount_30 : decode cX3_addCount 30 = .ok (.iushr, 1) := by decide +kernel
theorem dX3_addCount_31 : decode cX3_addCount 31 = .ok (.istore_n 2, 1) := by decide +kernel
theorem dX3_addCount_32 : decode cX3_addCount 32 = .ok (.iinc 3 1, 3) := by decide +kernel
theorem dX3_addCount_35 : decode cX3_addCount 35 = .ok (.goto (-31), 3) := by decide +kernel
theorem dX3_addCount_38 : decode cX3_addCount 38 = .ok (.aload_n 0, 1) := by decide +kernel
theorem dX3_addCount_39 : decode cX3_addCount 39 = .ok (.iload_n 2, 1) := by decide +kernel
theorem dX3_addCount_40 : decode cX3_addCount 40 = .ok (.invokevirtual 19, 3) := by decide +kernel
theorem dX3_addCount_43 : decode cX3_addCount 43 = .ok (.return_, 1) := by decide +kernel
def tb_41 (pc : Nat) : Option mEnt := bif Nat.ble pc 17 then (bif Nat.ble pc 5 then (bif Nat.ble pc 2 then (bif Nat.ble pc 0 then (bif Nat.beq pc 0 then some (.inl (o_il 1 1)) else none) else (bif Nat.ble pc 1 then (bif Nat.beq pc 1 then some (.inl (o_is 2 1)) else none) else (bif Nat.beq pc 2 then some (.inl (oS 1 (s_push (.int 0)))) else none))) else (bif Nat.ble pc 3 then (bif Nat.beq pc 3 then some (.inl (o_is 3 1)) else none) else (bif Nat.ble pc 4 then (bif Nat.beq pc 4 then some (.inl (o_il 3 1)) else none) else (bif Nat.beq pc 5 then some (.inl (oS 1 (s_push (.int 4)))) else none)))) else (bif Nat.ble pc 10 then (bif Nat.ble pc 6 then (bif Nat.beq pc 6 then some (.inl (o_cge 38)) else none) else (bif Nat.ble pc 9 then (bif Nat.beq pc 9 then some (.inl (o_il 2 1)) else none) else (bif Nat.beq pc 10 then some (.inl (oS 2 (s_push (.int 127)))) else none))) else (bif Nat.ble pc 15 then (bif Nat.ble pc 12 then (bif Nat.beq pc 12 then some (.inl (o_cle 38)) else none) else (bif Nat.beq pc 15 then some (.inl (o_al 0 1)) else none)) else (bif Nat.ble pc 16 then (bif Nat.beq pc 16 then some (.inl (o_il 2 1)) else none) else (bif Nat.beq pc 17 then some (.inl (oS 2 (s_push (.int 127)))) else none))))) else (bif Nat.ble pc 30 then (bif Nat.ble pc 23 then (bif Nat.ble pc 19 then (bif Nat.beq pc 19 then some (.inl (oS 1 (s_ii (fun a b => a &&& b)))) else none) else (bif Nat.ble pc 20 then (bif Nat.beq pc 20 then some (.inl (oS 3 (s_push (.int 128)))) else none) else (bif Nat.beq pc 23 then some (.inl (oS 1 (s_ii (fun a b => a + b)))) else none))) else (bif Nat.ble pc 27 then (bif Nat.ble pc 24 then (bif Nat.beq pc 24 then some (.inr (3, 40, 2, 3)) else none) else (bif Nat.beq pc 27 then some (.inl (o_il 2 1)) else none)) else (bif Nat.ble pc 28 then (bif Nat.beq pc 28 then some (.inl (oS 2 (s_push (.int 7)))) else none) else (bif Nat.beq pc 30 then some (.inl (oS 1 (s_ii (fun a b => (a.toUInt32 >>> (b.toUInt32 &&& Int32.toUInt32 31)).toInt32)))) else none)))) else (bif Nat.ble pc 35 then (bif Nat.ble pc 31 then (bif Nat.beq pc 31 then some (.inl (o_is 2 1)) else none) else (bif Nat.ble pc 32 then (bif Nat.beq pc 32 then some (.inl (o_inc 3 1)) else none) else (bif Nat.beq pc 35 then some (.inl (o_goto 4)) else none))) else (bif Nat.ble pc 39 then (bif Nat.ble pc 38 then (bif Nat.beq pc 38 then some (.inl (o_al 0 1)) else none) else (bif Nat.beq pc 39 then some (.inl (o_il 2 1)) else none)) else (bif Nat.ble pc 40 then (bif Nat.beq pc 40 then some (.inr (3, 40, 2, 3)) else none) else (bif Nat.beq pc 43 then some (.inr (0, 0, 0, 3)) else none)))))
theorem k_41_0 : mOk M_41.1 M_41.2.1 M_41.2.2.1 M_41.2.2.2 0 (o_il 1 1) := ok_iload_n dX3_addCount_0 rfl
theorem k_41_1 : mOk M_41.1 M_41.2.1 M_41.2.2.1 M_41.2.2.2 1 (o_is 2 1) := ok_istore_n dX3_addCount_1 rfl
theorem k_41_2 : mOk M_41.1 M_41.2.1 M_41.2.2.1 M_41.2.2.2 2 (oS 1 (s_push (.int 0))) := ok_iconst dX3_addCount_2 (by decide)
theorem k_41_3 : mOk M_41.1 M_41.2.1 M_41.2.2.1 M_41.2.2.2 3 (o_is 3 1) := ok_istore_n dX3_addCount_3 rfl
theorem k_41_4 : mOk M_41.1 M_41.2.1 M_41.2.2.1 M_41.2.2.2 4 (o_il 3 1) := ok_iload_n dX3_addCount_4 rfl
theorem k_41_5 : mOk M_41.1 M_41.2.1 M_41.2.2.1 M_41.2.2.2 5 (oS 1 (s_push (.int 4))) := ok_iconst dX3_addCount_5 (by decide)
theorem k_41_6 : mOk M_41.1 M_41.2.1 M_41.2.2.1 M_41.2.2.2 6 (o_cge 38) := ok_cge dX3_addCount_6 (by decide)
theorem k_41_9 : mOk M_41.1 M_41.2.1 M_41.2.2.1 M_41.2.2.2 9 (o_il 2 1) := ok_iload_n dX3_addCount_9 rfl
theorem k_41_10 : mOk M_41.1 M_41.2.1 M_41.2.2.1 M_41.2.2.2 10 (oS 2 (s_push (.int 127))) := ok_bipush dX3_addCount_10 (by decide)
theorem k_41_12 : mOk M_41.1 M_41.2.1 M_41.2.2.1 M_41.2.2.2 12 (o_cle 38) := ok_cle dX3_addCount_12 (by decide)
theorem k_41_15 : mOk M_41.1 M_41.2.1 M_41.2.2.1 M_41.2.2.2 15 (o_al 0 1) := ok_aload_n dX3_addCount_15 rfl
theorem k_41_16 : mOk M_41.1 M_41.2.1 M_41.2.2.1 M_41.2.2.2 16 (o_il 2 1) := ok_iload_n dX3_addCount_16 rfl
theorem k_41_17 : mOk M_41.1 M_41.2.1 M_41.2.2.1 M_41.2.2.2 17 (oS 2 (s_push (.int 127))) := ok_bipush dX3_addCount_17 (by decide)
theorem k_41_19 : mOk M_41.1 M_41.2.1 M_41.2.2.1 M_41.2.2.2 19 (oS 1 (s_ii (fun a b => a &&& b))) := ok_iand dX3_addCount_19
theorem k_41_20 : mOk M_41.1 M_41.2.1 M_41.2.2.1 M_41.2.2.2 20 (oS 3 (s_push (.int 128))) := ok_sipush dX3_addCount_20 (by decide)
theorem k_41_23 : mOk M_41.1 M_41.2.1 M_41.2.2.1 M_41.2.2.2 23 (oS 1 (s_ii (fun a b => a + b))) := ok_iadd dX3_addCount_23
theorem k_41_27 : mOk M_41.1 M_41.2.1 M_41.2.2.1 M_41.2.2.2 27 (o_il 2 1) := ok_iload_n dX3_addCount_27 rfl
theorem k_41_28 : mOk M_41.1 M_41.2.1 M_41.2.2.1 M_41.2.2.2 28 (oS 2 (s_push (.int 7))) := ok_bipush dX3_addCount_28 (by decide)
theorem k_41_30 : mOk M_41.1 M_41.2.1 M_41.2.2.1 M_41.2.2.2 30 (oS 1 (s_ii (fun a b => (a.toUInt32 >>> (b.toUInt32 &&& Int32.toUInt32 31)).toInt32))) := ok_iushr dX3_addCount_30
theorem k_41_31 : mOk M_41.1 M_41.2.1 M_41.2.2.1 M_41.2.2.2 31 (o_is 2 1) := ok_istore_n dX3_addCount_31 rfl
theorem k_41_32 : mOk M_41.1 M_41.2.1 M_41.2.2.1 M_41.2.2.2 32 (o_inc 3 1) := ok_iinc dX3_addCount_32 (by decide)
theorem k_41_35 : mOk M_41.1 M_41.2.1 M_41.2.2.1 M_41.2.2.2 35 (o_goto 4) := ok_goto dX3_addCount_35 (by decide)
theorem k_41_38 : mOk M_41.1 M_41.2.1 M_41.2.2.1 M_41.2.2.2 38 (o_al 0 1) := ok_aload_n dX3_addCount_38 rfl
theorem k_41_39 : mOk M_41.1 M_41.2.1 M_41.2.2.1 M_41.2.2.2 39 (o_il 2 1) := ok_iload_n dX3_addCount_39 rfl
set_option maxRecDepth 20000 in
set_option maxHeartbeats 4000000 in
theorem tk_41 (l : Launch) (H9 : mThr l) (H10 : mSpl l) (pc : Nat) (q : mEnt) (h : tb_41 pc = some q) : EE l 41 pc q := nd h (fun h => nd h (fun h => nd h (fun h => nd h (fun h => lf (P := EE l 41) h k_41_0) (fun h => nd h (fun h => lf (P := EE l 41) h k_41_1) (fun h => lf (P := EE l 41) h k_41_2))) (fun h => nd h (fun h => lf (P := EE l 41) h k_41_3) (fun h => nd h (fun h => lf (P := EE l 41) h k_41_4) (fun h => lf (P := EE l 41) h k_41_5)))) (fun h => nd h (fun h => nd h (fun h => lf (P := EE l 41) h k_41_6) (fun h => nd h (fun h => lf (P := EE l 41) h k_41_9) (fun h => lf (P := EE l 41) h k_41_10))) (fun h => nd h (fun h => nd h (fun h => lf (P := EE l 41) h k_41_12) (fun h => lf (P := EE l 41) h k_41_15)) (fun h => nd h (fun h => lf (P := EE l 41) h k_41_16) (fun h => lf (P := EE l 41) h k_41_17))))) (fun h => nd h (fun h => nd h (fun h => nd h (fun h => lf (P := EE l 41) h k_41_19) (fun h => nd h (fun h => lf (P := EE l 41) h k_41_20) (fun h => lf (P := EE l 41) h k_41_23))) (fun h => nd h (fun h => nd h (fun h => lf (P := EE l 41) h (EE_ca (by decide) (⟨m_834, m_77, ⟨by decide, by decide⟩, by decide +kernel, ⟨by decide, by decide⟩, 19, 1, by decide +kernel, Or.inr (Or.inr (Or.inl ⟨rfl, rfl, dX3_addCount_24, m_831, m_832, _, rfl, by decide, m_833⟩))⟩) rfl)) (fun h => lf (P := EE l 41) h k_41_27)) (fun h => nd h (fun h => lf (P := EE l 41) h k_41_28) (fun h => lf (P := EE l 41) h k_41_30)))) (fun h => nd h (fun h => nd h (fun h => lf (P := EE l 41) h k_41_31) (fun h => nd h (fun h => lf (P := EE l 41) h k_41_32) (fun h => lf (P := EE l 41) h k_41_35))) (fun h => nd h (fun h => nd h (fun h => lf (P := EE l 41) h k_41_38) (fun h => lf (P := EE l 41) h k_41_39)) (fun h => nd h (fun h => lf (P := EE l 41) h (EE_ca (by decide) (⟨m_834, m_77, ⟨by decide, by decide⟩, by decide +kernel, ⟨by decide, by decide⟩, 19, 1, by decide +kernel, Or.inr (Or.inr (Or.inl ⟨rfl, rfl, dX3_addCount_40, m_831, m_832, _, rfl, by decide, m_833⟩))⟩) rfl)) (fun h => lf (P := EE l 41) h (EE_re (Or.inr (Or.inr (Or.inr (Or.inr ⟨rfl, dX3_addCount_43, rfl⟩))))))))))
theorem dX3_addStep_0 : decode cX3_addStep 0 = .ok (.aload_n 0, 1) := by decide +kernel
theorem dX3_addStep_1 : decode cX3_addStep 1 = .ok (.iload_n 1, 1) := by decide +kernel
theorem dX3_addStep_2 : decode cX3_addStep 2 = .ok (.ifCond .ge 12, 3) := by decide +kernel
theorem dX3_addStep_5 : decode cX3_addStep 5 = .ok (.bipush (-2), 2) := by decide +kernel
theorem dX3_addStep_7 : decode cX3_addStep 7 = .ok (.iload_n 1, 1) := by decide +kernel
theorem dX3_addStep_8 : decode cX3_addStep 8 = .ok (.imul, 1) := by decide +kernel
theorem dX3_addStep_9 : decode cX3_addStep 9 = .ok (.iconst 1, 1) := by decide +kernel
theorem dX3_addStep_10 : decode cX3_addStep 10 = .ok (.isub, 1) := by decide +kernel
theorem dX3_addStep_11 : decode cX3_addStep 11 = .ok (.goto 6, 3) := by decide +kernel
theorem dX3_addStep_14 : decode cX3_addStep 14 = .ok (.iconst 2, 1) := by decide +kernel
theorem dX3_addStep_15 : decode cX3_addStep 15 = .ok (.iload_n 1, 1) := by decide +kernel
theorem dX3_addStep_16 : decode cX3_addStep 16 = .ok (.imul, 1) := by decide +kernel
theorem dX3_addStep_17 : decode cX3_addStep 17 = .ok (.invokevirtual 23, 3) := by decide +kernel
theorem dX3_addStep_20 : decode cX3_addStep 20 = .ok (.return_, 1) := by decide +kernel
def tb_42 (pc : Nat) : Option mEnt := bif Nat.ble pc 9 then (bif Nat.ble pc 2 then (bif Nat.ble pc 0 then (bif Nat.beq pc 0 then some (.inl (o_al 0 1)) else none) else (bif Nat.ble pc 1 then (bif Nat.beq pc 1 then some (.inl (o_il 1 1)) else none) else (bif Nat.beq pc 2 then some (.inl (o_zge 14)) else none))) else (bif Nat.ble pc 7 then (bif Nat.ble pc 5 then (bif Nat.beq pc 5 then some (.inl (oS 2 (s_push (.int (-2))))) else none) else (bif Nat.beq pc 7 then some (.inl (o_il 1 1)) else none)) else (bif Nat.ble pc 8 then (bif Nat.beq pc 8 then some (.inl (oS 1 (s_ii (fun a b => a * b)))) else none) else (bif Nat.beq pc 9 then some (.inl (oS 1 (s_push (.int 1)))) else none)))) else (bif Nat.ble pc 14 then (bif Nat.ble pc 10 then (bif Nat.beq pc 10 then some (.inl (oS 1 (s_ii (fun a b => a - b)))) else none) else (bif Nat.ble pc 11 then (bif Nat.beq pc 11 then some (.inl (o_goto 17)) else none) else (bif Nat.beq pc 14 then some (.inl (oS 1 (s_push (.int 2)))) else none))) else (bif Nat.ble pc 16 then (bif Nat.ble pc 15 then (bif Nat.beq pc 15 then some (.inl (o_il 1 1)) else none) else (bif Nat.beq pc 16 then some (.inl (oS 1 (s_ii (fun a b => a * b)))) else none)) else (bif Nat.ble pc 17 then (bif Nat.beq pc 17 then some (.inr (3, 41, 2, 3)) else none) else (bif Nat.beq pc 20 then some (.inr (0, 0, 0, 3)) else none))))
theorem k_42_0 : mOk M_42.1 M_42.2.1 M_42.2.2.1 M_42.2.2.2 0 (o_al 0 1) := ok_aload_n dX3_addStep_0 rfl
theorem k_42_1 : mOk M_42.1 M_42.2.1 M_42.2.2.1 M_42.2.2.2 1 (o_il 1 1) := ok_iload_n dX3_addStep_1 rfl
theorem k_42_2 : mOk M_42.1 M_42.2.1 M_42.2.2.1 M_42.2.2.2 2 (o_zge 14) := ok_zge dX3_addStep_2 (by decide)
theorem k_42_5 : mOk M_42.1 M_42.2.1 M_42.2.2.1 M_42.2.2.2 5 (oS 2 (s_push (.int (-2)))) := ok_bipush dX3_addStep_5 (by decide)
theorem k_42_7 : mOk M_42.1 M_42.2.1 M_42.2.2.1 M_42.2.2.2 7 (o_il 1 1) := ok_iload_n dX3_addStep_7 rfl
theorem k_42_8 : mOk M_42.1 M_42.2.1 M_42.2.2.1 M_42.2.2.2 8 (oS 1 (s_ii (fun a b => a * b))) := ok_imul dX3_addStep_8
theorem k_42_9 : mOk M_42.1 M_42.2.1 M_42.2.2.1 M_42.2.2.2 9 (oS 1 (s_push (.int 1))) := ok_iconst dX3_addStep_9 (by decide)
theorem k_42_10 : mOk M_42.1 M_42.2.1 M_42.2.2.1 M_42.2.2.2 10 (oS 1 (s_ii (fun a b => a - b))) := ok_isub dX3_addStep_10
theorem k_42_11 : mOk M_42.1 M_42.2.1 M_42.2.2.1 M_42.2.2.2 11 (o_goto 17) := ok_goto dX3_addStep_11 (by decide)
theorem k_42_14 : mOk M_42.1 M_42.2.1 M_42.2.2.1 M_42.2.2.2 14 (oS 1 (s_push (.int 2))) := ok_iconst dX3_addStep_14 (by decide)
theorem k_42_15 : mOk M_42.1 M_42.2.1 M_42.2.2.1 M_42.2.2.2 15 (o_il 1 1) := ok_iload_n dX3_addStep_15 rfl
theorem k_42_16 : mOk M_42.1 M_42.2.1 M_42.2.2.1 M_42.2.2.2 16 (oS 1 (s_ii (fun a b => a * b))) := ok_imul dX3_addStep_16
set_option maxRecDepth 20000 in
set_option maxHeartbeats 4000000 in
theorem tk_42 (l : Launch) (H9 : mThr l) (H10 : mSpl l) (pc : Nat) (q : mEnt) (h : tb_42 pc = some q) : EE l 42 pc q := nd h (fun h => nd h (fun h => nd h (fun h => lf (P := EE l 42) h k_42_0) (fun h => nd h (fun h => lf (P := EE l 42) h k_42_1) (fun h => lf (P := EE l 42) h k_42_2))) (fun h => nd h (fun h => nd h (fun h => lf (P := EE l 42) h k_42_5) (fun h => lf (P := EE l 42) h k_42_7)) (fun h => nd h (fun h => lf (P := EE l 42) h k_42_8) (fun h => lf (P := EE l 42) h k_42_9)))) (fun h => nd h (fun h => nd h (fun h => lf (P := EE l 42) h k_42_10) (fun h => nd h (fun h => lf (P := EE l 42) h k_42_11) (fun h => lf (P := EE l 42) h k_42_14))) (fun h => nd h (fun h => nd h (fun h => lf (P := EE l 42) h k_42_15) (fun h => lf (P := EE l 42) h k_42_16)) (fun h => nd h (fun h => lf (P := EE l 42) h (EE_ca (by decide) (⟨m_830, m_77, ⟨by decide, by decide⟩, by decide +kernel, ⟨by decide, by decide⟩, 23, 1, by decide +kernel, Or.inr (Or.inr (Or.inl ⟨rfl, rfl, dX3_addStep_17, m_848, m_828, _, rfl, by decide, m_829⟩))⟩) rfl)) (fun h => lf (P := EE l 42) h (EE_re (Or.inr (Or.inr (Or.inr (Or.inr ⟨rfl, dX3_addStep_20, rfl⟩)))))))))
