/-! tables of X1 (written by a program) -/
theorem dX1_init_0 : decode cX1_init 0 = .ok (.aload_n 0, 1) := by decide +kernel
theorem dX1_init_1 : decode cX1_init 1 = .ok (.invokespecial 3, 3) := by decide +kernel
theorem dX1_init_4 : decode cX1_init 4 = .ok (.aload_n 0, 1) := by decide +kernel
theorem dX1_init_5 : decode cX1_init 5 = .ok (.bipush 24, 2) := by decide +kernel
theorem dX1_init_7 : decode cX1_init 7 = .ok (.anewarray 9, 3) := by decide +kernel
theorem dX1_init_10 : decode cX1_init 10 = .ok (.putfield 11, 3) := by decide +kernel
theorem dX1_init_13 : decode cX1_init 13 = .ok (.iconst 0, 1) := by decide +kernel
theorem dX1_init_14 : decode cX1_init 14 = .ok (.istore_n 1, 1) := by decide +kernel
theorem dX1_init_15 : decode cX1_init 15 = .ok (.iload_n 1, 1) := by decide +kernel
theorem dX1_init_16 : decode cX1_init 16 = .ok (.bipush 24, 2) := by decide +kernel
theorem dX1_init_18 : decode cX1_init 18 = .ok (.if_icmp .ge 22, 3) := by decide +kernel
theorem dX1_init_21 : decode cX1_init 21 = .ok (.aload_n 0, 1) := by decide +kernel
theorem dX1_init_22 : decode cX1_init 22 = .ok (.getfield 11, 3) := by decide +kernel
theorem dX1_init_25 : decode cX1_init 25 = .ok (.iload_n 1, 1) := by decide +kernel
theorem dX1_init_26 : decode cX1_init 26 = .ok (.new 9, 3) := by decide +kernel
theorem dX1_init_29 : decode cX1_init 29 = .ok (.dup, 1) := by decide +kernel
theorem dX1_init_30 : decode cX1_init 30 = .ok (.invokespecial 17, 3) := by decide +kernel
theorem dX1_init_33 : decode cX1_init 33 = .ok (.aastore, 1) := by decide +kernel
theorem dX1_init_34 : decode cX1_init 34 = .ok (.iinc 1 1, 3) := by decide +kernel
theorem dX1_init_37 : decode cX1_init 37 = .ok (.goto (-22), 3) := by decide +kernel
theorem dX1_init_40 : decode cX1_init 40 = .ok (.return_, 1) := by decide +kernel
def tb_3 (pc : Nat) : Option mEnt := bif Nat.ble pc 16 then (bif Nat.ble pc 7 then (bif Nat.ble pc 1 then (bif Nat.ble pc 0 then (bif Nat.beq pc 0 then some (.inl (o_al 0 1)) else none) else (bif Nat.beq pc 1 then some (.inr (5, 0, 0, 0)) else none)) else (bif Nat.ble pc 4 then (bif Nat.beq pc 4 then some (.inl (o_al 0 1)) else none) else (bif Nat.ble pc 5 then (bif Nat.beq pc 5 then some (.inl (oS 2 (s_push (.int 24)))) else none) else (bif Nat.beq pc 7 then some (.inl (o_newq 5)) else none)))) else (bif Nat.ble pc 13 then (bif Nat.ble pc 10 then (bif Nat.beq pc 10 then some (.inl (o_pP 1 0)) else none) else (bif Nat.beq pc 13 then some (.inl (oS 1 (s_push (.int 0)))) else none)) else (bif Nat.ble pc 14 then (bif Nat.beq pc 14 then some (.inl (o_is 1 1)) else none) else (bif Nat.ble pc 15 then (bif Nat.beq pc 15 then some (.inl (o_il 1 1)) else none) else (bif Nat.beq pc 16 then some (.inl (oS 2 (s_push (.int 24)))) else none))))) else (bif Nat.ble pc 26 then (bif Nat.ble pc 21 then (bif Nat.ble pc 18 then (bif Nat.beq pc 18 then some (.inl (o_cge 40)) else none) else (bif Nat.beq pc 21 then some (.inl (o_al 0 1)) else none)) else (bif Nat.ble pc 22 then (bif Nat.beq pc 22 then some (.inl (o_gP 1 0)) else none) else (bif Nat.ble pc 25 then (bif Nat.beq pc 25 then some (.inl (o_il 1 1)) else none) else (bif Nat.beq pc 26 then some (.inl (o_new 2)) else none)))) else (bif Nat.ble pc 33 then (bif Nat.ble pc 29 then (bif Nat.beq pc 29 then some (.inl (oS 1 s_dup)) else none) else (bif Nat.ble pc 30 then (bif Nat.beq pc 30 then some (.inr (7, 14, 1, 2)) else none) else (bif Nat.beq pc 33 then some (.inl (o_aast)) else none))) else (bif Nat.ble pc 34 then (bif Nat.beq pc 34 then some (.inl (o_inc 1 1)) else none) else (bif Nat.ble pc 37 then (bif Nat.beq pc 37 then some (.inl (o_goto 15)) else none) else (bif Nat.beq pc 40 then some (.inr (0, 0, 0, 3)) else none)))))
theorem k_3_0 : mOk M_3.1 M_3.2.1 M_3.2.2.1 M_3.2.2.2 0 (o_al 0 1) := ok_aload_n dX1_init_0 rfl
theorem k_3_4 : mOk M_3.1 M_3.2.1 M_3.2.2.1 M_3.2.2.2 4 (o_al 0 1) := ok_aload_n dX1_init_4 rfl
theorem k_3_5 : mOk M_3.1 M_3.2.1 M_3.2.2.1 M_3.2.2.2 5 (oS 2 (s_push (.int 24))) := ok_bipush dX1_init_5 (by decide)
theorem k_3_7 : mOk M_3.1 M_3.2.1 M_3.2.2.1 M_3.2.2.2 7 (o_newq 5) := ok_newq dX1_init_7 (by decide) m_152 (fun U h => h.2.2.1) (fun _ => rfl)
theorem k_3_10 : mOk M_3.1 M_3.2.1 M_3.2.2.1 M_3.2.2.2 10 (o_pP 1 0) := ok_pP dX1_init_10 (mFw_of f_RX1_11_c (Or.inr ⟨rfl, rfl, rfl⟩)) rfl
theorem k_3_13 : mOk M_3.1 M_3.2.1 M_3.2.2.1 M_3.2.2.2 13 (oS 1 (s_push (.int 0))) := ok_iconst dX1_init_13 (by decide)
theorem k_3_14 : mOk M_3.1 M_3.2.1 M_3.2.2.1 M_3.2.2.2 14 (o_is 1 1) := ok_istore_n dX1_init_14 rfl
theorem k_3_15 : mOk M_3.1 M_3.2.1 M_3.2.2.1 M_3.2.2.2 15 (o_il 1 1) := ok_iload_n dX1_init_15 rfl
theorem k_3_16 : mOk M_3.1 M_3.2.1 M_3.2.2.1 M_3.2.2.2 16 (oS 2 (s_push (.int 24))) := ok_bipush dX1_init_16 (by decide)
theorem k_3_18 : mOk M_3.1 M_3.2.1 M_3.2.2.1 M_3.2.2.2 18 (o_cge 40) := ok_cge dX1_init_18 (by decide)
theorem k_3_21 : mOk M_3.1 M_3.2.1 M_3.2.2.1 M_3.2.2.2 21 (o_al 0 1) := ok_aload_n dX1_init_21 rfl
theorem k_3_22 : mOk M_3.1 M_3.2.1 M_3.2.2.1 M_3.2.2.2 22 (o_gP 1 0) := ok_gP dX1_init_22 f_RX1_11 rfl
theorem k_3_25 : mOk M_3.1 M_3.2.1 M_3.2.2.1 M_3.2.2.2 25 (o_il 1 1) := ok_iload_n dX1_init_25 rfl
theorem k_3_26 : mOk M_3.1 M_3.2.1 M_3.2.2.1 M_3.2.2.2 26 (o_new 2) := ok_new dX1_init_26 cl_2 rfl m_152 m_100 m_71
theorem k_3_29 : mOk M_3.1 M_3.2.1 M_3.2.2.1 M_3.2.2.2 29 (oS 1 s_dup) := ok_dup dX1_init_29
theorem k_3_33 : mOk M_3.1 M_3.2.1 M_3.2.2.1 M_3.2.2.2 33 (o_aast) := ok_aast dX1_init_33
theorem k_3_34 : mOk M_3.1 M_3.2.1 M_3.2.2.1 M_3.2.2.2 34 (o_inc 1 1) := ok_iinc dX1_init_34 (by decide)
theorem k_3_37 : mOk M_3.1 M_3.2.1 M_3.2.2.1 M_3.2.2.2 37 (o_goto 15) := ok_goto dX1_init_37 (by decide)
set_option maxRecDepth 20000 in
set_option maxHeartbeats 4000000 in
theorem tk_3 (l : Launch) (H9 : mThr l) (H10 : mSpl l) (pc : Nat) (q : mEnt) (h : tb_3 pc = some q) : EE l 3 pc q := nd h (fun h => nd h (fun h => nd h (fun h => nd h (fun h => lf (P := EE l 3) h k_3_0) (fun h => lf (P := EE l 3) h (EE_ob (⟨3, dX1_init_1, m_151, m_97, m_98, by decide, by decide⟩)))) (fun h => nd h (fun h => lf (P := EE l 3) h k_3_4) (fun h => nd h (fun h => lf (P := EE l 3) h k_3_5) (fun h => lf (P := EE l 3) h k_3_7)))) (fun h => nd h (fun h => nd h (fun h => lf (P := EE l 3) h k_3_10) (fun h => lf (P := EE l 3) h k_3_13)) (fun h => nd h (fun h => lf (P := EE l 3) h k_3_14) (fun h => nd h (fun h => lf (P := EE l 3) h k_3_15) (fun h => lf (P := EE l 3) h k_3_16))))) (fun h => nd h (fun h => nd h (fun h => nd h (fun h => lf (P := EE l 3) h k_3_18) (fun h => lf (P := EE l 3) h k_3_21)) (fun h => nd h (fun h => lf (P := EE l 3) h k_3_22) (fun h => nd h (fun h => lf (P := EE l 3) h k_3_25) (fun h => lf (P := EE l 3) h k_3_26)))) (fun h => nd h (fun h => nd h (fun h => lf (P := EE l 3) h k_3_29) (fun h => nd h (fun h => lf (P := EE l 3) h (EE_ca (by decide) (⟨m_103, m_71, ⟨by decide, by decide⟩, by decide +kernel, ⟨by decide, by decide⟩, 17, 0, by decide +kernel, Or.inr (Or.inr (Or.inr (Or.inr ⟨rfl, rfl, dX1_init_30, ⟨"AtlasDesk", m_154⟩, m_102, rfl, rfl⟩)))⟩) rfl)) (fun h => lf (P := EE l 3) h k_3_33))) (fun h => nd h (fun h => lf (P := EE l 3) h k_3_34) (fun h => nd h (fun h => lf (P := EE l 3) h k_3_37) (fun h => lf (P := EE l 3) h (EE_re (Or.inr (Or.inr (Or.inr (Or.inr ⟨rfl, dX1_init_40, rfl⟩))))))))))
theorem dX1_put_0 : decode cX1_put 0 = .ok (.aload_n 0, 1) := by decide +kernel
theorem dX1_put_1 : decode cX1_put 1 = .ok (.aload_n 1, 1) := by decide +kernel
theorem dX1_put_2 : decode cX1_put 2 = .ok (.getfield 18, 3) := by decide +kernel
theorem dX1_put_5 : decode cX1_put 5 = .ok (.invokevirtual 22, 3) := by decide +kernel
theorem dX1_put_8 : decode cX1_put 8 = .ok (.istore_n 2, 1) := by decide +kernel
theorem dX1_put_9 : decode cX1_put 9 = .ok (.aload_n 0, 1) := by decide +kernel
theorem dX1_put_10 : decode cX1_put 10 = .ok (.iload_n 2, 1) := by decide +kernel
theorem dX1_put_11 : decode cX1_put 11 = .ok (.aload_n 1, 1) := by decide +kernel
theorem dX1_put_12 : decode cX1_put 12 = .ok (.getfield 18, 3) := by decide +kernel
theorem dX1_put_15 : decode cX1_put 15 = .ok (.invokevirtual 26, 3) := by decide +kernel
theorem dX1_put_18 : decode cX1_put 18 = .ok (.ifCond .ne 75, 3) := by decide +kernel
theorem dX1_put_21 : decode cX1_put 21 = .ok (.aload_n 0, 1) := by decide +kernel
theorem dX1_put_22 : decode cX1_put 22 = .ok (.getfield 30, 3) := by decide +kernel
theorem dX1_put_25 : decode cX1_put 25 = .ok (.bipush 24, 2) := by decide +kernel
theorem dX1_put_27 : decode cX1_put 27 = .ok (.if_icmp .lt 5, 3) := by decide +kernel
theorem dX1_put_30 : decode cX1_put 30 = .ok (.iconst 0, 1) := by decide +kernel
theorem dX1_put_31 : decode cX1_put 31 = .ok (.ireturn, 1) := by decide +kernel
theorem dX1_put_32 : decode cX1_put 32 = .ok (.aload_n 0, 1) := by decide +kernel
theorem dX1_put_33 : decode cX1_put 33 = .ok (.getfield 11, 3) := by decide +kernel
theorem dX1_put_36 : decode cX1_put 36 = .ok (.aload_n 0, 1) := by decide +kernel
theorem dX1_put_37 : decode cX1_put 37 = .ok (.getfield 30, 3) := by decide +kernel
theorem dX1_put_40 : decode cX1_put 40 = .ok (.aaload, 1) := by decide +kernel
theorem dX1_put_41 : decode cX1_put 41 = .ok (.astore_n 3, 1) := by decide +kernel
theorem dX1_put_42 : decode cX1_put 42 = .ok (.aload_n 0, 1) := by decide +kernel
theorem dX1_put_43 : decode cX1_put 43 = .ok (.getfield 30, 3) := by decide +kernel
theorem dX1_put_46 : decode cX1_put 46 = .ok (.istore 4, 2) := by decide +kernel
theorem dX1_put_48 : decode cX1_put 48 = .ok (.iload 4, 2) := by decide +kernel
theorem dX1_put_50 : decode cX1_put 50 = .ok (.iload_n 2, 1) := by decide +kernel
theorem dX1_put_51 : decode cX1_put 51 = .ok (.if_icmp .le 25, 3) := by decide +kernel
theorem dX1_put_54 : decode cX1_put 54 = .ok (.aload_n 0, 1) := by decide +kernel
theorem dX1_put_55 : decode cX1_put 55 = .ok (.getfield 11, 3) := by decide +kernel
theorem dX1_put_58 : decode cX1_put 58 = .ok (.iload 4, 2) := by decide +kernel
theorem dX1_put_60 : decode cX1_put 60 = .ok (.aload_n 0, 1) := by decide +kernel
theorem dX1_put_61 : decode cX1_put 61 = .ok (.getfield 11, 3) := by decide +kernel
theorem dX1_put_64 : decode cX1_put 64 = .ok (.iload 4, 2) := by decide +kernel
theorem dX1_put_66 : decode cX1_put 66 = .ok (.iconst 1, 1) := by decide +kernel
theorem dX1_put_67 : decode cX1_put 67 = .ok (.isub, 1) := by decide +kernel
theorem dX1_put_68 : decode cX1_put 68 = .ok (.aaload, 1) := by decide +kernel
theorem dX1_put_69 : decode cX1_put 69 = .ok (.aastore, 1) := by decide +kernel
theorem dX1_put_70 : decode cX1_put 70 = .ok (.iinc 4 (-1), 3) := by decide +kernel
theorem dX1_put_73 : decode cX1_put 73 = .ok (.goto (-25), 3) := by decide +kernel
theorem dX1_put_76 : decode cX1_put 76 = .ok (.aload_n 0, 1) := by decide +kernel
theorem dX1_put_77 : decode cX1_put 77 = .ok (.getfield 11, 3) := by decide +kernel
theorem dX1_put_80 : decode cX1_put 80 = .ok (.iload_n 2, 1) := by decide +kernel
theorem dX1_put_81 : decode cX1_put 81 = .ok (.aload_n 3, 1) := by decide +kernel
theorem dX1_put_82 : decode cX1_put 82 = .ok (.aastore, 1) := by decide +kernel
theorem dX1_put_83 : decode cX1_put 83 = .ok (.aload_n 0, 1) := by decide +kernel
theorem dX1_put_84 : decode cX1_put 84 = .ok (.dup, 1) := by decide +kernel
theorem dX1_put_85 : decode cX1_put 85 = .ok (.getfield 30, 3) := by decide +kernel
theorem dX1_put_88 : decode cX1_put 88 = .ok (.iconst 1, 1) := by decide +kernel
theorem dX1_put_89 : decode cX1_put 89 = .ok (.iadd, 1) := by decide +kernel
theorem dX1_put_90 : decode cX1_put 90 = .ok (.putfield 30, 3) := by decide +kernel
theorem dX1_put_93 : decode cX1_put 93 = .ok (.aload_n 0, 1) := by decide +kernel
theorem dX1_put_94 : decode cX1_put 94 = .ok (.getfield 11, 3) := by decide +kernel
theorem dX1_put_97 : decode cX1_put 97 = .ok (.iload_n 2, 1) := by decide +kernel
theorem dX1_put_98 : decode cX1_put 98 = .ok (.aaload, 1) := by decide +kernel
theorem dX1_put_99 : decode cX1_put 99 = .ok (.aload_n 1, 1) := by decide +kernel
theorem dX1_put_100 : decode cX1_put 100 = .ok (.invokevirtual 33, 3) := by decide +kernel
theorem dX1_put_103 : decode cX1_put 103 = .ok (.iconst 1, 1) := by decide +kernel
theorem dX1_put_104 : decode cX1_put 104 = .ok (.ireturn, 1) := by decide +kernel
def tb_4 (pc : Nat) : Option mEnt := bif Nat.ble pc 54 then (bif Nat.ble pc 27 then (bif Nat.ble pc 10 then (bif Nat.ble pc 2 then (bif Nat.ble pc 0 then (bif Nat.beq pc 0 then some (.inl (o_al 0 1)) else none) else (bif Nat.ble pc 1 then (bif Nat.beq pc 1 then some (.inl (o_al 1 1)) else none) else (bif Nat.beq pc 2 then some (.inl (o_gI 2 0)) else none))) else (bif Nat.ble pc 8 then (bif Nat.ble pc 5 then (bif Nat.beq pc 5 then some (.inr (3, 6, 2, 1)) else none) else (bif Nat.beq pc 8 then some (.inl (o_is 2 1)) else none)) else (bif Nat.ble pc 9 then (bif Nat.beq pc 9 then some (.inl (o_al 0 1)) else none) else (bif Nat.beq pc 10 then some (.inl (o_il 2 1)) else none)))) else (bif Nat.ble pc 18 then (bif Nat.ble pc 12 then (bif Nat.ble pc 11 then (bif Nat.beq pc 11 then some (.inl (o_al 1 1)) else none) else (bif Nat.beq pc 12 then some (.inl (o_gI 2 0)) else none)) else (bif Nat.ble pc 15 then (bif Nat.beq pc 15 then some (.inr (3, 7, 3, 1)) else none) else (bif Nat.beq pc 18 then some (.inl (o_zne 93)) else none))) else (bif Nat.ble pc 22 then (bif Nat.ble pc 21 then (bif Nat.beq pc 21 then some (.inl (o_al 0 1)) else none) else (bif Nat.beq pc 22 then some (.inl (o_gI 1 1)) else none)) else (bif Nat.ble pc 25 then (bif Nat.beq pc 25 then some (.inl (oS 2 (s_push (.int 24)))) else none) else (bif Nat.beq pc 27 then some (.inl (o_clt 32)) else none))))) else (bif Nat.ble pc 40 then (bif Nat.ble pc 32 then (bif Nat.ble pc 30 then (bif Nat.beq pc 30 then some (.inl (oS 1 (s_push (.int 0)))) else none) else (bif Nat.ble pc 31 then (bif Nat.beq pc 31 then some (.inr (0, 0, 0, 4)) else none) else (bif Nat.beq pc 32 then some (.inl (o_al 0 1)) else none))) else (bif Nat.ble pc 36 then (bif Nat.ble pc 33 then (bif Nat.beq pc 33 then some (.inl (o_gP 1 0)) else none) else (bif Nat.beq pc 36 then some (.inl (o_al 0 1)) else none)) else (bif Nat.ble pc 37 then (bif Nat.beq pc 37 then some (.inl (o_gI 1 1)) else none) else (bif Nat.beq pc 40 then some (.inl (o_aald)) else none)))) else (bif Nat.ble pc 46 then (bif Nat.ble pc 42 then (bif Nat.ble pc 41 then (bif Nat.beq pc 41 then some (.inl (o_as 3 1)) else none) else (bif Nat.beq pc 42 then some (.inl (o_al 0 1)) else none)) else (bif Nat.ble pc 43 then (bif Nat.beq pc 43 then some (.inl (o_gI 1 1)) else none) else (bif Nat.beq pc 46 then some (.inl (o_is 4 2)) else none))) else (bif Nat.ble pc 50 then (bif Nat.ble pc 48 then (bif Nat.beq pc 48 then some (.inl (o_il 4 2)) else none) else (bif Nat.beq pc 50 then some (.inl (o_il 2 1)) else none)) else (bif Nat.ble pc 51 then (bif Nat.beq pc 51 then some (.inl (o_cle 76)) else none) else (bif Nat.beq pc 54 then some (.inl (o_al 0 1)) else none)))))) else (bif Nat.ble pc 81 then (bif Nat.ble pc 67 then (bif Nat.ble pc 60 then (bif Nat.ble pc 55 then (bif Nat.beq pc 55 then some (.inl (o_gP 1 0)) else none) else (bif Nat.ble pc 58 then (bif Nat.beq pc 58 then some (.inl (o_il 4 2)) else none) else (bif Nat.beq pc 60 then some (.inl (o_al 0 1)) else none))) else (bif Nat.ble pc 64 then (bif Nat.ble pc 61 then (bif Nat.beq pc 61 then some (.inl (o_gP 1 0)) else none) else (bif Nat.beq pc 64 then some (.inl (o_il 4 2)) else none)) else (bif Nat.ble pc 66 then (bif Nat.beq pc 66 then some (.inl (oS 1 (s_push (.int 1)))) else none) else (bif Nat.beq pc 67 then some (.inl (oS 1 (s_ii (fun a b => a - b)))) else none)))) else (bif Nat.ble pc 73 then (bif Nat.ble pc 69 then (bif Nat.ble pc 68 then (bif Nat.beq pc 68 then some (.inl (o_aald)) else none) else (bif Nat.beq pc 69 then some (.inl (o_aast)) else none)) else (bif Nat.ble pc 70 then (bif Nat.beq pc 70 then some (.inl (o_inc 4 (-1))) else none) else (bif Nat.beq pc 73 then some (.inl (o_goto 48)) else none))) else (bif Nat.ble pc 77 then (bif Nat.ble pc 76 then (bif Nat.beq pc 76 then some (.inl (o_al 0 1)) else none) else (bif Nat.beq pc 77 then some (.inl (o_gP 1 0)) else none)) else (bif Nat.ble pc 80 then (bif Nat.beq pc 80 then some (.inl (o_il 2 1)) else none) else (bif Nat.beq pc 81 then some (.inl (o_al 3 1)) else none))))) else (bif Nat.ble pc 90 then (bif Nat.ble pc 84 then (bif Nat.ble pc 82 then (bif Nat.beq pc 82 then some (.inl (o_aast)) else none) else (bif Nat.ble pc 83 then (bif Nat.beq pc 83 then some (.inl (o_al 0 1)) else none) else (bif Nat.beq pc 84 then some (.inl (oS 1 s_dup)) else none))) else (bif Nat.ble pc 88 then (bif Nat.ble pc 85 then (bif Nat.beq pc 85 then some (.inl (o_gI 1 1)) else none) else (bif Nat.beq pc 88 then some (.inl (oS 1 (s_push (.int 1)))) else none)) else (bif Nat.ble pc 89 then (bif Nat.beq pc 89 then some (.inl (oS 1 (s_ii (fun a b => a + b)))) else none) else (bif Nat.beq pc 90 then some (.inl (o_pI 1 1)) else none)))) else (bif Nat.ble pc 98 then (bif Nat.ble pc 94 then (bif Nat.ble pc 93 then (bif Nat.beq pc 93 then some (.inl (o_al 0 1)) else none) else (bif Nat.beq pc 94 then some (.inl (o_gP 1 0)) else none)) else (bif Nat.ble pc 97 then (bif Nat.beq pc 97 then some (.inl (o_il 2 1)) else none) else (bif Nat.beq pc 98 then some (.inl (o_aald)) else none))) else (bif Nat.ble pc 100 then (bif Nat.ble pc 99 then (bif Nat.beq pc 99 then some (.inl (o_al 1 1)) else none) else (bif Nat.beq pc 100 then some (.inr (3, 17, 2, 2)) else none)) else (bif Nat.ble pc 103 then (bif Nat.beq pc 103 then some (.inl (oS 1 (s_push (.int 1)))) else none) else (bif Nat.beq pc 104 then some (.inr (0, 0, 0, 4)) else none))))))
theorem k_4_0 : mOk M_4.1 M_4.2.1 M_4.2.2.1 M_4.2.2.2 0 (o_al 0 1) := ok_aload_n dX1_put_0 rfl
theorem k_4_1 : mOk M_4.1 M_4.2.1 M_4.2.2.1 M_4.2.2.2 1 (o_al 1 1) := ok_aload_n dX1_put_1 rfl
theorem k_4_2 : mOk M_4.1 M_4.2.1 M_4.2.2.1 M_4.2.2.2 2 (o_gI 2 0) := ok_gI dX1_put_2 f_RX1_18 (Or.inl rfl)
theorem k_4_8 : mOk M_4.1 M_4.2.1 M_4.2.2.1 M_4.2.2.2 8 (o_is 2 1) := ok_istore_n dX1_put_8 rfl
theorem k_4_9 : mOk M_4.1 M_4.2.1 M_4.2.2.1 M_4.2.2.2 9 (o_al 0 1) := ok_aload_n dX1_put_9 rfl
theorem k_4_10 : mOk M_4.1 M_4.2.1 M_4.2.2.1 M_4.2.2.2 10 (o_il 2 1) := ok_iload_n dX1_put_10 rfl
theorem k_4_11 : mOk M_4.1 M_4.2.1 M_4.2.2.1 M_4.2.2.2 11 (o_al 1 1) := ok_aload_n dX1_put_11 rfl
theorem k_4_12 : mOk M_4.1 M_4.2.1 M_4.2.2.1 M_4.2.2.2 12 (o_gI 2 0) := ok_gI dX1_put_12 f_RX1_18 (Or.inl rfl)
theorem k_4_18 : mOk M_4.1 M_4.2.1 M_4.2.2.1 M_4.2.2.2 18 (o_zne 93) := ok_zne dX1_put_18 (by decide)
theorem k_4_21 : mOk M_4.1 M_4.2.1 M_4.2.2.1 M_4.2.2.2 21 (o_al 0 1) := ok_aload_n dX1_put_21 rfl
theorem k_4_22 : mOk M_4.1 M_4.2.1 M_4.2.2.1 M_4.2.2.2 22 (o_gI 1 1) := ok_gI dX1_put_22 f_RX1_30 (Or.inl rfl)
theorem k_4_25 : mOk M_4.1 M_4.2.1 M_4.2.2.1 M_4.2.2.2 25 (oS 2 (s_push (.int 24))) := ok_bipush dX1_put_25 (by decide)
theorem k_4_27 : mOk M_4.1 M_4.2.1 M_4.2.2.1 M_4.2.2.2 27 (o_clt 32) := ok_clt dX1_put_27 (by decide)
theorem k_4_30 : mOk M_4.1 M_4.2.1 M_4.2.2.1 M_4.2.2.2 30 (oS 1 (s_push (.int 0))) := ok_iconst dX1_put_30 (by decide)
theorem k_4_32 : mOk M_4.1 M_4.2.1 M_4.2.2.1 M_4.2.2.2 32 (o_al 0 1) := ok_aload_n dX1_put_32 rfl
theorem k_4_33 : mOk M_4.1 M_4.2.1 M_4.2.2.1 M_4.2.2.2 33 (o_gP 1 0) := ok_gP dX1_put_33 f_RX1_11 rfl
theorem k_4_36 : mOk M_4.1 M_4.2.1 M_4.2.2.1 M_4.2.2.2 36 (o_al 0 1) := ok_aload_n dX1_put_36 rfl
theorem k_4_37 : mOk M_4.1 M_4.2.1 M_4.2.2.1 M_4.2.2.2 37 (o_gI 1 1) := ok_gI dX1_put_37 f_RX1_30 (Or.inl rfl)
theorem k_4_40 : mOk M_4.1 M_4.2.1 M_4.2.2.1 M_4.2.2.2 40 (o_aald) := ok_aald dX1_put_40
theorem k_4_41 : mOk M_4.1 M_4.2.1 M_4.2.2.1 M_4.2.2.2 41 (o_as 3 1) := ok_astore_n dX1_put_41 rfl
theorem k_4_42 : mOk M_4.1 M_4.2.1 M_4.2.2.1 M_4.2.2.2 42 (o_al 0 1) := ok_aload_n dX1_put_42 rfl
theorem k_4_43 : mOk M_4.1 M_4.2.1 M_4.2.2.1 M_4.2.2.2 43 (o_gI 1 1) := ok_gI dX1_put_43 f_RX1_30 (Or.inl rfl)
theorem k_4_46 : mOk M_4.1 M_4.2.1 M_4.2.2.1 M_4.2.2.2 46 (o_is 4 2) := ok_istore dX1_put_46
theorem k_4_48 : mOk M_4.1 M_4.2.1 M_4.2.2.1 M_4.2.2.2 48 (o_il 4 2) := ok_iload dX1_put_48
theorem k_4_50 : mOk M_4.1 M_4.2.1 M_4.2.2.1 M_4.2.2.2 50 (o_il 2 1) := ok_iload_n dX1_put_50 rfl
theorem k_4_51 : mOk M_4.1 M_4.2.1 M_4.2.2.1 M_4.2.2.2 51 (o_cle 76) := ok_cle dX1_put_51 (by decide)
theorem k_4_54 : mOk M_4.1 M_4.2.1 M_4.2.2.1 M_4.2.2.2 54 (o_al 0 1) := ok_aload_n dX1_put_54 rfl
theorem k_4_55 : mOk M_4.1 M_4.2.1 M_4.2.2.1 M_4.2.2.2 55 (o_gP 1 0) := ok_gP dX1_put_55 f_RX1_11 rfl
theorem k_4_58 : mOk M_4.1 M_4.2.1 M_4.2.2.1 M_4.2.2.2 58 (o_il 4 2) := ok_iload dX1_put_58
theorem k_4_60 : mOk M_4.1 M_4.2.1 M_4.2.2.1 M_4.2.2.2 60 (o_al 0 1) := ok_aload_n dX1_put_60 rfl
theorem k_4_61 : mOk M_4.1 M_4.2.1 M_4.2.2.1 M_4.2.2.2 61 (o_gP 1 0) := ok_gP dX1_put_61 f_RX1_11 rfl
theorem k_4_64 : mOk M_4.1 M_4.2.1 M_4.2.2.1 M_4.2.2.2 64 (o_il 4 2) := ok_iload dX1_put_64
theorem k_4_66 : mOk M_4.1 M_4.2.1 M_4.2.2.1 M_4.2.2.2 66 (oS 1 (s_push (.int 1))) := ok_iconst dX1_put_66 (by decide)
theorem k_4_67 : mOk M_4.1 M_4.2.1 M_4.2.2.1 M_4.2.2.2 67 (oS 1 (s_ii (fun a b => a - b))) := ok_isub dX1_put_67
theorem k_4_68 : mOk M_4.1 M_4.2.1 M_4.2.2.1 M_4.2.2.2 68 (o_aald) := ok_aald dX1_put_68
theorem k_4_69 : mOk M_4.1 M_4.2.1 M_4.2.2.1 M_4.2.2.2 69 (o_aast) := ok_aast dX1_put_69
theorem k_4_70 : mOk M_4.1 M_4.2.1 M_4.2.2.1 M_4.2.2.2 70 (o_inc 4 (-1)) := ok_iinc dX1_put_70 (by decide)
theorem k_4_73 : mOk M_4.1 M_4.2.1 M_4.2.2.1 M_4.2.2.2 73 (o_goto 48) := ok_goto dX1_put_73 (by decide)
theorem k_4_76 : mOk M_4.1 M_4.2.1 M_4.2.2.1 M_4.2.2.2 76 (o_al 0 1) := ok_aload_n dX1_put_76 rfl
theorem k_4_77 : mOk M_4.1 M_4.2.1 M_4.2.2.1 M_4.2.2.2 77 (o_gP 1 0) := ok_gP dX1_put_77 f_RX1_11 rfl
theorem k_4_80 : mOk M_4.1 M_4.2.1 M_4.2.2.1 M_4.2.2.2 80 (o_il 2 1) := ok_iload_n dX1_put_80 rfl
theorem k_4_81 : mOk M_4.1 M_4.2.1 M_4.2.2.1 M_4.2.2.2 81 (o_al 3 1) := ok_aload_n dX1_put_81 rfl
theorem k_4_82 : mOk M_4.1 M_4.2.1 M_4.2.2.1 M_4.2.2.2 82 (o_aast) := ok_aast dX1_put_82
theorem k_4_83 : mOk M_4.1 M_4.2.1 M_4.2.2.1 M_4.2.2.2 83 (o_al 0 1) := ok_aload_n dX1_put_83 rfl
theorem k_4_84 : mOk M_4.1 M_4.2.1 M_4.2.2.1 M_4.2.2.2 84 (oS 1 s_dup) := ok_dup dX1_put_84
theorem k_4_85 : mOk M_4.1 M_4.2.1 M_4.2.2.1 M_4.2.2.2 85 (o_gI 1 1) := ok_gI dX1_put_85 f_RX1_30 (Or.inl rfl)
theorem k_4_88 : mOk M_4.1 M_4.2.1 M_4.2.2.1 M_4.2.2.2 88 (oS 1 (s_push (.int 1))) := ok_iconst dX1_put_88 (by decide)
theorem k_4_89 : mOk M_4.1 M_4.2.1 M_4.2.2.1 M_4.2.2.2 89 (oS 1 (s_ii (fun a b => a + b))) := ok_iadd dX1_put_89
theorem k_4_90 : mOk M_4.1 M_4.2.1 M_4.2.2.1 M_4.2.2.2 90 (o_pI 1 1) := ok_pI dX1_put_90 (mFw_of f_RX1_30_c (Or.inl rfl)) rfl
theorem k_4_93 : mOk M_4.1 M_4.2.1 M_4.2.2.1 M_4.2.2.2 93 (o_al 0 1) := ok_aload_n dX1_put_93 rfl
theorem k_4_94 : mOk M_4.1 M_4.2.1 M_4.2.2.1 M_4.2.2.2 94 (o_gP 1 0) := ok_gP dX1_put_94 f_RX1_11 rfl
theorem k_4_97 : mOk M_4.1 M_4.2.1 M_4.2.2.1 M_4.2.2.2 97 (o_il 2 1) := ok_iload_n dX1_put_97 rfl
theorem k_4_98 : mOk M_4.1 M_4.2.1 M_4.2.2.1 M_4.2.2.2 98 (o_aald) := ok_aald dX1_put_98
theorem k_4_99 : mOk M_4.1 M_4.2.1 M_4.2.2.1 M_4.2.2.2 99 (o_al 1 1) := ok_aload_n dX1_put_99 rfl
theorem k_4_103 : mOk M_4.1 M_4.2.1 M_4.2.2.1 M_4.2.2.2 103 (oS 1 (s_push (.int 1))) := ok_iconst dX1_put_103 (by decide)
set_option maxRecDepth 20000 in
set_option maxHeartbeats 4000000 in
theorem tk_4 (l : Launch) (H9 : mThr l) (H10 : mSpl l) (pc : Nat) (q : mEnt) (h : tb_4 pc = some q) : EE l 4 pc q := nd h (fun h => nd h (fun h => nd h (fun h => nd h (fun h => nd h (fun h => lf (P := EE l 4) h k_4_0) (fun h => nd h (fun h => lf (P := EE l 4) h k_4_1) (fun h => lf (P := EE l 4) h k_4_2))) (fun h => nd h (fun h => nd h (fun h => lf (P := EE l 4) h (EE_ca (by decide) (⟨m_483, m_72, ⟨by decide, by decide⟩, by decide +kernel, ⟨by decide, by decide⟩, 22, 1, by decide +kernel, Or.inr (Or.inr (Or.inl ⟨rfl, rfl, dX1_put_5, m_480, m_482, _, rfl, by decide, m_0⟩))⟩) rfl)) (fun h => lf (P := EE l 4) h k_4_8)) (fun h => nd h (fun h => lf (P := EE l 4) h k_4_9) (fun h => lf (P := EE l 4) h k_4_10)))) (fun h => nd h (fun h => nd h (fun h => nd h (fun h => lf (P := EE l 4) h k_4_11) (fun h => lf (P := EE l 4) h k_4_12)) (fun h => nd h (fun h => lf (P := EE l 4) h (EE_ca (by decide) (⟨m_487, m_72, ⟨by decide, by decide⟩, by decide +kernel, ⟨by decide, by decide⟩, 26, 2, by decide +kernel, Or.inr (Or.inr (Or.inl ⟨rfl, rfl, dX1_put_15, m_484, m_486, _, rfl, by decide, m_1⟩))⟩) rfl)) (fun h => lf (P := EE l 4) h k_4_18))) (fun h => nd h (fun h => nd h (fun h => lf (P := EE l 4) h k_4_21) (fun h => lf (P := EE l 4) h k_4_22)) (fun h => nd h (fun h => lf (P := EE l 4) h k_4_25) (fun h => lf (P := EE l 4) h k_4_27))))) (fun h => nd h (fun h => nd h (fun h => nd h (fun h => lf (P := EE l 4) h k_4_30) (fun h => nd h (fun h => lf (P := EE l 4) h (EE_re (Or.inr (Or.inl ⟨rfl, dX1_put_31, rfl⟩)))) (fun h => lf (P := EE l 4) h k_4_32))) (fun h => nd h (fun h => nd h (fun h => lf (P := EE l 4) h k_4_33) (fun h => lf (P := EE l 4) h k_4_36)) (fun h => nd h (fun h => lf (P := EE l 4) h k_4_37) (fun h => lf (P := EE l 4) h k_4_40)))) (fun h => nd h (fun h => nd h (fun h => nd h (fun h => lf (P := EE l 4) h k_4_41) (fun h => lf (P := EE l 4) h k_4_42)) (fun h => nd h (fun h => lf (P := EE l 4) h k_4_43) (fun h => lf (P := EE l 4) h k_4_46))) (fun h => nd h (fun h => nd h (fun h => lf (P := EE l 4) h k_4_48) (fun h => lf (P := EE l 4) h k_4_50)) (fun h => nd h (fun h => lf (P := EE l 4) h k_4_51) (fun h => lf (P := EE l 4) h k_4_54)))))) (fun h => nd h (fun h => nd h (fun h => nd h (fun h => nd h (fun h => lf (P := EE l 4) h k_4_55) (fun h => nd h (fun h => lf (P := EE l 4) h k_4_58) (fun h => lf (P := EE l 4) h k_4_60))) (fun h => nd h (fun h => nd h (fun h => lf (P := EE l 4) h k_4_61) (fun h => lf (P := EE l 4) h k_4_64)) (fun h => nd h (fun h => lf (P := EE l 4) h k_4_66) (fun h => lf (P := EE l 4) h k_4_67)))) (fun h => nd h (fun h => nd h (fun h => nd h (fun h => lf (P := EE l 4) h k_4_68) (fun h => lf (P := EE l 4) h k_4_69)) (fun h => nd h (fun h => lf (P := EE l 4) h k_4_70) (fun h => lf (P := EE l 4) h k_4_73))) (fun h => nd h (fun h => nd h (fun h => lf (P := EE l 4) h k_4_76) (fun h => lf (P := EE l 4) h k_4_77)) (fun h => nd h (fun h => lf (P := EE l 4) h k_4_80) (fun h => lf (P := EE l 4) h k_4_81))))) (fun h => nd h (fun h => nd h (fun h => nd h (fun h => lf (P := EE l 4) h k_4_82) (fun h => nd h (fun h => lf (P := EE l 4) h k_4_83) (fun h => lf (P := EE l 4) h k_4_84))) (fun h => nd h (fun h => nd h (fun h => lf (P := EE l 4) h k_4_85) (fun h => lf (P := EE l 4) h k_4_88)) (fun h => nd h (fun h => lf (P := EE l 4) h k_4_89) (fun h => lf (P := EE l 4) h k_4_90)))) (fun h => nd h (fun h => nd h (fun h => nd h (fun h => lf (P := EE l 4) h k_4_93) (fun h => lf (P := EE l 4) h k_4_94)) (fun h => nd h (fun h => lf (P := EE l 4) h k_4_97) (fun h => lf (P := EE l 4) h k_4_98))) (fun h => nd h (fun h => nd h (fun h => lf (P := EE l 4) h k_4_99) (fun h => lf (P := EE l 4) h (EE_ca (by decide) (⟨m_499, m_71, ⟨by decide, by decide⟩, by decide +kernel, ⟨by decide, by decide⟩, 33, 1, by decide +kernel, Or.inr (Or.inr (Or.inl ⟨rfl, rfl, dX1_put_100, m_496, m_497, _, rfl, by decide, m_498⟩))⟩) rfl))) (fun h => nd h (fun h => lf (P := EE l 4) h k_4_103) (fun h => lf (P := EE l 4) h (EE_re (Or.inr (Or.inl ⟨rfl, dX1_put_104, rfl⟩)))))))))
theorem dX1_remove_0 : decode cX1_remove 0 = .ok (.aload_n 0, 1) := by decide +kernel
theorem dX1_remove_1 : decode cX1_remove 1 = .ok (.iload_n 1, 1) := by decide +kernel
theorem dX1_remove_2 : decode cX1_remove 2 = .ok (.invokevirtual 22, 3) := by decide +kernel
theorem dX1_remove_5 : decode cX1_remove 5 = .ok (.istore_n 2, 1) := by decide +kernel
theorem dX1_remove_6 : decode cX1_remove 6 = .ok (.aload_n 0, 1) := by decide +kernel
theorem dX1_remove_7 : decode cX1_remove 7 = .ok (.iload_n 2, 1) := by decide +kernel
theorem dX1_remove_8 : decode cX1_remove 8 = .ok (.iload_n 1, 1) := by decide +kernel
theorem dX1_remove_9 : decode cX1_remove 9 = .ok (.invokevirtual 26, 3) := by decide +kernel
theorem dX1_remove_12 : decode cX1_remove 12 = .ok (.ifCond .ne 5, 3) := by decide +kernel
theorem dX1_remove_15 : decode cX1_remove 15 = .ok (.iconst 0, 1) := by decide +kernel
theorem dX1_remove_16 : decode cX1_remove 16 = .ok (.ireturn, 1) := by decide +kernel
theorem dX1_remove_17 : decode cX1_remove 17 = .ok (.aload_n 0, 1) := by decide +kernel
theorem dX1_remove_18 : decode cX1_remove 18 = .ok (.getfield 11, 3) := by decide +kernel
theorem dX1_remove_21 : decode cX1_remove 21 = .ok (.iload_n 2, 1) := by decide +kernel
theorem dX1_remove_22 : decode cX1_remove 22 = .ok (.aaload, 1) := by decide +kernel
theorem dX1_remove_23 : decode cX1_remove 23 = .ok (.astore_n 3, 1) := by decide +kernel
theorem dX1_remove_24 : decode cX1_remove 24 = .ok (.iload_n 2, 1) := by decide +kernel
theorem dX1_remove_25 : decode cX1_remove 25 = .ok (.iconst 1, 1) := by decide +kernel
theorem dX1_remove_26 : decode cX1_remove 26 = .ok (.iadd, 1) := by decide +kernel
theorem dX1_remove_27 : decode cX1_remove 27 = .ok (.istore 4, 2) := by decide +kernel
theorem dX1_remove_29 : decode cX1_remove 29 = .ok (.iload 4, 2) := by decide +kernel
theorem dX1_remove_31 : decode cX1_remove 31 = .ok (.aload_n 0, 1) := by decide +kernel
theorem dX1_remove_32 : decode cX1_remove 32 = .ok (.getfield 30, 3) := by decide +kernel
theorem dX1_remove_35 : decode cX1_remove 35 = .ok (.if_icmp .ge 25, 3) := by decide +kernel
theorem dX1_remove_38 : decode cX1_remove 38 = .ok (.aload_n 0, 1) := by decide +kernel
theorem dX1_remove_39 : decode cX1_remove 39 = .ok (.getfield 11, 3) := by decide +kernel
theorem dX1_remove_42 : decode cX1_remove 42 = .ok (.iload 4, 2) := by decide +kernel
theorem dX1_remove_44 : decode cX1_remove 44 = .ok (.iconst 1, 1) := by decide +kernel
theorem dX1_remove_45 : decode cX1_remove 45 = .ok (.isub, 1) := by decide +kernel
theorem dX1_remove_46 : decode cX1_remove 46 = .ok (.aload_n 0, 1) := by decide +kernel
theorem dX1_remove_47 : decode cX1_remove 47 = .ok (.getfield 11, 3) := by decide +kernel
theorem dX1_remove_50 : decode cX1_remove 50 = .ok (.iload 4, 2) := by decide +kernel
theorem dX1_remove_52 : decode cX1_remove 52 = .ok (.aaload, 1) := by decide +kernel
theorem dX1_remove_53 : decode cX1_remove 53 = .ok (.aastore, 1) := by decide +kernel
theorem dX1_remove_54 : decode cX1_remove 54 = .ok (.iinc 4 1, 3) := by decide +kernel
theorem dX1_remove_57 : decode cX1_remove 57 = .ok (.goto (-28), 3) := by decide +kernel
theorem dX1_remove_60 : decode cX1_remove 60 = .ok (.aload_n 0, 1) := by decide +kernel
theorem dX1_remove_61 : decode cX1_remove 61 = .ok (.dup, 1) := by decide +kernel
theorem dX1_remove_62 : decode cX1_remove 62 = .ok (.getfield 30, 3) := by decide +kernel
theorem dX1_remove_65 : decode cX1_remove 65 = .ok (.iconst 1, 1) := by decide +kernel
theorem dX1_remove_66 : decode cX1_remove 66 = .ok (.isub, 1) := by decide +kernel
theorem dX1_remove_67 : decode cX1_remove 67 = .ok (.putfield 30, 3) := by decide +kernel
theorem dX1_remove_70 : decode cX1_remove 70 = .ok (.aload_n 0, 1) := by decide +kernel
theorem dX1_remove_71 : decode cX1_remove 71 = .ok (.getfield 11, 3) := by decide +kernel
theorem dX1_remove_74 : decode cX1_remove 74 = .ok (.aload_n 0, 1) := by decide +kernel
theorem dX1_remove_75 : decode cX1_remove 75 = .ok (.getfield 30, 3) := by decide +kernel
theorem dX1_remove_78 : decode cX1_remove 78 = .ok (.aload_n 3, 1) := by decide +kernel
theorem dX1_remove_79 : decode cX1_remove 79 = .ok (.aastore, 1) := by decide +kernel
theorem dX1_remove_80 : decode cX1_remove 80 = .ok (.iconst 1, 1) := by decide +kernel
theorem dX1_remove_81 : decode cX1_remove 81 = .ok (.ireturn, 1) := by decide +kernel
def tb_5 (pc : Nat) : Option mEnt := bif Nat.ble pc 38 then (bif Nat.ble pc 17 then (bif Nat.ble pc 7 then (bif Nat.ble pc 2 then (bif Nat.ble pc 0 then (bif Nat.beq pc 0 then some (.inl (o_al 0 1)) else none) else (bif Nat.ble pc 1 then (bif Nat.beq pc 1 then some (.inl (o_il 1 1)) else none) else (bif Nat.beq pc 2 then some (.inr (3, 6, 2, 1)) else none))) else (bif Nat.ble pc 5 then (bif Nat.beq pc 5 then some (.inl (o_is 2 1)) else none) else (bif Nat.ble pc 6 then (bif Nat.beq pc 6 then some (.inl (o_al 0 1)) else none) else (bif Nat.beq pc 7 then some (.inl (o_il 2 1)) else none)))) else (bif Nat.ble pc 12 then (bif Nat.ble pc 8 then (bif Nat.beq pc 8 then some (.inl (o_il 1 1)) else none) else (bif Nat.ble pc 9 then (bif Nat.beq pc 9 then some (.inr (3, 7, 3, 1)) else none) else (bif Nat.beq pc 12 then some (.inl (o_zne 17)) else none))) else (bif Nat.ble pc 15 then (bif Nat.beq pc 15 then some (.inl (oS 1 (s_push (.int 0)))) else none) else (bif Nat.ble pc 16 then (bif Nat.beq pc 16 then some (.inr (0, 0, 0, 4)) else none) else (bif Nat.beq pc 17 then some (.inl (o_al 0 1)) else none))))) else (bif Nat.ble pc 25 then (bif Nat.ble pc 22 then (bif Nat.ble pc 18 then (bif Nat.beq pc 18 then some (.inl (o_gP 1 0)) else none) else (bif Nat.ble pc 21 then (bif Nat.beq pc 21 then some (.inl (o_il 2 1)) else none) else (bif Nat.beq pc 22 then some (.inl (o_aald)) else none))) else (bif Nat.ble pc 23 then (bif Nat.beq pc 23 then some (.inl (o_as 3 1)) else none) else (bif Nat.ble pc 24 then (bif Nat.beq pc 24 then some (.inl (o_il 2 1)) else none) else (bif Nat.beq pc 25 then some (.inl (oS 1 (s_push (.int 1)))) else none)))) else (bif Nat.ble pc 29 then (bif Nat.ble pc 26 then (bif Nat.beq pc 26 then some (.inl (oS 1 (s_ii (fun a b => a + b)))) else none) else (bif Nat.ble pc 27 then (bif Nat.beq pc 27 then some (.inl (o_is 4 2)) else none) else (bif Nat.beq pc 29 then some (.inl (o_il 4 2)) else none))) else (bif Nat.ble pc 32 then (bif Nat.ble pc 31 then (bif Nat.beq pc 31 then some (.inl (o_al 0 1)) else none) else (bif Nat.beq pc 32 then some (.inl (o_gI 1 1)) else none)) else (bif Nat.ble pc 35 then (bif Nat.beq pc 35 then some (.inl (o_cge 60)) else none) else (bif Nat.beq pc 38 then some (.inl (o_al 0 1)) else none)))))) else (bif Nat.ble pc 60 then (bif Nat.ble pc 47 then (bif Nat.ble pc 44 then (bif Nat.ble pc 39 then (bif Nat.beq pc 39 then some (.inl (o_gP 1 0)) else none) else (bif Nat.ble pc 42 then (bif Nat.beq pc 42 then some (.inl (o_il 4 2)) else none) else (bif Nat.beq pc 44 then some (.inl (oS 1 (s_push (.int 1)))) else none))) else (bif Nat.ble pc 45 then (bif Nat.beq pc 45 then some (.inl (oS 1 (s_ii (fun a b => a - b)))) else none) else (bif Nat.ble pc 46 then (bif Nat.beq pc 46 then some (.inl (o_al 0 1)) else none) else (bif Nat.beq pc 47 then some (.inl (o_gP 1 0)) else none)))) else (bif Nat.ble pc 53 then (bif Nat.ble pc 50 then (bif Nat.beq pc 50 then some (.inl (o_il 4 2)) else none) else (bif Nat.ble pc 52 then (bif Nat.beq pc 52 then some (.inl (o_aald)) else none) else (bif Nat.beq pc 53 then some (.inl (o_aast)) else none))) else (bif Nat.ble pc 54 then (bif Nat.beq pc 54 then some (.inl (o_inc 4 1)) else none) else (bif Nat.ble pc 57 then (bif Nat.beq pc 57 then some (.inl (o_goto 29)) else none) else (bif Nat.beq pc 60 then some (.inl (o_al 0 1)) else none))))) else (bif Nat.ble pc 70 then (bif Nat.ble pc 65 then (bif Nat.ble pc 61 then (bif Nat.beq pc 61 then some (.inl (oS 1 s_dup)) else none) else (bif Nat.ble pc 62 then (bif Nat.beq pc 62 then some (.inl (o_gI 1 1)) else none) else (bif Nat.beq pc 65 then some (.inl (oS 1 (s_push (.int 1)))) else none))) else (bif Nat.ble pc 66 then (bif Nat.beq pc 66 then some (.inl (oS 1 (s_ii (fun a b => a - b)))) else none) else (bif Nat.ble pc 67 then (bif Nat.beq pc 67 then some (.inl (o_pI 1 1)) else none) else (bif Nat.beq pc 70 then some (.inl (o_al 0 1)) else none)))) else (bif Nat.ble pc 75 then (bif Nat.ble pc 71 then (bif Nat.beq pc 71 then some (.inl (o_gP 1 0)) else none) else (bif Nat.ble pc 74 then (bif Nat.beq pc 74 then some (.inl (o_al 0 1)) else none) else (bif Nat.beq pc 75 then some (.inl (o_gI 1 1)) else none))) else (bif Nat.ble pc 79 then (bif Nat.ble pc 78 then (bif Nat.beq pc 78 then some (.inl (o_al 3 1)) else none) else (bif Nat.beq pc 79 then some (.inl (o_aast)) else none)) else (bif Nat.ble pc 80 then (bif Nat.beq pc 80 then some (.inl (oS 1 (s_push (.int 1)))) else none) else (bif Nat.beq pc 81 then some (.inr (0, 0, 0, 4)) else none))))))
theorem k_5_0 : mOk M_5.1 M_5.2.1 M_5.2.2.1 M_5.2.2.2 0 (o_al 0 1) := ok_aload_n dX1_remove_0 rfl
theorem k_5_1 : mOk M_5.1 M_5.2.1 M_5.2.2.1 M_5.2.2.2 1 (o_il 1 1) := ok_iload_n dX1_remove_1 rfl
theorem k_5_5 : mOk M_5.1 M_5.2.1 M_5.2.2.1 M_5.2.2.2 5 (o_is 2 1) := ok_istore_n dX1_remove_5 rfl
theorem k_5_6 : mOk M_5.1 M_5.2.1 M_5.2.2.1 M_5.2.2.2 6 (o_al 0 1) := ok_aload_n dX1_remove_6 rfl
theorem k_5_7 : mOk M_5.1 M_5.2.1 M_5.2.2.1 M_5.2.2.2 7 (o_il 2 1) := ok_iload_n dX1_remove_7 rfl
theorem k_5_8 : mOk M_5.1 M_5.2.1 M_5.2.2.1 M_5.2.2.2 8 (o_il 1 1) := ok_iload_n dX1_remove_8 rfl
theorem k_5_12 : mOk M_5.1 M_5.2.1 M_5.2.2.1 M_5.2.2.2 12 (o_zne 17) := ok_zne dX1_remove_12 (by decide)
theorem k_5_15 : mOk M_5.1 M_5.2.1 M_5.2.2.1 M_5.2.2.2 15 (oS 1 (s_push (.int 0))) := ok_iconst dX1_remove_15 (by decide)
theorem k_5_17 : mOk M_5.1 M_5.2.1 M_5.2.2.1 M_5.2.2.2 17 (o_al 0 1) := ok_aload_n dX1_remove_17 rfl
theorem k_5_18 : mOk M_5.1 M_5.2.1 M_5.2.2.1 M_5.2.2.2 18 (o_gP 1 0) := ok_gP dX1_remove_18 f_RX1_11 rfl
theorem k_5_21 : mOk M_5.1 M_5.2.1 M_5.2.2.1 M_5.2.2.2 21 (o_il 2 1) := ok_iload_n dX1_remove_21 rfl
theorem k_5_22 : mOk M_5.1 M_5.2.1 M_5.2.2.1 M_5.2.2.2 22 (o_aald) := ok_aald dX1_remove_22
theorem k_5_23 : mOk M_5.1 M_5.2.1 M_5.2.2.1 M_5.2.2.2 23 (o_as 3 1) := ok_astore_n dX1_remove_23 rfl
theorem k_5_24 : mOk M_5.1 M_5.2.1 M_5.2.2.1 M_5.2.2.2 24 (o_il 2 1) := ok_iload_n dX1_remove_24 rfl
theorem k_5_25 : mOk M_5.1 M_5.2.1 M_5.2.2.1 M_5.2.2.2 25 (oS 1 (s_push (.int 1))) := ok_iconst dX1_remove_25 (by decide)
theorem k_5_26 : mOk M_5.1 M_5.2.1 M_5.2.2.1 M_5.2.2.2 26 (oS 1 (s_ii (fun a b => a + b))) := ok_iadd dX1_remove_26
theorem k_5_27 : mOk M_5.1 M_5.2.1 M_5.2.2.1 M_5.2.2.2 27 (o_is 4 2) := ok_istore dX1_remove_27
theorem k_5_29 : mOk M_5.1 M_5.2.1 M_5.2.2.1 M_5.2.2.2 29 (o_il 4 2) := ok_iload dX1_remove_29
theorem k_5_31 : mOk M_5.1 M_5.2.1 M_5.2.2.1 M_5.2.2.2 31 (o_al 0 1) := ok_aload_n dX1_remove_31 rfl
theorem k_5_32 : mOk M_5.1 M_5.2.1 M_5.2.2.1 M_5.2.2.2 32 (o_gI 1 1) := ok_gI dX1_remove_32 f_RX1_30 (Or.inl rfl)
theorem k_5_35 : mOk M_5.1 M_5.2.1 M_5.2.2.1 M_5.2.2.2 35 (o_cge 60) := ok_cge dX1_remove_35 (by decide)
theorem k_5_38 : mOk M_5.1 M_5.2.1 M_5.2.2.1 M_5.2.2.2 38 (o_al 0 1) := ok_aload_n dX1_remove_38 rfl
theorem k_5_39 : mOk M_5.1 M_5.2.1 M_5.2.2.1 M_5.2.2.2 39 (o_gP 1 0) := ok_gP dX1_remove_39 f_RX1_11 rfl
theorem k_5_42 : mOk M_5.1 M_5.2.1 M_5.2.2.1 M_5.2.2.2 42 (o_il 4 2) := ok_iload dX1_remove_42
theorem k_5_44 : mOk M_5.1 M_5.2.1 M_5.2.2.1 M_5.2.2.2 44 (oS 1 (s_push (.int 1))) := ok_iconst dX1_remove_44 (by decide)
theorem k_5_45 : mOk M_5.1 M_5.2.1 M_5.2.2.1 M_5.2.2.2 45 (oS 1 (s_ii (fun a b => a - b))) := ok_isub dX1_remove_45
theorem k_5_46 : mOk M_5.1 M_5.2.1 M_5.2.2.1 M_5.2.2.2 46 (o_al 0 1) := ok_aload_n dX1_remove_46 rfl
theorem k_5_47 : mOk M_5.1 M_5.2.1 M_5.2.2.1 M_5.2.2.2 47 (o_gP 1 0) := ok_gP dX1_remove_47 f_RX1_11 rfl
theorem k_5_50 : mOk M_5.1 M_5.2.1 M_5.2.2.1 M_5.2.2.2 50 (o_il 4 2) := ok_iload dX1_remove_50
theorem k_5_52 : mOk M_5.1 M_5.2.1 M_5.2.2.1 M_5.2.2.2 52 (o_aald) := ok_aald dX1_remove_52
theorem k_5_53 : mOk M_5.1 M_5.2.1 M_5.2.2.1 M_5.2.2.2 53 (o_aast) := ok_aast dX1_remove_53
theorem k_5_54 : mOk M_5.1 M_5.2.1 M_5.2.2.1 M_5.2.2.2 54 (o_inc 4 1) := ok_iinc dX1_remove_54 (by decide)
theorem k_5_57 : mOk M_5.1 M_5.2.1 M_5.2.2.1 M_5.2.2.2 57 (o_goto 29) := ok_goto dX1_remove_57 (by decide)
theorem k_5_60 : mOk M_5.1 M_5.2.1 M_5.2.2.1 M_5.2.2.2 60 (o_al 0 1) := ok_aload_n dX1_remove_60 rfl
theorem k_5_61 : mOk M_5.1 M_5.2.1 M_5.2.2.1 M_5.2.2.2 61 (oS 1 s_dup) := ok_dup dX1_remove_61
theorem k_5_62 : mOk M_5.1 M_5.2.1 M_5.2.2.1 M_5.2.2.2 62 (o_gI 1 1) := ok_gI dX1_remove_62 f_RX1_30 (Or.inl rfl)
theorem k_5_65 : mOk M_5.1 M_5.2.1 M_5.2.2.1 M_5.2.2.2 65 (oS 1 (s_push (.int 1))) := ok_iconst dX1_remove_65 (by decide)
theorem k_5_66 : mOk M_5.1 M_5.2.1 M_5.2.2.1 M_5.2.2.2 66 (oS 1 (s_ii (fun a b => a - b))) := ok_isub dX1_remove_66
theorem k_5_67 : mOk M_5.1 M_5.2.1 M_5.2.2.1 M_5.2.2.2 67 (o_pI 1 1) := ok_pI dX1_remove_67 (mFw_of f_RX1_30_c (Or.inl rfl)) rfl
theorem k_5_70 : mOk M_5.1 M_5.2.1 M_5.2.2.1 M_5.2.2.2 70 (o_al 0 1) := ok_aload_n dX1_remove_70 rfl
theorem k_5_71 : mOk M_5.1 M_5.2.1 M_5.2.2.1 M_5.2.2.2 71 (o_gP 1 0) := ok_gP dX1_remove_71 f_RX1_11 rfl
theorem k_5_74 : mOk M_5.1 M_5.2.1 M_5.2.2.1 M_5.2.2.2 74 (o_al 0 1) := ok_aload_n dX1_remove_74 rfl
theorem k_5_75 : mOk M_5.1 M_5.2.1 M_5.2.2.1 M_5.2.2.2 75 (o_gI 1 1) := ok_gI dX1_remove_75 f_RX1_30 (Or.inl rfl)
theorem k_5_78 : mOk M_5.1 M_5.2.1 M_5.2.2.1 M_5.2.2.2 78 (o_al 3 1) := ok_aload_n dX1_remove_78 rfl
theorem k_5_79 : mOk M_5.1 M_5.2.1 M_5.2.2.1 M_5.2.2.2 79 (o_aast) := ok_aast dX1_remove_79
theorem k_5_80 : mOk M_5.1 M_5.2.1 M_5.2.2.1 M_5.2.2.2 80 (oS 1 (s_push (.int 1))) := ok_iconst dX1_remove_80 (by decide)
set_option maxRecDepth 20000 in
set_option maxHeartbeats 4000000 in
theorem tk_5 (l : Launch) (H9 : mThr l) (H10 : mSpl l) (pc : Nat) (q : mEnt) (h : tb_5 pc = some q) : EE l 5 pc q := nd h (fun h => nd h (fun h => nd h (fun h => nd h (fun h => nd h (fun h => lf (P := EE l 5) h k_5_0) (fun h => nd h (fun h => lf (P := EE l 5) h k_5_1) (fun h => lf (P := EE l 5) h (EE_ca (by decide) (⟨m_483, m_72, ⟨by decide, by decide⟩, by decide +kernel, ⟨by decide, by decide⟩, 22, 1, by decide +kernel, Or.inr (Or.inr (Or.inl ⟨rfl, rfl, dX1_remove_2, m_480, m_482, _, rfl, by decide, m_0⟩))⟩) rfl)))) (fun h => nd h (fun h => lf (P := EE l 5) h k_5_5) (fun h => nd h (fun h => lf (P := EE l 5) h k_5_6) (fun h => lf (P := EE l 5) h k_5_7)))) (fun h => nd h (fun h => nd h (fun h => lf (P := EE l 5) h k_5_8) (fun h => nd h (fun h => lf (P := EE l 5) h (EE_ca (by decide) (⟨m_487, m_72, ⟨by decide, by decide⟩, by decide +kernel, ⟨by decide, by decide⟩, 26, 2, by decide +kernel, Or.inr (Or.inr (Or.inl ⟨rfl, rfl, dX1_remove_9, m_484, m_486, _, rfl, by decide, m_1⟩))⟩) rfl)) (fun h => lf (P := EE l 5) h k_5_12))) (fun h => nd h (fun h => lf (P := EE l 5) h k_5_15) (fun h => nd h (fun h => lf (P := EE l 5) h (EE_re (Or.inr (Or.inl ⟨rfl, dX1_remove_16, rfl⟩)))) (fun h => lf (P := EE l 5) h k_5_17))))) (fun h => nd h (fun h => nd h (fun h => nd h (fun h => lf (P := EE l 5) h k_5_18) (fun h => nd h (fun h => lf (P := EE l 5) h k_5_21) (fun h => lf (P := EE l 5) h k_5_22))) (fun h => nd h (fun h => lf (P := EE l 5) h k_5_23) (fun h => nd h (fun h => lf (P := EE l 5) h k_5_24) (fun h => lf (P := EE l 5) h k_5_25)))) (fun h => nd h (fun h => nd h (fun h => lf (P := EE l 5) h k_5_26) (fun h => nd h (fun h => lf (P := EE l 5) h k_5_27) (fun h => lf (P := EE l 5) h k_5_29))) (fun h => nd h (fun h => nd h (fun h => lf (P := EE l 5) h k_5_31) (fun h => lf (P := EE l 5) h k_5_32)) (fun h => nd h (fun h => lf (P := EE l 5) h k_5_35) (fun h => lf (P := EE l 5) h k_5_38)))))) (fun h => nd h (fun h => nd h (fun h => nd h (fun h => nd h (fun h => lf (P := EE l 5) h k_5_39) (fun h => nd h (fun h => lf (P := EE l 5) h k_5_42) (fun h => lf (P := EE l 5) h k_5_44))) (fun h => nd h (fun h => lf (P := EE l 5) h k_5_45) (fun h => nd h (fun h => lf (P := EE l 5) h k_5_46) (fun h => lf (P := EE l 5) h k_5_47)))) (fun h => nd h (fun h => nd h (fun h => lf (P := EE l 5) h k_5_50) (fun h => nd h (fun h => lf (P := EE l 5) h k_5_52) (fun h => lf (P := EE l 5) h k_5_53))) (fun h => nd h (fun h => lf (P := EE l 5) h k_5_54) (fun h => nd h (fun h => lf (P := EE l 5) h k_5_57) (fun h => lf (P := EE l 5) h k_5_60))))) (fun h => nd h (fun h => nd h (fun h => nd h (fun h => lf (P := EE l 5) h k_5_61) (fun h => nd h (fun h => lf (P := EE l 5) h k_5_62) (fun h => lf (P := EE l 5) h k_5_65))) (fun h => nd h (fun h => lf (P := EE l 5) h k_5_66) (fun h => nd h (fun h => lf (P := EE l 5) h k_5_67) (fun h => lf (P := EE l 5) h k_5_70)))) (fun h => nd h (fun h => nd h (fun h => lf (P := EE l 5) h k_5_71) (fun h => nd h (fun h => lf (P := EE l 5) h k_5_74) (fun h => lf (P := EE l 5) h k_5_75))) (fun h => nd h (fun h => nd h (fun h => lf (P := EE l 5) h k_5_78) (fun h => lf (P := EE l 5) h k_5_79)) (fun h => nd h (fun h => lf (P := EE l 5) h k_5_80) (fun h => lf (P := EE l 5) h (EE_re (Or.inr (Or.inl ⟨rfl, dX1_remove_81, rfl⟩)))))))))
theorem dX1_placeOf_0 : decode cX1_placeOf 0 = .ok (.iconst 0, 1) := by decide +kernel
theorem dX1_placeOf_1 : decode cX1_placeOf 1 = .ok (.istore_n 2, 1) := by decide +kernel
theorem dX1_placeOf_2 : decode cX1_placeOf 2 = .ok (.iload_n 2, 1) := by decide +kernel
theorem dX1_placeOf_3 : decode cX1_placeOf 3 = .ok (.aload_n 0, 1) := by decide +kernel
theorem dX1_placeOf_4 : decode cX1_placeOf 4 = .ok (.getfield 30, 3) := by decide +kernel
theorem dX1_placeOf_7 : decode cX1_placeOf 7 = .ok (.if_icmp .ge 24, 3) := by decide +kernel
theorem dX1_placeOf_10 : decode cX1_placeOf 10 = .ok (.aload_n 0, 1) := by decide +kernel
theorem dX1_placeOf_11 : decode cX1_placeOf 11 = .ok (.getfield 11, 3) := by decide +kernel
theorem dX1_placeOf_14 : decode cX1_placeOf 14 = .ok (.iload_n 2, 1) := by decide +kernel
theorem dX1_placeOf_15 : decode cX1_placeOf 15 = .ok (.aaload, 1) := by decide +kernel
theorem dX1_placeOf_16 : decode cX1_placeOf 16 = .ok (.getfield 18, 3) := by decide +kernel
theorem dX1_placeOf_19 : decode cX1_placeOf 19 = .ok (.iload_n 1, 1) := by decide +kernel
theorem dX1_placeOf_20 : decode cX1_placeOf 20 = .ok (.if_icmp .lt 5, 3) := by decide +kernel
theorem dX1_placeOf_23 : decode cX1_placeOf 23 = .ok (.iload_n 2, 1) := by decide +kernel
theorem dX1_placeOf_24 : decode cX1_placeOf 24 = .ok (.ireturn, 1) := by decide +kernel
theorem dX1_placeOf_25 : decode cX1_placeOf 25 = .ok (.iinc 2 1, 3) := by decide +kernel
theorem dX1_placeOf_28 : decode cX1_placeOf 28 = .ok (.goto (-26), 3) := by decide +kernel
theorem dX1_placeOf_31 : decode cX1_placeOf 31 = .ok (.aload_n 0, 1) := by decide +kernel
theorem dX1_placeOf_32 : decode cX1_placeOf 32 = .ok (.getfield 30, 3) := by decide +kernel
theorem dX1_placeOf_35 : decode cX1_placeOf 35 = .ok (.ireturn, 1) := by decide +kernel
def tb_6 (pc : Nat) : Option mEnt := bif Nat.ble pc 15 then (bif Nat.ble pc 4 then (bif Nat.ble pc 1 then (bif Nat.ble pc 0 then (bif Nat.beq pc 0 then some (.inl (oS 1 (s_push (.int 0)))) else none) else (bif Nat.beq pc 1 then some (.inl (o_is 2 1)) else none)) else (bif Nat.ble pc 2 then (bif Nat.beq pc 2 then some (.inl (o_il 2 1)) else none) else (bif Nat.ble pc 3 then (bif Nat.beq pc 3 then some (.inl (o_al 0 1)) else none) else (bif Nat.beq pc 4 then some (.inl (o_gI 1 1)) else none)))) else (bif Nat.ble pc 10 then (bif Nat.ble pc 7 then (bif Nat.beq pc 7 then some (.inl (o_cge 31)) else none) else (bif Nat.beq pc 10 then some (.inl (o_al 0 1)) else none)) else (bif Nat.ble pc 11 then (bif Nat.beq pc 11 then some (.inl (o_gP 1 0)) else none) else (bif Nat.ble pc 14 then (bif Nat.beq pc 14 then some (.inl (o_il 2 1)) else none) else (bif Nat.beq pc 15 then some (.inl (o_aald)) else none))))) else (bif Nat.ble pc 24 then (bif Nat.ble pc 19 then (bif Nat.ble pc 16 then (bif Nat.beq pc 16 then some (.inl (o_gI 2 0)) else none) else (bif Nat.beq pc 19 then some (.inl (o_il 1 1)) else none)) else (bif Nat.ble pc 20 then (bif Nat.beq pc 20 then some (.inl (o_clt 25)) else none) else (bif Nat.ble pc 23 then (bif Nat.beq pc 23 then some (.inl (o_il 2 1)) else none) else (bif Nat.beq pc 24 then some (.inr (0, 0, 0, 0)) else none)))) else (bif Nat.ble pc 28 then (bif Nat.ble pc 25 then (bif Nat.beq pc 25 then some (.inl (o_inc 2 1)) else none) else (bif Nat.beq pc 28 then some (.inl (o_goto 2)) else none)) else (bif Nat.ble pc 31 then (bif Nat.beq pc 31 then some (.inl (o_al 0 1)) else none) else (bif Nat.ble pc 32 then (bif Nat.beq pc 32 then some (.inl (o_gI 1 1)) else none) else (bif Nat.beq pc 35 then some (.inr (0, 0, 0, 0)) else none)))))
theorem k_6_0 : mOk M_6.1 M_6.2.1 M_6.2.2.1 M_6.2.2.2 0 (oS 1 (s_push (.int 0))) := ok_iconst dX1_placeOf_0 (by decide)
theorem k_6_1 : mOk M_6.1 M_6.2.1 M_6.2.2.1 M_6.2.2.2 1 (o_is 2 1) := ok_istore_n dX1_placeOf_1 rfl
theorem k_6_2 : mOk M_6.1 M_6.2.1 M_6.2.2.1 M_6.2.2.2 2 (o_il 2 1) := ok_iload_n dX1_placeOf_2 rfl
theorem k_6_3 : mOk M_6.1 M_6.2.1 M_6.2.2.1 M_6.2.2.2 3 (o_al 0 1) := ok_aload_n dX1_placeOf_3 rfl
theorem k_6_4 : mOk M_6.1 M_6.2.1 M_6.2.2.1 M_6.2.2.2 4 (o_gI 1 1) := ok_gI dX1_placeOf_4 f_RX1_30 (Or.inl rfl)
theorem k_6_7 : mOk M_6.1 M_6.2.1 M_6.2.2.1 M_6.2.2.2 7 (o_cge 31) := ok_cge dX1_placeOf_7 (by decide)
theorem k_6_10 : mOk M_6.1 M_6.2.1 M_6.2.2.1 M_6.2.2.2 10 (o_al 0 1) := ok_aload_n dX1_placeOf_10 rfl
theorem k_6_11 : mOk M_6.1 M_6.2.1 M_6.2.2.1 M_6.2.2.2 11 (o_gP 1 0) := ok_gP dX1_placeOf_11 f_RX1_11 rfl
theorem k_6_14 : mOk M_6.1 M_6.2.1 M_6.2.2.1 M_6.2.2.2 14 (o_il 2 1) := ok_iload_n dX1_placeOf_14 rfl
theorem k_6_15 : mOk M_6.1 M_6.2.1 M_6.2.2.1 M_6.2.2.2 15 (o_aald) := ok_aald dX1_placeOf_15
theorem k_6_16 : mOk M_6.1 M_6.2.1 M_6.2.2.1 M_6.2.2.2 16 (o_gI 2 0) := ok_gI dX1_placeOf_16 f_RX1_18 (Or.inl rfl)
theorem k_6_19 : mOk M_6.1 M_6.2.1 M_6.2.2.1 M_6.2.2.2 19 (o_il 1 1) := ok_iload_n dX1_placeOf_19 rfl
theorem k_6_20 : mOk M_6.1 M_6.2.1 M_6.2.2.1 M_6.2.2.2 20 (o_clt 25) := ok_clt dX1_placeOf_20 (by decide)
theorem k_6_23 : mOk M_6.1 M_6.2.1 M_6.2.2.1 M_6.2.2.2 23 (o_il 2 1) := ok_iload_n dX1_placeOf_23 rfl
theorem k_6_25 : mOk M_6.1 M_6.2.1 M_6.2.2.1 M_6.2.2.2 25 (o_inc 2 1) := ok_iinc dX1_placeOf_25 (by decide)
theorem k_6_28 : mOk M_6.1 M_6.2.1 M_6.2.2.1 M_6.2.2.2 28 (o_goto 2) := ok_goto dX1_placeOf_28 (by decide)
theorem k_6_31 : mOk M_6.1 M_6.2.1 M_6.2.2.1 M_6.2.2.2 31 (o_al 0 1) := ok_aload_n dX1_placeOf_31 rfl
theorem k_6_32 : mOk M_6.1 M_6.2.1 M_6.2.2.1 M_6.2.2.2 32 (o_gI 1 1) := ok_gI dX1_placeOf_32 f_RX1_30 (Or.inl rfl)
set_option maxRecDepth 20000 in
set_option maxHeartbeats 4000000 in
theorem tk_6 (l : Launch) (H9 : mThr l) (H10 : mSpl l) (pc : Nat) (q : mEnt) (h : tb_6 pc = some q) : EE l 6 pc q := nd h (fun h => nd h (fun h => nd h (fun h => nd h (fun h => lf (P := EE l 6) h k_6_0) (fun h => lf (P := EE l 6) h k_6_1)) (fun h => nd h (fun h => lf (P := EE l 6) h k_6_2) (fun h => nd h (fun h => lf (P := EE l 6) h k_6_3) (fun h => lf (P := EE l 6) h k_6_4)))) (fun h => nd h (fun h => nd h (fun h => lf (P := EE l 6) h k_6_7) (fun h => lf (P := EE l 6) h k_6_10)) (fun h => nd h (fun h => lf (P := EE l 6) h k_6_11) (fun h => nd h (fun h => lf (P := EE l 6) h k_6_14) (fun h => lf (P := EE l 6) h k_6_15))))) (fun h => nd h (fun h => nd h (fun h => nd h (fun h => lf (P := EE l 6) h k_6_16) (fun h => lf (P := EE l 6) h k_6_19)) (fun h => nd h (fun h => lf (P := EE l 6) h k_6_20) (fun h => nd h (fun h => lf (P := EE l 6) h k_6_23) (fun h => lf (P := EE l 6) h (EE_re (Or.inl ⟨rfl, dX1_placeOf_24, rfl⟩)))))) (fun h => nd h (fun h => nd h (fun h => lf (P := EE l 6) h k_6_25) (fun h => lf (P := EE l 6) h k_6_28)) (fun h => nd h (fun h => lf (P := EE l 6) h k_6_31) (fun h => nd h (fun h => lf (P := EE l 6) h k_6_32) (fun h => lf (P := EE l 6) h (EE_re (Or.inl ⟨rfl, dX1_placeOf_35, rfl⟩)))))))
theorem dX1_isAt_0 : decode cX1_isAt 0 = .ok (.iload_n 1, 1) := by decide +kernel
theorem dX1_isAt_1 : decode cX1_isAt 1 = .ok (.aload_n 0, 1) := by decide +kernel
theorem dX1_isAt_2 : decode cX1_isAt 2 = .ok (.getfield 30, 3) := by decide +kernel
theorem dX1_isAt_5 : decode cX1_isAt 5 = .ok (.if_icmp .ge 20, 3) := by decide +kernel
theorem dX1_isAt_8 : decode cX1_isAt 8 = .ok (.aload_n 0, 1) := by decide +kernel
theorem dX1_isAt_9 : decode cX1_isAt 9 = .ok (.getfield 11, 3) := by decide +kernel
theorem dX1_isAt_12 : decode cX1_isAt 12 = .ok (.iload_n 1, 1) := by decide +kernel
theorem dX1_isAt_13 : decode cX1_isAt 13 = .ok (.aaload, 1) := by decide +kernel
theorem dX1_isAt_14 : decode cX1_isAt 14 = .ok (.getfield 18, 3) := by decide +kernel
theorem dX1_isAt_17 : decode cX1_isAt 17 = .ok (.iload_n 2, 1) := by decide +kernel
theorem dX1_isAt_18 : decode cX1_isAt 18 = .ok (.if_icmp .ne 7, 3) := by decide +kernel
theorem dX1_isAt_21 : decode cX1_isAt 21 = .ok (.iconst 1, 1) := by decide +kernel
theorem dX1_isAt_22 : decode cX1_isAt 22 = .ok (.goto 4, 3) := by decide +kernel
theorem dX1_isAt_25 : decode cX1_isAt 25 = .ok (.iconst 0, 1) := by decide +kernel
theorem dX1_isAt_26 : decode cX1_isAt 26 = .ok (.ireturn, 1) := by decide +kernel
def tb_7 (pc : Nat) : Option mEnt := bif Nat.ble pc 12 then (bif Nat.ble pc 2 then (bif Nat.ble pc 0 then (bif Nat.beq pc 0 then some (.inl (o_il 1 1)) else none) else (bif Nat.ble pc 1 then (bif Nat.beq pc 1 then some (.inl (o_al 0 1)) else none) else (bif Nat.beq pc 2 then some (.inl (o_gI 1 1)) else none))) else (bif Nat.ble pc 8 then (bif Nat.ble pc 5 then (bif Nat.beq pc 5 then some (.inl (o_cge 25)) else none) else (bif Nat.beq pc 8 then some (.inl (o_al 0 1)) else none)) else (bif Nat.ble pc 9 then (bif Nat.beq pc 9 then some (.inl (o_gP 1 0)) else none) else (bif Nat.beq pc 12 then some (.inl (o_il 1 1)) else none)))) else (bif Nat.ble pc 18 then (bif Nat.ble pc 14 then (bif Nat.ble pc 13 then (bif Nat.beq pc 13 then some (.inl (o_aald)) else none) else (bif Nat.beq pc 14 then some (.inl (o_gI 2 0)) else none)) else (bif Nat.ble pc 17 then (bif Nat.beq pc 17 then some (.inl (o_il 2 1)) else none) else (bif Nat.beq pc 18 then some (.inl (o_cne 25)) else none))) else (bif Nat.ble pc 22 then (bif Nat.ble pc 21 then (bif Nat.beq pc 21 then some (.inl (oS 1 (s_push (.int 1)))) else none) else (bif Nat.beq pc 22 then some (.inl (o_goto 26)) else none)) else (bif Nat.ble pc 25 then (bif Nat.beq pc 25 then some (.inl (oS 1 (s_push (.int 0)))) else none) else (bif Nat.beq pc 26 then some (.inr (0, 0, 0, 4)) else none))))
theorem k_7_0 : mOk M_7.1 M_7.2.1 M_7.2.2.1 M_7.2.2.2 0 (o_il 1 1) := ok_iload_n dX1_isAt_0 rfl
theorem k_7_1 : mOk M_7.1 M_7.2.1 M_7.2.2.1 M_7.2.2.2 1 (o_al 0 1) := ok_aload_n dX1_isAt_1 rfl
theorem k_7_2 : mOk M_7.1 M_7.2.1 M_7.2.2.1 M_7.2.2.2 2 (o_gI 1 1) := ok_gI dX1_isAt_2 f_RX1_30 (Or.inl rfl)
theorem k_7_5 : mOk M_7.1 M_7.2.1 M_7.2.2.1 M_7.2.2.2 5 (o_cge 25) := ok_cge dX1_isAt_5 (by decide)
theorem k_7_8 : mOk M_7.1 M_7.2.1 M_7.2.2.1 M_7.2.2.2 8 (o_al 0 1) := ok_aload_n dX1_isAt_8 rfl
theorem k_7_9 : mOk M_7.1 M_7.2.1 M_7.2.2.1 M_7.2.2.2 9 (o_gP 1 0) := ok_gP dX1_isAt_9 f_RX1_11 rfl
theorem k_7_12 : mOk M_7.1 M_7.2.1 M_7.2.2.1 M_7.2.2.2 12 (o_il 1 1) := ok_iload_n dX1_isAt_12 rfl
theorem k_7_13 : mOk M_7.1 M_7.2.1 M_7.2.2.1 M_7.2.2.2 13 (o_aald) := ok_aald dX1_isAt_13
theorem k_7_14 : mOk M_7.1 M_7.2.1 M_7.2.2.1 M_7.2.2.2 14 (o_gI 2 0) := ok_gI dX1_isAt_14 f_RX1_18 (Or.inl rfl)
theorem k_7_17 : mOk M_7.1 M_7.2.1 M_7.2.2.1 M_7.2.2.2 17 (o_il 2 1) := ok_iload_n dX1_isAt_17 rfl
theorem k_7_18 : mOk M_7.1 M_7.2.1 M_7.2.2.1 M_7.2.2.2 18 (o_cne 25) := ok_cne dX1_isAt_18 (by decide)
theorem k_7_21 : mOk M_7.1 M_7.2.1 M_7.2.2.1 M_7.2.2.2 21 (oS 1 (s_push (.int 1))) := ok_iconst dX1_isAt_21 (by decide)
theorem k_7_22 : mOk M_7.1 M_7.2.1 M_7.2.2.1 M_7.2.2.2 22 (o_goto 26) := ok_goto dX1_isAt_22 (by decide)
theorem k_7_25 : mOk M_7.1 M_7.2.1 M_7.2.2.1 M_7.2.2.2 25 (oS 1 (s_push (.int 0))) := ok_iconst dX1_isAt_25 (by decide)
set_option maxRecDepth 20000 in
set_option maxHeartbeats 4000000 in
theorem tk_7 (l : Launch) (H9 : mThr l) (H10 : mSpl l) (pc : Nat) (q : mEnt) (h : tb_7 pc = some q) : EE l 7 pc q := nd h (fun h => nd h (fun h => nd h (fun h => lf (P := EE l 7) h k_7_0) (fun h => nd h (fun h => lf (P := EE l 7) h k_7_1) (fun h => lf (P := EE l 7) h k_7_2))) (fun h => nd h (fun h => nd h (fun h => lf (P := EE l 7) h k_7_5) (fun h => lf (P := EE l 7) h k_7_8)) (fun h => nd h (fun h => lf (P := EE l 7) h k_7_9) (fun h => lf (P := EE l 7) h k_7_12)))) (fun h => nd h (fun h => nd h (fun h => nd h (fun h => lf (P := EE l 7) h k_7_13) (fun h => lf (P := EE l 7) h k_7_14)) (fun h => nd h (fun h => lf (P := EE l 7) h k_7_17) (fun h => lf (P := EE l 7) h k_7_18))) (fun h => nd h (fun h => nd h (fun h => lf (P := EE l 7) h k_7_21) (fun h => lf (P := EE l 7) h k_7_22)) (fun h => nd h (fun h => lf (P := EE l 7) h k_7_25) (fun h => lf (P := EE l 7) h (EE_re (Or.inr (Or.inl ⟨rfl, dX1_isAt_26, rfl⟩)))))))
theorem dX1_copyFrom_0 : decode cX1_copyFrom 0 = .ok (.aload_n 0, 1) := by decide +kernel
theorem dX1_copyFrom_1 : decode cX1_copyFrom 1 = .ok (.aload_n 1, 1) := by decide +kernel
theorem dX1_copyFrom_2 : decode cX1_copyFrom 2 = .ok (.getfield 30, 3) := by decide +kernel
theorem dX1_copyFrom_5 : decode cX1_copyFrom 5 = .ok (.putfield 30, 3) := by decide +kernel
theorem dX1_copyFrom_8 : decode cX1_copyFrom 8 = .ok (.iconst 0, 1) := by decide +kernel
theorem dX1_copyFrom_9 : decode cX1_copyFrom 9 = .ok (.istore_n 2, 1) := by decide +kernel
theorem dX1_copyFrom_10 : decode cX1_copyFrom 10 = .ok (.iload_n 2, 1) := by decide +kernel
theorem dX1_copyFrom_11 : decode cX1_copyFrom 11 = .ok (.aload_n 0, 1) := by decide +kernel
theorem dX1_copyFrom_12 : decode cX1_copyFrom 12 = .ok (.getfield 30, 3) := by decide +kernel
theorem dX1_copyFrom_15 : decode cX1_copyFrom 15 = .ok (.if_icmp .ge 24, 3) := by decide +kernel
theorem dX1_copyFrom_18 : decode cX1_copyFrom 18 = .ok (.aload_n 0, 1) := by decide +kernel
theorem dX1_copyFrom_19 : decode cX1_copyFrom 19 = .ok (.getfield 11, 3) := by decide +kernel
theorem dX1_copyFrom_22 : decode cX1_copyFrom 22 = .ok (.iload_n 2, 1) := by decide +kernel
theorem dX1_copyFrom_23 : decode cX1_copyFrom 23 = .ok (.aaload, 1) := by decide +kernel
theorem dX1_copyFrom_24 : decode cX1_copyFrom 24 = .ok (.aload_n 1, 1) := by decide +kernel
theorem dX1_copyFrom_25 : decode cX1_copyFrom 25 = .ok (.getfield 11, 3) := by decide +kernel
theorem dX1_copyFrom_28 : decode cX1_copyFrom 28 = .ok (.iload_n 2, 1) := by decide +kernel
theorem dX1_copyFrom_29 : decode cX1_copyFrom 29 = .ok (.aaload, 1) := by decide +kernel
theorem dX1_copyFrom_30 : decode cX1_copyFrom 30 = .ok (.invokevirtual 33, 3) := by decide +kernel
theorem dX1_copyFrom_33 : decode cX1_copyFrom 33 = .ok (.iinc 2 1, 3) := by decide +kernel
theorem dX1_copyFrom_36 : decode cX1_copyFrom 36 = .ok (.goto (-26), 3) := by decide +kernel
theorem dX1_copyFrom_39 : decode cX1_copyFrom 39 = .ok (.return_, 1) := by decide +kernel
def tb_8 (pc : Nat) : Option mEnt := bif Nat.ble pc 18 then (bif Nat.ble pc 8 then (bif Nat.ble pc 1 then (bif Nat.ble pc 0 then (bif Nat.beq pc 0 then some (.inl (o_al 0 1)) else none) else (bif Nat.beq pc 1 then some (.inl (o_al 1 1)) else none)) else (bif Nat.ble pc 2 then (bif Nat.beq pc 2 then some (.inl (o_gI 1 1)) else none) else (bif Nat.ble pc 5 then (bif Nat.beq pc 5 then some (.inl (o_pI 1 1)) else none) else (bif Nat.beq pc 8 then some (.inl (oS 1 (s_push (.int 0)))) else none)))) else (bif Nat.ble pc 11 then (bif Nat.ble pc 9 then (bif Nat.beq pc 9 then some (.inl (o_is 2 1)) else none) else (bif Nat.ble pc 10 then (bif Nat.beq pc 10 then some (.inl (o_il 2 1)) else none) else (bif Nat.beq pc 11 then some (.inl (o_al 0 1)) else none))) else (bif Nat.ble pc 12 then (bif Nat.beq pc 12 then some (.inl (o_gI 1 1)) else none) else (bif Nat.ble pc 15 then (bif Nat.beq pc 15 then some (.inl (o_cge 39)) else none) else (bif Nat.beq pc 18 then some (.inl (o_al 0 1)) else none))))) else (bif Nat.ble pc 25 then (bif Nat.ble pc 22 then (bif Nat.ble pc 19 then (bif Nat.beq pc 19 then some (.inl (o_gP 1 0)) else none) else (bif Nat.beq pc 22 then some (.inl (o_il 2 1)) else none)) else (bif Nat.ble pc 23 then (bif Nat.beq pc 23 then some (.inl (o_aald)) else none) else (bif Nat.ble pc 24 then (bif Nat.beq pc 24 then some (.inl (o_al 1 1)) else none) else (bif Nat.beq pc 25 then some (.inl (o_gP 1 0)) else none)))) else (bif Nat.ble pc 30 then (bif Nat.ble pc 28 then (bif Nat.beq pc 28 then some (.inl (o_il 2 1)) else none) else (bif Nat.ble pc 29 then (bif Nat.beq pc 29 then some (.inl (o_aald)) else none) else (bif Nat.beq pc 30 then some (.inr (3, 17, 2, 2)) else none))) else (bif Nat.ble pc 33 then (bif Nat.beq pc 33 then some (.inl (o_inc 2 1)) else none) else (bif Nat.ble pc 36 then (bif Nat.beq pc 36 then some (.inl (o_goto 10)) else none) else (bif Nat.beq pc 39 then some (.inr (0, 0, 0, 3)) else none)))))
theorem k_8_0 : mOk M_8.1 M_8.2.1 M_8.2.2.1 M_8.2.2.2 0 (o_al 0 1) := ok_aload_n dX1_copyFrom_0 rfl
theorem k_8_1 : mOk M_8.1 M_8.2.1 M_8.2.2.1 M_8.2.2.2 1 (o_al 1 1) := ok_aload_n dX1_copyFrom_1 rfl
theorem k_8_2 : mOk M_8.1 M_8.2.1 M_8.2.2.1 M_8.2.2.2 2 (o_gI 1 1) := ok_gI dX1_copyFrom_2 f_RX1_30 (Or.inl rfl)
theorem k_8_5 : mOk M_8.1 M_8.2.1 M_8.2.2.1 M_8.2.2.2 5 (o_pI 1 1) := ok_pI dX1_copyFrom_5 (mFw_of f_RX1_30_c (Or.inl rfl)) rfl
theorem k_8_8 : mOk M_8.1 M_8.2.1 M_8.2.2.1 M_8.2.2.2 8 (oS 1 (s_push (.int 0))) := ok_iconst dX1_copyFrom_8 (by decide)
theorem k_8_9 : mOk M_8.1 M_8.2.1 M_8.2.2.1 M_8.2.2.2 9 (o_is 2 1) := ok_istore_n dX1_copyFrom_9 rfl
theorem k_8_10 : mOk M_8.1 M_8.2.1 M_8.2.2.1 M_8.2.2.2 10 (o_il 2 1) := ok_iload_n dX1_copyFrom_10 rfl
theorem k_8_11 : mOk M_8.1 M_8.2.1 M_8.2.2.1 M_8.2.2.2 11 (o_al 0 1) := ok_aload_n dX1_copyFrom_11 rfl
theorem k_8_12 : mOk M_8.1 M_8.2.1 M_8.2.2.1 M_8.2.2.2 12 (o_gI 1 1) := ok_gI dX1_copyFrom_12 f_RX1_30 (Or.inl rfl)
theorem k_8_15 : mOk M_8.1 M_8.2.1 M_8.2.2.1 M_8.2.2.2 15 (o_cge 39) := ok_cge dX1_copyFrom_15 (by decide)
theorem k_8_18 : mOk M_8.1 M_8.2.1 M_8.2.2.1 M_8.2.2.2 18 (o_al 0 1) := ok_aload_n dX1_copyFrom_18 rfl
theorem k_8_19 : mOk M_8.1 M_8.2.1 M_8.2.2.1 M_8.2.2.2 19 (o_gP 1 0) := ok_gP dX1_copyFrom_19 f_RX1_11 rfl
theorem k_8_22 : mOk M_8.1 M_8.2.1 M_8.2.2.1 M_8.2.2.2 22 (o_il 2 1) := ok_iload_n dX1_copyFrom_22 rfl
theorem k_8_23 : mOk M_8.1 M_8.2.1 M_8.2.2.1 M_8.2.2.2 23 (o_aald) := ok_aald dX1_copyFrom_23
theorem k_8_24 : mOk M_8.1 M_8.2.1 M_8.2.2.1 M_8.2.2.2 24 (o_al 1 1) := ok_aload_n dX1_copyFrom_24 rfl
theorem k_8_25 : mOk M_8.1 M_8.2.1 M_8.2.2.1 M_8.2.2.2 25 (o_gP 1 0) := ok_gP dX1_copyFrom_25 f_RX1_11 rfl
theorem k_8_28 : mOk M_8.1 M_8.2.1 M_8.2.2.1 M_8.2.2.2 28 (o_il 2 1) := ok_iload_n dX1_copyFrom_28 rfl
theorem k_8_29 : mOk M_8.1 M_8.2.1 M_8.2.2.1 M_8.2.2.2 29 (o_aald) := ok_aald dX1_copyFrom_29
theorem k_8_33 : mOk M_8.1 M_8.2.1 M_8.2.2.1 M_8.2.2.2 33 (o_inc 2 1) := ok_iinc dX1_copyFrom_33 (by decide)
theorem k_8_36 : mOk M_8.1 M_8.2.1 M_8.2.2.1 M_8.2.2.2 36 (o_goto 10) := ok_goto dX1_copyFrom_36 (by decide)
set_option maxRecDepth 20000 in
set_option maxHeartbeats 4000000 in
theorem tk_8 (l : Launch) (H9 : mThr l) (H10 : mSpl l) (pc : Nat) (q : mEnt) (h : tb_8 pc = some q) : EE l 8 pc q := nd h (fun h => nd h (fun h => nd h (fun h => nd h (fun h => lf (P := EE l 8) h k_8_0) (fun h => lf (P := EE l 8) h k_8_1)) (fun h => nd h (fun h => lf (P := EE l 8) h k_8_2) (fun h => nd h (fun h => lf (P := EE l 8) h k_8_5) (fun h => lf (P := EE l 8) h k_8_8)))) (fun h => nd h (fun h => nd h (fun h => lf (P := EE l 8) h k_8_9) (fun h => nd h (fun h => lf (P := EE l 8) h k_8_10) (fun h => lf (P := EE l 8) h k_8_11))) (fun h => nd h (fun h => lf (P := EE l 8) h k_8_12) (fun h => nd h (fun h => lf (P := EE l 8) h k_8_15) (fun h => lf (P := EE l 8) h k_8_18))))) (fun h => nd h (fun h => nd h (fun h => nd h (fun h => lf (P := EE l 8) h k_8_19) (fun h => lf (P := EE l 8) h k_8_22)) (fun h => nd h (fun h => lf (P := EE l 8) h k_8_23) (fun h => nd h (fun h => lf (P := EE l 8) h k_8_24) (fun h => lf (P := EE l 8) h k_8_25)))) (fun h => nd h (fun h => nd h (fun h => lf (P := EE l 8) h k_8_28) (fun h => nd h (fun h => lf (P := EE l 8) h k_8_29) (fun h => lf (P := EE l 8) h (EE_ca (by decide) (⟨m_499, m_71, ⟨by decide, by decide⟩, by decide +kernel, ⟨by decide, by decide⟩, 33, 1, by decide +kernel, Or.inr (Or.inr (Or.inl ⟨rfl, rfl, dX1_copyFrom_30, m_496, m_497, _, rfl, by decide, m_498⟩))⟩) rfl)))) (fun h => nd h (fun h => lf (P := EE l 8) h k_8_33) (fun h => nd h (fun h => lf (P := EE l 8) h k_8_36) (fun h => lf (P := EE l 8) h (EE_re (Or.inr (Or.inr (Or.inr (Or.inr ⟨rfl, dX1_copyFrom_39, rfl⟩))))))))))
theorem dX1_copyMeeting_0 : decode cX1_copyMeeting 0 = .ok (.aload_n 0, 1) := by decide +kernel
theorem dX1_copyMeeting_1 : decode cX1_copyMeeting 1 = .ok (.iconst 0, 1) := by decide +kernel
theorem dX1_copyMeeting_2 : decode cX1_copyMeeting 2 = .ok (.putfield 30, 3) := by decide +kernel
theorem dX1_copyMeeting_5 : decode cX1_copyMeeting 5 = .ok (.iconst 0, 1) := by decide +kernel
theorem dX1_copyMeeting_6 : decode cX1_copyMeeting 6 = .ok (.istore_n 3, 1) := by decide +kernel
theorem dX1_copyMeeting_7 : decode cX1_copyMeeting 7 = .ok (.iload_n 3, 1) := by decide +kernel
theorem dX1_copyMeeting_8 : decode cX1_copyMeeting 8 = .ok (.aload_n 1, 1) := by decide +kernel
theorem dX1_copyMeeting_9 : decode cX1_copyMeeting 9 = .ok (.getfield 30, 3) := by decide +kernel
theorem dX1_copyMeeting_12 : decode cX1_copyMeeting 12 = .ok (.if_icmp .ge 62, 3) := by decide +kernel
theorem dX1_copyMeeting_15 : decode cX1_copyMeeting 15 = .ok (.aload_n 1, 1) := by decide +kernel
theorem dX1_copyMeeting_16 : decode cX1_copyMeeting 16 = .ok (.getfield 11, 3) := by decide +kernel
theorem dX1_copyMeeting_19 : decode cX1_copyMeeting 19 = .ok (.iload_n 3, 1) := by decide +kernel
theorem dX1_copyMeeting_20 : decode cX1_copyMeeting 20 = .ok (.aaload, 1) := by decide +kernel
theorem dX1_copyMeeting_21 : decode cX1_copyMeeting 21 = .ok (.astore 4, 2) := by decide +kernel
theorem dX1_copyMeeting_23 : decode cX1_copyMeeting 23 = .ok (.aload 4, 2) := by decide +kernel
theorem dX1_copyMeeting_25 : decode cX1_copyMeeting 25 = .ok (.getfield 37, 3) := by decide +kernel
theorem dX1_copyMeeting_28 : decode cX1_copyMeeting 28 = .ok (.aload_n 2, 1) := by decide +kernel
theorem dX1_copyMeeting_29 : decode cX1_copyMeeting 29 = .ok (.getfield 40, 3) := by decide +kernel
theorem dX1_copyMeeting_32 : decode cX1_copyMeeting 32 = .ok (.if_icmp .gt 36, 3) := by decide +kernel
theorem dX1_copyMeeting_35 : decode cX1_copyMeeting 35 = .ok (.aload_n 2, 1) := by decide +kernel
theorem dX1_copyMeeting_36 : decode cX1_copyMeeting 36 = .ok (.aload 4, 2) := by decide +kernel
theorem dX1_copyMeeting_38 : decode cX1_copyMeeting 38 = .ok (.invokevirtual 45, 3) := by decide +kernel
theorem dX1_copyMeeting_41 : decode cX1_copyMeeting 41 = .ok (.ifCond .eq 27, 3) := by decide +kernel
theorem dX1_copyMeeting_44 : decode cX1_copyMeeting 44 = .ok (.aload_n 0, 1) := by decide +kernel
theorem dX1_copyMeeting_45 : decode cX1_copyMeeting 45 = .ok (.getfield 11, 3) := by decide +kernel
theorem dX1_copyMeeting_48 : decode cX1_copyMeeting 48 = .ok (.aload_n 0, 1) := by decide +kernel
theorem dX1_copyMeeting_49 : decode cX1_copyMeeting 49 = .ok (.getfield 30, 3) := by decide +kernel
theorem dX1_copyMeeting_52 : decode cX1_copyMeeting 52 = .ok (.aaload, 1) := by decide +kernel
theorem dX1_copyMeeting_53 : decode cX1_copyMeeting 53 = .ok (.aload 4, 2) := by decide +kernel
theorem dX1_copyMeeting_55 : decode cX1_copyMeeting 55 = .ok (.invokevirtual 33, 3) := by decide +kernel
theorem dX1_copyMeeting_58 : decode cX1_copyMeeting 58 = .ok (.aload_n 0, 1) := by decide +kernel
theorem dX1_copyMeeting_59 : decode cX1_copyMeeting 59 = .ok (.dup, 1) := by decide +kernel
theorem dX1_copyMeeting_60 : decode cX1_copyMeeting 60 = .ok (.getfield 30, 3) := by decide +kernel
theorem dX1_copyMeeting_63 : decode cX1_copyMeeting 63 = .ok (.iconst 1, 1) := by decide +kernel
theorem dX1_copyMeeting_64 : decode cX1_copyMeeting 64 = .ok (.iadd, 1) := by decide +kernel
theorem dX1_copyMeeting_65 : decode cX1_copyMeeting 65 = .ok (.putfield 30, 3) := by decide +kernel
theorem dX1_copyMeeting_68 : decode cX1_copyMeeting 68 = .ok (.iinc 3 1, 3) := by decide +kernel
theorem dX1_copyMeeting_71 : decode cX1_copyMeeting 71 = .ok (.goto (-64), 3) := by decide +kernel
theorem dX1_copyMeeting_74 : decode cX1_copyMeeting 74 = .ok (.return_, 1) := by decide +kernel
def tb_9 (pc : Nat) : Option mEnt := bif Nat.ble pc 32 then (bif Nat.ble pc 12 then (bif Nat.ble pc 5 then (bif Nat.ble pc 1 then (bif Nat.ble pc 0 then (bif Nat.beq pc 0 then some (.inl (o_al 0 1)) else none) else (bif Nat.beq pc 1 then some (.inl (oS 1 (s_push (.int 0)))) else none)) else (bif Nat.ble pc 2 then (bif Nat.beq pc 2 then some (.inl (o_pI 1 1)) else none) else (bif Nat.beq pc 5 then some (.inl (oS 1 (s_push (.int 0)))) else none))) else (bif Nat.ble pc 7 then (bif Nat.ble pc 6 then (bif Nat.beq pc 6 then some (.inl (o_is 3 1)) else none) else (bif Nat.beq pc 7 then some (.inl (o_il 3 1)) else none)) else (bif Nat.ble pc 8 then (bif Nat.beq pc 8 then some (.inl (o_al 1 1)) else none) else (bif Nat.ble pc 9 then (bif Nat.beq pc 9 then some (.inl (o_gI 1 1)) else none) else (bif Nat.beq pc 12 then some (.inl (o_cge 74)) else none))))) else (bif Nat.ble pc 21 then (bif Nat.ble pc 16 then (bif Nat.ble pc 15 then (bif Nat.beq pc 15 then some (.inl (o_al 1 1)) else none) else (bif Nat.beq pc 16 then some (.inl (o_gP 1 0)) else none)) else (bif Nat.ble pc 19 then (bif Nat.beq pc 19 then some (.inl (o_il 3 1)) else none) else (bif Nat.ble pc 20 then (bif Nat.beq pc 20 then some (.inl (o_aald)) else none) else (bif Nat.beq pc 21 then some (.inl (o_as 4 2)) else none)))) else (bif Nat.ble pc 25 then (bif Nat.ble pc 23 then (bif Nat.beq pc 23 then some (.inl (o_al 4 2)) else none) else (bif Nat.beq pc 25 then some (.inl (o_gI 2 3)) else none)) else (bif Nat.ble pc 28 then (bif Nat.beq pc 28 then some (.inl (o_al 2 1)) else none) else (bif Nat.ble pc 29 then (bif Nat.beq pc 29 then some (.inl (o_gI 7 4)) else none) else (bif Nat.beq pc 32 then some (.inl (o_cgt 68)) else none)))))) else (bif Nat.ble pc 53 then (bif Nat.ble pc 44 then (bif Nat.ble pc 36 then (bif Nat.ble pc 35 then (bif Nat.beq pc 35 then some (.inl (o_al 2 1)) else none) else (bif Nat.beq pc 36 then some (.inl (o_al 4 2)) else none)) else (bif Nat.ble pc 38 then (bif Nat.beq pc 38 then some (.inr (3, 75, 2, 7)) else none) else (bif Nat.ble pc 41 then (bif Nat.beq pc 41 then some (.inl (o_zeq 68)) else none) else (bif Nat.beq pc 44 then some (.inl (o_al 0 1)) else none)))) else (bif Nat.ble pc 48 then (bif Nat.ble pc 45 then (bif Nat.beq pc 45 then some (.inl (o_gP 1 0)) else none) else (bif Nat.beq pc 48 then some (.inl (o_al 0 1)) else none)) else (bif Nat.ble pc 49 then (bif Nat.beq pc 49 then some (.inl (o_gI 1 1)) else none) else (bif Nat.ble pc 52 then (bif Nat.beq pc 52 then some (.inl (o_aald)) else none) else (bif Nat.beq pc 53 then some (.inl (o_al 4 2)) else none))))) else (bif Nat.ble pc 63 then (bif Nat.ble pc 58 then (bif Nat.ble pc 55 then (bif Nat.beq pc 55 then some (.inr (3, 17, 2, 2)) else none) else (bif Nat.beq pc 58 then some (.inl (o_al 0 1)) else none)) else (bif Nat.ble pc 59 then (bif Nat.beq pc 59 then some (.inl (oS 1 s_dup)) else none) else (bif Nat.ble pc 60 then (bif Nat.beq pc 60 then some (.inl (o_gI 1 1)) else none) else (bif Nat.beq pc 63 then some (.inl (oS 1 (s_push (.int 1)))) else none)))) else (bif Nat.ble pc 65 then (bif Nat.ble pc 64 then (bif Nat.beq pc 64 then some (.inl (oS 1 (s_ii (fun a b => a + b)))) else none) else (bif Nat.beq pc 65 then some (.inl (o_pI 1 1)) else none)) else (bif Nat.ble pc 68 then (bif Nat.beq pc 68 then some (.inl (o_inc 3 1)) else none) else (bif Nat.ble pc 71 then (bif Nat.beq pc 71 then some (.inl (o_goto 7)) else none) else (bif Nat.beq pc 74 then some (.inr (0, 0, 0, 3)) else none))))))
theorem k_9_0 : mOk M_9.1 M_9.2.1 M_9.2.2.1 M_9.2.2.2 0 (o_al 0 1) := ok_aload_n dX1_copyMeeting_0 rfl
theorem k_9_1 : mOk M_9.1 M_9.2.1 M_9.2.2.1 M_9.2.2.2 1 (oS 1 (s_push (.int 0))) := ok_iconst dX1_copyMeeting_1 (by decide)
theorem k_9_2 : mOk M_9.1 M_9.2.1 M_9.2.2.1 M_9.2.2.2 2 (o_pI 1 1) := ok_pI dX1_copyMeeting_2 (mFw_of f_RX1_30_c (Or.inl rfl)) rfl
theorem k_9_5 : mOk M_9.1 M_9.2.1 M_9.2.2.1 M_9.2.2.2 5 (oS 1 (s_push (.int 0))) := ok_iconst dX1_copyMeeting_5 (by decide)
theorem k_9_6 : mOk M_9.1 M_9.2.1 M_9.2.2.1 M_9.2.2.2 6 (o_is 3 1) := ok_istore_n dX1_copyMeeting_6 rfl
theorem k_9_7 : mOk M_9.1 M_9.2.1 M_9.2.2.1 M_9.2.2.2 7 (o_il 3 1) := ok_iload_n dX1_copyMeeting_7 rfl
theorem k_9_8 : mOk M_9.1 M_9.2.1 M_9.2.2.1 M_9.2.2.2 8 (o_al 1 1) := ok_aload_n dX1_copyMeeting_8 rfl
theorem k_9_9 : mOk M_9.1 M_9.2.1 M_9.2.2.1 M_9.2.2.2 9 (o_gI 1 1) := ok_gI dX1_copyMeeting_9 f_RX1_30 (Or.inl rfl)
theorem k_9_12 : mOk M_9.1 M_9.2.1 M_9.2.2.1 M_9.2.2.2 12 (o_cge 74) := ok_cge dX1_copyMeeting_12 (by decide)
theorem k_9_15 : mOk M_9.1 M_9.2.1 M_9.2.2.1 M_9.2.2.2 15 (o_al 1 1) := ok_aload_n dX1_copyMeeting_15 rfl
theorem k_9_16 : mOk M_9.1 M_9.2.1 M_9.2.2.1 M_9.2.2.2 16 (o_gP 1 0) := ok_gP dX1_copyMeeting_16 f_RX1_11 rfl
theorem k_9_19 : mOk M_9.1 M_9.2.1 M_9.2.2.1 M_9.2.2.2 19 (o_il 3 1) := ok_iload_n dX1_copyMeeting_19 rfl
theorem k_9_20 : mOk M_9.1 M_9.2.1 M_9.2.2.1 M_9.2.2.2 20 (o_aald) := ok_aald dX1_copyMeeting_20
theorem k_9_21 : mOk M_9.1 M_9.2.1 M_9.2.2.1 M_9.2.2.2 21 (o_as 4 2) := ok_astore dX1_copyMeeting_21
theorem k_9_23 : mOk M_9.1 M_9.2.1 M_9.2.2.1 M_9.2.2.2 23 (o_al 4 2) := ok_aload dX1_copyMeeting_23
theorem k_9_25 : mOk M_9.1 M_9.2.1 M_9.2.2.1 M_9.2.2.2 25 (o_gI 2 3) := ok_gI dX1_copyMeeting_25 f_RX1_37 (Or.inl rfl)
theorem k_9_28 : mOk M_9.1 M_9.2.1 M_9.2.2.1 M_9.2.2.2 28 (o_al 2 1) := ok_aload_n dX1_copyMeeting_28 rfl
theorem k_9_29 : mOk M_9.1 M_9.2.1 M_9.2.2.1 M_9.2.2.2 29 (o_gI 7 4) := ok_gI dX1_copyMeeting_29 f_RX1_40 (Or.inl rfl)
theorem k_9_32 : mOk M_9.1 M_9.2.1 M_9.2.2.1 M_9.2.2.2 32 (o_cgt 68) := ok_cgt dX1_copyMeeting_32 (by decide)
theorem k_9_35 : mOk M_9.1 M_9.2.1 M_9.2.2.1 M_9.2.2.2 35 (o_al 2 1) := ok_aload_n dX1_copyMeeting_35 rfl
theorem k_9_36 : mOk M_9.1 M_9.2.1 M_9.2.2.1 M_9.2.2.2 36 (o_al 4 2) := ok_aload dX1_copyMeeting_36
theorem k_9_41 : mOk M_9.1 M_9.2.1 M_9.2.2.1 M_9.2.2.2 41 (o_zeq 68) := ok_zeq dX1_copyMeeting_41 (by decide)
theorem k_9_44 : mOk M_9.1 M_9.2.1 M_9.2.2.1 M_9.2.2.2 44 (o_al 0 1) := ok_aload_n dX1_copyMeeting_44 rfl
theorem k_9_45 : mOk M_9.1 M_9.2.1 M_9.2.2.1 M_9.2.2.2 45 (o_gP 1 0) := ok_gP dX1_copyMeeting_45 f_RX1_11 rfl
theorem k_9_48 : mOk M_9.1 M_9.2.1 M_9.2.2.1 M_9.2.2.2 48 (o_al 0 1) := ok_aload_n dX1_copyMeeting_48 rfl
theorem k_9_49 : mOk M_9.1 M_9.2.1 M_9.2.2.1 M_9.2.2.2 49 (o_gI 1 1) := ok_gI dX1_copyMeeting_49 f_RX1_30 (Or.inl rfl)
theorem k_9_52 : mOk M_9.1 M_9.2.1 M_9.2.2.1 M_9.2.2.2 52 (o_aald) := ok_aald dX1_copyMeeting_52
theorem k_9_53 : mOk M_9.1 M_9.2.1 M_9.2.2.1 M_9.2.2.2 53 (o_al 4 2) := ok_aload dX1_copyMeeting_53
theorem k_9_58 : mOk M_9.1 M_9.2.1 M_9.2.2.1 M_9.2.2.2 58 (o_al 0 1) := ok_aload_n dX1_copyMeeting_58 rfl
theorem k_9_59 : mOk M_9.1 M_9.2.1 M_9.2.2.1 M_9.2.2.2 59 (oS 1 s_dup) := ok_dup dX1_copyMeeting_59
theorem k_9_60 : mOk M_9.1 M_9.2.1 M_9.2.2.1 M_9.2.2.2 60 (o_gI 1 1) := ok_gI dX1_copyMeeting_60 f_RX1_30 (Or.inl rfl)
theorem k_9_63 : mOk M_9.1 M_9.2.1 M_9.2.2.1 M_9.2.2.2 63 (oS 1 (s_push (.int 1))) := ok_iconst dX1_copyMeeting_63 (by decide)
theorem k_9_64 : mOk M_9.1 M_9.2.1 M_9.2.2.1 M_9.2.2.2 64 (oS 1 (s_ii (fun a b => a + b))) := ok_iadd dX1_copyMeeting_64
theorem k_9_65 : mOk M_9.1 M_9.2.1 M_9.2.2.1 M_9.2.2.2 65 (o_pI 1 1) := ok_pI dX1_copyMeeting_65 (mFw_of f_RX1_30_c (Or.inl rfl)) rfl
theorem k_9_68 : mOk M_9.1 M_9.2.1 M_9.2.2.1 M_9.2.2.2 68 (o_inc 3 1) := ok_iinc dX1_copyMeeting_68 (by decide)
theorem k_9_71 : mOk M_9.1 M_9.2.1 M_9.2.2.1 M_9.2.2.2 71 (o_goto 7) := ok_goto dX1_copyMeeting_71 (by decide)
set_option maxRecDepth 20000 in
set_option maxHeartbeats 4000000 in
theorem tk_9 (l : Launch) (H9 : mThr l) (H10 : mSpl l) (pc : Nat) (q : mEnt) (h : tb_9 pc = some q) : EE l 9 pc q := nd h (fun h => nd h (fun h => nd h (fun h => nd h (fun h => nd h (fun h => lf (P := EE l 9) h k_9_0) (fun h => lf (P := EE l 9) h k_9_1)) (fun h => nd h (fun h => lf (P := EE l 9) h k_9_2) (fun h => lf (P := EE l 9) h k_9_5))) (fun h => nd h (fun h => nd h (fun h => lf (P := EE l 9) h k_9_6) (fun h => lf (P := EE l 9) h k_9_7)) (fun h => nd h (fun h => lf (P := EE l 9) h k_9_8) (fun h => nd h (fun h => lf (P := EE l 9) h k_9_9) (fun h => lf (P := EE l 9) h k_9_12))))) (fun h => nd h (fun h => nd h (fun h => nd h (fun h => lf (P := EE l 9) h k_9_15) (fun h => lf (P := EE l 9) h k_9_16)) (fun h => nd h (fun h => lf (P := EE l 9) h k_9_19) (fun h => nd h (fun h => lf (P := EE l 9) h k_9_20) (fun h => lf (P := EE l 9) h k_9_21)))) (fun h => nd h (fun h => nd h (fun h => lf (P := EE l 9) h k_9_23) (fun h => lf (P := EE l 9) h k_9_25)) (fun h => nd h (fun h => lf (P := EE l 9) h k_9_28) (fun h => nd h (fun h => lf (P := EE l 9) h k_9_29) (fun h => lf (P := EE l 9) h k_9_32)))))) (fun h => nd h (fun h => nd h (fun h => nd h (fun h => nd h (fun h => lf (P := EE l 9) h k_9_35) (fun h => lf (P := EE l 9) h k_9_36)) (fun h => nd h (fun h => lf (P := EE l 9) h (EE_ca (by decide) (⟨m_911, m_78, ⟨by decide, by decide⟩, by decide +kernel, ⟨by decide, by decide⟩, 45, 1, by decide +kernel, Or.inr (Or.inr (Or.inl ⟨rfl, rfl, dX1_copyMeeting_38, m_908, m_909, _, rfl, by decide, m_910⟩))⟩) rfl)) (fun h => nd h (fun h => lf (P := EE l 9) h k_9_41) (fun h => lf (P := EE l 9) h k_9_44)))) (fun h => nd h (fun h => nd h (fun h => lf (P := EE l 9) h k_9_45) (fun h => lf (P := EE l 9) h k_9_48)) (fun h => nd h (fun h => lf (P := EE l 9) h k_9_49) (fun h => nd h (fun h => lf (P := EE l 9) h k_9_52) (fun h => lf (P := EE l 9) h k_9_53))))) (fun h => nd h (fun h => nd h (fun h => nd h (fun h => lf (P := EE l 9) h (EE_ca (by decide) (⟨m_499, m_71, ⟨by decide, by decide⟩, by decide +kernel, ⟨by decide, by decide⟩, 33, 1, by decide +kernel, Or.inr (Or.inr (Or.inl ⟨rfl, rfl, dX1_copyMeeting_55, m_496, m_497, _, rfl, by decide, m_498⟩))⟩) rfl)) (fun h => lf (P := EE l 9) h k_9_58)) (fun h => nd h (fun h => lf (P := EE l 9) h k_9_59) (fun h => nd h (fun h => lf (P := EE l 9) h k_9_60) (fun h => lf (P := EE l 9) h k_9_63)))) (fun h => nd h (fun h => nd h (fun h => lf (P := EE l 9) h k_9_64) (fun h => lf (P := EE l 9) h k_9_65)) (fun h => nd h (fun h => lf (P := EE l 9) h k_9_68) (fun h => nd h (fun h => lf (P := EE l 9) h k_9_71) (fun h => lf (P := EE l 9) h (EE_re (Or.inr (Or.inr (Or.inr (Or.inr ⟨rfl, dX1_copyMeeting_74, rfl⟩)))))))))))
theorem dX1_findNamed_0 : decode cX1_findNamed 0 = .ok (.iconst 0, 1) := by decide +kernel
theorem dX1_findNamed_1 : decode cX1_findNamed 1 = .ok (.istore 4, 2) := by decide +kernel
theorem dX1_findNamed_3 : decode cX1_findNamed 3 = .ok (.iload 4, 2) := by decide +kernel
theorem dX1_findNamed_5 : decode cX1_findNamed 5 = .ok (.aload_n 0, 1) := by decide +kernel
theorem dX1_findNamed_6 : decode cX1_findNamed 6 = .ok (.getfield 30, 3) := by decide +kernel
theorem dX1_findNamed_9 : decode cX1_findNamed 9 = .ok (.if_icmp .ge 50, 3) := by decide +kernel
theorem dX1_findNamed_12 : decode cX1_findNamed 12 = .ok (.aload_n 0, 1) := by decide +kernel
theorem dX1_findNamed_13 : decode cX1_findNamed 13 = .ok (.getfield 11, 3) := by decide +kernel
theorem dX1_findNamed_16 : decode cX1_findNamed 16 = .ok (.iload 4, 2) := by decide +kernel
theorem dX1_findNamed_18 : decode cX1_findNamed 18 = .ok (.aaload, 1) := by decide +kernel
theorem dX1_findNamed_19 : decode cX1_findNamed 19 = .ok (.lload_n 1, 1) := by decide +kernel
theorem dX1_findNamed_20 : decode cX1_findNamed 20 = .ok (.invokevirtual 49, 3) := by decide +kernel
theorem dX1_findNamed_23 : decode cX1_findNamed 23 = .ok (.ifCond .eq 30, 3) := by decide +kernel
theorem dX1_findNamed_26 : decode cX1_findNamed 26 = .ok (.aload_n 0, 1) := by decide +kernel
theorem dX1_findNamed_27 : decode cX1_findNamed 27 = .ok (.aload_n 0, 1) := by decide +kernel
theorem dX1_findNamed_28 : decode cX1_findNamed 28 = .ok (.getfield 11, 3) := by decide +kernel
theorem dX1_findNamed_31 : decode cX1_findNamed 31 = .ok (.iload 4, 2) := by decide +kernel
theorem dX1_findNamed_33 : decode cX1_findNamed 33 = .ok (.aaload, 1) := by decide +kernel
theorem dX1_findNamed_34 : decode cX1_findNamed 34 = .ok (.lload_n 1, 1) := by decide +kernel
theorem dX1_findNamed_35 : decode cX1_findNamed 35 = .ok (.invokevirtual 53, 3) := by decide +kernel
theorem dX1_findNamed_38 : decode cX1_findNamed 38 = .ok (.iload_n 3, 1) := by decide +kernel
theorem dX1_findNamed_39 : decode cX1_findNamed 39 = .ok (.if_icmp .ne 14, 3) := by decide +kernel
theorem dX1_findNamed_42 : decode cX1_findNamed 42 = .ok (.aload_n 0, 1) := by decide +kernel
theorem dX1_findNamed_43 : decode cX1_findNamed 43 = .ok (.getfield 11, 3) := by decide +kernel
theorem dX1_findNamed_46 : decode cX1_findNamed 46 = .ok (.iload 4, 2) := by decide +kernel
theorem dX1_findNamed_48 : decode cX1_findNamed 48 = .ok (.aaload, 1) := by decide +kernel
theorem dX1_findNamed_49 : decode cX1_findNamed 49 = .ok (.getfield 18, 3) := by decide +kernel
theorem dX1_findNamed_52 : decode cX1_findNamed 52 = .ok (.ireturn, 1) := by decide +kernel
theorem dX1_findNamed_53 : decode cX1_findNamed 53 = .ok (.iinc 4 1, 3) := by decide +kernel
theorem dX1_findNamed_56 : decode cX1_findNamed 56 = .ok (.goto (-53), 3) := by decide +kernel
theorem dX1_findNamed_59 : decode cX1_findNamed 59 = .ok (.iconst (-1), 1) := by decide +kernel
theorem dX1_findNamed_60 : decode cX1_findNamed 60 = .ok (.ireturn, 1) := by decide +kernel
def tb_10 (pc : Nat) : Option mEnt := bif Nat.ble pc 28 then (bif Nat.ble pc 13 then (bif Nat.ble pc 5 then (bif Nat.ble pc 1 then (bif Nat.ble pc 0 then (bif Nat.beq pc 0 then some (.inl (oS 1 (s_push (.int 0)))) else none) else (bif Nat.beq pc 1 then some (.inl (o_is 4 2)) else none)) else (bif Nat.ble pc 3 then (bif Nat.beq pc 3 then some (.inl (o_il 4 2)) else none) else (bif Nat.beq pc 5 then some (.inl (o_al 0 1)) else none))) else (bif Nat.ble pc 9 then (bif Nat.ble pc 6 then (bif Nat.beq pc 6 then some (.inl (o_gI 1 1)) else none) else (bif Nat.beq pc 9 then some (.inl (o_cge 59)) else none)) else (bif Nat.ble pc 12 then (bif Nat.beq pc 12 then some (.inl (o_al 0 1)) else none) else (bif Nat.beq pc 13 then some (.inl (o_gP 1 0)) else none)))) else (bif Nat.ble pc 20 then (bif Nat.ble pc 18 then (bif Nat.ble pc 16 then (bif Nat.beq pc 16 then some (.inl (o_il 4 2)) else none) else (bif Nat.beq pc 18 then some (.inl (o_aald)) else none)) else (bif Nat.ble pc 19 then (bif Nat.beq pc 19 then some (.inl (o_ll 1 1)) else none) else (bif Nat.beq pc 20 then some (.inr (3, 33, 2, 2)) else none))) else (bif Nat.ble pc 26 then (bif Nat.ble pc 23 then (bif Nat.beq pc 23 then some (.inl (o_zeq 53)) else none) else (bif Nat.beq pc 26 then some (.inl (o_al 0 1)) else none)) else (bif Nat.ble pc 27 then (bif Nat.beq pc 27 then some (.inl (o_al 0 1)) else none) else (bif Nat.beq pc 28 then some (.inl (o_gP 1 0)) else none))))) else (bif Nat.ble pc 43 then (bif Nat.ble pc 35 then (bif Nat.ble pc 33 then (bif Nat.ble pc 31 then (bif Nat.beq pc 31 then some (.inl (o_il 4 2)) else none) else (bif Nat.beq pc 33 then some (.inl (o_aald)) else none)) else (bif Nat.ble pc 34 then (bif Nat.beq pc 34 then some (.inl (o_ll 1 1)) else none) else (bif Nat.beq pc 35 then some (.inr (3, 11, 3, 1)) else none))) else (bif Nat.ble pc 39 then (bif Nat.ble pc 38 then (bif Nat.beq pc 38 then some (.inl (o_il 3 1)) else none) else (bif Nat.beq pc 39 then some (.inl (o_cne 53)) else none)) else (bif Nat.ble pc 42 then (bif Nat.beq pc 42 then some (.inl (o_al 0 1)) else none) else (bif Nat.beq pc 43 then some (.inl (o_gP 1 0)) else none)))) else (bif Nat.ble pc 52 then (bif Nat.ble pc 48 then (bif Nat.ble pc 46 then (bif Nat.beq pc 46 then some (.inl (o_il 4 2)) else none) else (bif Nat.beq pc 48 then some (.inl (o_aald)) else none)) else (bif Nat.ble pc 49 then (bif Nat.beq pc 49 then some (.inl (o_gI 2 0)) else none) else (bif Nat.beq pc 52 then some (.inr (0, 0, 0, 0)) else none))) else (bif Nat.ble pc 56 then (bif Nat.ble pc 53 then (bif Nat.beq pc 53 then some (.inl (o_inc 4 1)) else none) else (bif Nat.beq pc 56 then some (.inl (o_goto 3)) else none)) else (bif Nat.ble pc 59 then (bif Nat.beq pc 59 then some (.inl (oS 1 (s_push (.int (-1))))) else none) else (bif Nat.beq pc 60 then some (.inr (0, 0, 0, 0)) else none)))))
theorem k_10_0 : mOk M_10.1 M_10.2.1 M_10.2.2.1 M_10.2.2.2 0 (oS 1 (s_push (.int 0))) := ok_iconst dX1_findNamed_0 (by decide)
theorem k_10_1 : mOk M_10.1 M_10.2.1 M_10.2.2.1 M_10.2.2.2 1 (o_is 4 2) := ok_istore dX1_findNamed_1
theorem k_10_3 : mOk M_10.1 M_10.2.1 M_10.2.2.1 M_10.2.2.2 3 (o_il 4 2) := ok_iload dX1_findNamed_3
theorem k_10_5 : mOk M_10.1 M_10.2.1 M_10.2.2.1 M_10.2.2.2 5 (o_al 0 1) := ok_aload_n dX1_findNamed_5 rfl
theorem k_10_6 : mOk M_10.1 M_10.2.1 M_10.2.2.1 M_10.2.2.2 6 (o_gI 1 1) := ok_gI dX1_findNamed_6 f_RX1_30 (Or.inl rfl)
theorem k_10_9 : mOk M_10.1 M_10.2.1 M_10.2.2.1 M_10.2.2.2 9 (o_cge 59) := ok_cge dX1_findNamed_9 (by decide)
theorem k_10_12 : mOk M_10.1 M_10.2.1 M_10.2.2.1 M_10.2.2.2 12 (o_al 0 1) := ok_aload_n dX1_findNamed_12 rfl
theorem k_10_13 : mOk M_10.1 M_10.2.1 M_10.2.2.1 M_10.2.2.2 13 (o_gP 1 0) := ok_gP dX1_findNamed_13 f_RX1_11 rfl
theorem k_10_16 : mOk M_10.1 M_10.2.1 M_10.2.2.1 M_10.2.2.2 16 (o_il 4 2) := ok_iload dX1_findNamed_16
theorem k_10_18 : mOk M_10.1 M_10.2.1 M_10.2.2.1 M_10.2.2.2 18 (o_aald) := ok_aald dX1_findNamed_18
theorem k_10_19 : mOk M_10.1 M_10.2.1 M_10.2.2.1 M_10.2.2.2 19 (o_ll 1 1) := ok_lload_n dX1_findNamed_19 rfl
theorem k_10_23 : mOk M_10.1 M_10.2.1 M_10.2.2.1 M_10.2.2.2 23 (o_zeq 53) := ok_zeq dX1_findNamed_23 (by decide)
theorem k_10_26 : mOk M_10.1 M_10.2.1 M_10.2.2.1 M_10.2.2.2 26 (o_al 0 1) := ok_aload_n dX1_findNamed_26 rfl
theorem k_10_27 : mOk M_10.1 M_10.2.1 M_10.2.2.1 M_10.2.2.2 27 (o_al 0 1) := ok_aload_n dX1_findNamed_27 rfl
theorem k_10_28 : mOk M_10.1 M_10.2.1 M_10.2.2.1 M_10.2.2.2 28 (o_gP 1 0) := ok_gP dX1_findNamed_28 f_RX1_11 rfl
theorem k_10_31 : mOk M_10.1 M_10.2.1 M_10.2.2.1 M_10.2.2.2 31 (o_il 4 2) := ok_iload dX1_findNamed_31
theorem k_10_33 : mOk M_10.1 M_10.2.1 M_10.2.2.1 M_10.2.2.2 33 (o_aald) := ok_aald dX1_findNamed_33
theorem k_10_34 : mOk M_10.1 M_10.2.1 M_10.2.2.1 M_10.2.2.2 34 (o_ll 1 1) := ok_lload_n dX1_findNamed_34 rfl
theorem k_10_38 : mOk M_10.1 M_10.2.1 M_10.2.2.1 M_10.2.2.2 38 (o_il 3 1) := ok_iload_n dX1_findNamed_38 rfl
theorem k_10_39 : mOk M_10.1 M_10.2.1 M_10.2.2.1 M_10.2.2.2 39 (o_cne 53) := ok_cne dX1_findNamed_39 (by decide)
theorem k_10_42 : mOk M_10.1 M_10.2.1 M_10.2.2.1 M_10.2.2.2 42 (o_al 0 1) := ok_aload_n dX1_findNamed_42 rfl
theorem k_10_43 : mOk M_10.1 M_10.2.1 M_10.2.2.1 M_10.2.2.2 43 (o_gP 1 0) := ok_gP dX1_findNamed_43 f_RX1_11 rfl
theorem k_10_46 : mOk M_10.1 M_10.2.1 M_10.2.2.1 M_10.2.2.2 46 (o_il 4 2) := ok_iload dX1_findNamed_46
theorem k_10_48 : mOk M_10.1 M_10.2.1 M_10.2.2.1 M_10.2.2.2 48 (o_aald) := ok_aald dX1_findNamed_48
theorem k_10_49 : mOk M_10.1 M_10.2.1 M_10.2.2.1 M_10.2.2.2 49 (o_gI 2 0) := ok_gI dX1_findNamed_49 f_RX1_18 (Or.inl rfl)
theorem k_10_53 : mOk M_10.1 M_10.2.1 M_10.2.2.1 M_10.2.2.2 53 (o_inc 4 1) := ok_iinc dX1_findNamed_53 (by decide)
theorem k_10_56 : mOk M_10.1 M_10.2.1 M_10.2.2.1 M_10.2.2.2 56 (o_goto 3) := ok_goto dX1_findNamed_56 (by decide)
theorem k_10_59 : mOk M_10.1 M_10.2.1 M_10.2.2.1 M_10.2.2.2 59 (oS 1 (s_push (.int (-1)))) := ok_iconst dX1_findNamed_59 (by decide)
set_option maxRecDepth 20000 in
set_option maxHeartbeats 4000000 in
theorem tk_10 (l : Launch) (H9 : mThr l) (H10 : mSpl l) (pc : Nat) (q : mEnt) (h : tb_10 pc = some q) : EE l 10 pc q := nd h (fun h => nd h (fun h => nd h (fun h => nd h (fun h => nd h (fun h => lf (P := EE l 10) h k_10_0) (fun h => lf (P := EE l 10) h k_10_1)) (fun h => nd h (fun h => lf (P := EE l 10) h k_10_3) (fun h => lf (P := EE l 10) h k_10_5))) (fun h => nd h (fun h => nd h (fun h => lf (P := EE l 10) h k_10_6) (fun h => lf (P := EE l 10) h k_10_9)) (fun h => nd h (fun h => lf (P := EE l 10) h k_10_12) (fun h => lf (P := EE l 10) h k_10_13)))) (fun h => nd h (fun h => nd h (fun h => nd h (fun h => lf (P := EE l 10) h k_10_16) (fun h => lf (P := EE l 10) h k_10_18)) (fun h => nd h (fun h => lf (P := EE l 10) h k_10_19) (fun h => lf (P := EE l 10) h (EE_ca (by decide) (⟨m_987, m_71, ⟨by decide, by decide⟩, by decide +kernel, ⟨by decide, by decide⟩, 49, 1, by decide +kernel, Or.inr (Or.inr (Or.inl ⟨rfl, rfl, dX1_findNamed_20, m_984, m_985, _, rfl, by decide, m_986⟩))⟩) rfl)))) (fun h => nd h (fun h => nd h (fun h => lf (P := EE l 10) h k_10_23) (fun h => lf (P := EE l 10) h k_10_26)) (fun h => nd h (fun h => lf (P := EE l 10) h k_10_27) (fun h => lf (P := EE l 10) h k_10_28))))) (fun h => nd h (fun h => nd h (fun h => nd h (fun h => nd h (fun h => lf (P := EE l 10) h k_10_31) (fun h => lf (P := EE l 10) h k_10_33)) (fun h => nd h (fun h => lf (P := EE l 10) h k_10_34) (fun h => lf (P := EE l 10) h (EE_ca (by decide) (⟨m_994, m_72, ⟨by decide, by decide⟩, by decide +kernel, ⟨by decide, by decide⟩, 53, 2, by decide +kernel, Or.inr (Or.inr (Or.inl ⟨rfl, rfl, dX1_findNamed_35, m_991, m_993, _, rfl, by decide, m_25⟩))⟩) rfl)))) (fun h => nd h (fun h => nd h (fun h => lf (P := EE l 10) h k_10_38) (fun h => lf (P := EE l 10) h k_10_39)) (fun h => nd h (fun h => lf (P := EE l 10) h k_10_42) (fun h => lf (P := EE l 10) h k_10_43)))) (fun h => nd h (fun h => nd h (fun h => nd h (fun h => lf (P := EE l 10) h k_10_46) (fun h => lf (P := EE l 10) h k_10_48)) (fun h => nd h (fun h => lf (P := EE l 10) h k_10_49) (fun h => lf (P := EE l 10) h (EE_re (Or.inl ⟨rfl, dX1_findNamed_52, rfl⟩))))) (fun h => nd h (fun h => nd h (fun h => lf (P := EE l 10) h k_10_53) (fun h => lf (P := EE l 10) h k_10_56)) (fun h => nd h (fun h => lf (P := EE l 10) h k_10_59) (fun h => lf (P := EE l 10) h (EE_re (Or.inl ⟨rfl, dX1_findNamed_60, rfl⟩)))))))
theorem dX1_namedAhead_0 : decode cX1_namedAhead 0 = .ok (.iconst 0, 1) := by decide +kernel
theorem dX1_namedAhead_1 : decode cX1_namedAhead 1 = .ok (.istore 4, 2) := by decide +kernel
theorem dX1_namedAhead_3 : decode cX1_namedAhead 3 = .ok (.iconst 0, 1) := by decide +kernel
theorem dX1_namedAhead_4 : decode cX1_namedAhead 4 = .ok (.istore 5, 2) := by decide +kernel
theorem dX1_namedAhead_6 : decode cX1_namedAhead 6 = .ok (.iload 5, 2) := by decide +kernel
theorem dX1_namedAhead_8 : decode cX1_namedAhead 8 = .ok (.aload_n 0, 1) := by decide +kernel
theorem dX1_namedAhead_9 : decode cX1_namedAhead 9 = .ok (.getfield 30, 3) := by decide +kernel
theorem dX1_namedAhead_12 : decode cX1_namedAhead 12 = .ok (.if_icmp .ge 40, 3) := by decide +kernel
theorem dX1_namedAhead_15 : decode cX1_namedAhead 15 = .ok (.aload_n 0, 1) := by decide +kernel
theorem dX1_namedAhead_16 : decode cX1_namedAhead 16 = .ok (.getfield 11, 3) := by decide +kernel
theorem dX1_namedAhead_19 : decode cX1_namedAhead 19 = .ok (.iload 5, 2) := by decide +kernel
theorem dX1_namedAhead_21 : decode cX1_namedAhead 21 = .ok (.aaload, 1) := by decide +kernel
theorem dX1_namedAhead_22 : decode cX1_namedAhead 22 = .ok (.lload_n 2, 1) := by decide +kernel
theorem dX1_namedAhead_23 : decode cX1_namedAhead 23 = .ok (.invokevirtual 49, 3) := by decide +kernel
theorem dX1_namedAhead_26 : decode cX1_namedAhead 26 = .ok (.ifCond .eq 20, 3) := by decide +kernel
theorem dX1_namedAhead_29 : decode cX1_namedAhead 29 = .ok (.aload_n 0, 1) := by decide +kernel
theorem dX1_namedAhead_30 : decode cX1_namedAhead 30 = .ok (.getfield 11, 3) := by decide +kernel
theorem dX1_namedAhead_33 : decode cX1_namedAhead 33 = .ok (.iload 5, 2) := by decide +kernel
theorem dX1_namedAhead_35 : decode cX1_namedAhead 35 = .ok (.aaload, 1) := by decide +kernel
theorem dX1_namedAhead_36 : decode cX1_namedAhead 36 = .ok (.aload_n 1, 1) := by decide +kernel
theorem dX1_namedAhead_37 : decode cX1_namedAhead 37 = .ok (.invokevirtual 57, 3) := by decide +kernel
theorem dX1_namedAhead_40 : decode cX1_namedAhead 40 = .ok (.ifCond .eq 6, 3) := by decide +kernel
theorem dX1_namedAhead_43 : decode cX1_namedAhead 43 = .ok (.iinc 4 1, 3) := by decide +kernel
theorem dX1_namedAhead_46 : decode cX1_namedAhead 46 = .ok (.iinc 5 1, 3) := by decide +kernel
theorem dX1_namedAhead_49 : decode cX1_namedAhead 49 = .ok (.goto (-43), 3) := by decide +kernel
theorem dX1_namedAhead_52 : decode cX1_namedAhead 52 = .ok (.iload 4, 2) := by decide +kernel
theorem dX1_namedAhead_54 : decode cX1_namedAhead 54 = .ok (.ireturn, 1) := by decide +kernel
def tb_11 (pc : Nat) : Option mEnt := bif Nat.ble pc 22 then (bif Nat.ble pc 8 then (bif Nat.ble pc 3 then (bif Nat.ble pc 0 then (bif Nat.beq pc 0 then some (.inl (oS 1 (s_push (.int 0)))) else none) else (bif Nat.ble pc 1 then (bif Nat.beq pc 1 then some (.inl (o_is 4 2)) else none) else (bif Nat.beq pc 3 then some (.inl (oS 1 (s_push (.int 0)))) else none))) else (bif Nat.ble pc 4 then (bif Nat.beq pc 4 then some (.inl (o_is 5 2)) else none) else (bif Nat.ble pc 6 then (bif Nat.beq pc 6 then some (.inl (o_il 5 2)) else none) else (bif Nat.beq pc 8 then some (.inl (o_al 0 1)) else none)))) else (bif Nat.ble pc 15 then (bif Nat.ble pc 9 then (bif Nat.beq pc 9 then some (.inl (o_gI 1 1)) else none) else (bif Nat.ble pc 12 then (bif Nat.beq pc 12 then some (.inl (o_cge 52)) else none) else (bif Nat.beq pc 15 then some (.inl (o_al 0 1)) else none))) else (bif Nat.ble pc 19 then (bif Nat.ble pc 16 then (bif Nat.beq pc 16 then some (.inl (o_gP 1 0)) else none) else (bif Nat.beq pc 19 then some (.inl (o_il 5 2)) else none)) else (bif Nat.ble pc 21 then (bif Nat.beq pc 21 then some (.inl (o_aald)) else none) else (bif Nat.beq pc 22 then some (.inl (o_ll 2 1)) else none))))) else (bif Nat.ble pc 36 then (bif Nat.ble pc 29 then (bif Nat.ble pc 23 then (bif Nat.beq pc 23 then some (.inr (3, 33, 2, 2)) else none) else (bif Nat.ble pc 26 then (bif Nat.beq pc 26 then some (.inl (o_zeq 46)) else none) else (bif Nat.beq pc 29 then some (.inl (o_al 0 1)) else none))) else (bif Nat.ble pc 33 then (bif Nat.ble pc 30 then (bif Nat.beq pc 30 then some (.inl (o_gP 1 0)) else none) else (bif Nat.beq pc 33 then some (.inl (o_il 5 2)) else none)) else (bif Nat.ble pc 35 then (bif Nat.beq pc 35 then some (.inl (o_aald)) else none) else (bif Nat.beq pc 36 then some (.inl (o_al 1 1)) else none)))) else (bif Nat.ble pc 43 then (bif Nat.ble pc 37 then (bif Nat.beq pc 37 then some (.inr (3, 35, 2, 2)) else none) else (bif Nat.ble pc 40 then (bif Nat.beq pc 40 then some (.inl (o_zeq 46)) else none) else (bif Nat.beq pc 43 then some (.inl (o_inc 4 1)) else none))) else (bif Nat.ble pc 49 then (bif Nat.ble pc 46 then (bif Nat.beq pc 46 then some (.inl (o_inc 5 1)) else none) else (bif Nat.beq pc 49 then some (.inl (o_goto 6)) else none)) else (bif Nat.ble pc 52 then (bif Nat.beq pc 52 then some (.inl (o_il 4 2)) else none) else (bif Nat.beq pc 54 then some (.inr (0, 0, 0, 0)) else none)))))
theorem k_11_0 : mOk M_11.1 M_11.2.1 M_11.2.2.1 M_11.2.2.2 0 (oS 1 (s_push (.int 0))) := ok_iconst dX1_namedAhead_0 (by decide)
theorem k_11_1 : mOk M_11.1 M_11.2.1 M_11.2.2.1 M_11.2.2.2 1 (o_is 4 2) := ok_istore dX1_namedAhead_1
theorem k_11_3 : mOk M_11.1 M_11.2.1 M_11.2.2.1 M_11.2.2.2 3 (oS 1 (s_push (.int 0))) := ok_iconst dX1_namedAhead_3 (by decide)
theorem k_11_4 : mOk M_11.1 M_11.2.1 M_11.2.2.1 M_11.2.2.2 4 (o_is 5 2) := ok_istore dX1_namedAhead_4
theorem k_11_6 : mOk M_11.1 M_11.2.1 M_11.2.2.1 M_11.2.2.2 6 (o_il 5 2) := ok_iload dX1_namedAhead_6
theorem k_11_8 : mOk M_11.1 M_11.2.1 M_11.2.2.1 M_11.2.2.2 8 (o_al 0 1) := ok_aload_n dX1_namedAhead_8 rfl
theorem k_11_9 : mOk M_11.1 M_11.2.1 M_11.2.2.1 M_11.2.2.2 9 (o_gI 1 1) := ok_gI dX1_namedAhead_9 f_RX1_30 (Or.inl rfl)
theorem k_11_12 : mOk M_11.1 M_11.2.1 M_11.2.2.1 M_11.2.2.2 12 (o_cge 52) := ok_cge dX1_namedAhead_12 (by decide)
theorem k_11_15 : mOk M_11.1 M_11.2.1 M_11.2.2.1 M_11.2.2.2 15 (o_al 0 1) := ok_aload_n dX1_namedAhead_15 rfl
theorem k_11_16 : mOk M_11.1 M_11.2.1 M_11.2.2.1 M_11.2.2.2 16 (o_gP 1 0) := ok_gP dX1_namedAhead_16 f_RX1_11 rfl
theorem k_11_19 : mOk M_11.1 M_11.2.1 M_11.2.2.1 M_11.2.2.2 19 (o_il 5 2) := ok_iload dX1_namedAhead_19
theorem k_11_21 : mOk M_11.1 M_11.2.1 M_11.2.2.1 M_11.2.2.2 21 (o_aald) := ok_aald dX1_namedAhead_21
theorem k_11_22 : mOk M_11.1 M_11.2.1 M_11.2.2.1 M_11.2.2.2 22 (o_ll 2 1) := ok_lload_n dX1_namedAhead_22 rfl
theorem k_11_26 : mOk M_11.1 M_11.2.1 M_11.2.2.1 M_11.2.2.2 26 (o_zeq 46) := ok_zeq dX1_namedAhead_26 (by decide)
theorem k_11_29 : mOk M_11.1 M_11.2.1 M_11.2.2.1 M_11.2.2.2 29 (o_al 0 1) := ok_aload_n dX1_namedAhead_29 rfl
theorem k_11_30 : mOk M_11.1 M_11.2.1 M_11.2.2.1 M_11.2.2.2 30 (o_gP 1 0) := ok_gP dX1_namedAhead_30 f_RX1_11 rfl
theorem k_11_33 : mOk M_11.1 M_11.2.1 M_11.2.2.1 M_11.2.2.2 33 (o_il 5 2) := ok_iload dX1_namedAhead_33
theorem k_11_35 : mOk M_11.1 M_11.2.1 M_11.2.2.1 M_11.2.2.2 35 (o_aald) := ok_aald dX1_namedAhead_35
theorem k_11_36 : mOk M_11.1 M_11.2.1 M_11.2.2.1 M_11.2.2.2 36 (o_al 1 1) := ok_aload_n dX1_namedAhead_36 rfl
theorem k_11_40 : mOk M_11.1 M_11.2.1 M_11.2.2.1 M_11.2.2.2 40 (o_zeq 46) := ok_zeq dX1_namedAhead_40 (by decide)
theorem k_11_43 : mOk M_11.1 M_11.2.1 M_11.2.2.1 M_11.2.2.2 43 (o_inc 4 1) := ok_iinc dX1_namedAhead_43 (by decide)
theorem k_11_46 : mOk M_11.1 M_11.2.1 M_11.2.2.1 M_11.2.2.2 46 (o_inc 5 1) := ok_iinc dX1_namedAhead_46 (by decide)
theorem k_11_49 : mOk M_11.1 M_11.2.1 M_11.2.2.1 M_11.2.2.2 49 (o_goto 6) := ok_goto dX1_namedAhead_49 (by decide)
theorem k_11_52 : mOk M_11.1 M_11.2.1 M_11.2.2.1 M_11.2.2.2 52 (o_il 4 2) := ok_iload dX1_namedAhead_52
set_option maxRecDepth 20000 in
set_option maxHeartbeats 4000000 in
theorem tk_11 (l : Launch) (H9 : mThr l) (H10 : mSpl l) (pc : Nat) (q : mEnt) (h : tb_11 pc = some q) : EE l 11 pc q := nd h (fun h => nd h (fun h => nd h (fun h => nd h (fun h => lf (P := EE l 11) h k_11_0) (fun h => nd h (fun h => lf (P := EE l 11) h k_11_1) (fun h => lf (P := EE l 11) h k_11_3))) (fun h => nd h (fun h => lf (P := EE l 11) h k_11_4) (fun h => nd h (fun h => lf (P := EE l 11) h k_11_6) (fun h => lf (P := EE l 11) h k_11_8)))) (fun h => nd h (fun h => nd h (fun h => lf (P := EE l 11) h k_11_9) (fun h => nd h (fun h => lf (P := EE l 11) h k_11_12) (fun h => lf (P := EE l 11) h k_11_15))) (fun h => nd h (fun h => nd h (fun h => lf (P := EE l 11) h k_11_16) (fun h => lf (P := EE l 11) h k_11_19)) (fun h => nd h (fun h => lf (P := EE l 11) h k_11_21) (fun h => lf (P := EE l 11) h k_11_22))))) (fun h => nd h (fun h => nd h (fun h => nd h (fun h => lf (P := EE l 11) h (EE_ca (by decide) (⟨m_987, m_71, ⟨by decide, by decide⟩, by decide +kernel, ⟨by decide, by decide⟩, 49, 1, by decide +kernel, Or.inr (Or.inr (Or.inl ⟨rfl, rfl, dX1_namedAhead_23, m_984, m_985, _, rfl, by decide, m_986⟩))⟩) rfl)) (fun h => nd h (fun h => lf (P := EE l 11) h k_11_26) (fun h => lf (P := EE l 11) h k_11_29))) (fun h => nd h (fun h => nd h (fun h => lf (P := EE l 11) h k_11_30) (fun h => lf (P := EE l 11) h k_11_33)) (fun h => nd h (fun h => lf (P := EE l 11) h k_11_35) (fun h => lf (P := EE l 11) h k_11_36)))) (fun h => nd h (fun h => nd h (fun h => lf (P := EE l 11) h (EE_ca (by decide) (⟨m_998, m_71, ⟨by decide, by decide⟩, by decide +kernel, ⟨by decide, by decide⟩, 57, 1, by decide +kernel, Or.inr (Or.inr (Or.inl ⟨rfl, rfl, dX1_namedAhead_37, m_995, m_996, _, rfl, by decide, m_997⟩))⟩) rfl)) (fun h => nd h (fun h => lf (P := EE l 11) h k_11_40) (fun h => lf (P := EE l 11) h k_11_43))) (fun h => nd h (fun h => nd h (fun h => lf (P := EE l 11) h k_11_46) (fun h => lf (P := EE l 11) h k_11_49)) (fun h => nd h (fun h => lf (P := EE l 11) h k_11_52) (fun h => lf (P := EE l 11) h (EE_re (Or.inl ⟨rfl, dX1_namedAhead_54, rfl⟩)))))))
theorem dX1_findNear_0 : decode cX1_findNear 0 = .ok (.iconst 0, 1) := by decide +kernel
theorem dX1_findNear_1 : decode cX1_findNear 1 = .ok (.istore 5, 2) := by decide +kernel
theorem dX1_findNear_3 : decode cX1_findNear 3 = .ok (.iload 5, 2) := by decide +kernel
theorem dX1_findNear_5 : decode cX1_findNear 5 = .ok (.aload_n 0, 1) := by decide +kernel
theorem dX1_findNear_6 : decode cX1_findNear 6 = .ok (.getfield 30, 3) := by decide +kernel
theorem dX1_findNear_9 : decode cX1_findNear 9 = .ok (.if_icmp .ge 52, 3) := by decide +kernel
theorem dX1_findNear_12 : decode cX1_findNear 12 = .ok (.aload_n 0, 1) := by decide +kernel
theorem dX1_findNear_13 : decode cX1_findNear 13 = .ok (.getfield 11, 3) := by decide +kernel
theorem dX1_findNear_16 : decode cX1_findNear 16 = .ok (.iload 5, 2) := by decide +kernel
theorem dX1_findNear_18 : decode cX1_findNear 18 = .ok (.aaload, 1) := by decide +kernel
theorem dX1_findNear_19 : decode cX1_findNear 19 = .ok (.iload_n 3, 1) := by decide +kernel
theorem dX1_findNear_20 : decode cX1_findNear 20 = .ok (.invokevirtual 60, 3) := by decide +kernel
theorem dX1_findNear_23 : decode cX1_findNear 23 = .ok (.ifCond .eq 32, 3) := by decide +kernel
theorem dX1_findNear_26 : decode cX1_findNear 26 = .ok (.aload_n 0, 1) := by decide +kernel
theorem dX1_findNear_27 : decode cX1_findNear 27 = .ok (.aload_n 0, 1) := by decide +kernel
theorem dX1_findNear_28 : decode cX1_findNear 28 = .ok (.getfield 11, 3) := by decide +kernel
theorem dX1_findNear_31 : decode cX1_findNear 31 = .ok (.iload 5, 2) := by decide +kernel
theorem dX1_findNear_33 : decode cX1_findNear 33 = .ok (.aaload, 1) := by decide +kernel
theorem dX1_findNear_34 : decode cX1_findNear 34 = .ok (.iload_n 1, 1) := by decide +kernel
theorem dX1_findNear_35 : decode cX1_findNear 35 = .ok (.iload_n 2, 1) := by decide +kernel
theorem dX1_findNear_36 : decode cX1_findNear 36 = .ok (.invokevirtual 64, 3) := by decide +kernel
theorem dX1_findNear_39 : decode cX1_findNear 39 = .ok (.iload 4, 2) := by decide +kernel
theorem dX1_findNear_41 : decode cX1_findNear 41 = .ok (.if_icmp .ne 14, 3) := by decide +kernel
theorem dX1_findNear_44 : decode cX1_findNear 44 = .ok (.aload_n 0, 1) := by decide +kernel
theorem dX1_findNear_45 : decode cX1_findNear 45 = .ok (.getfield 11, 3) := by decide +kernel
theorem dX1_findNear_48 : decode cX1_findNear 48 = .ok (.iload 5, 2) := by decide +kernel
theorem dX1_findNear_50 : decode cX1_findNear 50 = .ok (.aaload, 1) := by decide +kernel
theorem dX1_findNear_51 : decode cX1_findNear 51 = .ok (.getfield 18, 3) := by decide +kernel
theorem dX1_findNear_54 : decode cX1_findNear 54 = .ok (.ireturn, 1) := by decide +kernel
theorem dX1_findNear_55 : decode cX1_findNear 55 = .ok (.iinc 5 1, 3) := by decide +kernel
theorem dX1_findNear_58 : decode cX1_findNear 58 = .ok (.goto (-55), 3) := by decide +kernel
theorem dX1_findNear_61 : decode cX1_findNear 61 = .ok (.iconst (-1), 1) := by decide +kernel
theorem dX1_findNear_62 : decode cX1_findNear 62 = .ok (.ireturn, 1) := by decide +kernel
def tb_12 (pc : Nat) : Option mEnt := bif Nat.ble pc 28 then (bif Nat.ble pc 13 then (bif Nat.ble pc 5 then (bif Nat.ble pc 1 then (bif Nat.ble pc 0 then (bif Nat.beq pc 0 then some (.inl (oS 1 (s_push (.int 0)))) else none) else (bif Nat.beq pc 1 then some (.inl (o_is 5 2)) else none)) else (bif Nat.ble pc 3 then (bif Nat.beq pc 3 then some (.inl (o_il 5 2)) else none) else (bif Nat.beq pc 5 then some (.inl (o_al 0 1)) else none))) else (bif Nat.ble pc 9 then (bif Nat.ble pc 6 then (bif Nat.beq pc 6 then some (.inl (o_gI 1 1)) else none) else (bif Nat.beq pc 9 then some (.inl (o_cge 61)) else none)) else (bif Nat.ble pc 12 then (bif Nat.beq pc 12 then some (.inl (o_al 0 1)) else none) else (bif Nat.beq pc 13 then some (.inl (o_gP 1 0)) else none)))) else (bif Nat.ble pc 20 then (bif Nat.ble pc 18 then (bif Nat.ble pc 16 then (bif Nat.beq pc 16 then some (.inl (o_il 5 2)) else none) else (bif Nat.beq pc 18 then some (.inl (o_aald)) else none)) else (bif Nat.ble pc 19 then (bif Nat.beq pc 19 then some (.inl (o_il 3 1)) else none) else (bif Nat.beq pc 20 then some (.inr (3, 38, 2, 2)) else none))) else (bif Nat.ble pc 26 then (bif Nat.ble pc 23 then (bif Nat.beq pc 23 then some (.inl (o_zeq 55)) else none) else (bif Nat.beq pc 26 then some (.inl (o_al 0 1)) else none)) else (bif Nat.ble pc 27 then (bif Nat.beq pc 27 then some (.inl (o_al 0 1)) else none) else (bif Nat.beq pc 28 then some (.inl (o_gP 1 0)) else none))))) else (bif Nat.ble pc 44 then (bif Nat.ble pc 35 then (bif Nat.ble pc 33 then (bif Nat.ble pc 31 then (bif Nat.beq pc 31 then some (.inl (o_il 5 2)) else none) else (bif Nat.beq pc 33 then some (.inl (o_aald)) else none)) else (bif Nat.ble pc 34 then (bif Nat.beq pc 34 then some (.inl (o_il 1 1)) else none) else (bif Nat.beq pc 35 then some (.inl (o_il 2 1)) else none))) else (bif Nat.ble pc 39 then (bif Nat.ble pc 36 then (bif Nat.beq pc 36 then some (.inr (3, 13, 4, 1)) else none) else (bif Nat.beq pc 39 then some (.inl (o_il 4 2)) else none)) else (bif Nat.ble pc 41 then (bif Nat.beq pc 41 then some (.inl (o_cne 55)) else none) else (bif Nat.beq pc 44 then some (.inl (o_al 0 1)) else none)))) else (bif Nat.ble pc 51 then (bif Nat.ble pc 48 then (bif Nat.ble pc 45 then (bif Nat.beq pc 45 then some (.inl (o_gP 1 0)) else none) else (bif Nat.beq pc 48 then some (.inl (o_il 5 2)) else none)) else (bif Nat.ble pc 50 then (bif Nat.beq pc 50 then some (.inl (o_aald)) else none) else (bif Nat.beq pc 51 then some (.inl (o_gI 2 0)) else none))) else (bif Nat.ble pc 55 then (bif Nat.ble pc 54 then (bif Nat.beq pc 54 then some (.inr (0, 0, 0, 0)) else none) else (bif Nat.beq pc 55 then some (.inl (o_inc 5 1)) else none)) else (bif Nat.ble pc 58 then (bif Nat.beq pc 58 then some (.inl (o_goto 3)) else none) else (bif Nat.ble pc 61 then (bif Nat.beq pc 61 then some (.inl (oS 1 (s_push (.int (-1))))) else none) else (bif Nat.beq pc 62 then some (.inr (0, 0, 0, 0)) else none))))))
theorem k_12_0 : mOk M_12.1 M_12.2.1 M_12.2.2.1 M_12.2.2.2 0 (oS 1 (s_push (.int 0))) := ok_iconst dX1_findNear_0 (by decide)
theorem k_12_1 : mOk M_12.1 M_12.2.1 M_12.2.2.1 M_12.2.2.2 1 (o_is 5 2) := ok_istore dX1_findNear_1
theorem k_12_3 : mOk M_12.1 M_12.2.1 M_12.2.2.1 M_12.2.2.2 3 (o_il 5 2) := ok_iload dX1_findNear_3
theorem k_12_5 : mOk M_12.1 M_12.2.1 M_12.2.2.1 M_12.2.2.2 5 (o_al 0 1) := ok_aload_n dX1_findNear_5 rfl
theorem k_12_6 : mOk M_12.1 M_12.2.1 M_12.2.2.1 M_12.2.2.2 6 (o_gI 1 1) := ok_gI dX1_findNear_6 f_RX1_30 (Or.inl rfl)
theorem k_12_9 : mOk M_12.1 M_12.2.1 M_12.2.2.1 M_12.2.2.2 9 (o_cge 61) := ok_cge dX1_findNear_9 (by decide)
theorem k_12_12 : mOk M_12.1 M_12.2.1 M_12.2.2.1 M_12.2.2.2 12 (o_al 0 1) := ok_aload_n dX1_findNear_12 rfl
theorem k_12_13 : mOk M_12.1 M_12.2.1 M_12.2.2.1 M_12.2.2.2 13 (o_gP 1 0) := ok_gP dX1_findNear_13 f_RX1_11 rfl
theorem k_12_16 : mOk M_12.1 M_12.2.1 M_12.2.2.1 M_12.2.2.2 16 (o_il 5 2) := ok_iload dX1_findNear_16
theorem k_12_18 : mOk M_12.1 M_12.2.1 M_12.2.2.1 M_12.2.2.2 18 (o_aald) := ok_aald dX1_findNear_18
theorem k_12_19 : mOk M_12.1 M_12.2.1 M_12.2.2.1 M_12.2.2.2 19 (o_il 3 1) := ok_iload_n dX1_findNear_19 rfl
theorem k_12_23 : mOk M_12.1 M_12.2.1 M_12.2.2.1 M_12.2.2.2 23 (o_zeq 55) := ok_zeq dX1_findNear_23 (by decide)
theorem k_12_26 : mOk M_12.1 M_12.2.1 M_12.2.2.1 M_12.2.2.2 26 (o_al 0 1) := ok_aload_n dX1_findNear_26 rfl
theorem k_12_27 : mOk M_12.1 M_12.2.1 M_12.2.2.1 M_12.2.2.2 27 (o_al 0 1) := ok_aload_n dX1_findNear_27 rfl
theorem k_12_28 : mOk M_12.1 M_12.2.1 M_12.2.2.1 M_12.2.2.2 28 (o_gP 1 0) := ok_gP dX1_findNear_28 f_RX1_11 rfl
theorem k_12_31 : mOk M_12.1 M_12.2.1 M_12.2.2.1 M_12.2.2.2 31 (o_il 5 2) := ok_iload dX1_findNear_31
theorem k_12_33 : mOk M_12.1 M_12.2.1 M_12.2.2.1 M_12.2.2.2 33 (o_aald) := ok_aald dX1_findNear_33
theorem k_12_34 : mOk M_12.1 M_12.2.1 M_12.2.2.1 M_12.2.2.2 34 (o_il 1 1) := ok_iload_n dX1_findNear_34 rfl
theorem k_12_35 : mOk M_12.1 M_12.2.1 M_12.2.2.1 M_12.2.2.2 35 (o_il 2 1) := ok_iload_n dX1_findNear_35 rfl
theorem k_12_39 : mOk M_12.1 M_12.2.1 M_12.2.2.1 M_12.2.2.2 39 (o_il 4 2) := ok_iload dX1_findNear_39
theorem k_12_41 : mOk M_12.1 M_12.2.1 M_12.2.2.1 M_12.2.2.2 41 (o_cne 55) := ok_cne dX1_findNear_41 (by decide)
theorem k_12_44 : mOk M_12.1 M_12.2.1 M_12.2.2.1 M_12.2.2.2 44 (o_al 0 1) := ok_aload_n dX1_findNear_44 rfl
theorem k_12_45 : mOk M_12.1 M_12.2.1 M_12.2.2.1 M_12.2.2.2 45 (o_gP 1 0) := ok_gP dX1_findNear_45 f_RX1_11 rfl
theorem k_12_48 : mOk M_12.1 M_12.2.1 M_12.2.2.1 M_12.2.2.2 48 (o_il 5 2) := ok_iload dX1_findNear_48
theorem k_12_50 : mOk M_12.1 M_12.2.1 M_12.2.2.1 M_12.2.2.2 50 (o_aald) := ok_aald dX1_findNear_50
theorem k_12_51 : mOk M_12.1 M_12.2.1 M_12.2.2.1 M_12.2.2.2 51 (o_gI 2 0) := ok_gI dX1_findNear_51 f_RX1_18 (Or.inl rfl)
theorem k_12_55 : mOk M_12.1 M_12.2.1 M_12.2.2.1 M_12.2.2.2 55 (o_inc 5 1) := ok_iinc dX1_findNear_55 (by decide)
theorem k_12_58 : mOk M_12.1 M_12.2.1 M_12.2.2.1 M_12.2.2.2 58 (o_goto 3) := ok_goto dX1_findNear_58 (by decide)
theorem k_12_61 : mOk M_12.1 M_12.2.1 M_12.2.2.1 M_12.2.2.2 61 (oS 1 (s_push (.int (-1)))) := ok_iconst dX1_findNear_61 (by decide)
set_option maxRecDepth 20000 in
set_option maxHeartbeats 4000000 in
theorem tk_12 (l : Launch) (H9 : mThr l) (H10 : mSpl l) (pc : Nat) (q : mEnt) (h : tb_12 pc = some q) : EE l 12 pc q := nd h (fun h => nd h (fun h => nd h (fun h => nd h (fun h => nd h (fun h => lf (P := EE l 12) h k_12_0) (fun h => lf (P := EE l 12) h k_12_1)) (fun h => nd h (fun h => lf (P := EE l 12) h k_12_3) (fun h => lf (P := EE l 12) h k_12_5))) (fun h => nd h (fun h => nd h (fun h => lf (P := EE l 12) h k_12_6) (fun h => lf (P := EE l 12) h k_12_9)) (fun h => nd h (fun h => lf (P := EE l 12) h k_12_12) (fun h => lf (P := EE l 12) h k_12_13)))) (fun h => nd h (fun h => nd h (fun h => nd h (fun h => lf (P := EE l 12) h k_12_16) (fun h => lf (P := EE l 12) h k_12_18)) (fun h => nd h (fun h => lf (P := EE l 12) h k_12_19) (fun h => lf (P := EE l 12) h (EE_ca (by decide) (⟨m_1033, m_71, ⟨by decide, by decide⟩, by decide +kernel, ⟨by decide, by decide⟩, 60, 1, by decide +kernel, Or.inr (Or.inr (Or.inl ⟨rfl, rfl, dX1_findNear_20, m_1030, m_1031, _, rfl, by decide, m_1032⟩))⟩) rfl)))) (fun h => nd h (fun h => nd h (fun h => lf (P := EE l 12) h k_12_23) (fun h => lf (P := EE l 12) h k_12_26)) (fun h => nd h (fun h => lf (P := EE l 12) h k_12_27) (fun h => lf (P := EE l 12) h k_12_28))))) (fun h => nd h (fun h => nd h (fun h => nd h (fun h => nd h (fun h => lf (P := EE l 12) h k_12_31) (fun h => lf (P := EE l 12) h k_12_33)) (fun h => nd h (fun h => lf (P := EE l 12) h k_12_34) (fun h => lf (P := EE l 12) h k_12_35))) (fun h => nd h (fun h => nd h (fun h => lf (P := EE l 12) h (EE_ca (by decide) (⟨m_1037, m_72, ⟨by decide, by decide⟩, by decide +kernel, ⟨by decide, by decide⟩, 64, 3, by decide +kernel, Or.inr (Or.inr (Or.inl ⟨rfl, rfl, dX1_findNear_36, m_1034, m_1036, _, rfl, by decide, m_27⟩))⟩) rfl)) (fun h => lf (P := EE l 12) h k_12_39)) (fun h => nd h (fun h => lf (P := EE l 12) h k_12_41) (fun h => lf (P := EE l 12) h k_12_44)))) (fun h => nd h (fun h => nd h (fun h => nd h (fun h => lf (P := EE l 12) h k_12_45) (fun h => lf (P := EE l 12) h k_12_48)) (fun h => nd h (fun h => lf (P := EE l 12) h k_12_50) (fun h => lf (P := EE l 12) h k_12_51))) (fun h => nd h (fun h => nd h (fun h => lf (P := EE l 12) h (EE_re (Or.inl ⟨rfl, dX1_findNear_54, rfl⟩))) (fun h => lf (P := EE l 12) h k_12_55)) (fun h => nd h (fun h => lf (P := EE l 12) h k_12_58) (fun h => nd h (fun h => lf (P := EE l 12) h k_12_61) (fun h => lf (P := EE l 12) h (EE_re (Or.inl ⟨rfl, dX1_findNear_62, rfl⟩))))))))
theorem dX1_nearer_0 : decode cX1_nearer 0 = .ok (.iconst 0, 1) := by decide +kernel
theorem dX1_nearer_1 : decode cX1_nearer 1 = .ok (.istore 4, 2) := by decide +kernel
theorem dX1_nearer_3 : decode cX1_nearer 3 = .ok (.iconst 0, 1) := by decide +kernel
theorem dX1_nearer_4 : decode cX1_nearer 4 = .ok (.istore 5, 2) := by decide +kernel
theorem dX1_nearer_6 : decode cX1_nearer 6 = .ok (.iload 5, 2) := by decide +kernel
theorem dX1_nearer_8 : decode cX1_nearer 8 = .ok (.aload_n 0, 1) := by decide +kernel
theorem dX1_nearer_9 : decode cX1_nearer 9 = .ok (.getfield 30, 3) := by decide +kernel
theorem dX1_nearer_12 : decode cX1_nearer 12 = .ok (.if_icmp .ge 45, 3) := by decide +kernel
theorem dX1_nearer_15 : decode cX1_nearer 15 = .ok (.aload_n 0, 1) := by decide +kernel
theorem dX1_nearer_16 : decode cX1_nearer 16 = .ok (.getfield 11, 3) := by decide +kernel
theorem dX1_nearer_19 : decode cX1_nearer 19 = .ok (.iload 5, 2) := by decide +kernel
theorem dX1_nearer_21 : decode cX1_nearer 21 = .ok (.aaload, 1) := by decide +kernel
theorem dX1_nearer_22 : decode cX1_nearer 22 = .ok (.aload_n 1, 1) := by decide +kernel
theorem dX1_nearer_23 : decode cX1_nearer 23 = .ok (.getfield 68, 3) := by decide +kernel
theorem dX1_nearer_26 : decode cX1_nearer 26 = .ok (.invokevirtual 60, 3) := by decide +kernel
theorem dX1_nearer_29 : decode cX1_nearer 29 = .ok (.ifCond .eq 22, 3) := by decide +kernel
theorem dX1_nearer_32 : decode cX1_nearer 32 = .ok (.aload_n 0, 1) := by decide +kernel
theorem dX1_nearer_33 : decode cX1_nearer 33 = .ok (.getfield 11, 3) := by decide +kernel
theorem dX1_nearer_36 : decode cX1_nearer 36 = .ok (.iload 5, 2) := by decide +kernel
theorem dX1_nearer_38 : decode cX1_nearer 38 = .ok (.aaload, 1) := by decide +kernel
theorem dX1_nearer_39 : decode cX1_nearer 39 = .ok (.aload_n 1, 1) := by decide +kernel
theorem dX1_nearer_40 : decode cX1_nearer 40 = .ok (.iload_n 2, 1) := by decide +kernel
theorem dX1_nearer_41 : decode cX1_nearer 41 = .ok (.iload_n 3, 1) := by decide +kernel
theorem dX1_nearer_42 : decode cX1_nearer 42 = .ok (.invokevirtual 71, 3) := by decide +kernel
theorem dX1_nearer_45 : decode cX1_nearer 45 = .ok (.ifCond .eq 6, 3) := by decide +kernel
theorem dX1_nearer_48 : decode cX1_nearer 48 = .ok (.iinc 4 1, 3) := by decide +kernel
theorem dX1_nearer_51 : decode cX1_nearer 51 = .ok (.iinc 5 1, 3) := by decide +kernel
theorem dX1_nearer_54 : decode cX1_nearer 54 = .ok (.goto (-48), 3) := by decide +kernel
theorem dX1_nearer_57 : decode cX1_nearer 57 = .ok (.iload 4, 2) := by decide +kernel
theorem dX1_nearer_59 : decode cX1_nearer 59 = .ok (.ireturn, 1) := by decide +kernel
def tb_13 (pc : Nat) : Option mEnt := bif Nat.ble pc 26 then (bif Nat.ble pc 9 then (bif Nat.ble pc 3 then (bif Nat.ble pc 0 then (bif Nat.beq pc 0 then some (.inl (oS 1 (s_push (.int 0)))) else none) else (bif Nat.ble pc 1 then (bif Nat.beq pc 1 then some (.inl (o_is 4 2)) else none) else (bif Nat.beq pc 3 then some (.inl (oS 1 (s_push (.int 0)))) else none))) else (bif Nat.ble pc 6 then (bif Nat.ble pc 4 then (bif Nat.beq pc 4 then some (.inl (o_is 5 2)) else none) else (bif Nat.beq pc 6 then some (.inl (o_il 5 2)) else none)) else (bif Nat.ble pc 8 then (bif Nat.beq pc 8 then some (.inl (o_al 0 1)) else none) else (bif Nat.beq pc 9 then some (.inl (o_gI 1 1)) else none)))) else (bif Nat.ble pc 19 then (bif Nat.ble pc 15 then (bif Nat.ble pc 12 then (bif Nat.beq pc 12 then some (.inl (o_cge 57)) else none) else (bif Nat.beq pc 15 then some (.inl (o_al 0 1)) else none)) else (bif Nat.ble pc 16 then (bif Nat.beq pc 16 then some (.inl (o_gP 1 0)) else none) else (bif Nat.beq pc 19 then some (.inl (o_il 5 2)) else none))) else (bif Nat.ble pc 22 then (bif Nat.ble pc 21 then (bif Nat.beq pc 21 then some (.inl (o_aald)) else none) else (bif Nat.beq pc 22 then some (.inl (o_al 1 1)) else none)) else (bif Nat.ble pc 23 then (bif Nat.beq pc 23 then some (.inl (o_gI 2 2)) else none) else (bif Nat.beq pc 26 then some (.inr (3, 38, 2, 2)) else none))))) else (bif Nat.ble pc 40 then (bif Nat.ble pc 33 then (bif Nat.ble pc 29 then (bif Nat.beq pc 29 then some (.inl (o_zeq 51)) else none) else (bif Nat.ble pc 32 then (bif Nat.beq pc 32 then some (.inl (o_al 0 1)) else none) else (bif Nat.beq pc 33 then some (.inl (o_gP 1 0)) else none))) else (bif Nat.ble pc 38 then (bif Nat.ble pc 36 then (bif Nat.beq pc 36 then some (.inl (o_il 5 2)) else none) else (bif Nat.beq pc 38 then some (.inl (o_aald)) else none)) else (bif Nat.ble pc 39 then (bif Nat.beq pc 39 then some (.inl (o_al 1 1)) else none) else (bif Nat.beq pc 40 then some (.inl (o_il 2 1)) else none)))) else (bif Nat.ble pc 48 then (bif Nat.ble pc 42 then (bif Nat.ble pc 41 then (bif Nat.beq pc 41 then some (.inl (o_il 3 1)) else none) else (bif Nat.beq pc 42 then some (.inr (3, 36, 4, 2)) else none)) else (bif Nat.ble pc 45 then (bif Nat.beq pc 45 then some (.inl (o_zeq 51)) else none) else (bif Nat.beq pc 48 then some (.inl (o_inc 4 1)) else none))) else (bif Nat.ble pc 54 then (bif Nat.ble pc 51 then (bif Nat.beq pc 51 then some (.inl (o_inc 5 1)) else none) else (bif Nat.beq pc 54 then some (.inl (o_goto 6)) else none)) else (bif Nat.ble pc 57 then (bif Nat.beq pc 57 then some (.inl (o_il 4 2)) else none) else (bif Nat.beq pc 59 then some (.inr (0, 0, 0, 0)) else none)))))
theorem k_13_0 : mOk M_13.1 M_13.2.1 M_13.2.2.1 M_13.2.2.2 0 (oS 1 (s_push (.int 0))) := ok_iconst dX1_nearer_0 (by decide)
theorem k_13_1 : mOk M_13.1 M_13.2.1 M_13.2.2.1 M_13.2.2.2 1 (o_is 4 2) := ok_istore dX1_nearer_1
theorem k_13_3 : mOk M_13.1 M_13.2.1 M_13.2.2.1 M_13.2.2.2 3 (oS 1 (s_push (.int 0))) := ok_iconst dX1_nearer_3 (by decide)
theorem k_13_4 : mOk M_13.1 M_13.2.1 M_13.2.2.1 M_13.2.2.2 4 (o_is 5 2) := ok_istore dX1_nearer_4
theorem k_13_6 : mOk M_13.1 M_13.2.1 M_13.2.2.1 M_13.2.2.2 6 (o_il 5 2) := ok_iload dX1_nearer_6
theorem k_13_8 : mOk M_13.1 M_13.2.1 M_13.2.2.1 M_13.2.2.2 8 (o_al 0 1) := ok_aload_n dX1_nearer_8 rfl
theorem k_13_9 : mOk M_13.1 M_13.2.1 M_13.2.2.1 M_13.2.2.2 9 (o_gI 1 1) := ok_gI dX1_nearer_9 f_RX1_30 (Or.inl rfl)
theorem k_13_12 : mOk M_13.1 M_13.2.1 M_13.2.2.1 M_13.2.2.2 12 (o_cge 57) := ok_cge dX1_nearer_12 (by decide)
theorem k_13_15 : mOk M_13.1 M_13.2.1 M_13.2.2.1 M_13.2.2.2 15 (o_al 0 1) := ok_aload_n dX1_nearer_15 rfl
theorem k_13_16 : mOk M_13.1 M_13.2.1 M_13.2.2.1 M_13.2.2.2 16 (o_gP 1 0) := ok_gP dX1_nearer_16 f_RX1_11 rfl
theorem k_13_19 : mOk M_13.1 M_13.2.1 M_13.2.2.1 M_13.2.2.2 19 (o_il 5 2) := ok_iload dX1_nearer_19
theorem k_13_21 : mOk M_13.1 M_13.2.1 M_13.2.2.1 M_13.2.2.2 21 (o_aald) := ok_aald dX1_nearer_21
theorem k_13_22 : mOk M_13.1 M_13.2.1 M_13.2.2.1 M_13.2.2.2 22 (o_al 1 1) := ok_aload_n dX1_nearer_22 rfl
theorem k_13_23 : mOk M_13.1 M_13.2.1 M_13.2.2.1 M_13.2.2.2 23 (o_gI 2 2) := ok_gI dX1_nearer_23 f_RX1_68 (Or.inl rfl)
theorem k_13_29 : mOk M_13.1 M_13.2.1 M_13.2.2.1 M_13.2.2.2 29 (o_zeq 51) := ok_zeq dX1_nearer_29 (by decide)
theorem k_13_32 : mOk M_13.1 M_13.2.1 M_13.2.2.1 M_13.2.2.2 32 (o_al 0 1) := ok_aload_n dX1_nearer_32 rfl
theorem k_13_33 : mOk M_13.1 M_13.2.1 M_13.2.2.1 M_13.2.2.2 33 (o_gP 1 0) := ok_gP dX1_nearer_33 f_RX1_11 rfl
theorem k_13_36 : mOk M_13.1 M_13.2.1 M_13.2.2.1 M_13.2.2.2 36 (o_il 5 2) := ok_iload dX1_nearer_36
theorem k_13_38 : mOk M_13.1 M_13.2.1 M_13.2.2.1 M_13.2.2.2 38 (o_aald) := ok_aald dX1_nearer_38
theorem k_13_39 : mOk M_13.1 M_13.2.1 M_13.2.2.1 M_13.2.2.2 39 (o_al 1 1) := ok_aload_n dX1_nearer_39 rfl
theorem k_13_40 : mOk M_13.1 M_13.2.1 M_13.2.2.1 M_13.2.2.2 40 (o_il 2 1) := ok_iload_n dX1_nearer_40 rfl
theorem k_13_41 : mOk M_13.1 M_13.2.1 M_13.2.2.1 M_13.2.2.2 41 (o_il 3 1) := ok_iload_n dX1_nearer_41 rfl
theorem k_13_45 : mOk M_13.1 M_13.2.1 M_13.2.2.1 M_13.2.2.2 45 (o_zeq 51) := ok_zeq dX1_nearer_45 (by decide)
theorem k_13_48 : mOk M_13.1 M_13.2.1 M_13.2.2.1 M_13.2.2.2 48 (o_inc 4 1) := ok_iinc dX1_nearer_48 (by decide)
theorem k_13_51 : mOk M_13.1 M_13.2.1 M_13.2.2.1 M_13.2.2.2 51 (o_inc 5 1) := ok_iinc dX1_nearer_51 (by decide)
theorem k_13_54 : mOk M_13.1 M_13.2.1 M_13.2.2.1 M_13.2.2.2 54 (o_goto 6) := ok_goto dX1_nearer_54 (by decide)
theorem k_13_57 : mOk M_13.1 M_13.2.1 M_13.2.2.1 M_13.2.2.2 57 (o_il 4 2) := ok_iload dX1_nearer_57
set_option maxRecDepth 20000 in
set_option maxHeartbeats 4000000 in
theorem tk_13 (l : Launch) (H9 : mThr l) (H10 : mSpl l) (pc : Nat) (q : mEnt) (h : tb_13 pc = some q) : EE l 13 pc q := nd h (fun h => nd h (fun h => nd h (fun h => nd h (fun h => lf (P := EE l 13) h k_13_0) (fun h => nd h (fun h => lf (P := EE l 13) h k_13_1) (fun h => lf (P := EE l 13) h k_13_3))) (fun h => nd h (fun h => nd h (fun h => lf (P := EE l 13) h k_13_4) (fun h => lf (P := EE l 13) h k_13_6)) (fun h => nd h (fun h => lf (P := EE l 13) h k_13_8) (fun h => lf (P := EE l 13) h k_13_9)))) (fun h => nd h (fun h => nd h (fun h => nd h (fun h => lf (P := EE l 13) h k_13_12) (fun h => lf (P := EE l 13) h k_13_15)) (fun h => nd h (fun h => lf (P := EE l 13) h k_13_16) (fun h => lf (P := EE l 13) h k_13_19))) (fun h => nd h (fun h => nd h (fun h => lf (P := EE l 13) h k_13_21) (fun h => lf (P := EE l 13) h k_13_22)) (fun h => nd h (fun h => lf (P := EE l 13) h k_13_23) (fun h => lf (P := EE l 13) h (EE_ca (by decide) (⟨m_1033, m_71, ⟨by decide, by decide⟩, by decide +kernel, ⟨by decide, by decide⟩, 60, 1, by decide +kernel, Or.inr (Or.inr (Or.inl ⟨rfl, rfl, dX1_nearer_26, m_1030, m_1031, _, rfl, by decide, m_1032⟩))⟩) rfl)))))) (fun h => nd h (fun h => nd h (fun h => nd h (fun h => lf (P := EE l 13) h k_13_29) (fun h => nd h (fun h => lf (P := EE l 13) h k_13_32) (fun h => lf (P := EE l 13) h k_13_33))) (fun h => nd h (fun h => nd h (fun h => lf (P := EE l 13) h k_13_36) (fun h => lf (P := EE l 13) h k_13_38)) (fun h => nd h (fun h => lf (P := EE l 13) h k_13_39) (fun h => lf (P := EE l 13) h k_13_40)))) (fun h => nd h (fun h => nd h (fun h => nd h (fun h => lf (P := EE l 13) h k_13_41) (fun h => lf (P := EE l 13) h (EE_ca (by decide) (⟨m_1041, m_71, ⟨by decide, by decide⟩, by decide +kernel, ⟨by decide, by decide⟩, 71, 3, by decide +kernel, Or.inr (Or.inr (Or.inl ⟨rfl, rfl, dX1_nearer_42, m_1038, m_1039, _, rfl, by decide, m_1040⟩))⟩) rfl))) (fun h => nd h (fun h => lf (P := EE l 13) h k_13_45) (fun h => lf (P := EE l 13) h k_13_48))) (fun h => nd h (fun h => nd h (fun h => lf (P := EE l 13) h k_13_51) (fun h => lf (P := EE l 13) h k_13_54)) (fun h => nd h (fun h => lf (P := EE l 13) h k_13_57) (fun h => lf (P := EE l 13) h (EE_re (Or.inl ⟨rfl, dX1_nearer_59, rfl⟩)))))))
