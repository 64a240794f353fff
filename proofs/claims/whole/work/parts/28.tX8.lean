/-! tables of X8 (written by a program) -/
theorem dX8_init_0 : decode cX8_init 0 = .ok (.aload_n 0, 1) := by decide +kernel
theorem dX8_init_1 : decode cX8_init 1 = .ok (.invokespecial 3, 3) := by decide +kernel
theorem dX8_init_4 : decode cX8_init 4 = .ok (.return_, 1) := by decide +kernel
def tb_77 (pc : Nat) : Option mEnt := bif Nat.ble pc 0 then (bif Nat.beq pc 0 then some (.inl (o_al 0 1)) else none) else (bif Nat.ble pc 1 then (bif Nat.beq pc 1 then some (.inr (5, 0, 0, 0)) else none) else (bif Nat.beq pc 4 then some (.inr (0, 0, 0, 3)) else none))
theorem k_77_0 : mOk M_77.1 M_77.2.1 M_77.2.2.1 M_77.2.2.2 0 (o_al 0 1) := ok_aload_n dX8_init_0 rfl
set_option maxRecDepth 20000 in
set_option maxHeartbeats 4000000 in
theorem tk_77 (l : Launch) (H9 : mThr l) (H10 : mSpl l) (pc : Nat) (q : mEnt) (h : tb_77 pc = some q) : EE l 77 pc q := nd h (fun h => lf (P := EE l 77) h k_77_0) (fun h => nd h (fun h => lf (P := EE l 77) h (EE_ob (⟨3, dX8_init_1, m_220, m_97, m_98, by decide, by decide⟩))) (fun h => lf (P := EE l 77) h (EE_re (Or.inr (Or.inr (Or.inr (Or.inr ⟨rfl, dX8_init_4, rfl⟩)))))))
theorem dX8_set_0 : decode cX8_set 0 = .ok (.aload_n 0, 1) := by decide +kernel
theorem dX8_set_1 : decode cX8_set 1 = .ok (.iload_n 1, 1) := by decide +kernel
theorem dX8_set_2 : decode cX8_set 2 = .ok (.iconst 2, 1) := by decide +kernel
theorem dX8_set_3 : decode cX8_set 3 = .ok (.if_icmp .ge 7, 3) := by decide +kernel
theorem dX8_set_6 : decode cX8_set 6 = .ok (.iconst 1, 1) := by decide +kernel
theorem dX8_set_7 : decode cX8_set 7 = .ok (.goto 4, 3) := by decide +kernel
theorem dX8_set_10 : decode cX8_set 10 = .ok (.iconst 0, 1) := by decide +kernel
theorem dX8_set_11 : decode cX8_set 11 = .ok (.putfield 9, 3) := by decide +kernel
theorem dX8_set_14 : decode cX8_set 14 = .ok (.aload_n 0, 1) := by decide +kernel
theorem dX8_set_15 : decode cX8_set 15 = .ok (.iload_n 1, 1) := by decide +kernel
theorem dX8_set_16 : decode cX8_set 16 = .ok (.iconst 2, 1) := by decide +kernel
theorem dX8_set_17 : decode cX8_set 17 = .ok (.irem, 1) := by decide +kernel
theorem dX8_set_18 : decode cX8_set 18 = .ok (.ifCond .ne 7, 3) := by decide +kernel
theorem dX8_set_21 : decode cX8_set 21 = .ok (.iconst 1, 1) := by decide +kernel
theorem dX8_set_22 : decode cX8_set 22 = .ok (.goto 4, 3) := by decide +kernel
theorem dX8_set_25 : decode cX8_set 25 = .ok (.iconst 0, 1) := by decide +kernel
theorem dX8_set_26 : decode cX8_set 26 = .ok (.putfield 15, 3) := by decide +kernel
theorem dX8_set_29 : decode cX8_set 29 = .ok (.aload_n 0, 1) := by decide +kernel
theorem dX8_set_30 : decode cX8_set 30 = .ok (.getfield 9, 3) := by decide +kernel
theorem dX8_set_33 : decode cX8_set 33 = .ok (.ifCond .eq 7, 3) := by decide +kernel
theorem dX8_set_36 : decode cX8_set 36 = .ok (.iload_n 2, 1) := by decide +kernel
theorem dX8_set_37 : decode cX8_set 37 = .ok (.goto 4, 3) := by decide +kernel
theorem dX8_set_40 : decode cX8_set 40 = .ok (.iload_n 3, 1) := by decide +kernel
theorem dX8_set_41 : decode cX8_set 41 = .ok (.istore 4, 2) := by decide +kernel
theorem dX8_set_43 : decode cX8_set 43 = .ok (.aload_n 0, 1) := by decide +kernel
theorem dX8_set_44 : decode cX8_set 44 = .ok (.aload_n 0, 1) := by decide +kernel
theorem dX8_set_45 : decode cX8_set 45 = .ok (.getfield 15, 3) := by decide +kernel
theorem dX8_set_48 : decode cX8_set 48 = .ok (.ifCond .eq 11, 3) := by decide +kernel
theorem dX8_set_51 : decode cX8_set 51 = .ok (.iload 4, 2) := by decide +kernel
theorem dX8_set_53 : decode cX8_set 53 = .ok (.bipush 8, 2) := by decide +kernel
theorem dX8_set_55 : decode cX8_set 55 = .ok (.isub, 1) := by decide +kernel
theorem dX8_set_56 : decode cX8_set 56 = .ok (.goto 12, 3) := by decide +kernel
theorem dX8_set_59 : decode cX8_set 59 = .ok (.iload 4, 2) := by decide +kernel
theorem dX8_set_61 : decode cX8_set 61 = .ok (.sipush 256, 3) := by decide +kernel
theorem dX8_set_64 : decode cX8_set 64 = .ok (.iadd, 1) := by decide +kernel
theorem dX8_set_65 : decode cX8_set 65 = .ok (.bipush 8, 2) := by decide +kernel
theorem dX8_set_67 : decode cX8_set 67 = .ok (.iadd, 1) := by decide +kernel
theorem dX8_set_68 : decode cX8_set 68 = .ok (.putfield 18, 3) := by decide +kernel
theorem dX8_set_71 : decode cX8_set 71 = .ok (.return_, 1) := by decide +kernel
def tb_78 (pc : Nat) : Option mEnt := bif Nat.ble pc 30 then (bif Nat.ble pc 14 then (bif Nat.ble pc 3 then (bif Nat.ble pc 1 then (bif Nat.ble pc 0 then (bif Nat.beq pc 0 then some (.inl (o_al 0 1)) else none) else (bif Nat.beq pc 1 then some (.inl (o_il 1 1)) else none)) else (bif Nat.ble pc 2 then (bif Nat.beq pc 2 then some (.inl (oS 1 (s_push (.int 2)))) else none) else (bif Nat.beq pc 3 then some (.inl (o_cge 10)) else none))) else (bif Nat.ble pc 7 then (bif Nat.ble pc 6 then (bif Nat.beq pc 6 then some (.inl (oS 1 (s_push (.int 1)))) else none) else (bif Nat.beq pc 7 then some (.inl (o_goto 11)) else none)) else (bif Nat.ble pc 10 then (bif Nat.beq pc 10 then some (.inl (oS 1 (s_push (.int 0)))) else none) else (bif Nat.ble pc 11 then (bif Nat.beq pc 11 then some (.inl (o_pZ 8 0)) else none) else (bif Nat.beq pc 14 then some (.inl (o_al 0 1)) else none))))) else (bif Nat.ble pc 21 then (bif Nat.ble pc 16 then (bif Nat.ble pc 15 then (bif Nat.beq pc 15 then some (.inl (o_il 1 1)) else none) else (bif Nat.beq pc 16 then some (.inl (oS 1 (s_push (.int 2)))) else none)) else (bif Nat.ble pc 17 then (bif Nat.beq pc 17 then some (.inl (oS 1 (s_iiz (fun a b => a - a / b * b)))) else none) else (bif Nat.ble pc 18 then (bif Nat.beq pc 18 then some (.inl (o_zne 25)) else none) else (bif Nat.beq pc 21 then some (.inl (oS 1 (s_push (.int 1)))) else none)))) else (bif Nat.ble pc 25 then (bif Nat.ble pc 22 then (bif Nat.beq pc 22 then some (.inl (o_goto 26)) else none) else (bif Nat.beq pc 25 then some (.inl (oS 1 (s_push (.int 0)))) else none)) else (bif Nat.ble pc 26 then (bif Nat.beq pc 26 then some (.inl (o_pZ 8 1)) else none) else (bif Nat.ble pc 29 then (bif Nat.beq pc 29 then some (.inl (o_al 0 1)) else none) else (bif Nat.beq pc 30 then some (.inl (o_gI 8 0)) else none)))))) else (bif Nat.ble pc 51 then (bif Nat.ble pc 41 then (bif Nat.ble pc 36 then (bif Nat.ble pc 33 then (bif Nat.beq pc 33 then some (.inl (o_zeq 40)) else none) else (bif Nat.beq pc 36 then some (.inl (o_il 2 1)) else none)) else (bif Nat.ble pc 37 then (bif Nat.beq pc 37 then some (.inl (o_goto 41)) else none) else (bif Nat.ble pc 40 then (bif Nat.beq pc 40 then some (.inl (o_il 3 1)) else none) else (bif Nat.beq pc 41 then some (.inl (o_is 4 2)) else none)))) else (bif Nat.ble pc 44 then (bif Nat.ble pc 43 then (bif Nat.beq pc 43 then some (.inl (o_al 0 1)) else none) else (bif Nat.beq pc 44 then some (.inl (o_al 0 1)) else none)) else (bif Nat.ble pc 45 then (bif Nat.beq pc 45 then some (.inl (o_gI 8 1)) else none) else (bif Nat.ble pc 48 then (bif Nat.beq pc 48 then some (.inl (o_zeq 59)) else none) else (bif Nat.beq pc 51 then some (.inl (o_il 4 2)) else none))))) else (bif Nat.ble pc 61 then (bif Nat.ble pc 55 then (bif Nat.ble pc 53 then (bif Nat.beq pc 53 then some (.inl (oS 2 (s_push (.int 8)))) else none) else (bif Nat.beq pc 55 then some (.inl (oS 1 (s_ii (fun a b => a - b)))) else none)) else (bif Nat.ble pc 56 then (bif Nat.beq pc 56 then some (.inl (o_goto 68)) else none) else (bif Nat.ble pc 59 then (bif Nat.beq pc 59 then some (.inl (o_il 4 2)) else none) else (bif Nat.beq pc 61 then some (.inl (oS 3 (s_push (.int 256)))) else none)))) else (bif Nat.ble pc 65 then (bif Nat.ble pc 64 then (bif Nat.beq pc 64 then some (.inl (oS 1 (s_ii (fun a b => a + b)))) else none) else (bif Nat.beq pc 65 then some (.inl (oS 2 (s_push (.int 8)))) else none)) else (bif Nat.ble pc 67 then (bif Nat.beq pc 67 then some (.inl (oS 1 (s_ii (fun a b => a + b)))) else none) else (bif Nat.ble pc 68 then (bif Nat.beq pc 68 then some (.inl (o_pI 8 2)) else none) else (bif Nat.beq pc 71 then some (.inr (0, 0, 0, 3)) else none))))))
theorem k_78_0 : mOk M_78.1 M_78.2.1 M_78.2.2.1 M_78.2.2.2 0 (o_al 0 1) := ok_aload_n dX8_set_0 rfl
theorem k_78_1 : mOk M_78.1 M_78.2.1 M_78.2.2.1 M_78.2.2.2 1 (o_il 1 1) := ok_iload_n dX8_set_1 rfl
theorem k_78_2 : mOk M_78.1 M_78.2.1 M_78.2.2.1 M_78.2.2.2 2 (oS 1 (s_push (.int 2))) := ok_iconst dX8_set_2 (by decide)
theorem k_78_3 : mOk M_78.1 M_78.2.1 M_78.2.2.1 M_78.2.2.2 3 (o_cge 10) := ok_cge dX8_set_3 (by decide)
theorem k_78_6 : mOk M_78.1 M_78.2.1 M_78.2.2.1 M_78.2.2.2 6 (oS 1 (s_push (.int 1))) := ok_iconst dX8_set_6 (by decide)
theorem k_78_7 : mOk M_78.1 M_78.2.1 M_78.2.2.1 M_78.2.2.2 7 (o_goto 11) := ok_goto dX8_set_7 (by decide)
theorem k_78_10 : mOk M_78.1 M_78.2.1 M_78.2.2.1 M_78.2.2.2 10 (oS 1 (s_push (.int 0))) := ok_iconst dX8_set_10 (by decide)
theorem k_78_11 : mOk M_78.1 M_78.2.1 M_78.2.2.1 M_78.2.2.2 11 (o_pZ 8 0) := ok_pZ dX8_set_11 (mFw_of f_RX8_9_c (Or.inl rfl)) rfl
theorem k_78_14 : mOk M_78.1 M_78.2.1 M_78.2.2.1 M_78.2.2.2 14 (o_al 0 1) := ok_aload_n dX8_set_14 rfl
theorem k_78_15 : mOk M_78.1 M_78.2.1 M_78.2.2.1 M_78.2.2.2 15 (o_il 1 1) := ok_iload_n dX8_set_15 rfl
theorem k_78_16 : mOk M_78.1 M_78.2.1 M_78.2.2.1 M_78.2.2.2 16 (oS 1 (s_push (.int 2))) := ok_iconst dX8_set_16 (by decide)
theorem k_78_17 : mOk M_78.1 M_78.2.1 M_78.2.2.1 M_78.2.2.2 17 (oS 1 (s_iiz (fun a b => a - a / b * b))) := ok_irem dX8_set_17
theorem k_78_18 : mOk M_78.1 M_78.2.1 M_78.2.2.1 M_78.2.2.2 18 (o_zne 25) := ok_zne dX8_set_18 (by decide)
theorem k_78_21 : mOk M_78.1 M_78.2.1 M_78.2.2.1 M_78.2.2.2 21 (oS 1 (s_push (.int 1))) := ok_iconst dX8_set_21 (by decide)
theorem k_78_22 : mOk M_78.1 M_78.2.1 M_78.2.2.1 M_78.2.2.2 22 (o_goto 26) := ok_goto dX8_set_22 (by decide)
theorem k_78_25 : mOk M_78.1 M_78.2.1 M_78.2.2.1 M_78.2.2.2 25 (oS 1 (s_push (.int 0))) := ok_iconst dX8_set_25 (by decide)
theorem k_78_26 : mOk M_78.1 M_78.2.1 M_78.2.2.1 M_78.2.2.2 26 (o_pZ 8 1) := ok_pZ dX8_set_26 (mFw_of f_RX8_15_c (Or.inl rfl)) rfl
theorem k_78_29 : mOk M_78.1 M_78.2.1 M_78.2.2.1 M_78.2.2.2 29 (o_al 0 1) := ok_aload_n dX8_set_29 rfl
theorem k_78_30 : mOk M_78.1 M_78.2.1 M_78.2.2.1 M_78.2.2.2 30 (o_gI 8 0) := ok_gI dX8_set_30 f_RX8_9 (Or.inr rfl)
theorem k_78_33 : mOk M_78.1 M_78.2.1 M_78.2.2.1 M_78.2.2.2 33 (o_zeq 40) := ok_zeq dX8_set_33 (by decide)
theorem k_78_36 : mOk M_78.1 M_78.2.1 M_78.2.2.1 M_78.2.2.2 36 (o_il 2 1) := ok_iload_n dX8_set_36 rfl
theorem k_78_37 : mOk M_78.1 M_78.2.1 M_78.2.2.1 M_78.2.2.2 37 (o_goto 41) := ok_goto dX8_set_37 (by decide)
theorem k_78_40 : mOk M_78.1 M_78.2.1 M_78.2.2.1 M_78.2.2.2 40 (o_il 3 1) := ok_iload_n dX8_set_40 rfl
theorem k_78_41 : mOk M_78.1 M_78.2.1 M_78.2.2.1 M_78.2.2.2 41 (o_is 4 2) := ok_istore dX8_set_41
theorem k_78_43 : mOk M_78.1 M_78.2.1 M_78.2.2.1 M_78.2.2.2 43 (o_al 0 1) := ok_aload_n dX8_set_43 rfl
theorem k_78_44 : mOk M_78.1 M_78.2.1 M_78.2.2.1 M_78.2.2.2 44 (o_al 0 1) := ok_aload_n dX8_set_44 rfl
theorem k_78_45 : mOk M_78.1 M_78.2.1 M_78.2.2.1 M_78.2.2.2 45 (o_gI 8 1) := ok_gI dX8_set_45 f_RX8_15 (Or.inr rfl)
theorem k_78_48 : mOk M_78.1 M_78.2.1 M_78.2.2.1 M_78.2.2.2 48 (o_zeq 59) := ok_zeq dX8_set_48 (by decide)
theorem k_78_51 : mOk M_78.1 M_78.2.1 M_78.2.2.1 M_78.2.2.2 51 (o_il 4 2) := ok_iload dX8_set_51
theorem k_78_53 : mOk M_78.1 M_78.2.1 M_78.2.2.1 M_78.2.2.2 53 (oS 2 (s_push (.int 8))) := ok_bipush dX8_set_53 (by decide)
theorem k_78_55 : mOk M_78.1 M_78.2.1 M_78.2.2.1 M_78.2.2.2 55 (oS 1 (s_ii (fun a b => a - b))) := ok_isub dX8_set_55
theorem k_78_56 : mOk M_78.1 M_78.2.1 M_78.2.2.1 M_78.2.2.2 56 (o_goto 68) := ok_goto dX8_set_56 (by decide)
theorem k_78_59 : mOk M_78.1 M_78.2.1 M_78.2.2.1 M_78.2.2.2 59 (o_il 4 2) := ok_iload dX8_set_59
theorem k_78_61 : mOk M_78.1 M_78.2.1 M_78.2.2.1 M_78.2.2.2 61 (oS 3 (s_push (.int 256))) := ok_sipush dX8_set_61 (by decide)
theorem k_78_64 : mOk M_78.1 M_78.2.1 M_78.2.2.1 M_78.2.2.2 64 (oS 1 (s_ii (fun a b => a + b))) := ok_iadd dX8_set_64
theorem k_78_65 : mOk M_78.1 M_78.2.1 M_78.2.2.1 M_78.2.2.2 65 (oS 2 (s_push (.int 8))) := ok_bipush dX8_set_65 (by decide)
theorem k_78_67 : mOk M_78.1 M_78.2.1 M_78.2.2.1 M_78.2.2.2 67 (oS 1 (s_ii (fun a b => a + b))) := ok_iadd dX8_set_67
theorem k_78_68 : mOk M_78.1 M_78.2.1 M_78.2.2.1 M_78.2.2.2 68 (o_pI 8 2) := ok_pI dX8_set_68 (mFw_of f_RX8_18_c (Or.inl rfl)) rfl
set_option maxRecDepth 20000 in
set_option maxHeartbeats 4000000 in
theorem tk_78 (l : Launch) (H9 : mThr l) (H10 : mSpl l) (pc : Nat) (q : mEnt) (h : tb_78 pc = some q) : EE l 78 pc q := nd h (fun h => nd h (fun h => nd h (fun h => nd h (fun h => nd h (fun h => lf (P := EE l 78) h k_78_0) (fun h => lf (P := EE l 78) h k_78_1)) (fun h => nd h (fun h => lf (P := EE l 78) h k_78_2) (fun h => lf (P := EE l 78) h k_78_3))) (fun h => nd h (fun h => nd h (fun h => lf (P := EE l 78) h k_78_6) (fun h => lf (P := EE l 78) h k_78_7)) (fun h => nd h (fun h => lf (P := EE l 78) h k_78_10) (fun h => nd h (fun h => lf (P := EE l 78) h k_78_11) (fun h => lf (P := EE l 78) h k_78_14))))) (fun h => nd h (fun h => nd h (fun h => nd h (fun h => lf (P := EE l 78) h k_78_15) (fun h => lf (P := EE l 78) h k_78_16)) (fun h => nd h (fun h => lf (P := EE l 78) h k_78_17) (fun h => nd h (fun h => lf (P := EE l 78) h k_78_18) (fun h => lf (P := EE l 78) h k_78_21)))) (fun h => nd h (fun h => nd h (fun h => lf (P := EE l 78) h k_78_22) (fun h => lf (P := EE l 78) h k_78_25)) (fun h => nd h (fun h => lf (P := EE l 78) h k_78_26) (fun h => nd h (fun h => lf (P := EE l 78) h k_78_29) (fun h => lf (P := EE l 78) h k_78_30)))))) (fun h => nd h (fun h => nd h (fun h => nd h (fun h => nd h (fun h => lf (P := EE l 78) h k_78_33) (fun h => lf (P := EE l 78) h k_78_36)) (fun h => nd h (fun h => lf (P := EE l 78) h k_78_37) (fun h => nd h (fun h => lf (P := EE l 78) h k_78_40) (fun h => lf (P := EE l 78) h k_78_41)))) (fun h => nd h (fun h => nd h (fun h => lf (P := EE l 78) h k_78_43) (fun h => lf (P := EE l 78) h k_78_44)) (fun h => nd h (fun h => lf (P := EE l 78) h k_78_45) (fun h => nd h (fun h => lf (P := EE l 78) h k_78_48) (fun h => lf (P := EE l 78) h k_78_51))))) (fun h => nd h (fun h => nd h (fun h => nd h (fun h => lf (P := EE l 78) h k_78_53) (fun h => lf (P := EE l 78) h k_78_55)) (fun h => nd h (fun h => lf (P := EE l 78) h k_78_56) (fun h => nd h (fun h => lf (P := EE l 78) h k_78_59) (fun h => lf (P := EE l 78) h k_78_61)))) (fun h => nd h (fun h => nd h (fun h => lf (P := EE l 78) h k_78_64) (fun h => lf (P := EE l 78) h k_78_65)) (fun h => nd h (fun h => lf (P := EE l 78) h k_78_67) (fun h => nd h (fun h => lf (P := EE l 78) h k_78_68) (fun h => lf (P := EE l 78) h (EE_re (Or.inr (Or.inr (Or.inr (Or.inr ⟨rfl, dX8_set_71, rfl⟩)))))))))))
theorem dX8_holds_0 : decode cX8_holds 0 = .ok (.aload_n 0, 1) := by decide +kernel
theorem dX8_holds_1 : decode cX8_holds 1 = .ok (.getfield 9, 3) := by decide +kernel
theorem dX8_holds_4 : decode cX8_holds 4 = .ok (.ifCond .eq 7, 3) := by decide +kernel
theorem dX8_holds_7 : decode cX8_holds 7 = .ok (.iload_n 1, 1) := by decide +kernel
theorem dX8_holds_8 : decode cX8_holds 8 = .ok (.goto 4, 3) := by decide +kernel
theorem dX8_holds_11 : decode cX8_holds 11 = .ok (.iload_n 2, 1) := by decide +kernel
theorem dX8_holds_12 : decode cX8_holds 12 = .ok (.istore_n 3, 1) := by decide +kernel
theorem dX8_holds_13 : decode cX8_holds 13 = .ok (.aload_n 0, 1) := by decide +kernel
theorem dX8_holds_14 : decode cX8_holds 14 = .ok (.getfield 15, 3) := by decide +kernel
theorem dX8_holds_17 : decode cX8_holds 17 = .ok (.ifCond .eq 19, 3) := by decide +kernel
theorem dX8_holds_20 : decode cX8_holds 20 = .ok (.iload_n 3, 1) := by decide +kernel
theorem dX8_holds_21 : decode cX8_holds 21 = .ok (.aload_n 0, 1) := by decide +kernel
theorem dX8_holds_22 : decode cX8_holds 22 = .ok (.getfield 18, 3) := by decide +kernel
theorem dX8_holds_25 : decode cX8_holds 25 = .ok (.if_icmp .lt 7, 3) := by decide +kernel
theorem dX8_holds_28 : decode cX8_holds 28 = .ok (.iconst 1, 1) := by decide +kernel
theorem dX8_holds_29 : decode cX8_holds 29 = .ok (.goto 20, 3) := by decide +kernel
theorem dX8_holds_32 : decode cX8_holds 32 = .ok (.iconst 0, 1) := by decide +kernel
theorem dX8_holds_33 : decode cX8_holds 33 = .ok (.goto 16, 3) := by decide +kernel
theorem dX8_holds_36 : decode cX8_holds 36 = .ok (.iload_n 3, 1) := by decide +kernel
theorem dX8_holds_37 : decode cX8_holds 37 = .ok (.aload_n 0, 1) := by decide +kernel
theorem dX8_holds_38 : decode cX8_holds 38 = .ok (.getfield 18, 3) := by decide +kernel
theorem dX8_holds_41 : decode cX8_holds 41 = .ok (.if_icmp .gt 7, 3) := by decide +kernel
theorem dX8_holds_44 : decode cX8_holds 44 = .ok (.iconst 1, 1) := by decide +kernel
theorem dX8_holds_45 : decode cX8_holds 45 = .ok (.goto 4, 3) := by decide +kernel
theorem dX8_holds_48 : decode cX8_holds 48 = .ok (.iconst 0, 1) := by decide +kernel
theorem dX8_holds_49 : decode cX8_holds 49 = .ok (.ireturn, 1) := by decide +kernel
def tb_79 (pc : Nat) : Option mEnt := bif Nat.ble pc 22 then (bif Nat.ble pc 11 then (bif Nat.ble pc 4 then (bif Nat.ble pc 0 then (bif Nat.beq pc 0 then some (.inl (o_al 0 1)) else none) else (bif Nat.ble pc 1 then (bif Nat.beq pc 1 then some (.inl (o_gI 8 0)) else none) else (bif Nat.beq pc 4 then some (.inl (o_zeq 11)) else none))) else (bif Nat.ble pc 7 then (bif Nat.beq pc 7 then some (.inl (o_il 1 1)) else none) else (bif Nat.ble pc 8 then (bif Nat.beq pc 8 then some (.inl (o_goto 12)) else none) else (bif Nat.beq pc 11 then some (.inl (o_il 2 1)) else none)))) else (bif Nat.ble pc 14 then (bif Nat.ble pc 12 then (bif Nat.beq pc 12 then some (.inl (o_is 3 1)) else none) else (bif Nat.ble pc 13 then (bif Nat.beq pc 13 then some (.inl (o_al 0 1)) else none) else (bif Nat.beq pc 14 then some (.inl (o_gI 8 1)) else none))) else (bif Nat.ble pc 20 then (bif Nat.ble pc 17 then (bif Nat.beq pc 17 then some (.inl (o_zeq 36)) else none) else (bif Nat.beq pc 20 then some (.inl (o_il 3 1)) else none)) else (bif Nat.ble pc 21 then (bif Nat.beq pc 21 then some (.inl (o_al 0 1)) else none) else (bif Nat.beq pc 22 then some (.inl (o_gI 8 2)) else none))))) else (bif Nat.ble pc 36 then (bif Nat.ble pc 29 then (bif Nat.ble pc 25 then (bif Nat.beq pc 25 then some (.inl (o_clt 32)) else none) else (bif Nat.ble pc 28 then (bif Nat.beq pc 28 then some (.inl (oS 1 (s_push (.int 1)))) else none) else (bif Nat.beq pc 29 then some (.inl (o_goto 49)) else none))) else (bif Nat.ble pc 32 then (bif Nat.beq pc 32 then some (.inl (oS 1 (s_push (.int 0)))) else none) else (bif Nat.ble pc 33 then (bif Nat.beq pc 33 then some (.inl (o_goto 49)) else none) else (bif Nat.beq pc 36 then some (.inl (o_il 3 1)) else none)))) else (bif Nat.ble pc 41 then (bif Nat.ble pc 37 then (bif Nat.beq pc 37 then some (.inl (o_al 0 1)) else none) else (bif Nat.ble pc 38 then (bif Nat.beq pc 38 then some (.inl (o_gI 8 2)) else none) else (bif Nat.beq pc 41 then some (.inl (o_cgt 48)) else none))) else (bif Nat.ble pc 45 then (bif Nat.ble pc 44 then (bif Nat.beq pc 44 then some (.inl (oS 1 (s_push (.int 1)))) else none) else (bif Nat.beq pc 45 then some (.inl (o_goto 49)) else none)) else (bif Nat.ble pc 48 then (bif Nat.beq pc 48 then some (.inl (oS 1 (s_push (.int 0)))) else none) else (bif Nat.beq pc 49 then some (.inr (0, 0, 0, 4)) else none)))))
theorem k_79_0 : mOk M_79.1 M_79.2.1 M_79.2.2.1 M_79.2.2.2 0 (o_al 0 1) := ok_aload_n dX8_holds_0 rfl
theorem k_79_1 : mOk M_79.1 M_79.2.1 M_79.2.2.1 M_79.2.2.2 1 (o_gI 8 0) := ok_gI dX8_holds_1 f_RX8_9 (Or.inr rfl)
theorem k_79_4 : mOk M_79.1 M_79.2.1 M_79.2.2.1 M_79.2.2.2 4 (o_zeq 11) := ok_zeq dX8_holds_4 (by decide)
theorem k_79_7 : mOk M_79.1 M_79.2.1 M_79.2.2.1 M_79.2.2.2 7 (o_il 1 1) := ok_iload_n dX8_holds_7 rfl
theorem k_79_8 : mOk M_79.1 M_79.2.1 M_79.2.2.1 M_79.2.2.2 8 (o_goto 12) := ok_goto dX8_holds_8 (by decide)
theorem k_79_11 : mOk M_79.1 M_79.2.1 M_79.2.2.1 M_79.2.2.2 11 (o_il 2 1) := ok_iload_n dX8_holds_11 rfl
theorem k_79_12 : mOk M_79.1 M_79.2.1 M_79.2.2.1 M_79.2.2.2 12 (o_is 3 1) := ok_istore_n dX8_holds_12 rfl
theorem k_79_13 : mOk M_79.1 M_79.2.1 M_79.2.2.1 M_79.2.2.2 13 (o_al 0 1) := ok_aload_n dX8_holds_13 rfl
theorem k_79_14 : mOk M_79.1 M_79.2.1 M_79.2.2.1 M_79.2.2.2 14 (o_gI 8 1) := ok_gI dX8_holds_14 f_RX8_15 (Or.inr rfl)
theorem k_79_17 : mOk M_79.1 M_79.2.1 M_79.2.2.1 M_79.2.2.2 17 (o_zeq 36) := ok_zeq dX8_holds_17 (by decide)
theorem k_79_20 : mOk M_79.1 M_79.2.1 M_79.2.2.1 M_79.2.2.2 20 (o_il 3 1) := ok_iload_n dX8_holds_20 rfl
theorem k_79_21 : mOk M_79.1 M_79.2.1 M_79.2.2.1 M_79.2.2.2 21 (o_al 0 1) := ok_aload_n dX8_holds_21 rfl
theorem k_79_22 : mOk M_79.1 M_79.2.1 M_79.2.2.1 M_79.2.2.2 22 (o_gI 8 2) := ok_gI dX8_holds_22 f_RX8_18 (Or.inl rfl)
theorem k_79_25 : mOk M_79.1 M_79.2.1 M_79.2.2.1 M_79.2.2.2 25 (o_clt 32) := ok_clt dX8_holds_25 (by decide)
theorem k_79_28 : mOk M_79.1 M_79.2.1 M_79.2.2.1 M_79.2.2.2 28 (oS 1 (s_push (.int 1))) := ok_iconst dX8_holds_28 (by decide)
theorem k_79_29 : mOk M_79.1 M_79.2.1 M_79.2.2.1 M_79.2.2.2 29 (o_goto 49) := ok_goto dX8_holds_29 (by decide)
theorem k_79_32 : mOk M_79.1 M_79.2.1 M_79.2.2.1 M_79.2.2.2 32 (oS 1 (s_push (.int 0))) := ok_iconst dX8_holds_32 (by decide)
theorem k_79_33 : mOk M_79.1 M_79.2.1 M_79.2.2.1 M_79.2.2.2 33 (o_goto 49) := ok_goto dX8_holds_33 (by decide)
theorem k_79_36 : mOk M_79.1 M_79.2.1 M_79.2.2.1 M_79.2.2.2 36 (o_il 3 1) := ok_iload_n dX8_holds_36 rfl
theorem k_79_37 : mOk M_79.1 M_79.2.1 M_79.2.2.1 M_79.2.2.2 37 (o_al 0 1) := ok_aload_n dX8_holds_37 rfl
theorem k_79_38 : mOk M_79.1 M_79.2.1 M_79.2.2.1 M_79.2.2.2 38 (o_gI 8 2) := ok_gI dX8_holds_38 f_RX8_18 (Or.inl rfl)
theorem k_79_41 : mOk M_79.1 M_79.2.1 M_79.2.2.1 M_79.2.2.2 41 (o_cgt 48) := ok_cgt dX8_holds_41 (by decide)
theorem k_79_44 : mOk M_79.1 M_79.2.1 M_79.2.2.1 M_79.2.2.2 44 (oS 1 (s_push (.int 1))) := ok_iconst dX8_holds_44 (by decide)
theorem k_79_45 : mOk M_79.1 M_79.2.1 M_79.2.2.1 M_79.2.2.2 45 (o_goto 49) := ok_goto dX8_holds_45 (by decide)
theorem k_79_48 : mOk M_79.1 M_79.2.1 M_79.2.2.1 M_79.2.2.2 48 (oS 1 (s_push (.int 0))) := ok_iconst dX8_holds_48 (by decide)
set_option maxRecDepth 20000 in
set_option maxHeartbeats 4000000 in
theorem tk_79 (l : Launch) (H9 : mThr l) (H10 : mSpl l) (pc : Nat) (q : mEnt) (h : tb_79 pc = some q) : EE l 79 pc q := nd h (fun h => nd h (fun h => nd h (fun h => nd h (fun h => lf (P := EE l 79) h k_79_0) (fun h => nd h (fun h => lf (P := EE l 79) h k_79_1) (fun h => lf (P := EE l 79) h k_79_4))) (fun h => nd h (fun h => lf (P := EE l 79) h k_79_7) (fun h => nd h (fun h => lf (P := EE l 79) h k_79_8) (fun h => lf (P := EE l 79) h k_79_11)))) (fun h => nd h (fun h => nd h (fun h => lf (P := EE l 79) h k_79_12) (fun h => nd h (fun h => lf (P := EE l 79) h k_79_13) (fun h => lf (P := EE l 79) h k_79_14))) (fun h => nd h (fun h => nd h (fun h => lf (P := EE l 79) h k_79_17) (fun h => lf (P := EE l 79) h k_79_20)) (fun h => nd h (fun h => lf (P := EE l 79) h k_79_21) (fun h => lf (P := EE l 79) h k_79_22))))) (fun h => nd h (fun h => nd h (fun h => nd h (fun h => lf (P := EE l 79) h k_79_25) (fun h => nd h (fun h => lf (P := EE l 79) h k_79_28) (fun h => lf (P := EE l 79) h k_79_29))) (fun h => nd h (fun h => lf (P := EE l 79) h k_79_32) (fun h => nd h (fun h => lf (P := EE l 79) h k_79_33) (fun h => lf (P := EE l 79) h k_79_36)))) (fun h => nd h (fun h => nd h (fun h => lf (P := EE l 79) h k_79_37) (fun h => nd h (fun h => lf (P := EE l 79) h k_79_38) (fun h => lf (P := EE l 79) h k_79_41))) (fun h => nd h (fun h => nd h (fun h => lf (P := EE l 79) h k_79_44) (fun h => lf (P := EE l 79) h k_79_45)) (fun h => nd h (fun h => lf (P := EE l 79) h k_79_48) (fun h => lf (P := EE l 79) h (EE_re (Or.inr (Or.inl ⟨rfl, dX8_holds_49, rfl⟩))))))))
theorem dX8_cross_0 : decode cX8_cross 0 = .ok (.iload_n 3, 1) := by decide +kernel
theorem dX8_cross_1 : decode cX8_cross 1 = .ok (.iload_n 1, 1) := by decide +kernel
theorem dX8_cross_2 : decode cX8_cross 2 = .ok (.isub, 1) := by decide +kernel
theorem dX8_cross_3 : decode cX8_cross 3 = .ok (.istore 5, 2) := by decide +kernel
theorem dX8_cross_5 : decode cX8_cross 5 = .ok (.iload 5, 2) := by decide +kernel
theorem dX8_cross_7 : decode cX8_cross 7 = .ok (.ifCond .ne 5, 3) := by decide +kernel
theorem dX8_cross_10 : decode cX8_cross 10 = .ok (.iload_n 2, 1) := by decide +kernel
theorem dX8_cross_11 : decode cX8_cross 11 = .ok (.ireturn, 1) := by decide +kernel
theorem dX8_cross_12 : decode cX8_cross 12 = .ok (.iload_n 2, 1) := by decide +kernel
theorem dX8_cross_13 : decode cX8_cross 13 = .ok (.iconst 2, 1) := by decide +kernel
theorem dX8_cross_14 : decode cX8_cross 14 = .ok (.iload 4, 2) := by decide +kernel
theorem dX8_cross_16 : decode cX8_cross 16 = .ok (.iload_n 2, 1) := by decide +kernel
theorem dX8_cross_17 : decode cX8_cross 17 = .ok (.isub, 1) := by decide +kernel
theorem dX8_cross_18 : decode cX8_cross 18 = .ok (.imul, 1) := by decide +kernel
theorem dX8_cross_19 : decode cX8_cross 19 = .ok (.aload_n 0, 1) := by decide +kernel
theorem dX8_cross_20 : decode cX8_cross 20 = .ok (.getfield 18, 3) := by decide +kernel
theorem dX8_cross_23 : decode cX8_cross 23 = .ok (.iload_n 1, 1) := by decide +kernel
theorem dX8_cross_24 : decode cX8_cross 24 = .ok (.isub, 1) := by decide +kernel
theorem dX8_cross_25 : decode cX8_cross 25 = .ok (.imul, 1) := by decide +kernel
theorem dX8_cross_26 : decode cX8_cross 26 = .ok (.iload 5, 2) := by decide +kernel
theorem dX8_cross_28 : decode cX8_cross 28 = .ok (.iadd, 1) := by decide +kernel
theorem dX8_cross_29 : decode cX8_cross 29 = .ok (.iconst 2, 1) := by decide +kernel
theorem dX8_cross_30 : decode cX8_cross 30 = .ok (.iload 5, 2) := by decide +kernel
theorem dX8_cross_32 : decode cX8_cross 32 = .ok (.imul, 1) := by decide +kernel
theorem dX8_cross_33 : decode cX8_cross 33 = .ok (.invokestatic 22, 3) := by decide +kernel
theorem dX8_cross_36 : decode cX8_cross 36 = .ok (.iadd, 1) := by decide +kernel
theorem dX8_cross_37 : decode cX8_cross 37 = .ok (.ireturn, 1) := by decide +kernel
def tb_80 (pc : Nat) : Option mEnt := bif Nat.ble pc 17 then (bif Nat.ble pc 7 then (bif Nat.ble pc 2 then (bif Nat.ble pc 0 then (bif Nat.beq pc 0 then some (.inl (o_il 3 1)) else none) else (bif Nat.ble pc 1 then (bif Nat.beq pc 1 then some (.inl (o_il 1 1)) else none) else (bif Nat.beq pc 2 then some (.inl (oS 1 (s_ii (fun a b => a - b)))) else none))) else (bif Nat.ble pc 3 then (bif Nat.beq pc 3 then some (.inl (o_is 5 2)) else none) else (bif Nat.ble pc 5 then (bif Nat.beq pc 5 then some (.inl (o_il 5 2)) else none) else (bif Nat.beq pc 7 then some (.inl (o_zne 12)) else none)))) else (bif Nat.ble pc 12 then (bif Nat.ble pc 10 then (bif Nat.beq pc 10 then some (.inl (o_il 2 1)) else none) else (bif Nat.ble pc 11 then (bif Nat.beq pc 11 then some (.inr (0, 0, 0, 0)) else none) else (bif Nat.beq pc 12 then some (.inl (o_il 2 1)) else none))) else (bif Nat.ble pc 14 then (bif Nat.ble pc 13 then (bif Nat.beq pc 13 then some (.inl (oS 1 (s_push (.int 2)))) else none) else (bif Nat.beq pc 14 then some (.inl (o_il 4 2)) else none)) else (bif Nat.ble pc 16 then (bif Nat.beq pc 16 then some (.inl (o_il 2 1)) else none) else (bif Nat.beq pc 17 then some (.inl (oS 1 (s_ii (fun a b => a - b)))) else none))))) else (bif Nat.ble pc 26 then (bif Nat.ble pc 20 then (bif Nat.ble pc 18 then (bif Nat.beq pc 18 then some (.inl (oS 1 (s_ii (fun a b => a * b)))) else none) else (bif Nat.ble pc 19 then (bif Nat.beq pc 19 then some (.inl (o_al 0 1)) else none) else (bif Nat.beq pc 20 then some (.inl (o_gI 8 2)) else none))) else (bif Nat.ble pc 24 then (bif Nat.ble pc 23 then (bif Nat.beq pc 23 then some (.inl (o_il 1 1)) else none) else (bif Nat.beq pc 24 then some (.inl (oS 1 (s_ii (fun a b => a - b)))) else none)) else (bif Nat.ble pc 25 then (bif Nat.beq pc 25 then some (.inl (oS 1 (s_ii (fun a b => a * b)))) else none) else (bif Nat.beq pc 26 then some (.inl (o_il 5 2)) else none)))) else (bif Nat.ble pc 30 then (bif Nat.ble pc 28 then (bif Nat.beq pc 28 then some (.inl (oS 1 (s_ii (fun a b => a + b)))) else none) else (bif Nat.ble pc 29 then (bif Nat.beq pc 29 then some (.inl (oS 1 (s_push (.int 2)))) else none) else (bif Nat.beq pc 30 then some (.inl (o_il 5 2)) else none))) else (bif Nat.ble pc 33 then (bif Nat.ble pc 32 then (bif Nat.beq pc 32 then some (.inl (oS 1 (s_ii (fun a b => a * b)))) else none) else (bif Nat.beq pc 33 then some (.inr (2, 181, 2, 0)) else none)) else (bif Nat.ble pc 36 then (bif Nat.beq pc 36 then some (.inl (oS 1 (s_ii (fun a b => a + b)))) else none) else (bif Nat.beq pc 37 then some (.inr (0, 0, 0, 0)) else none)))))
theorem k_80_0 : mOk M_80.1 M_80.2.1 M_80.2.2.1 M_80.2.2.2 0 (o_il 3 1) := ok_iload_n dX8_cross_0 rfl
theorem k_80_1 : mOk M_80.1 M_80.2.1 M_80.2.2.1 M_80.2.2.2 1 (o_il 1 1) := ok_iload_n dX8_cross_1 rfl
theorem k_80_2 : mOk M_80.1 M_80.2.1 M_80.2.2.1 M_80.2.2.2 2 (oS 1 (s_ii (fun a b => a - b))) := ok_isub dX8_cross_2
theorem k_80_3 : mOk M_80.1 M_80.2.1 M_80.2.2.1 M_80.2.2.2 3 (o_is 5 2) := ok_istore dX8_cross_3
theorem k_80_5 : mOk M_80.1 M_80.2.1 M_80.2.2.1 M_80.2.2.2 5 (o_il 5 2) := ok_iload dX8_cross_5
theorem k_80_7 : mOk M_80.1 M_80.2.1 M_80.2.2.1 M_80.2.2.2 7 (o_zne 12) := ok_zne dX8_cross_7 (by decide)
theorem k_80_10 : mOk M_80.1 M_80.2.1 M_80.2.2.1 M_80.2.2.2 10 (o_il 2 1) := ok_iload_n dX8_cross_10 rfl
theorem k_80_12 : mOk M_80.1 M_80.2.1 M_80.2.2.1 M_80.2.2.2 12 (o_il 2 1) := ok_iload_n dX8_cross_12 rfl
theorem k_80_13 : mOk M_80.1 M_80.2.1 M_80.2.2.1 M_80.2.2.2 13 (oS 1 (s_push (.int 2))) := ok_iconst dX8_cross_13 (by decide)
theorem k_80_14 : mOk M_80.1 M_80.2.1 M_80.2.2.1 M_80.2.2.2 14 (o_il 4 2) := ok_iload dX8_cross_14
theorem k_80_16 : mOk M_80.1 M_80.2.1 M_80.2.2.1 M_80.2.2.2 16 (o_il 2 1) := ok_iload_n dX8_cross_16 rfl
theorem k_80_17 : mOk M_80.1 M_80.2.1 M_80.2.2.1 M_80.2.2.2 17 (oS 1 (s_ii (fun a b => a - b))) := ok_isub dX8_cross_17
theorem k_80_18 : mOk M_80.1 M_80.2.1 M_80.2.2.1 M_80.2.2.2 18 (oS 1 (s_ii (fun a b => a * b))) := ok_imul dX8_cross_18
theorem k_80_19 : mOk M_80.1 M_80.2.1 M_80.2.2.1 M_80.2.2.2 19 (o_al 0 1) := ok_aload_n dX8_cross_19 rfl
theorem k_80_20 : mOk M_80.1 M_80.2.1 M_80.2.2.1 M_80.2.2.2 20 (o_gI 8 2) := ok_gI dX8_cross_20 f_RX8_18 (Or.inl rfl)
theorem k_80_23 : mOk M_80.1 M_80.2.1 M_80.2.2.1 M_80.2.2.2 23 (o_il 1 1) := ok_iload_n dX8_cross_23 rfl
theorem k_80_24 : mOk M_80.1 M_80.2.1 M_80.2.2.1 M_80.2.2.2 24 (oS 1 (s_ii (fun a b => a - b))) := ok_isub dX8_cross_24
theorem k_80_25 : mOk M_80.1 M_80.2.1 M_80.2.2.1 M_80.2.2.2 25 (oS 1 (s_ii (fun a b => a * b))) := ok_imul dX8_cross_25
theorem k_80_26 : mOk M_80.1 M_80.2.1 M_80.2.2.1 M_80.2.2.2 26 (o_il 5 2) := ok_iload dX8_cross_26
theorem k_80_28 : mOk M_80.1 M_80.2.1 M_80.2.2.1 M_80.2.2.2 28 (oS 1 (s_ii (fun a b => a + b))) := ok_iadd dX8_cross_28
theorem k_80_29 : mOk M_80.1 M_80.2.1 M_80.2.2.1 M_80.2.2.2 29 (oS 1 (s_push (.int 2))) := ok_iconst dX8_cross_29 (by decide)
theorem k_80_30 : mOk M_80.1 M_80.2.1 M_80.2.2.1 M_80.2.2.2 30 (o_il 5 2) := ok_iload dX8_cross_30
theorem k_80_32 : mOk M_80.1 M_80.2.1 M_80.2.2.1 M_80.2.2.2 32 (oS 1 (s_ii (fun a b => a * b))) := ok_imul dX8_cross_32
theorem k_80_36 : mOk M_80.1 M_80.2.1 M_80.2.2.1 M_80.2.2.2 36 (oS 1 (s_ii (fun a b => a + b))) := ok_iadd dX8_cross_36
set_option maxRecDepth 20000 in
set_option maxHeartbeats 4000000 in
theorem tk_80 (l : Launch) (H9 : mThr l) (H10 : mSpl l) (pc : Nat) (q : mEnt) (h : tb_80 pc = some q) : EE l 80 pc q := nd h (fun h => nd h (fun h => nd h (fun h => nd h (fun h => lf (P := EE l 80) h k_80_0) (fun h => nd h (fun h => lf (P := EE l 80) h k_80_1) (fun h => lf (P := EE l 80) h k_80_2))) (fun h => nd h (fun h => lf (P := EE l 80) h k_80_3) (fun h => nd h (fun h => lf (P := EE l 80) h k_80_5) (fun h => lf (P := EE l 80) h k_80_7)))) (fun h => nd h (fun h => nd h (fun h => lf (P := EE l 80) h k_80_10) (fun h => nd h (fun h => lf (P := EE l 80) h (EE_re (Or.inl ⟨rfl, dX8_cross_11, rfl⟩))) (fun h => lf (P := EE l 80) h k_80_12))) (fun h => nd h (fun h => nd h (fun h => lf (P := EE l 80) h k_80_13) (fun h => lf (P := EE l 80) h k_80_14)) (fun h => nd h (fun h => lf (P := EE l 80) h k_80_16) (fun h => lf (P := EE l 80) h k_80_17))))) (fun h => nd h (fun h => nd h (fun h => nd h (fun h => lf (P := EE l 80) h k_80_18) (fun h => nd h (fun h => lf (P := EE l 80) h k_80_19) (fun h => lf (P := EE l 80) h k_80_20))) (fun h => nd h (fun h => nd h (fun h => lf (P := EE l 80) h k_80_23) (fun h => lf (P := EE l 80) h k_80_24)) (fun h => nd h (fun h => lf (P := EE l 80) h k_80_25) (fun h => lf (P := EE l 80) h k_80_26)))) (fun h => nd h (fun h => nd h (fun h => lf (P := EE l 80) h k_80_28) (fun h => nd h (fun h => lf (P := EE l 80) h k_80_29) (fun h => lf (P := EE l 80) h k_80_30))) (fun h => nd h (fun h => nd h (fun h => lf (P := EE l 80) h k_80_32) (fun h => lf (P := EE l 80) h (EE_ca (by decide) (⟨m_822, m_82, ⟨by decide, by decide⟩, by decide +kernel, ⟨by decide, by decide⟩, 22, 2, by decide +kernel, Or.inl ⟨rfl, rfl, dX8_cross_33, m_820, m_821⟩⟩) rfl))) (fun h => nd h (fun h => lf (P := EE l 80) h k_80_36) (fun h => lf (P := EE l 80) h (EE_re (Or.inl ⟨rfl, dX8_cross_37, rfl⟩)))))))
