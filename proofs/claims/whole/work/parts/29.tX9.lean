/-! tables of X9 (written by a program) -/
theorem dX9_init_0 : decode cX9_init 0 = .ok (.aload_n 0, 1) := by decide +kernel
theorem dX9_init_1 : decode cX9_init 1 = .ok (.invokespecial 3, 3) := by decide +kernel
theorem dX9_init_4 : decode cX9_init 4 = .ok (.aload_n 0, 1) := by decide +kernel
theorem dX9_init_5 : decode cX9_init 5 = .ok (.bipush 24, 2) := by decide +kernel
theorem dX9_init_7 : decode cX9_init 7 = .ok (.anewarray 9, 3) := by decide +kernel
theorem dX9_init_10 : decode cX9_init 10 = .ok (.putfield 11, 3) := by decide +kernel
theorem dX9_init_13 : decode cX9_init 13 = .ok (.aload_n 0, 1) := by decide +kernel
theorem dX9_init_14 : decode cX9_init 14 = .ok (.bipush 13, 2) := by decide +kernel
theorem dX9_init_16 : decode cX9_init 16 = .ok (.newarray .boolean, 2) := by decide +kernel
theorem dX9_init_18 : decode cX9_init 18 = .ok (.putfield 17, 3) := by decide +kernel
theorem dX9_init_21 : decode cX9_init 21 = .ok (.aload_n 0, 1) := by decide +kernel
theorem dX9_init_22 : decode cX9_init 22 = .ok (.new 9, 3) := by decide +kernel
theorem dX9_init_25 : decode cX9_init 25 = .ok (.dup, 1) := by decide +kernel
theorem dX9_init_26 : decode cX9_init 26 = .ok (.bipush 60, 2) := by decide +kernel
theorem dX9_init_28 : decode cX9_init 28 = .ok (.invokespecial 21, 3) := by decide +kernel
theorem dX9_init_31 : decode cX9_init 31 = .ok (.putfield 24, 3) := by decide +kernel
theorem dX9_init_34 : decode cX9_init 34 = .ok (.aload_n 0, 1) := by decide +kernel
theorem dX9_init_35 : decode cX9_init 35 = .ok (.new 9, 3) := by decide +kernel
theorem dX9_init_38 : decode cX9_init 38 = .ok (.dup, 1) := by decide +kernel
theorem dX9_init_39 : decode cX9_init 39 = .ok (.bipush 60, 2) := by decide +kernel
theorem dX9_init_41 : decode cX9_init 41 = .ok (.invokespecial 21, 3) := by decide +kernel
theorem dX9_init_44 : decode cX9_init 44 = .ok (.putfield 28, 3) := by decide +kernel
theorem dX9_init_47 : decode cX9_init 47 = .ok (.aload_n 0, 1) := by decide +kernel
theorem dX9_init_48 : decode cX9_init 48 = .ok (.new 31, 3) := by decide +kernel
theorem dX9_init_51 : decode cX9_init 51 = .ok (.dup, 1) := by decide +kernel
theorem dX9_init_52 : decode cX9_init 52 = .ok (.invokespecial 33, 3) := by decide +kernel
theorem dX9_init_55 : decode cX9_init 55 = .ok (.putfield 34, 3) := by decide +kernel
theorem dX9_init_58 : decode cX9_init 58 = .ok (.iconst 0, 1) := by decide +kernel
theorem dX9_init_59 : decode cX9_init 59 = .ok (.istore_n 1, 1) := by decide +kernel
theorem dX9_init_60 : decode cX9_init 60 = .ok (.iload_n 1, 1) := by decide +kernel
theorem dX9_init_61 : decode cX9_init 61 = .ok (.bipush 24, 2) := by decide +kernel
theorem dX9_init_63 : decode cX9_init 63 = .ok (.if_icmp .ge 24, 3) := by decide +kernel
theorem dX9_init_66 : decode cX9_init 66 = .ok (.aload_n 0, 1) := by decide +kernel
theorem dX9_init_67 : decode cX9_init 67 = .ok (.getfield 11, 3) := by decide +kernel
theorem dX9_init_70 : decode cX9_init 70 = .ok (.iload_n 1, 1) := by decide +kernel
theorem dX9_init_71 : decode cX9_init 71 = .ok (.new 9, 3) := by decide +kernel
theorem dX9_init_74 : decode cX9_init 74 = .ok (.dup, 1) := by decide +kernel
theorem dX9_init_75 : decode cX9_init 75 = .ok (.bipush 13, 2) := by decide +kernel
theorem dX9_init_77 : decode cX9_init 77 = .ok (.invokespecial 21, 3) := by decide +kernel
theorem dX9_init_80 : decode cX9_init 80 = .ok (.aastore, 1) := by decide +kernel
theorem dX9_init_81 : decode cX9_init 81 = .ok (.iinc 1 1, 3) := by decide +kernel
theorem dX9_init_84 : decode cX9_init 84 = .ok (.goto (-24), 3) := by decide +kernel
theorem dX9_init_87 : decode cX9_init 87 = .ok (.return_, 1) := by decide +kernel
def tb_81 (pc : Nat) : Option mEnt := bif Nat.ble pc 41 then (bif Nat.ble pc 18 then (bif Nat.ble pc 7 then (bif Nat.ble pc 1 then (bif Nat.ble pc 0 then (bif Nat.beq pc 0 then some (.inl (o_al 0 1)) else none) else (bif Nat.beq pc 1 then some (.inr (5, 0, 0, 0)) else none)) else (bif Nat.ble pc 4 then (bif Nat.beq pc 4 then some (.inl (o_al 0 1)) else none) else (bif Nat.ble pc 5 then (bif Nat.beq pc 5 then some (.inl (oS 2 (s_push (.int 24)))) else none) else (bif Nat.beq pc 7 then some (.inl (o_newq 6)) else none)))) else (bif Nat.ble pc 13 then (bif Nat.ble pc 10 then (bif Nat.beq pc 10 then some (.inl (o_pP 9 2)) else none) else (bif Nat.beq pc 13 then some (.inl (o_al 0 1)) else none)) else (bif Nat.ble pc 14 then (bif Nat.beq pc 14 then some (.inl (oS 2 (s_push (.int 13)))) else none) else (bif Nat.ble pc 16 then (bif Nat.beq pc 16 then some (.inl (o_newa 3)) else none) else (bif Nat.beq pc 18 then some (.inl (o_pP 9 3)) else none))))) else (bif Nat.ble pc 28 then (bif Nat.ble pc 22 then (bif Nat.ble pc 21 then (bif Nat.beq pc 21 then some (.inl (o_al 0 1)) else none) else (bif Nat.beq pc 22 then some (.inl (o_new 6)) else none)) else (bif Nat.ble pc 25 then (bif Nat.beq pc 25 then some (.inl (oS 1 s_dup)) else none) else (bif Nat.ble pc 26 then (bif Nat.beq pc 26 then some (.inl (oS 2 (s_push (.int 60)))) else none) else (bif Nat.beq pc 28 then some (.inr (4, 56, 2, 6)) else none)))) else (bif Nat.ble pc 35 then (bif Nat.ble pc 31 then (bif Nat.beq pc 31 then some (.inl (o_pP 9 4)) else none) else (bif Nat.ble pc 34 then (bif Nat.beq pc 34 then some (.inl (o_al 0 1)) else none) else (bif Nat.beq pc 35 then some (.inl (o_new 6)) else none))) else (bif Nat.ble pc 38 then (bif Nat.beq pc 38 then some (.inl (oS 1 s_dup)) else none) else (bif Nat.ble pc 39 then (bif Nat.beq pc 39 then some (.inl (oS 2 (s_push (.int 60)))) else none) else (bif Nat.beq pc 41 then some (.inr (4, 56, 2, 6)) else none)))))) else (bif Nat.ble pc 63 then (bif Nat.ble pc 52 then (bif Nat.ble pc 47 then (bif Nat.ble pc 44 then (bif Nat.beq pc 44 then some (.inl (o_pP 9 5)) else none) else (bif Nat.beq pc 47 then some (.inl (o_al 0 1)) else none)) else (bif Nat.ble pc 48 then (bif Nat.beq pc 48 then some (.inl (o_new 8)) else none) else (bif Nat.ble pc 51 then (bif Nat.beq pc 51 then some (.inl (oS 1 s_dup)) else none) else (bif Nat.beq pc 52 then some (.inr (7, 77, 1, 8)) else none)))) else (bif Nat.ble pc 59 then (bif Nat.ble pc 55 then (bif Nat.beq pc 55 then some (.inl (o_pP 9 6)) else none) else (bif Nat.ble pc 58 then (bif Nat.beq pc 58 then some (.inl (oS 1 (s_push (.int 0)))) else none) else (bif Nat.beq pc 59 then some (.inl (o_is 1 1)) else none))) else (bif Nat.ble pc 60 then (bif Nat.beq pc 60 then some (.inl (o_il 1 1)) else none) else (bif Nat.ble pc 61 then (bif Nat.beq pc 61 then some (.inl (oS 2 (s_push (.int 24)))) else none) else (bif Nat.beq pc 63 then some (.inl (o_cge 87)) else none))))) else (bif Nat.ble pc 74 then (bif Nat.ble pc 67 then (bif Nat.ble pc 66 then (bif Nat.beq pc 66 then some (.inl (o_al 0 1)) else none) else (bif Nat.beq pc 67 then some (.inl (o_gP 9 2)) else none)) else (bif Nat.ble pc 70 then (bif Nat.beq pc 70 then some (.inl (o_il 1 1)) else none) else (bif Nat.ble pc 71 then (bif Nat.beq pc 71 then some (.inl (o_new 6)) else none) else (bif Nat.beq pc 74 then some (.inl (oS 1 s_dup)) else none)))) else (bif Nat.ble pc 80 then (bif Nat.ble pc 75 then (bif Nat.beq pc 75 then some (.inl (oS 2 (s_push (.int 13)))) else none) else (bif Nat.ble pc 77 then (bif Nat.beq pc 77 then some (.inr (4, 56, 2, 6)) else none) else (bif Nat.beq pc 80 then some (.inl (o_aast)) else none))) else (bif Nat.ble pc 81 then (bif Nat.beq pc 81 then some (.inl (o_inc 1 1)) else none) else (bif Nat.ble pc 84 then (bif Nat.beq pc 84 then some (.inl (o_goto 60)) else none) else (bif Nat.beq pc 87 then some (.inr (0, 0, 0, 3)) else none))))))
theorem k_81_0 : mOk M_81.1 M_81.2.1 M_81.2.2.1 M_81.2.2.2 0 (o_al 0 1) := ok_aload_n dX9_init_0 rfl
theorem k_81_4 : mOk M_81.1 M_81.2.1 M_81.2.2.1 M_81.2.2.2 4 (o_al 0 1) := ok_aload_n dX9_init_4 rfl
theorem k_81_5 : mOk M_81.1 M_81.2.1 M_81.2.2.1 M_81.2.2.2 5 (oS 2 (s_push (.int 24))) := ok_bipush dX9_init_5 (by decide)
theorem k_81_7 : mOk M_81.1 M_81.2.1 M_81.2.2.1 M_81.2.2.2 7 (o_newq 6) := ok_newq dX9_init_7 (by decide) m_178 (fun U h => h.2.2.2) (fun _ => rfl)
theorem k_81_10 : mOk M_81.1 M_81.2.1 M_81.2.2.1 M_81.2.2.2 10 (o_pP 9 2) := ok_pP dX9_init_10 (mFw_of f_RX9_11_c (Or.inr ⟨rfl, rfl, rfl⟩)) rfl
theorem k_81_13 : mOk M_81.1 M_81.2.1 M_81.2.2.1 M_81.2.2.2 13 (o_al 0 1) := ok_aload_n dX9_init_13 rfl
theorem k_81_14 : mOk M_81.1 M_81.2.1 M_81.2.2.1 M_81.2.2.2 14 (oS 2 (s_push (.int 13))) := ok_bipush dX9_init_14 (by decide)
theorem k_81_16 : mOk M_81.1 M_81.2.1 M_81.2.2.1 M_81.2.2.2 16 (o_newa 3) := ok_newa dX9_init_16 (by decide) m_214 (fun _ => rfl) (fun _ _ h => h) (by decide) rfl
theorem k_81_18 : mOk M_81.1 M_81.2.1 M_81.2.2.1 M_81.2.2.2 18 (o_pP 9 3) := ok_pP dX9_init_18 (mFw_of f_RX9_17_c (Or.inr ⟨rfl, rfl, rfl⟩)) rfl
theorem k_81_21 : mOk M_81.1 M_81.2.1 M_81.2.2.1 M_81.2.2.2 21 (o_al 0 1) := ok_aload_n dX9_init_21 rfl
theorem k_81_22 : mOk M_81.1 M_81.2.1 M_81.2.2.1 M_81.2.2.2 22 (o_new 6) := ok_new dX9_init_22 cl_6 rfl m_178 m_180 m_75
theorem k_81_25 : mOk M_81.1 M_81.2.1 M_81.2.2.1 M_81.2.2.2 25 (oS 1 s_dup) := ok_dup dX9_init_25
theorem k_81_26 : mOk M_81.1 M_81.2.1 M_81.2.2.1 M_81.2.2.2 26 (oS 2 (s_push (.int 60))) := ok_bipush dX9_init_26 (by decide)
theorem k_81_31 : mOk M_81.1 M_81.2.1 M_81.2.2.1 M_81.2.2.2 31 (o_pP 9 4) := ok_pP dX9_init_31 (mFw_of f_RX9_24_c (Or.inl rfl)) rfl
theorem k_81_34 : mOk M_81.1 M_81.2.1 M_81.2.2.1 M_81.2.2.2 34 (o_al 0 1) := ok_aload_n dX9_init_34 rfl
theorem k_81_35 : mOk M_81.1 M_81.2.1 M_81.2.2.1 M_81.2.2.2 35 (o_new 6) := ok_new dX9_init_35 cl_6 rfl m_178 m_180 m_75
theorem k_81_38 : mOk M_81.1 M_81.2.1 M_81.2.2.1 M_81.2.2.2 38 (oS 1 s_dup) := ok_dup dX9_init_38
theorem k_81_39 : mOk M_81.1 M_81.2.1 M_81.2.2.1 M_81.2.2.2 39 (oS 2 (s_push (.int 60))) := ok_bipush dX9_init_39 (by decide)
theorem k_81_44 : mOk M_81.1 M_81.2.1 M_81.2.2.1 M_81.2.2.2 44 (o_pP 9 5) := ok_pP dX9_init_44 (mFw_of f_RX9_28_c (Or.inl rfl)) rfl
theorem k_81_47 : mOk M_81.1 M_81.2.1 M_81.2.2.1 M_81.2.2.2 47 (o_al 0 1) := ok_aload_n dX9_init_47 rfl
theorem k_81_48 : mOk M_81.1 M_81.2.1 M_81.2.2.1 M_81.2.2.2 48 (o_new 8) := ok_new dX9_init_48 cl_8 rfl m_215 m_216 m_76
theorem k_81_51 : mOk M_81.1 M_81.2.1 M_81.2.2.1 M_81.2.2.2 51 (oS 1 s_dup) := ok_dup dX9_init_51
theorem k_81_55 : mOk M_81.1 M_81.2.1 M_81.2.2.1 M_81.2.2.2 55 (o_pP 9 6) := ok_pP dX9_init_55 (mFw_of f_RX9_34_c (Or.inr ⟨rfl, rfl, rfl⟩)) rfl
theorem k_81_58 : mOk M_81.1 M_81.2.1 M_81.2.2.1 M_81.2.2.2 58 (oS 1 (s_push (.int 0))) := ok_iconst dX9_init_58 (by decide)
theorem k_81_59 : mOk M_81.1 M_81.2.1 M_81.2.2.1 M_81.2.2.2 59 (o_is 1 1) := ok_istore_n dX9_init_59 rfl
theorem k_81_60 : mOk M_81.1 M_81.2.1 M_81.2.2.1 M_81.2.2.2 60 (o_il 1 1) := ok_iload_n dX9_init_60 rfl
theorem k_81_61 : mOk M_81.1 M_81.2.1 M_81.2.2.1 M_81.2.2.2 61 (oS 2 (s_push (.int 24))) := ok_bipush dX9_init_61 (by decide)
theorem k_81_63 : mOk M_81.1 M_81.2.1 M_81.2.2.1 M_81.2.2.2 63 (o_cge 87) := ok_cge dX9_init_63 (by decide)
theorem k_81_66 : mOk M_81.1 M_81.2.1 M_81.2.2.1 M_81.2.2.2 66 (o_al 0 1) := ok_aload_n dX9_init_66 rfl
theorem k_81_67 : mOk M_81.1 M_81.2.1 M_81.2.2.1 M_81.2.2.2 67 (o_gP 9 2) := ok_gP dX9_init_67 f_RX9_11 rfl
theorem k_81_70 : mOk M_81.1 M_81.2.1 M_81.2.2.1 M_81.2.2.2 70 (o_il 1 1) := ok_iload_n dX9_init_70 rfl
theorem k_81_71 : mOk M_81.1 M_81.2.1 M_81.2.2.1 M_81.2.2.2 71 (o_new 6) := ok_new dX9_init_71 cl_6 rfl m_178 m_180 m_75
theorem k_81_74 : mOk M_81.1 M_81.2.1 M_81.2.2.1 M_81.2.2.2 74 (oS 1 s_dup) := ok_dup dX9_init_74
theorem k_81_75 : mOk M_81.1 M_81.2.1 M_81.2.2.1 M_81.2.2.2 75 (oS 2 (s_push (.int 13))) := ok_bipush dX9_init_75 (by decide)
theorem k_81_80 : mOk M_81.1 M_81.2.1 M_81.2.2.1 M_81.2.2.2 80 (o_aast) := ok_aast dX9_init_80
theorem k_81_81 : mOk M_81.1 M_81.2.1 M_81.2.2.1 M_81.2.2.2 81 (o_inc 1 1) := ok_iinc dX9_init_81 (by decide)
theorem k_81_84 : mOk M_81.1 M_81.2.1 M_81.2.2.1 M_81.2.2.2 84 (o_goto 60) := ok_goto dX9_init_84 (by decide)
set_option maxRecDepth 20000 in
set_option maxHeartbeats 4000000 in
theorem tk_81 (l : Launch) (H9 : mThr l) (H10 : mSpl l) (pc : Nat) (q : mEnt) (h : tb_81 pc = some q) : EE l 81 pc q := nd h (fun h => nd h (fun h => nd h (fun h => nd h (fun h => nd h (fun h => lf (P := EE l 81) h k_81_0) (fun h => lf (P := EE l 81) h (EE_ob (⟨3, dX9_init_1, m_177, m_97, m_98, by decide, by decide⟩)))) (fun h => nd h (fun h => lf (P := EE l 81) h k_81_4) (fun h => nd h (fun h => lf (P := EE l 81) h k_81_5) (fun h => lf (P := EE l 81) h k_81_7)))) (fun h => nd h (fun h => nd h (fun h => lf (P := EE l 81) h k_81_10) (fun h => lf (P := EE l 81) h k_81_13)) (fun h => nd h (fun h => lf (P := EE l 81) h k_81_14) (fun h => nd h (fun h => lf (P := EE l 81) h k_81_16) (fun h => lf (P := EE l 81) h k_81_18))))) (fun h => nd h (fun h => nd h (fun h => nd h (fun h => lf (P := EE l 81) h k_81_21) (fun h => lf (P := EE l 81) h k_81_22)) (fun h => nd h (fun h => lf (P := EE l 81) h k_81_25) (fun h => nd h (fun h => lf (P := EE l 81) h k_81_26) (fun h => lf (P := EE l 81) h (EE_ca (by decide) (⟨m_183, m_75, ⟨by decide, by decide⟩, by decide +kernel, ⟨by decide, by decide⟩, 21, 1, by decide +kernel, Or.inr (Or.inr (Or.inr (Or.inl ⟨rfl, rfl, dX9_init_28, m_181, m_182, rfl, rfl⟩)))⟩) rfl))))) (fun h => nd h (fun h => nd h (fun h => lf (P := EE l 81) h k_81_31) (fun h => nd h (fun h => lf (P := EE l 81) h k_81_34) (fun h => lf (P := EE l 81) h k_81_35))) (fun h => nd h (fun h => lf (P := EE l 81) h k_81_38) (fun h => nd h (fun h => lf (P := EE l 81) h k_81_39) (fun h => lf (P := EE l 81) h (EE_ca (by decide) (⟨m_183, m_75, ⟨by decide, by decide⟩, by decide +kernel, ⟨by decide, by decide⟩, 21, 1, by decide +kernel, Or.inr (Or.inr (Or.inr (Or.inl ⟨rfl, rfl, dX9_init_41, m_181, m_182, rfl, rfl⟩)))⟩) rfl))))))) (fun h => nd h (fun h => nd h (fun h => nd h (fun h => nd h (fun h => lf (P := EE l 81) h k_81_44) (fun h => lf (P := EE l 81) h k_81_47)) (fun h => nd h (fun h => lf (P := EE l 81) h k_81_48) (fun h => nd h (fun h => lf (P := EE l 81) h k_81_51) (fun h => lf (P := EE l 81) h (EE_ca (by decide) (⟨m_219, m_76, ⟨by decide, by decide⟩, by decide +kernel, ⟨by decide, by decide⟩, 33, 0, by decide +kernel, Or.inr (Or.inr (Or.inr (Or.inr ⟨rfl, rfl, dX9_init_52, ⟨"AtlasDesk", m_217⟩, m_218, rfl, rfl⟩)))⟩) rfl))))) (fun h => nd h (fun h => nd h (fun h => lf (P := EE l 81) h k_81_55) (fun h => nd h (fun h => lf (P := EE l 81) h k_81_58) (fun h => lf (P := EE l 81) h k_81_59))) (fun h => nd h (fun h => lf (P := EE l 81) h k_81_60) (fun h => nd h (fun h => lf (P := EE l 81) h k_81_61) (fun h => lf (P := EE l 81) h k_81_63))))) (fun h => nd h (fun h => nd h (fun h => nd h (fun h => lf (P := EE l 81) h k_81_66) (fun h => lf (P := EE l 81) h k_81_67)) (fun h => nd h (fun h => lf (P := EE l 81) h k_81_70) (fun h => nd h (fun h => lf (P := EE l 81) h k_81_71) (fun h => lf (P := EE l 81) h k_81_74)))) (fun h => nd h (fun h => nd h (fun h => lf (P := EE l 81) h k_81_75) (fun h => nd h (fun h => lf (P := EE l 81) h (EE_ca (by decide) (⟨m_183, m_75, ⟨by decide, by decide⟩, by decide +kernel, ⟨by decide, by decide⟩, 21, 1, by decide +kernel, Or.inr (Or.inr (Or.inr (Or.inl ⟨rfl, rfl, dX9_init_77, m_181, m_182, rfl, rfl⟩)))⟩) rfl)) (fun h => lf (P := EE l 81) h k_81_80))) (fun h => nd h (fun h => lf (P := EE l 81) h k_81_81) (fun h => nd h (fun h => lf (P := EE l 81) h k_81_84) (fun h => lf (P := EE l 81) h (EE_re (Or.inr (Or.inr (Or.inr (Or.inr ⟨rfl, dX9_init_87, rfl⟩)))))))))))
theorem dX9_prepare_0 : decode cX9_prepare 0 = .ok (.aload_n 0, 1) := by decide +kernel
theorem dX9_prepare_1 : decode cX9_prepare 1 = .ok (.aload_n 1, 1) := by decide +kernel
theorem dX9_prepare_2 : decode cX9_prepare 2 = .ok (.putfield 38, 3) := by decide +kernel
theorem dX9_prepare_5 : decode cX9_prepare 5 = .ok (.aload_n 0, 1) := by decide +kernel
theorem dX9_prepare_6 : decode cX9_prepare 6 = .ok (.iload_n 2, 1) := by decide +kernel
theorem dX9_prepare_7 : decode cX9_prepare 7 = .ok (.putfield 42, 3) := by decide +kernel
theorem dX9_prepare_10 : decode cX9_prepare 10 = .ok (.iconst 0, 1) := by decide +kernel
theorem dX9_prepare_11 : decode cX9_prepare 11 = .ok (.istore_n 3, 1) := by decide +kernel
theorem dX9_prepare_12 : decode cX9_prepare 12 = .ok (.iload_n 3, 1) := by decide +kernel
theorem dX9_prepare_13 : decode cX9_prepare 13 = .ok (.aload_n 0, 1) := by decide +kernel
theorem dX9_prepare_14 : decode cX9_prepare 14 = .ok (.getfield 38, 3) := by decide +kernel
theorem dX9_prepare_17 : decode cX9_prepare 17 = .ok (.getfield 46, 3) := by decide +kernel
theorem dX9_prepare_20 : decode cX9_prepare 20 = .ok (.if_icmp .ge 54, 3) := by decide +kernel
theorem dX9_prepare_23 : decode cX9_prepare 23 = .ok (.aload_n 0, 1) := by decide +kernel
theorem dX9_prepare_24 : decode cX9_prepare 24 = .ok (.getfield 11, 3) := by decide +kernel
theorem dX9_prepare_27 : decode cX9_prepare 27 = .ok (.iload_n 3, 1) := by decide +kernel
theorem dX9_prepare_28 : decode cX9_prepare 28 = .ok (.aaload, 1) := by decide +kernel
theorem dX9_prepare_29 : decode cX9_prepare 29 = .ok (.iconst 0, 1) := by decide +kernel
theorem dX9_prepare_30 : decode cX9_prepare 30 = .ok (.putfield 51, 3) := by decide +kernel
theorem dX9_prepare_33 : decode cX9_prepare 33 = .ok (.aload_n 0, 1) := by decide +kernel
theorem dX9_prepare_34 : decode cX9_prepare 34 = .ok (.getfield 38, 3) := by decide +kernel
theorem dX9_prepare_37 : decode cX9_prepare 37 = .ok (.getfield 52, 3) := by decide +kernel
theorem dX9_prepare_40 : decode cX9_prepare 40 = .ok (.iload_n 3, 1) := by decide +kernel
theorem dX9_prepare_41 : decode cX9_prepare 41 = .ok (.aaload, 1) := by decide +kernel
theorem dX9_prepare_42 : decode cX9_prepare 42 = .ok (.getfield 56, 3) := by decide +kernel
theorem dX9_prepare_45 : decode cX9_prepare 45 = .ok (.iload_n 2, 1) := by decide +kernel
theorem dX9_prepare_46 : decode cX9_prepare 46 = .ok (.if_icmp .gt 22, 3) := by decide +kernel
theorem dX9_prepare_49 : decode cX9_prepare 49 = .ok (.aload_n 0, 1) := by decide +kernel
theorem dX9_prepare_50 : decode cX9_prepare 50 = .ok (.aload_n 0, 1) := by decide +kernel
theorem dX9_prepare_51 : decode cX9_prepare 51 = .ok (.getfield 38, 3) := by decide +kernel
theorem dX9_prepare_54 : decode cX9_prepare 54 = .ok (.getfield 52, 3) := by decide +kernel
theorem dX9_prepare_57 : decode cX9_prepare 57 = .ok (.iload_n 3, 1) := by decide +kernel
theorem dX9_prepare_58 : decode cX9_prepare 58 = .ok (.aaload, 1) := by decide +kernel
theorem dX9_prepare_59 : decode cX9_prepare 59 = .ok (.aload_n 0, 1) := by decide +kernel
theorem dX9_prepare_60 : decode cX9_prepare 60 = .ok (.getfield 11, 3) := by decide +kernel
theorem dX9_prepare_63 : decode cX9_prepare 63 = .ok (.iload_n 3, 1) := by decide +kernel
theorem dX9_prepare_64 : decode cX9_prepare 64 = .ok (.aaload, 1) := by decide +kernel
theorem dX9_prepare_65 : decode cX9_prepare 65 = .ok (.invokevirtual 61, 3) := by decide +kernel
theorem dX9_prepare_68 : decode cX9_prepare 68 = .ok (.iinc 3 1, 3) := by decide +kernel
theorem dX9_prepare_71 : decode cX9_prepare 71 = .ok (.goto (-59), 3) := by decide +kernel
theorem dX9_prepare_74 : decode cX9_prepare 74 = .ok (.return_, 1) := by decide +kernel
def tb_82 (pc : Nat) : Option mEnt := bif Nat.ble pc 33 then (bif Nat.ble pc 13 then (bif Nat.ble pc 6 then (bif Nat.ble pc 1 then (bif Nat.ble pc 0 then (bif Nat.beq pc 0 then some (.inl (o_al 0 1)) else none) else (bif Nat.beq pc 1 then some (.inl (o_al 1 1)) else none)) else (bif Nat.ble pc 2 then (bif Nat.beq pc 2 then some (.inl (o_pP 9 0)) else none) else (bif Nat.ble pc 5 then (bif Nat.beq pc 5 then some (.inl (o_al 0 1)) else none) else (bif Nat.beq pc 6 then some (.inl (o_il 2 1)) else none)))) else (bif Nat.ble pc 10 then (bif Nat.ble pc 7 then (bif Nat.beq pc 7 then some (.inl (o_pI 9 1)) else none) else (bif Nat.beq pc 10 then some (.inl (oS 1 (s_push (.int 0)))) else none)) else (bif Nat.ble pc 11 then (bif Nat.beq pc 11 then some (.inl (o_is 3 1)) else none) else (bif Nat.ble pc 12 then (bif Nat.beq pc 12 then some (.inl (o_il 3 1)) else none) else (bif Nat.beq pc 13 then some (.inl (o_al 0 1)) else none))))) else (bif Nat.ble pc 24 then (bif Nat.ble pc 17 then (bif Nat.ble pc 14 then (bif Nat.beq pc 14 then some (.inl (o_gP 9 0)) else none) else (bif Nat.beq pc 17 then some (.inl (o_gI 1 1)) else none)) else (bif Nat.ble pc 20 then (bif Nat.beq pc 20 then some (.inl (o_cge 74)) else none) else (bif Nat.ble pc 23 then (bif Nat.beq pc 23 then some (.inl (o_al 0 1)) else none) else (bif Nat.beq pc 24 then some (.inl (o_gP 9 2)) else none)))) else (bif Nat.ble pc 28 then (bif Nat.ble pc 27 then (bif Nat.beq pc 27 then some (.inl (o_il 3 1)) else none) else (bif Nat.beq pc 28 then some (.inl (o_aald)) else none)) else (bif Nat.ble pc 29 then (bif Nat.beq pc 29 then some (.inl (oS 1 (s_push (.int 0)))) else none) else (bif Nat.ble pc 30 then (bif Nat.beq pc 30 then some (.inl (o_pI 6 3)) else none) else (bif Nat.beq pc 33 then some (.inl (o_al 0 1)) else none)))))) else (bif Nat.ble pc 51 then (bif Nat.ble pc 42 then (bif Nat.ble pc 37 then (bif Nat.ble pc 34 then (bif Nat.beq pc 34 then some (.inl (o_gP 9 0)) else none) else (bif Nat.beq pc 37 then some (.inl (o_gP 1 0)) else none)) else (bif Nat.ble pc 40 then (bif Nat.beq pc 40 then some (.inl (o_il 3 1)) else none) else (bif Nat.ble pc 41 then (bif Nat.beq pc 41 then some (.inl (o_aald)) else none) else (bif Nat.beq pc 42 then some (.inl (o_gI 2 3)) else none)))) else (bif Nat.ble pc 46 then (bif Nat.ble pc 45 then (bif Nat.beq pc 45 then some (.inl (o_il 2 1)) else none) else (bif Nat.beq pc 46 then some (.inl (o_cgt 68)) else none)) else (bif Nat.ble pc 49 then (bif Nat.beq pc 49 then some (.inl (o_al 0 1)) else none) else (bif Nat.ble pc 50 then (bif Nat.beq pc 50 then some (.inl (o_al 0 1)) else none) else (bif Nat.beq pc 51 then some (.inl (o_gP 9 0)) else none))))) else (bif Nat.ble pc 60 then (bif Nat.ble pc 57 then (bif Nat.ble pc 54 then (bif Nat.beq pc 54 then some (.inl (o_gP 1 0)) else none) else (bif Nat.beq pc 57 then some (.inl (o_il 3 1)) else none)) else (bif Nat.ble pc 58 then (bif Nat.beq pc 58 then some (.inl (o_aald)) else none) else (bif Nat.ble pc 59 then (bif Nat.beq pc 59 then some (.inl (o_al 0 1)) else none) else (bif Nat.beq pc 60 then some (.inl (o_gP 9 2)) else none)))) else (bif Nat.ble pc 65 then (bif Nat.ble pc 63 then (bif Nat.beq pc 63 then some (.inl (o_il 3 1)) else none) else (bif Nat.ble pc 64 then (bif Nat.beq pc 64 then some (.inl (o_aald)) else none) else (bif Nat.beq pc 65 then some (.inr (3, 83, 3, 9)) else none))) else (bif Nat.ble pc 68 then (bif Nat.beq pc 68 then some (.inl (o_inc 3 1)) else none) else (bif Nat.ble pc 71 then (bif Nat.beq pc 71 then some (.inl (o_goto 12)) else none) else (bif Nat.beq pc 74 then some (.inr (0, 0, 0, 3)) else none))))))
theorem k_82_0 : mOk M_82.1 M_82.2.1 M_82.2.2.1 M_82.2.2.2 0 (o_al 0 1) := ok_aload_n dX9_prepare_0 rfl
theorem k_82_1 : mOk M_82.1 M_82.2.1 M_82.2.2.1 M_82.2.2.2 1 (o_al 1 1) := ok_aload_n dX9_prepare_1 rfl
theorem k_82_2 : mOk M_82.1 M_82.2.1 M_82.2.2.1 M_82.2.2.2 2 (o_pP 9 0) := ok_pP dX9_prepare_2 (mFw_of f_RX9_38_c (Or.inl rfl)) rfl
theorem k_82_5 : mOk M_82.1 M_82.2.1 M_82.2.2.1 M_82.2.2.2 5 (o_al 0 1) := ok_aload_n dX9_prepare_5 rfl
theorem k_82_6 : mOk M_82.1 M_82.2.1 M_82.2.2.1 M_82.2.2.2 6 (o_il 2 1) := ok_iload_n dX9_prepare_6 rfl
theorem k_82_7 : mOk M_82.1 M_82.2.1 M_82.2.2.1 M_82.2.2.2 7 (o_pI 9 1) := ok_pI dX9_prepare_7 (mFw_of f_RX9_42_c (Or.inl rfl)) rfl
theorem k_82_10 : mOk M_82.1 M_82.2.1 M_82.2.2.1 M_82.2.2.2 10 (oS 1 (s_push (.int 0))) := ok_iconst dX9_prepare_10 (by decide)
theorem k_82_11 : mOk M_82.1 M_82.2.1 M_82.2.2.1 M_82.2.2.2 11 (o_is 3 1) := ok_istore_n dX9_prepare_11 rfl
theorem k_82_12 : mOk M_82.1 M_82.2.1 M_82.2.2.1 M_82.2.2.2 12 (o_il 3 1) := ok_iload_n dX9_prepare_12 rfl
theorem k_82_13 : mOk M_82.1 M_82.2.1 M_82.2.2.1 M_82.2.2.2 13 (o_al 0 1) := ok_aload_n dX9_prepare_13 rfl
theorem k_82_14 : mOk M_82.1 M_82.2.1 M_82.2.2.1 M_82.2.2.2 14 (o_gP 9 0) := ok_gP dX9_prepare_14 f_RX9_38 rfl
theorem k_82_17 : mOk M_82.1 M_82.2.1 M_82.2.2.1 M_82.2.2.2 17 (o_gI 1 1) := ok_gI dX9_prepare_17 f_RX9_46 (Or.inl rfl)
theorem k_82_20 : mOk M_82.1 M_82.2.1 M_82.2.2.1 M_82.2.2.2 20 (o_cge 74) := ok_cge dX9_prepare_20 (by decide)
theorem k_82_23 : mOk M_82.1 M_82.2.1 M_82.2.2.1 M_82.2.2.2 23 (o_al 0 1) := ok_aload_n dX9_prepare_23 rfl
theorem k_82_24 : mOk M_82.1 M_82.2.1 M_82.2.2.1 M_82.2.2.2 24 (o_gP 9 2) := ok_gP dX9_prepare_24 f_RX9_11 rfl
theorem k_82_27 : mOk M_82.1 M_82.2.1 M_82.2.2.1 M_82.2.2.2 27 (o_il 3 1) := ok_iload_n dX9_prepare_27 rfl
theorem k_82_28 : mOk M_82.1 M_82.2.1 M_82.2.2.1 M_82.2.2.2 28 (o_aald) := ok_aald dX9_prepare_28
theorem k_82_29 : mOk M_82.1 M_82.2.1 M_82.2.2.1 M_82.2.2.2 29 (oS 1 (s_push (.int 0))) := ok_iconst dX9_prepare_29 (by decide)
theorem k_82_30 : mOk M_82.1 M_82.2.1 M_82.2.2.1 M_82.2.2.2 30 (o_pI 6 3) := ok_pI dX9_prepare_30 (mFw_of f_RX9_51_c (Or.inl rfl)) rfl
theorem k_82_33 : mOk M_82.1 M_82.2.1 M_82.2.2.1 M_82.2.2.2 33 (o_al 0 1) := ok_aload_n dX9_prepare_33 rfl
theorem k_82_34 : mOk M_82.1 M_82.2.1 M_82.2.2.1 M_82.2.2.2 34 (o_gP 9 0) := ok_gP dX9_prepare_34 f_RX9_38 rfl
theorem k_82_37 : mOk M_82.1 M_82.2.1 M_82.2.2.1 M_82.2.2.2 37 (o_gP 1 0) := ok_gP dX9_prepare_37 f_RX9_52 rfl
theorem k_82_40 : mOk M_82.1 M_82.2.1 M_82.2.2.1 M_82.2.2.2 40 (o_il 3 1) := ok_iload_n dX9_prepare_40 rfl
theorem k_82_41 : mOk M_82.1 M_82.2.1 M_82.2.2.1 M_82.2.2.2 41 (o_aald) := ok_aald dX9_prepare_41
theorem k_82_42 : mOk M_82.1 M_82.2.1 M_82.2.2.1 M_82.2.2.2 42 (o_gI 2 3) := ok_gI dX9_prepare_42 f_RX9_56 (Or.inl rfl)
theorem k_82_45 : mOk M_82.1 M_82.2.1 M_82.2.2.1 M_82.2.2.2 45 (o_il 2 1) := ok_iload_n dX9_prepare_45 rfl
theorem k_82_46 : mOk M_82.1 M_82.2.1 M_82.2.2.1 M_82.2.2.2 46 (o_cgt 68) := ok_cgt dX9_prepare_46 (by decide)
theorem k_82_49 : mOk M_82.1 M_82.2.1 M_82.2.2.1 M_82.2.2.2 49 (o_al 0 1) := ok_aload_n dX9_prepare_49 rfl
theorem k_82_50 : mOk M_82.1 M_82.2.1 M_82.2.2.1 M_82.2.2.2 50 (o_al 0 1) := ok_aload_n dX9_prepare_50 rfl
theorem k_82_51 : mOk M_82.1 M_82.2.1 M_82.2.2.1 M_82.2.2.2 51 (o_gP 9 0) := ok_gP dX9_prepare_51 f_RX9_38 rfl
theorem k_82_54 : mOk M_82.1 M_82.2.1 M_82.2.2.1 M_82.2.2.2 54 (o_gP 1 0) := ok_gP dX9_prepare_54 f_RX9_52 rfl
theorem k_82_57 : mOk M_82.1 M_82.2.1 M_82.2.2.1 M_82.2.2.2 57 (o_il 3 1) := ok_iload_n dX9_prepare_57 rfl
theorem k_82_58 : mOk M_82.1 M_82.2.1 M_82.2.2.1 M_82.2.2.2 58 (o_aald) := ok_aald dX9_prepare_58
theorem k_82_59 : mOk M_82.1 M_82.2.1 M_82.2.2.1 M_82.2.2.2 59 (o_al 0 1) := ok_aload_n dX9_prepare_59 rfl
theorem k_82_60 : mOk M_82.1 M_82.2.1 M_82.2.2.1 M_82.2.2.2 60 (o_gP 9 2) := ok_gP dX9_prepare_60 f_RX9_11 rfl
theorem k_82_63 : mOk M_82.1 M_82.2.1 M_82.2.2.1 M_82.2.2.2 63 (o_il 3 1) := ok_iload_n dX9_prepare_63 rfl
theorem k_82_64 : mOk M_82.1 M_82.2.1 M_82.2.2.1 M_82.2.2.2 64 (o_aald) := ok_aald dX9_prepare_64
theorem k_82_68 : mOk M_82.1 M_82.2.1 M_82.2.2.1 M_82.2.2.2 68 (o_inc 3 1) := ok_iinc dX9_prepare_68 (by decide)
theorem k_82_71 : mOk M_82.1 M_82.2.1 M_82.2.2.1 M_82.2.2.2 71 (o_goto 12) := ok_goto dX9_prepare_71 (by decide)
set_option maxRecDepth 20000 in
set_option maxHeartbeats 4000000 in
theorem tk_82 (l : Launch) (H9 : mThr l) (H10 : mSpl l) (pc : Nat) (q : mEnt) (h : tb_82 pc = some q) : EE l 82 pc q := nd h (fun h => nd h (fun h => nd h (fun h => nd h (fun h => nd h (fun h => lf (P := EE l 82) h k_82_0) (fun h => lf (P := EE l 82) h k_82_1)) (fun h => nd h (fun h => lf (P := EE l 82) h k_82_2) (fun h => nd h (fun h => lf (P := EE l 82) h k_82_5) (fun h => lf (P := EE l 82) h k_82_6)))) (fun h => nd h (fun h => nd h (fun h => lf (P := EE l 82) h k_82_7) (fun h => lf (P := EE l 82) h k_82_10)) (fun h => nd h (fun h => lf (P := EE l 82) h k_82_11) (fun h => nd h (fun h => lf (P := EE l 82) h k_82_12) (fun h => lf (P := EE l 82) h k_82_13))))) (fun h => nd h (fun h => nd h (fun h => nd h (fun h => lf (P := EE l 82) h k_82_14) (fun h => lf (P := EE l 82) h k_82_17)) (fun h => nd h (fun h => lf (P := EE l 82) h k_82_20) (fun h => nd h (fun h => lf (P := EE l 82) h k_82_23) (fun h => lf (P := EE l 82) h k_82_24)))) (fun h => nd h (fun h => nd h (fun h => lf (P := EE l 82) h k_82_27) (fun h => lf (P := EE l 82) h k_82_28)) (fun h => nd h (fun h => lf (P := EE l 82) h k_82_29) (fun h => nd h (fun h => lf (P := EE l 82) h k_82_30) (fun h => lf (P := EE l 82) h k_82_33)))))) (fun h => nd h (fun h => nd h (fun h => nd h (fun h => nd h (fun h => lf (P := EE l 82) h k_82_34) (fun h => lf (P := EE l 82) h k_82_37)) (fun h => nd h (fun h => lf (P := EE l 82) h k_82_40) (fun h => nd h (fun h => lf (P := EE l 82) h k_82_41) (fun h => lf (P := EE l 82) h k_82_42)))) (fun h => nd h (fun h => nd h (fun h => lf (P := EE l 82) h k_82_45) (fun h => lf (P := EE l 82) h k_82_46)) (fun h => nd h (fun h => lf (P := EE l 82) h k_82_49) (fun h => nd h (fun h => lf (P := EE l 82) h k_82_50) (fun h => lf (P := EE l 82) h k_82_51))))) (fun h => nd h (fun h => nd h (fun h => nd h (fun h => lf (P := EE l 82) h k_82_54) (fun h => lf (P := EE l 82) h k_82_57)) (fun h => nd h (fun h => lf (P := EE l 82) h k_82_58) (fun h => nd h (fun h => lf (P := EE l 82) h k_82_59) (fun h => lf (P := EE l 82) h k_82_60)))) (fun h => nd h (fun h => nd h (fun h => lf (P := EE l 82) h k_82_63) (fun h => nd h (fun h => lf (P := EE l 82) h k_82_64) (fun h => lf (P := EE l 82) h (EE_ca (by decide) (⟨m_731, m_74, ⟨by decide, by decide⟩, by decide +kernel, ⟨by decide, by decide⟩, 61, 2, by decide +kernel, Or.inr (Or.inr (Or.inl ⟨rfl, rfl, dX9_prepare_65, m_728, m_730, _, rfl, by decide, m_12⟩))⟩) rfl)))) (fun h => nd h (fun h => lf (P := EE l 82) h k_82_68) (fun h => nd h (fun h => lf (P := EE l 82) h k_82_71) (fun h => lf (P := EE l 82) h (EE_re (Or.inr (Or.inr (Or.inr (Or.inr ⟨rfl, dX9_prepare_74, rfl⟩)))))))))))
theorem dX9_makeShape_0 : decode cX9_makeShape 0 = .ok (.iconst 4, 1) := by decide +kernel
theorem dX9_makeShape_1 : decode cX9_makeShape 1 = .ok (.aload_n 0, 1) := by decide +kernel
theorem dX9_makeShape_2 : decode cX9_makeShape 2 = .ok (.getfield 42, 3) := by decide +kernel
theorem dX9_makeShape_5 : decode cX9_makeShape 5 = .ok (.isub, 1) := by decide +kernel
theorem dX9_makeShape_6 : decode cX9_makeShape 6 = .ok (.istore_n 3, 1) := by decide +kernel
theorem dX9_makeShape_7 : decode cX9_makeShape 7 = .ok (.iconst 0, 1) := by decide +kernel
theorem dX9_makeShape_8 : decode cX9_makeShape 8 = .ok (.istore 4, 2) := by decide +kernel
theorem dX9_makeShape_10 : decode cX9_makeShape 10 = .ok (.iload 4, 2) := by decide +kernel
theorem dX9_makeShape_12 : decode cX9_makeShape 12 = .ok (.aload_n 1, 1) := by decide +kernel
theorem dX9_makeShape_13 : decode cX9_makeShape 13 = .ok (.getfield 65, 3) := by decide +kernel
theorem dX9_makeShape_16 : decode cX9_makeShape 16 = .ok (.if_icmp .ge 41, 3) := by decide +kernel
theorem dX9_makeShape_19 : decode cX9_makeShape 19 = .ok (.aload_n 2, 1) := by decide +kernel
theorem dX9_makeShape_20 : decode cX9_makeShape 20 = .ok (.aload_n 1, 1) := by decide +kernel
theorem dX9_makeShape_21 : decode cX9_makeShape 21 = .ok (.getfield 66, 3) := by decide +kernel
theorem dX9_makeShape_24 : decode cX9_makeShape 24 = .ok (.iload 4, 2) := by decide +kernel
theorem dX9_makeShape_26 : decode cX9_makeShape 26 = .ok (.iaload, 1) := by decide +kernel
theorem dX9_makeShape_27 : decode cX9_makeShape 27 = .ok (.iload_n 3, 1) := by decide +kernel
theorem dX9_makeShape_28 : decode cX9_makeShape 28 = .ok (.ishr, 1) := by decide +kernel
theorem dX9_makeShape_29 : decode cX9_makeShape 29 = .ok (.aload_n 1, 1) := by decide +kernel
theorem dX9_makeShape_30 : decode cX9_makeShape 30 = .ok (.getfield 70, 3) := by decide +kernel
theorem dX9_makeShape_33 : decode cX9_makeShape 33 = .ok (.iload 4, 2) := by decide +kernel
theorem dX9_makeShape_35 : decode cX9_makeShape 35 = .ok (.iaload, 1) := by decide +kernel
theorem dX9_makeShape_36 : decode cX9_makeShape 36 = .ok (.iload_n 3, 1) := by decide +kernel
theorem dX9_makeShape_37 : decode cX9_makeShape 37 = .ok (.ishr, 1) := by decide +kernel
theorem dX9_makeShape_38 : decode cX9_makeShape 38 = .ok (.iload 4, 2) := by decide +kernel
theorem dX9_makeShape_40 : decode cX9_makeShape 40 = .ok (.ifCond .ne 7, 3) := by decide +kernel
theorem dX9_makeShape_43 : decode cX9_makeShape 43 = .ok (.iconst 1, 1) := by decide +kernel
theorem dX9_makeShape_44 : decode cX9_makeShape 44 = .ok (.goto 4, 3) := by decide +kernel
theorem dX9_makeShape_47 : decode cX9_makeShape 47 = .ok (.iconst 0, 1) := by decide +kernel
theorem dX9_makeShape_48 : decode cX9_makeShape 48 = .ok (.invokevirtual 73, 3) := by decide +kernel
theorem dX9_makeShape_51 : decode cX9_makeShape 51 = .ok (.iinc 4 1, 3) := by decide +kernel
theorem dX9_makeShape_54 : decode cX9_makeShape 54 = .ok (.goto (-44), 3) := by decide +kernel
theorem dX9_makeShape_57 : decode cX9_makeShape 57 = .ok (.aload_n 1, 1) := by decide +kernel
theorem dX9_makeShape_58 : decode cX9_makeShape 58 = .ok (.getfield 77, 3) := by decide +kernel
theorem dX9_makeShape_61 : decode cX9_makeShape 61 = .ok (.iconst 2, 1) := by decide +kernel
theorem dX9_makeShape_62 : decode cX9_makeShape 62 = .ok (.if_icmp .ne 20, 3) := by decide +kernel
theorem dX9_makeShape_65 : decode cX9_makeShape 65 = .ok (.aload_n 2, 1) := by decide +kernel
theorem dX9_makeShape_66 : decode cX9_makeShape 66 = .ok (.aload_n 2, 1) := by decide +kernel
theorem dX9_makeShape_67 : decode cX9_makeShape 67 = .ok (.getfield 80, 3) := by decide +kernel
theorem dX9_makeShape_70 : decode cX9_makeShape 70 = .ok (.iconst 0, 1) := by decide +kernel
theorem dX9_makeShape_71 : decode cX9_makeShape 71 = .ok (.iaload, 1) := by decide +kernel
theorem dX9_makeShape_72 : decode cX9_makeShape 72 = .ok (.aload_n 2, 1) := by decide +kernel
theorem dX9_makeShape_73 : decode cX9_makeShape 73 = .ok (.getfield 81, 3) := by decide +kernel
theorem dX9_makeShape_76 : decode cX9_makeShape 76 = .ok (.iconst 0, 1) := by decide +kernel
theorem dX9_makeShape_77 : decode cX9_makeShape 77 = .ok (.iaload, 1) := by decide +kernel
theorem dX9_makeShape_78 : decode cX9_makeShape 78 = .ok (.iconst 0, 1) := by decide +kernel
theorem dX9_makeShape_79 : decode cX9_makeShape 79 = .ok (.invokevirtual 73, 3) := by decide +kernel
theorem dX9_makeShape_82 : decode cX9_makeShape 82 = .ok (.aload_n 2, 1) := by decide +kernel
theorem dX9_makeShape_83 : decode cX9_makeShape 83 = .ok (.getfield 51, 3) := by decide +kernel
theorem dX9_makeShape_86 : decode cX9_makeShape 86 = .ok (.iconst 2, 1) := by decide +kernel
theorem dX9_makeShape_87 : decode cX9_makeShape 87 = .ok (.if_icmp .le 13, 3) := by decide +kernel
theorem dX9_makeShape_90 : decode cX9_makeShape 90 = .ok (.aload_n 0, 1) := by decide +kernel
theorem dX9_makeShape_91 : decode cX9_makeShape 91 = .ok (.aload_n 2, 1) := by decide +kernel
theorem dX9_makeShape_92 : decode cX9_makeShape 92 = .ok (.invokevirtual 82, 3) := by decide +kernel
theorem dX9_makeShape_95 : decode cX9_makeShape 95 = .ok (.aload_n 0, 1) := by decide +kernel
theorem dX9_makeShape_96 : decode cX9_makeShape 96 = .ok (.aload_n 2, 1) := by decide +kernel
theorem dX9_makeShape_97 : decode cX9_makeShape 97 = .ok (.invokevirtual 86, 3) := by decide +kernel
theorem dX9_makeShape_100 : decode cX9_makeShape 100 = .ok (.aload_n 2, 1) := by decide +kernel
theorem dX9_makeShape_101 : decode cX9_makeShape 101 = .ok (.aload_n 1, 1) := by decide +kernel
theorem dX9_makeShape_102 : decode cX9_makeShape 102 = .ok (.getfield 77, 3) := by decide +kernel
theorem dX9_makeShape_105 : decode cX9_makeShape 105 = .ok (.invokevirtual 89, 3) := by decide +kernel
theorem dX9_makeShape_108 : decode cX9_makeShape 108 = .ok (.aload_n 2, 1) := by decide +kernel
theorem dX9_makeShape_109 : decode cX9_makeShape 109 = .ok (.invokevirtual 92, 3) := by decide +kernel
theorem dX9_makeShape_112 : decode cX9_makeShape 112 = .ok (.return_, 1) := by decide +kernel
def tb_83 (pc : Nat) : Option mEnt := bif Nat.ble pc 54 then (bif Nat.ble pc 26 then (bif Nat.ble pc 10 then (bif Nat.ble pc 5 then (bif Nat.ble pc 1 then (bif Nat.ble pc 0 then (bif Nat.beq pc 0 then some (.inl (oS 1 (s_push (.int 4)))) else none) else (bif Nat.beq pc 1 then some (.inl (o_al 0 1)) else none)) else (bif Nat.ble pc 2 then (bif Nat.beq pc 2 then some (.inl (o_gI 9 1)) else none) else (bif Nat.beq pc 5 then some (.inl (oS 1 (s_ii (fun a b => a - b)))) else none))) else (bif Nat.ble pc 7 then (bif Nat.ble pc 6 then (bif Nat.beq pc 6 then some (.inl (o_is 3 1)) else none) else (bif Nat.beq pc 7 then some (.inl (oS 1 (s_push (.int 0)))) else none)) else (bif Nat.ble pc 8 then (bif Nat.beq pc 8 then some (.inl (o_is 4 2)) else none) else (bif Nat.beq pc 10 then some (.inl (o_il 4 2)) else none)))) else (bif Nat.ble pc 19 then (bif Nat.ble pc 13 then (bif Nat.ble pc 12 then (bif Nat.beq pc 12 then some (.inl (o_al 1 1)) else none) else (bif Nat.beq pc 13 then some (.inl (o_gI 2 5)) else none)) else (bif Nat.ble pc 16 then (bif Nat.beq pc 16 then some (.inl (o_cge 57)) else none) else (bif Nat.beq pc 19 then some (.inl (o_al 2 1)) else none))) else (bif Nat.ble pc 21 then (bif Nat.ble pc 20 then (bif Nat.beq pc 20 then some (.inl (o_al 1 1)) else none) else (bif Nat.beq pc 21 then some (.inl (o_gP 2 6)) else none)) else (bif Nat.ble pc 24 then (bif Nat.beq pc 24 then some (.inl (o_il 4 2)) else none) else (bif Nat.beq pc 26 then some (.inl (o_iald)) else none))))) else (bif Nat.ble pc 37 then (bif Nat.ble pc 30 then (bif Nat.ble pc 28 then (bif Nat.ble pc 27 then (bif Nat.beq pc 27 then some (.inl (o_il 3 1)) else none) else (bif Nat.beq pc 28 then some (.inl (oS 1 (s_ii (fun a b => a >>> (b &&& 31))))) else none)) else (bif Nat.ble pc 29 then (bif Nat.beq pc 29 then some (.inl (o_al 1 1)) else none) else (bif Nat.beq pc 30 then some (.inl (o_gP 2 7)) else none))) else (bif Nat.ble pc 35 then (bif Nat.ble pc 33 then (bif Nat.beq pc 33 then some (.inl (o_il 4 2)) else none) else (bif Nat.beq pc 35 then some (.inl (o_iald)) else none)) else (bif Nat.ble pc 36 then (bif Nat.beq pc 36 then some (.inl (o_il 3 1)) else none) else (bif Nat.beq pc 37 then some (.inl (oS 1 (s_ii (fun a b => a >>> (b &&& 31))))) else none)))) else (bif Nat.ble pc 44 then (bif Nat.ble pc 40 then (bif Nat.ble pc 38 then (bif Nat.beq pc 38 then some (.inl (o_il 4 2)) else none) else (bif Nat.beq pc 40 then some (.inl (o_zne 47)) else none)) else (bif Nat.ble pc 43 then (bif Nat.beq pc 43 then some (.inl (oS 1 (s_push (.int 1)))) else none) else (bif Nat.beq pc 44 then some (.inl (o_goto 48)) else none))) else (bif Nat.ble pc 48 then (bif Nat.ble pc 47 then (bif Nat.beq pc 47 then some (.inl (oS 1 (s_push (.int 0)))) else none) else (bif Nat.beq pc 48 then some (.inr (3, 57, 4, 6)) else none)) else (bif Nat.ble pc 51 then (bif Nat.beq pc 51 then some (.inl (o_inc 4 1)) else none) else (bif Nat.beq pc 54 then some (.inl (o_goto 10)) else none)))))) else (bif Nat.ble pc 82 then (bif Nat.ble pc 70 then (bif Nat.ble pc 62 then (bif Nat.ble pc 58 then (bif Nat.ble pc 57 then (bif Nat.beq pc 57 then some (.inl (o_al 1 1)) else none) else (bif Nat.beq pc 58 then some (.inl (o_gI 2 1)) else none)) else (bif Nat.ble pc 61 then (bif Nat.beq pc 61 then some (.inl (oS 1 (s_push (.int 2)))) else none) else (bif Nat.beq pc 62 then some (.inl (o_cne 82)) else none))) else (bif Nat.ble pc 66 then (bif Nat.ble pc 65 then (bif Nat.beq pc 65 then some (.inl (o_al 2 1)) else none) else (bif Nat.beq pc 66 then some (.inl (o_al 2 1)) else none)) else (bif Nat.ble pc 67 then (bif Nat.beq pc 67 then some (.inl (o_gP 6 0)) else none) else (bif Nat.beq pc 70 then some (.inl (oS 1 (s_push (.int 0)))) else none)))) else (bif Nat.ble pc 76 then (bif Nat.ble pc 72 then (bif Nat.ble pc 71 then (bif Nat.beq pc 71 then some (.inl (o_iald)) else none) else (bif Nat.beq pc 72 then some (.inl (o_al 2 1)) else none)) else (bif Nat.ble pc 73 then (bif Nat.beq pc 73 then some (.inl (o_gP 6 1)) else none) else (bif Nat.beq pc 76 then some (.inl (oS 1 (s_push (.int 0)))) else none))) else (bif Nat.ble pc 78 then (bif Nat.ble pc 77 then (bif Nat.beq pc 77 then some (.inl (o_iald)) else none) else (bif Nat.beq pc 78 then some (.inl (oS 1 (s_push (.int 0)))) else none)) else (bif Nat.ble pc 79 then (bif Nat.beq pc 79 then some (.inr (3, 57, 4, 6)) else none) else (bif Nat.beq pc 82 then some (.inl (o_al 2 1)) else none))))) else (bif Nat.ble pc 96 then (bif Nat.ble pc 90 then (bif Nat.ble pc 86 then (bif Nat.ble pc 83 then (bif Nat.beq pc 83 then some (.inl (o_gI 6 3)) else none) else (bif Nat.beq pc 86 then some (.inl (oS 1 (s_push (.int 2)))) else none)) else (bif Nat.ble pc 87 then (bif Nat.beq pc 87 then some (.inl (o_cle 100)) else none) else (bif Nat.beq pc 90 then some (.inl (o_al 0 1)) else none))) else (bif Nat.ble pc 92 then (bif Nat.ble pc 91 then (bif Nat.beq pc 91 then some (.inl (o_al 2 1)) else none) else (bif Nat.beq pc 92 then some (.inr (3, 85, 2, 9)) else none)) else (bif Nat.ble pc 95 then (bif Nat.beq pc 95 then some (.inl (o_al 0 1)) else none) else (bif Nat.beq pc 96 then some (.inl (o_al 2 1)) else none)))) else (bif Nat.ble pc 102 then (bif Nat.ble pc 100 then (bif Nat.ble pc 97 then (bif Nat.beq pc 97 then some (.inr (3, 84, 2, 9)) else none) else (bif Nat.beq pc 100 then some (.inl (o_al 2 1)) else none)) else (bif Nat.ble pc 101 then (bif Nat.beq pc 101 then some (.inl (o_al 1 1)) else none) else (bif Nat.beq pc 102 then some (.inl (o_gI 2 1)) else none))) else (bif Nat.ble pc 108 then (bif Nat.ble pc 105 then (bif Nat.beq pc 105 then some (.inr (3, 60, 2, 6)) else none) else (bif Nat.beq pc 108 then some (.inl (o_al 2 1)) else none)) else (bif Nat.ble pc 109 then (bif Nat.beq pc 109 then some (.inr (3, 65, 1, 6)) else none) else (bif Nat.beq pc 112 then some (.inr (0, 0, 0, 3)) else none))))))
theorem k_83_0 : mOk M_83.1 M_83.2.1 M_83.2.2.1 M_83.2.2.2 0 (oS 1 (s_push (.int 4))) := ok_iconst dX9_makeShape_0 (by decide)
theorem k_83_1 : mOk M_83.1 M_83.2.1 M_83.2.2.1 M_83.2.2.2 1 (o_al 0 1) := ok_aload_n dX9_makeShape_1 rfl
theorem k_83_2 : mOk M_83.1 M_83.2.1 M_83.2.2.1 M_83.2.2.2 2 (o_gI 9 1) := ok_gI dX9_makeShape_2 f_RX9_42 (Or.inl rfl)
theorem k_83_5 : mOk M_83.1 M_83.2.1 M_83.2.2.1 M_83.2.2.2 5 (oS 1 (s_ii (fun a b => a - b))) := ok_isub dX9_makeShape_5
theorem k_83_6 : mOk M_83.1 M_83.2.1 M_83.2.2.1 M_83.2.2.2 6 (o_is 3 1) := ok_istore_n dX9_makeShape_6 rfl
theorem k_83_7 : mOk M_83.1 M_83.2.1 M_83.2.2.1 M_83.2.2.2 7 (oS 1 (s_push (.int 0))) := ok_iconst dX9_makeShape_7 (by decide)
theorem k_83_8 : mOk M_83.1 M_83.2.1 M_83.2.2.1 M_83.2.2.2 8 (o_is 4 2) := ok_istore dX9_makeShape_8
theorem k_83_10 : mOk M_83.1 M_83.2.1 M_83.2.2.1 M_83.2.2.2 10 (o_il 4 2) := ok_iload dX9_makeShape_10
theorem k_83_12 : mOk M_83.1 M_83.2.1 M_83.2.2.1 M_83.2.2.2 12 (o_al 1 1) := ok_aload_n dX9_makeShape_12 rfl
theorem k_83_13 : mOk M_83.1 M_83.2.1 M_83.2.2.1 M_83.2.2.2 13 (o_gI 2 5) := ok_gI dX9_makeShape_13 f_RX9_65 (Or.inl rfl)
theorem k_83_16 : mOk M_83.1 M_83.2.1 M_83.2.2.1 M_83.2.2.2 16 (o_cge 57) := ok_cge dX9_makeShape_16 (by decide)
theorem k_83_19 : mOk M_83.1 M_83.2.1 M_83.2.2.1 M_83.2.2.2 19 (o_al 2 1) := ok_aload_n dX9_makeShape_19 rfl
theorem k_83_20 : mOk M_83.1 M_83.2.1 M_83.2.2.1 M_83.2.2.2 20 (o_al 1 1) := ok_aload_n dX9_makeShape_20 rfl
theorem k_83_21 : mOk M_83.1 M_83.2.1 M_83.2.2.1 M_83.2.2.2 21 (o_gP 2 6) := ok_gP dX9_makeShape_21 f_RX9_66 rfl
theorem k_83_24 : mOk M_83.1 M_83.2.1 M_83.2.2.1 M_83.2.2.2 24 (o_il 4 2) := ok_iload dX9_makeShape_24
theorem k_83_26 : mOk M_83.1 M_83.2.1 M_83.2.2.1 M_83.2.2.2 26 (o_iald) := ok_iald dX9_makeShape_26
theorem k_83_27 : mOk M_83.1 M_83.2.1 M_83.2.2.1 M_83.2.2.2 27 (o_il 3 1) := ok_iload_n dX9_makeShape_27 rfl
theorem k_83_28 : mOk M_83.1 M_83.2.1 M_83.2.2.1 M_83.2.2.2 28 (oS 1 (s_ii (fun a b => a >>> (b &&& 31)))) := ok_ishr dX9_makeShape_28
theorem k_83_29 : mOk M_83.1 M_83.2.1 M_83.2.2.1 M_83.2.2.2 29 (o_al 1 1) := ok_aload_n dX9_makeShape_29 rfl
theorem k_83_30 : mOk M_83.1 M_83.2.1 M_83.2.2.1 M_83.2.2.2 30 (o_gP 2 7) := ok_gP dX9_makeShape_30 f_RX9_70 rfl
theorem k_83_33 : mOk M_83.1 M_83.2.1 M_83.2.2.1 M_83.2.2.2 33 (o_il 4 2) := ok_iload dX9_makeShape_33
theorem k_83_35 : mOk M_83.1 M_83.2.1 M_83.2.2.1 M_83.2.2.2 35 (o_iald) := ok_iald dX9_makeShape_35
theorem k_83_36 : mOk M_83.1 M_83.2.1 M_83.2.2.1 M_83.2.2.2 36 (o_il 3 1) := ok_iload_n dX9_makeShape_36 rfl
theorem k_83_37 : mOk M_83.1 M_83.2.1 M_83.2.2.1 M_83.2.2.2 37 (oS 1 (s_ii (fun a b => a >>> (b &&& 31)))) := ok_ishr dX9_makeShape_37
theorem k_83_38 : mOk M_83.1 M_83.2.1 M_83.2.2.1 M_83.2.2.2 38 (o_il 4 2) := ok_iload dX9_makeShape_38
theorem k_83_40 : mOk M_83.1 M_83.2.1 M_83.2.2.1 M_83.2.2.2 40 (o_zne 47) := ok_zne dX9_makeShape_40 (by decide)
theorem k_83_43 : mOk M_83.1 M_83.2.1 M_83.2.2.1 M_83.2.2.2 43 (oS 1 (s_push (.int 1))) := ok_iconst dX9_makeShape_43 (by decide)
theorem k_83_44 : mOk M_83.1 M_83.2.1 M_83.2.2.1 M_83.2.2.2 44 (o_goto 48) := ok_goto dX9_makeShape_44 (by decide)
theorem k_83_47 : mOk M_83.1 M_83.2.1 M_83.2.2.1 M_83.2.2.2 47 (oS 1 (s_push (.int 0))) := ok_iconst dX9_makeShape_47 (by decide)
theorem k_83_51 : mOk M_83.1 M_83.2.1 M_83.2.2.1 M_83.2.2.2 51 (o_inc 4 1) := ok_iinc dX9_makeShape_51 (by decide)
theorem k_83_54 : mOk M_83.1 M_83.2.1 M_83.2.2.1 M_83.2.2.2 54 (o_goto 10) := ok_goto dX9_makeShape_54 (by decide)
theorem k_83_57 : mOk M_83.1 M_83.2.1 M_83.2.2.1 M_83.2.2.2 57 (o_al 1 1) := ok_aload_n dX9_makeShape_57 rfl
theorem k_83_58 : mOk M_83.1 M_83.2.1 M_83.2.2.1 M_83.2.2.2 58 (o_gI 2 1) := ok_gI dX9_makeShape_58 f_RX9_77 (Or.inl rfl)
theorem k_83_61 : mOk M_83.1 M_83.2.1 M_83.2.2.1 M_83.2.2.2 61 (oS 1 (s_push (.int 2))) := ok_iconst dX9_makeShape_61 (by decide)
theorem k_83_62 : mOk M_83.1 M_83.2.1 M_83.2.2.1 M_83.2.2.2 62 (o_cne 82) := ok_cne dX9_makeShape_62 (by decide)
theorem k_83_65 : mOk M_83.1 M_83.2.1 M_83.2.2.1 M_83.2.2.2 65 (o_al 2 1) := ok_aload_n dX9_makeShape_65 rfl
theorem k_83_66 : mOk M_83.1 M_83.2.1 M_83.2.2.1 M_83.2.2.2 66 (o_al 2 1) := ok_aload_n dX9_makeShape_66 rfl
theorem k_83_67 : mOk M_83.1 M_83.2.1 M_83.2.2.1 M_83.2.2.2 67 (o_gP 6 0) := ok_gP dX9_makeShape_67 f_RX9_80 rfl
theorem k_83_70 : mOk M_83.1 M_83.2.1 M_83.2.2.1 M_83.2.2.2 70 (oS 1 (s_push (.int 0))) := ok_iconst dX9_makeShape_70 (by decide)
theorem k_83_71 : mOk M_83.1 M_83.2.1 M_83.2.2.1 M_83.2.2.2 71 (o_iald) := ok_iald dX9_makeShape_71
theorem k_83_72 : mOk M_83.1 M_83.2.1 M_83.2.2.1 M_83.2.2.2 72 (o_al 2 1) := ok_aload_n dX9_makeShape_72 rfl
theorem k_83_73 : mOk M_83.1 M_83.2.1 M_83.2.2.1 M_83.2.2.2 73 (o_gP 6 1) := ok_gP dX9_makeShape_73 f_RX9_81 rfl
theorem k_83_76 : mOk M_83.1 M_83.2.1 M_83.2.2.1 M_83.2.2.2 76 (oS 1 (s_push (.int 0))) := ok_iconst dX9_makeShape_76 (by decide)
theorem k_83_77 : mOk M_83.1 M_83.2.1 M_83.2.2.1 M_83.2.2.2 77 (o_iald) := ok_iald dX9_makeShape_77
theorem k_83_78 : mOk M_83.1 M_83.2.1 M_83.2.2.1 M_83.2.2.2 78 (oS 1 (s_push (.int 0))) := ok_iconst dX9_makeShape_78 (by decide)
theorem k_83_82 : mOk M_83.1 M_83.2.1 M_83.2.2.1 M_83.2.2.2 82 (o_al 2 1) := ok_aload_n dX9_makeShape_82 rfl
theorem k_83_83 : mOk M_83.1 M_83.2.1 M_83.2.2.1 M_83.2.2.2 83 (o_gI 6 3) := ok_gI dX9_makeShape_83 f_RX9_51 (Or.inl rfl)
theorem k_83_86 : mOk M_83.1 M_83.2.1 M_83.2.2.1 M_83.2.2.2 86 (oS 1 (s_push (.int 2))) := ok_iconst dX9_makeShape_86 (by decide)
theorem k_83_87 : mOk M_83.1 M_83.2.1 M_83.2.2.1 M_83.2.2.2 87 (o_cle 100) := ok_cle dX9_makeShape_87 (by decide)
theorem k_83_90 : mOk M_83.1 M_83.2.1 M_83.2.2.1 M_83.2.2.2 90 (o_al 0 1) := ok_aload_n dX9_makeShape_90 rfl
theorem k_83_91 : mOk M_83.1 M_83.2.1 M_83.2.2.1 M_83.2.2.2 91 (o_al 2 1) := ok_aload_n dX9_makeShape_91 rfl
theorem k_83_95 : mOk M_83.1 M_83.2.1 M_83.2.2.1 M_83.2.2.2 95 (o_al 0 1) := ok_aload_n dX9_makeShape_95 rfl
theorem k_83_96 : mOk M_83.1 M_83.2.1 M_83.2.2.1 M_83.2.2.2 96 (o_al 2 1) := ok_aload_n dX9_makeShape_96 rfl
theorem k_83_100 : mOk M_83.1 M_83.2.1 M_83.2.2.1 M_83.2.2.2 100 (o_al 2 1) := ok_aload_n dX9_makeShape_100 rfl
theorem k_83_101 : mOk M_83.1 M_83.2.1 M_83.2.2.1 M_83.2.2.2 101 (o_al 1 1) := ok_aload_n dX9_makeShape_101 rfl
theorem k_83_102 : mOk M_83.1 M_83.2.1 M_83.2.2.1 M_83.2.2.2 102 (o_gI 2 1) := ok_gI dX9_makeShape_102 f_RX9_77 (Or.inl rfl)
theorem k_83_108 : mOk M_83.1 M_83.2.1 M_83.2.2.1 M_83.2.2.2 108 (o_al 2 1) := ok_aload_n dX9_makeShape_108 rfl
set_option maxRecDepth 20000 in
set_option maxHeartbeats 4000000 in
theorem tk_83 (l : Launch) (H9 : mThr l) (H10 : mSpl l) (pc : Nat) (q : mEnt) (h : tb_83 pc = some q) : EE l 83 pc q := nd h (fun h => nd h (fun h => nd h (fun h => nd h (fun h => nd h (fun h => nd h (fun h => lf (P := EE l 83) h k_83_0) (fun h => lf (P := EE l 83) h k_83_1)) (fun h => nd h (fun h => lf (P := EE l 83) h k_83_2) (fun h => lf (P := EE l 83) h k_83_5))) (fun h => nd h (fun h => nd h (fun h => lf (P := EE l 83) h k_83_6) (fun h => lf (P := EE l 83) h k_83_7)) (fun h => nd h (fun h => lf (P := EE l 83) h k_83_8) (fun h => lf (P := EE l 83) h k_83_10)))) (fun h => nd h (fun h => nd h (fun h => nd h (fun h => lf (P := EE l 83) h k_83_12) (fun h => lf (P := EE l 83) h k_83_13)) (fun h => nd h (fun h => lf (P := EE l 83) h k_83_16) (fun h => lf (P := EE l 83) h k_83_19))) (fun h => nd h (fun h => nd h (fun h => lf (P := EE l 83) h k_83_20) (fun h => lf (P := EE l 83) h k_83_21)) (fun h => nd h (fun h => lf (P := EE l 83) h k_83_24) (fun h => lf (P := EE l 83) h k_83_26))))) (fun h => nd h (fun h => nd h (fun h => nd h (fun h => nd h (fun h => lf (P := EE l 83) h k_83_27) (fun h => lf (P := EE l 83) h k_83_28)) (fun h => nd h (fun h => lf (P := EE l 83) h k_83_29) (fun h => lf (P := EE l 83) h k_83_30))) (fun h => nd h (fun h => nd h (fun h => lf (P := EE l 83) h k_83_33) (fun h => lf (P := EE l 83) h k_83_35)) (fun h => nd h (fun h => lf (P := EE l 83) h k_83_36) (fun h => lf (P := EE l 83) h k_83_37)))) (fun h => nd h (fun h => nd h (fun h => nd h (fun h => lf (P := EE l 83) h k_83_38) (fun h => lf (P := EE l 83) h k_83_40)) (fun h => nd h (fun h => lf (P := EE l 83) h k_83_43) (fun h => lf (P := EE l 83) h k_83_44))) (fun h => nd h (fun h => nd h (fun h => lf (P := EE l 83) h k_83_47) (fun h => lf (P := EE l 83) h (EE_ca (by decide) (⟨m_735, m_75, ⟨by decide, by decide⟩, by decide +kernel, ⟨by decide, by decide⟩, 73, 3, by decide +kernel, Or.inr (Or.inr (Or.inl ⟨rfl, rfl, dX9_makeShape_48, m_732, m_733, _, rfl, by decide, m_734⟩))⟩) rfl))) (fun h => nd h (fun h => lf (P := EE l 83) h k_83_51) (fun h => lf (P := EE l 83) h k_83_54)))))) (fun h => nd h (fun h => nd h (fun h => nd h (fun h => nd h (fun h => nd h (fun h => lf (P := EE l 83) h k_83_57) (fun h => lf (P := EE l 83) h k_83_58)) (fun h => nd h (fun h => lf (P := EE l 83) h k_83_61) (fun h => lf (P := EE l 83) h k_83_62))) (fun h => nd h (fun h => nd h (fun h => lf (P := EE l 83) h k_83_65) (fun h => lf (P := EE l 83) h k_83_66)) (fun h => nd h (fun h => lf (P := EE l 83) h k_83_67) (fun h => lf (P := EE l 83) h k_83_70)))) (fun h => nd h (fun h => nd h (fun h => nd h (fun h => lf (P := EE l 83) h k_83_71) (fun h => lf (P := EE l 83) h k_83_72)) (fun h => nd h (fun h => lf (P := EE l 83) h k_83_73) (fun h => lf (P := EE l 83) h k_83_76))) (fun h => nd h (fun h => nd h (fun h => lf (P := EE l 83) h k_83_77) (fun h => lf (P := EE l 83) h k_83_78)) (fun h => nd h (fun h => lf (P := EE l 83) h (EE_ca (by decide) (⟨m_735, m_75, ⟨by decide, by decide⟩, by decide +kernel, ⟨by decide, by decide⟩, 73, 3, by decide +kernel, Or.inr (Or.inr (Or.inl ⟨rfl, rfl, dX9_makeShape_79, m_732, m_733, _, rfl, by decide, m_734⟩))⟩) rfl)) (fun h => lf (P := EE l 83) h k_83_82))))) (fun h => nd h (fun h => nd h (fun h => nd h (fun h => nd h (fun h => lf (P := EE l 83) h k_83_83) (fun h => lf (P := EE l 83) h k_83_86)) (fun h => nd h (fun h => lf (P := EE l 83) h k_83_87) (fun h => lf (P := EE l 83) h k_83_90))) (fun h => nd h (fun h => nd h (fun h => lf (P := EE l 83) h k_83_91) (fun h => lf (P := EE l 83) h (EE_ca (by decide) (⟨m_739, m_74, ⟨by decide, by decide⟩, by decide +kernel, ⟨by decide, by decide⟩, 82, 1, by decide +kernel, Or.inr (Or.inr (Or.inl ⟨rfl, rfl, dX9_makeShape_92, m_736, m_738, _, rfl, by decide, m_13⟩))⟩) rfl))) (fun h => nd h (fun h => lf (P := EE l 83) h k_83_95) (fun h => lf (P := EE l 83) h k_83_96)))) (fun h => nd h (fun h => nd h (fun h => nd h (fun h => lf (P := EE l 83) h (EE_ca (by decide) (⟨m_755, m_74, ⟨by decide, by decide⟩, by decide +kernel, ⟨by decide, by decide⟩, 86, 1, by decide +kernel, Or.inr (Or.inr (Or.inl ⟨rfl, rfl, dX9_makeShape_97, m_752, m_754, _, rfl, by decide, m_15⟩))⟩) rfl)) (fun h => lf (P := EE l 83) h k_83_100)) (fun h => nd h (fun h => lf (P := EE l 83) h k_83_101) (fun h => lf (P := EE l 83) h k_83_102))) (fun h => nd h (fun h => nd h (fun h => lf (P := EE l 83) h (EE_ca (by decide) (⟨m_763, m_75, ⟨by decide, by decide⟩, by decide +kernel, ⟨by decide, by decide⟩, 89, 1, by decide +kernel, Or.inr (Or.inr (Or.inl ⟨rfl, rfl, dX9_makeShape_105, m_760, m_761, _, rfl, by decide, m_762⟩))⟩) rfl)) (fun h => lf (P := EE l 83) h k_83_108)) (fun h => nd h (fun h => lf (P := EE l 83) h (EE_ca (by decide) (⟨m_780, m_75, ⟨by decide, by decide⟩, by decide +kernel, ⟨by decide, by decide⟩, 92, 0, by decide +kernel, Or.inr (Or.inr (Or.inl ⟨rfl, rfl, dX9_makeShape_109, m_777, m_778, _, rfl, by decide, m_779⟩))⟩) rfl)) (fun h => lf (P := EE l 83) h (EE_re (Or.inr (Or.inr (Or.inr (Or.inr ⟨rfl, dX9_makeShape_112, rfl⟩)))))))))))
theorem dX9_keepStaying_0 : decode cX9_keepStaying 0 = .ok (.iconst 0, 1) := by decide +kernel
theorem dX9_keepStaying_1 : decode cX9_keepStaying 1 = .ok (.istore_n 2, 1) := by decide +kernel
theorem dX9_keepStaying_2 : decode cX9_keepStaying 2 = .ok (.iconst 0, 1) := by decide +kernel
theorem dX9_keepStaying_3 : decode cX9_keepStaying 3 = .ok (.istore_n 3, 1) := by decide +kernel
theorem dX9_keepStaying_4 : decode cX9_keepStaying 4 = .ok (.iload_n 3, 1) := by decide +kernel
theorem dX9_keepStaying_5 : decode cX9_keepStaying 5 = .ok (.aload_n 1, 1) := by decide +kernel
theorem dX9_keepStaying_6 : decode cX9_keepStaying 6 = .ok (.getfield 51, 3) := by decide +kernel
theorem dX9_keepStaying_9 : decode cX9_keepStaying 9 = .ok (.if_icmp .ge 27, 3) := by decide +kernel
theorem dX9_keepStaying_12 : decode cX9_keepStaying 12 = .ok (.aload_n 0, 1) := by decide +kernel
theorem dX9_keepStaying_13 : decode cX9_keepStaying 13 = .ok (.getfield 17, 3) := by decide +kernel
theorem dX9_keepStaying_16 : decode cX9_keepStaying 16 = .ok (.iload_n 3, 1) := by decide +kernel
theorem dX9_keepStaying_17 : decode cX9_keepStaying 17 = .ok (.baload, 1) := by decide +kernel
theorem dX9_keepStaying_18 : decode cX9_keepStaying 18 = .ok (.ifCond .eq 12, 3) := by decide +kernel
theorem dX9_keepStaying_21 : decode cX9_keepStaying 21 = .ok (.aload_n 1, 1) := by decide +kernel
theorem dX9_keepStaying_22 : decode cX9_keepStaying 22 = .ok (.iload_n 3, 1) := by decide +kernel
theorem dX9_keepStaying_23 : decode cX9_keepStaying 23 = .ok (.iload_n 2, 1) := by decide +kernel
theorem dX9_keepStaying_24 : decode cX9_keepStaying 24 = .ok (.invokevirtual 95, 3) := by decide +kernel
theorem dX9_keepStaying_27 : decode cX9_keepStaying 27 = .ok (.iinc 2 1, 3) := by decide +kernel
theorem dX9_keepStaying_30 : decode cX9_keepStaying 30 = .ok (.iinc 3 1, 3) := by decide +kernel
theorem dX9_keepStaying_33 : decode cX9_keepStaying 33 = .ok (.goto (-29), 3) := by decide +kernel
theorem dX9_keepStaying_36 : decode cX9_keepStaying 36 = .ok (.aload_n 1, 1) := by decide +kernel
theorem dX9_keepStaying_37 : decode cX9_keepStaying 37 = .ok (.iload_n 2, 1) := by decide +kernel
theorem dX9_keepStaying_38 : decode cX9_keepStaying 38 = .ok (.putfield 51, 3) := by decide +kernel
theorem dX9_keepStaying_41 : decode cX9_keepStaying 41 = .ok (.return_, 1) := by decide +kernel
def tb_84 (pc : Nat) : Option mEnt := bif Nat.ble pc 17 then (bif Nat.ble pc 5 then (bif Nat.ble pc 2 then (bif Nat.ble pc 0 then (bif Nat.beq pc 0 then some (.inl (oS 1 (s_push (.int 0)))) else none) else (bif Nat.ble pc 1 then (bif Nat.beq pc 1 then some (.inl (o_is 2 1)) else none) else (bif Nat.beq pc 2 then some (.inl (oS 1 (s_push (.int 0)))) else none))) else (bif Nat.ble pc 3 then (bif Nat.beq pc 3 then some (.inl (o_is 3 1)) else none) else (bif Nat.ble pc 4 then (bif Nat.beq pc 4 then some (.inl (o_il 3 1)) else none) else (bif Nat.beq pc 5 then some (.inl (o_al 1 1)) else none)))) else (bif Nat.ble pc 12 then (bif Nat.ble pc 6 then (bif Nat.beq pc 6 then some (.inl (o_gI 6 3)) else none) else (bif Nat.ble pc 9 then (bif Nat.beq pc 9 then some (.inl (o_cge 36)) else none) else (bif Nat.beq pc 12 then some (.inl (o_al 0 1)) else none))) else (bif Nat.ble pc 13 then (bif Nat.beq pc 13 then some (.inl (o_gP 9 3)) else none) else (bif Nat.ble pc 16 then (bif Nat.beq pc 16 then some (.inl (o_il 3 1)) else none) else (bif Nat.beq pc 17 then some (.inl (o_bald)) else none))))) else (bif Nat.ble pc 27 then (bif Nat.ble pc 22 then (bif Nat.ble pc 18 then (bif Nat.beq pc 18 then some (.inl (o_zeq 30)) else none) else (bif Nat.ble pc 21 then (bif Nat.beq pc 21 then some (.inl (o_al 1 1)) else none) else (bif Nat.beq pc 22 then some (.inl (o_il 3 1)) else none))) else (bif Nat.ble pc 23 then (bif Nat.beq pc 23 then some (.inl (o_il 2 1)) else none) else (bif Nat.ble pc 24 then (bif Nat.beq pc 24 then some (.inr (3, 59, 3, 6)) else none) else (bif Nat.beq pc 27 then some (.inl (o_inc 2 1)) else none)))) else (bif Nat.ble pc 36 then (bif Nat.ble pc 30 then (bif Nat.beq pc 30 then some (.inl (o_inc 3 1)) else none) else (bif Nat.ble pc 33 then (bif Nat.beq pc 33 then some (.inl (o_goto 4)) else none) else (bif Nat.beq pc 36 then some (.inl (o_al 1 1)) else none))) else (bif Nat.ble pc 37 then (bif Nat.beq pc 37 then some (.inl (o_il 2 1)) else none) else (bif Nat.ble pc 38 then (bif Nat.beq pc 38 then some (.inl (o_pI 6 3)) else none) else (bif Nat.beq pc 41 then some (.inr (0, 0, 0, 3)) else none)))))
theorem k_84_0 : mOk M_84.1 M_84.2.1 M_84.2.2.1 M_84.2.2.2 0 (oS 1 (s_push (.int 0))) := ok_iconst dX9_keepStaying_0 (by decide)
theorem k_84_1 : mOk M_84.1 M_84.2.1 M_84.2.2.1 M_84.2.2.2 1 (o_is 2 1) := ok_istore_n dX9_keepStaying_1 rfl
theorem k_84_2 : mOk M_84.1 M_84.2.1 M_84.2.2.1 M_84.2.2.2 2 (oS 1 (s_push (.int 0))) := ok_iconst dX9_keepStaying_2 (by decide)
theorem k_84_3 : mOk M_84.1 M_84.2.1 M_84.2.2.1 M_84.2.2.2 3 (o_is 3 1) := ok_istore_n dX9_keepStaying_3 rfl
theorem k_84_4 : mOk M_84.1 M_84.2.1 M_84.2.2.1 M_84.2.2.2 4 (o_il 3 1) := ok_iload_n dX9_keepStaying_4 rfl
theorem k_84_5 : mOk M_84.1 M_84.2.1 M_84.2.2.1 M_84.2.2.2 5 (o_al 1 1) := ok_aload_n dX9_keepStaying_5 rfl
theorem k_84_6 : mOk M_84.1 M_84.2.1 M_84.2.2.1 M_84.2.2.2 6 (o_gI 6 3) := ok_gI dX9_keepStaying_6 f_RX9_51 (Or.inl rfl)
theorem k_84_9 : mOk M_84.1 M_84.2.1 M_84.2.2.1 M_84.2.2.2 9 (o_cge 36) := ok_cge dX9_keepStaying_9 (by decide)
theorem k_84_12 : mOk M_84.1 M_84.2.1 M_84.2.2.1 M_84.2.2.2 12 (o_al 0 1) := ok_aload_n dX9_keepStaying_12 rfl
theorem k_84_13 : mOk M_84.1 M_84.2.1 M_84.2.2.1 M_84.2.2.2 13 (o_gP 9 3) := ok_gP dX9_keepStaying_13 f_RX9_17 rfl
theorem k_84_16 : mOk M_84.1 M_84.2.1 M_84.2.2.1 M_84.2.2.2 16 (o_il 3 1) := ok_iload_n dX9_keepStaying_16 rfl
theorem k_84_17 : mOk M_84.1 M_84.2.1 M_84.2.2.1 M_84.2.2.2 17 (o_bald) := ok_bald dX9_keepStaying_17
theorem k_84_18 : mOk M_84.1 M_84.2.1 M_84.2.2.1 M_84.2.2.2 18 (o_zeq 30) := ok_zeq dX9_keepStaying_18 (by decide)
theorem k_84_21 : mOk M_84.1 M_84.2.1 M_84.2.2.1 M_84.2.2.2 21 (o_al 1 1) := ok_aload_n dX9_keepStaying_21 rfl
theorem k_84_22 : mOk M_84.1 M_84.2.1 M_84.2.2.1 M_84.2.2.2 22 (o_il 3 1) := ok_iload_n dX9_keepStaying_22 rfl
theorem k_84_23 : mOk M_84.1 M_84.2.1 M_84.2.2.1 M_84.2.2.2 23 (o_il 2 1) := ok_iload_n dX9_keepStaying_23 rfl
theorem k_84_27 : mOk M_84.1 M_84.2.1 M_84.2.2.1 M_84.2.2.2 27 (o_inc 2 1) := ok_iinc dX9_keepStaying_27 (by decide)
theorem k_84_30 : mOk M_84.1 M_84.2.1 M_84.2.2.1 M_84.2.2.2 30 (o_inc 3 1) := ok_iinc dX9_keepStaying_30 (by decide)
theorem k_84_33 : mOk M_84.1 M_84.2.1 M_84.2.2.1 M_84.2.2.2 33 (o_goto 4) := ok_goto dX9_keepStaying_33 (by decide)
theorem k_84_36 : mOk M_84.1 M_84.2.1 M_84.2.2.1 M_84.2.2.2 36 (o_al 1 1) := ok_aload_n dX9_keepStaying_36 rfl
theorem k_84_37 : mOk M_84.1 M_84.2.1 M_84.2.2.1 M_84.2.2.2 37 (o_il 2 1) := ok_iload_n dX9_keepStaying_37 rfl
theorem k_84_38 : mOk M_84.1 M_84.2.1 M_84.2.2.1 M_84.2.2.2 38 (o_pI 6 3) := ok_pI dX9_keepStaying_38 (mFw_of f_RX9_51_c (Or.inl rfl)) rfl
set_option maxRecDepth 20000 in
set_option maxHeartbeats 4000000 in
theorem tk_84 (l : Launch) (H9 : mThr l) (H10 : mSpl l) (pc : Nat) (q : mEnt) (h : tb_84 pc = some q) : EE l 84 pc q := nd h (fun h => nd h (fun h => nd h (fun h => nd h (fun h => lf (P := EE l 84) h k_84_0) (fun h => nd h (fun h => lf (P := EE l 84) h k_84_1) (fun h => lf (P := EE l 84) h k_84_2))) (fun h => nd h (fun h => lf (P := EE l 84) h k_84_3) (fun h => nd h (fun h => lf (P := EE l 84) h k_84_4) (fun h => lf (P := EE l 84) h k_84_5)))) (fun h => nd h (fun h => nd h (fun h => lf (P := EE l 84) h k_84_6) (fun h => nd h (fun h => lf (P := EE l 84) h k_84_9) (fun h => lf (P := EE l 84) h k_84_12))) (fun h => nd h (fun h => lf (P := EE l 84) h k_84_13) (fun h => nd h (fun h => lf (P := EE l 84) h k_84_16) (fun h => lf (P := EE l 84) h k_84_17))))) (fun h => nd h (fun h => nd h (fun h => nd h (fun h => lf (P := EE l 84) h k_84_18) (fun h => nd h (fun h => lf (P := EE l 84) h k_84_21) (fun h => lf (P := EE l 84) h k_84_22))) (fun h => nd h (fun h => lf (P := EE l 84) h k_84_23) (fun h => nd h (fun h => lf (P := EE l 84) h (EE_ca (by decide) (⟨m_759, m_75, ⟨by decide, by decide⟩, by decide +kernel, ⟨by decide, by decide⟩, 95, 2, by decide +kernel, Or.inr (Or.inr (Or.inl ⟨rfl, rfl, dX9_keepStaying_24, m_756, m_757, _, rfl, by decide, m_758⟩))⟩) rfl)) (fun h => lf (P := EE l 84) h k_84_27)))) (fun h => nd h (fun h => nd h (fun h => lf (P := EE l 84) h k_84_30) (fun h => nd h (fun h => lf (P := EE l 84) h k_84_33) (fun h => lf (P := EE l 84) h k_84_36))) (fun h => nd h (fun h => lf (P := EE l 84) h k_84_37) (fun h => nd h (fun h => lf (P := EE l 84) h k_84_38) (fun h => lf (P := EE l 84) h (EE_re (Or.inr (Or.inr (Or.inr (Or.inr ⟨rfl, dX9_keepStaying_41, rfl⟩))))))))))
theorem dX9_markStaying_0 : decode cX9_markStaying 0 = .ok (.aload_n 1, 1) := by decide +kernel
theorem dX9_markStaying_1 : decode cX9_markStaying 1 = .ok (.getfield 51, 3) := by decide +kernel
theorem dX9_markStaying_4 : decode cX9_markStaying 4 = .ok (.iconst 1, 1) := by decide +kernel
theorem dX9_markStaying_5 : decode cX9_markStaying 5 = .ok (.isub, 1) := by decide +kernel
theorem dX9_markStaying_6 : decode cX9_markStaying 6 = .ok (.istore_n 2, 1) := by decide +kernel
theorem dX9_markStaying_7 : decode cX9_markStaying 7 = .ok (.iconst 0, 1) := by decide +kernel
theorem dX9_markStaying_8 : decode cX9_markStaying 8 = .ok (.istore_n 3, 1) := by decide +kernel
theorem dX9_markStaying_9 : decode cX9_markStaying 9 = .ok (.iload_n 3, 1) := by decide +kernel
theorem dX9_markStaying_10 : decode cX9_markStaying 10 = .ok (.iload_n 2, 1) := by decide +kernel
theorem dX9_markStaying_11 : decode cX9_markStaying 11 = .ok (.if_icmp .gt 29, 3) := by decide +kernel
theorem dX9_markStaying_14 : decode cX9_markStaying 14 = .ok (.aload_n 0, 1) := by decide +kernel
theorem dX9_markStaying_15 : decode cX9_markStaying 15 = .ok (.getfield 17, 3) := by decide +kernel
theorem dX9_markStaying_18 : decode cX9_markStaying 18 = .ok (.iload_n 3, 1) := by decide +kernel
theorem dX9_markStaying_19 : decode cX9_markStaying 19 = .ok (.iload_n 3, 1) := by decide +kernel
theorem dX9_markStaying_20 : decode cX9_markStaying 20 = .ok (.ifCond .eq 8, 3) := by decide +kernel
theorem dX9_markStaying_23 : decode cX9_markStaying 23 = .ok (.iload_n 3, 1) := by decide +kernel
theorem dX9_markStaying_24 : decode cX9_markStaying 24 = .ok (.iload_n 2, 1) := by decide +kernel
theorem dX9_markStaying_25 : decode cX9_markStaying 25 = .ok (.if_icmp .ne 7, 3) := by decide +kernel
theorem dX9_markStaying_28 : decode cX9_markStaying 28 = .ok (.iconst 1, 1) := by decide +kernel
theorem dX9_markStaying_29 : decode cX9_markStaying 29 = .ok (.goto 4, 3) := by decide +kernel
theorem dX9_markStaying_32 : decode cX9_markStaying 32 = .ok (.iconst 0, 1) := by decide +kernel
theorem dX9_markStaying_33 : decode cX9_markStaying 33 = .ok (.bastore, 1) := by decide +kernel
theorem dX9_markStaying_34 : decode cX9_markStaying 34 = .ok (.iinc 3 1, 3) := by decide +kernel
theorem dX9_markStaying_37 : decode cX9_markStaying 37 = .ok (.goto (-28), 3) := by decide +kernel
theorem dX9_markStaying_40 : decode cX9_markStaying 40 = .ok (.iconst 0, 1) := by decide +kernel
theorem dX9_markStaying_41 : decode cX9_markStaying 41 = .ok (.istore_n 3, 1) := by decide +kernel
theorem dX9_markStaying_42 : decode cX9_markStaying 42 = .ok (.iconst 0, 1) := by decide +kernel
theorem dX9_markStaying_43 : decode cX9_markStaying 43 = .ok (.istore 4, 2) := by decide +kernel
theorem dX9_markStaying_45 : decode cX9_markStaying 45 = .ok (.iload 4, 2) := by decide +kernel
theorem dX9_markStaying_47 : decode cX9_markStaying 47 = .ok (.iconst 2, 1) := by decide +kernel
theorem dX9_markStaying_48 : decode cX9_markStaying 48 = .ok (.aload_n 1, 1) := by decide +kernel
theorem dX9_markStaying_49 : decode cX9_markStaying 49 = .ok (.getfield 51, 3) := by decide +kernel
theorem dX9_markStaying_52 : decode cX9_markStaying 52 = .ok (.imul, 1) := by decide +kernel
theorem dX9_markStaying_53 : decode cX9_markStaying 53 = .ok (.if_icmp .ge 51, 3) := by decide +kernel
theorem dX9_markStaying_56 : decode cX9_markStaying 56 = .ok (.iload_n 3, 1) := by decide +kernel
theorem dX9_markStaying_57 : decode cX9_markStaying 57 = .ok (.iload_n 2, 1) := by decide +kernel
theorem dX9_markStaying_58 : decode cX9_markStaying 58 = .ok (.if_icmp .ge 46, 3) := by decide +kernel
theorem dX9_markStaying_61 : decode cX9_markStaying 61 = .ok (.aload_n 0, 1) := by decide +kernel
theorem dX9_markStaying_62 : decode cX9_markStaying 62 = .ok (.iload_n 3, 1) := by decide +kernel
theorem dX9_markStaying_63 : decode cX9_markStaying 63 = .ok (.iload_n 2, 1) := by decide +kernel
theorem dX9_markStaying_64 : decode cX9_markStaying 64 = .ok (.invokevirtual 99, 3) := by decide +kernel
theorem dX9_markStaying_67 : decode cX9_markStaying 67 = .ok (.istore 5, 2) := by decide +kernel
theorem dX9_markStaying_69 : decode cX9_markStaying 69 = .ok (.aload_n 1, 1) := by decide +kernel
theorem dX9_markStaying_70 : decode cX9_markStaying 70 = .ok (.iload_n 3, 1) := by decide +kernel
theorem dX9_markStaying_71 : decode cX9_markStaying 71 = .ok (.iload 5, 2) := by decide +kernel
theorem dX9_markStaying_73 : decode cX9_markStaying 73 = .ok (.invokestatic 103, 3) := by decide +kernel
theorem dX9_markStaying_76 : decode cX9_markStaying 76 = .ok (.istore 6, 2) := by decide +kernel
theorem dX9_markStaying_78 : decode cX9_markStaying 78 = .ok (.iload 6, 2) := by decide +kernel
theorem dX9_markStaying_80 : decode cX9_markStaying 80 = .ok (.iconst (-1), 1) := by decide +kernel
theorem dX9_markStaying_81 : decode cX9_markStaying 81 = .ok (.if_icmp .ne 9, 3) := by decide +kernel
theorem dX9_markStaying_84 : decode cX9_markStaying 84 = .ok (.iload 5, 2) := by decide +kernel
theorem dX9_markStaying_86 : decode cX9_markStaying 86 = .ok (.istore_n 3, 1) := by decide +kernel
theorem dX9_markStaying_87 : decode cX9_markStaying 87 = .ok (.goto 11, 3) := by decide +kernel
theorem dX9_markStaying_90 : decode cX9_markStaying 90 = .ok (.aload_n 0, 1) := by decide +kernel
theorem dX9_markStaying_91 : decode cX9_markStaying 91 = .ok (.getfield 17, 3) := by decide +kernel
theorem dX9_markStaying_94 : decode cX9_markStaying 94 = .ok (.iload 6, 2) := by decide +kernel
theorem dX9_markStaying_96 : decode cX9_markStaying 96 = .ok (.iconst 1, 1) := by decide +kernel
theorem dX9_markStaying_97 : decode cX9_markStaying 97 = .ok (.bastore, 1) := by decide +kernel
theorem dX9_markStaying_98 : decode cX9_markStaying 98 = .ok (.iinc 4 1, 3) := by decide +kernel
theorem dX9_markStaying_101 : decode cX9_markStaying 101 = .ok (.goto (-56), 3) := by decide +kernel
theorem dX9_markStaying_104 : decode cX9_markStaying 104 = .ok (.return_, 1) := by decide +kernel
def tb_85 (pc : Nat) : Option mEnt := bif Nat.ble pc 47 then (bif Nat.ble pc 20 then (bif Nat.ble pc 8 then (bif Nat.ble pc 4 then (bif Nat.ble pc 0 then (bif Nat.beq pc 0 then some (.inl (o_al 1 1)) else none) else (bif Nat.ble pc 1 then (bif Nat.beq pc 1 then some (.inl (o_gI 6 3)) else none) else (bif Nat.beq pc 4 then some (.inl (oS 1 (s_push (.int 1)))) else none))) else (bif Nat.ble pc 6 then (bif Nat.ble pc 5 then (bif Nat.beq pc 5 then some (.inl (oS 1 (s_ii (fun a b => a - b)))) else none) else (bif Nat.beq pc 6 then some (.inl (o_is 2 1)) else none)) else (bif Nat.ble pc 7 then (bif Nat.beq pc 7 then some (.inl (oS 1 (s_push (.int 0)))) else none) else (bif Nat.beq pc 8 then some (.inl (o_is 3 1)) else none)))) else (bif Nat.ble pc 14 then (bif Nat.ble pc 10 then (bif Nat.ble pc 9 then (bif Nat.beq pc 9 then some (.inl (o_il 3 1)) else none) else (bif Nat.beq pc 10 then some (.inl (o_il 2 1)) else none)) else (bif Nat.ble pc 11 then (bif Nat.beq pc 11 then some (.inl (o_cgt 40)) else none) else (bif Nat.beq pc 14 then some (.inl (o_al 0 1)) else none))) else (bif Nat.ble pc 18 then (bif Nat.ble pc 15 then (bif Nat.beq pc 15 then some (.inl (o_gP 9 3)) else none) else (bif Nat.beq pc 18 then some (.inl (o_il 3 1)) else none)) else (bif Nat.ble pc 19 then (bif Nat.beq pc 19 then some (.inl (o_il 3 1)) else none) else (bif Nat.beq pc 20 then some (.inl (o_zeq 28)) else none))))) else (bif Nat.ble pc 33 then (bif Nat.ble pc 25 then (bif Nat.ble pc 23 then (bif Nat.beq pc 23 then some (.inl (o_il 3 1)) else none) else (bif Nat.ble pc 24 then (bif Nat.beq pc 24 then some (.inl (o_il 2 1)) else none) else (bif Nat.beq pc 25 then some (.inl (o_cne 32)) else none))) else (bif Nat.ble pc 29 then (bif Nat.ble pc 28 then (bif Nat.beq pc 28 then some (.inl (oS 1 (s_push (.int 1)))) else none) else (bif Nat.beq pc 29 then some (.inl (o_goto 33)) else none)) else (bif Nat.ble pc 32 then (bif Nat.beq pc 32 then some (.inl (oS 1 (s_push (.int 0)))) else none) else (bif Nat.beq pc 33 then some (.inl (o_bast)) else none)))) else (bif Nat.ble pc 41 then (bif Nat.ble pc 37 then (bif Nat.ble pc 34 then (bif Nat.beq pc 34 then some (.inl (o_inc 3 1)) else none) else (bif Nat.beq pc 37 then some (.inl (o_goto 9)) else none)) else (bif Nat.ble pc 40 then (bif Nat.beq pc 40 then some (.inl (oS 1 (s_push (.int 0)))) else none) else (bif Nat.beq pc 41 then some (.inl (o_is 3 1)) else none))) else (bif Nat.ble pc 43 then (bif Nat.ble pc 42 then (bif Nat.beq pc 42 then some (.inl (oS 1 (s_push (.int 0)))) else none) else (bif Nat.beq pc 43 then some (.inl (o_is 4 2)) else none)) else (bif Nat.ble pc 45 then (bif Nat.beq pc 45 then some (.inl (o_il 4 2)) else none) else (bif Nat.beq pc 47 then some (.inl (oS 1 (s_push (.int 2)))) else none)))))) else (bif Nat.ble pc 71 then (bif Nat.ble pc 58 then (bif Nat.ble pc 52 then (bif Nat.ble pc 48 then (bif Nat.beq pc 48 then some (.inl (o_al 1 1)) else none) else (bif Nat.ble pc 49 then (bif Nat.beq pc 49 then some (.inl (o_gI 6 3)) else none) else (bif Nat.beq pc 52 then some (.inl (oS 1 (s_ii (fun a b => a * b)))) else none))) else (bif Nat.ble pc 56 then (bif Nat.ble pc 53 then (bif Nat.beq pc 53 then some (.inl (o_cge 104)) else none) else (bif Nat.beq pc 56 then some (.inl (o_il 3 1)) else none)) else (bif Nat.ble pc 57 then (bif Nat.beq pc 57 then some (.inl (o_il 2 1)) else none) else (bif Nat.beq pc 58 then some (.inl (o_cge 104)) else none)))) else (bif Nat.ble pc 64 then (bif Nat.ble pc 62 then (bif Nat.ble pc 61 then (bif Nat.beq pc 61 then some (.inl (o_al 0 1)) else none) else (bif Nat.beq pc 62 then some (.inl (o_il 3 1)) else none)) else (bif Nat.ble pc 63 then (bif Nat.beq pc 63 then some (.inl (o_il 2 1)) else none) else (bif Nat.beq pc 64 then some (.inr (3, 86, 3, 9)) else none))) else (bif Nat.ble pc 69 then (bif Nat.ble pc 67 then (bif Nat.beq pc 67 then some (.inl (o_is 5 2)) else none) else (bif Nat.beq pc 69 then some (.inl (o_al 1 1)) else none)) else (bif Nat.ble pc 70 then (bif Nat.beq pc 70 then some (.inl (o_il 3 1)) else none) else (bif Nat.beq pc 71 then some (.inl (o_il 5 2)) else none))))) else (bif Nat.ble pc 87 then (bif Nat.ble pc 80 then (bif Nat.ble pc 76 then (bif Nat.ble pc 73 then (bif Nat.beq pc 73 then some (.inr (2, 87, 3, 0)) else none) else (bif Nat.beq pc 76 then some (.inl (o_is 6 2)) else none)) else (bif Nat.ble pc 78 then (bif Nat.beq pc 78 then some (.inl (o_il 6 2)) else none) else (bif Nat.beq pc 80 then some (.inl (oS 1 (s_push (.int (-1))))) else none))) else (bif Nat.ble pc 84 then (bif Nat.ble pc 81 then (bif Nat.beq pc 81 then some (.inl (o_cne 90)) else none) else (bif Nat.beq pc 84 then some (.inl (o_il 5 2)) else none)) else (bif Nat.ble pc 86 then (bif Nat.beq pc 86 then some (.inl (o_is 3 1)) else none) else (bif Nat.beq pc 87 then some (.inl (o_goto 98)) else none)))) else (bif Nat.ble pc 96 then (bif Nat.ble pc 91 then (bif Nat.ble pc 90 then (bif Nat.beq pc 90 then some (.inl (o_al 0 1)) else none) else (bif Nat.beq pc 91 then some (.inl (o_gP 9 3)) else none)) else (bif Nat.ble pc 94 then (bif Nat.beq pc 94 then some (.inl (o_il 6 2)) else none) else (bif Nat.beq pc 96 then some (.inl (oS 1 (s_push (.int 1)))) else none))) else (bif Nat.ble pc 98 then (bif Nat.ble pc 97 then (bif Nat.beq pc 97 then some (.inl (o_bast)) else none) else (bif Nat.beq pc 98 then some (.inl (o_inc 4 1)) else none)) else (bif Nat.ble pc 101 then (bif Nat.beq pc 101 then some (.inl (o_goto 45)) else none) else (bif Nat.beq pc 104 then some (.inr (0, 0, 0, 3)) else none))))))
theorem k_85_0 : mOk M_85.1 M_85.2.1 M_85.2.2.1 M_85.2.2.2 0 (o_al 1 1) := ok_aload_n dX9_markStaying_0 rfl
theorem k_85_1 : mOk M_85.1 M_85.2.1 M_85.2.2.1 M_85.2.2.2 1 (o_gI 6 3) := ok_gI dX9_markStaying_1 f_RX9_51 (Or.inl rfl)
theorem k_85_4 : mOk M_85.1 M_85.2.1 M_85.2.2.1 M_85.2.2.2 4 (oS 1 (s_push (.int 1))) := ok_iconst dX9_markStaying_4 (by decide)
theorem k_85_5 : mOk M_85.1 M_85.2.1 M_85.2.2.1 M_85.2.2.2 5 (oS 1 (s_ii (fun a b => a - b))) := ok_isub dX9_markStaying_5
theorem k_85_6 : mOk M_85.1 M_85.2.1 M_85.2.2.1 M_85.2.2.2 6 (o_is 2 1) := ok_istore_n dX9_markStaying_6 rfl
theorem k_85_7 : mOk M_85.1 M_85.2.1 M_85.2.2.1 M_85.2.2.2 7 (oS 1 (s_push (.int 0))) := ok_iconst dX9_markStaying_7 (by decide)
theorem k_85_8 : mOk M_85.1 M_85.2.1 M_85.2.2.1 M_85.2.2.2 8 (o_is 3 1) := ok_istore_n dX9_markStaying_8 rfl
theorem k_85_9 : mOk M_85.1 M_85.2.1 M_85.2.2.1 M_85.2.2.2 9 (o_il 3 1) := ok_iload_n dX9_markStaying_9 rfl
theorem k_85_10 : mOk M_85.1 M_85.2.1 M_85.2.2.1 M_85.2.2.2 10 (o_il 2 1) := ok_iload_n dX9_markStaying_10 rfl
theorem k_85_11 : mOk M_85.1 M_85.2.1 M_85.2.2.1 M_85.2.2.2 11 (o_cgt 40) := ok_cgt dX9_markStaying_11 (by decide)
theorem k_85_14 : mOk M_85.1 M_85.2.1 M_85.2.2.1 M_85.2.2.2 14 (o_al 0 1) := ok_aload_n dX9_markStaying_14 rfl
theorem k_85_15 : mOk M_85.1 M_85.2.1 M_85.2.2.1 M_85.2.2.2 15 (o_gP 9 3) := ok_gP dX9_markStaying_15 f_RX9_17 rfl
theorem k_85_18 : mOk M_85.1 M_85.2.1 M_85.2.2.1 M_85.2.2.2 18 (o_il 3 1) := ok_iload_n dX9_markStaying_18 rfl
theorem k_85_19 : mOk M_85.1 M_85.2.1 M_85.2.2.1 M_85.2.2.2 19 (o_il 3 1) := ok_iload_n dX9_markStaying_19 rfl
theorem k_85_20 : mOk M_85.1 M_85.2.1 M_85.2.2.1 M_85.2.2.2 20 (o_zeq 28) := ok_zeq dX9_markStaying_20 (by decide)
theorem k_85_23 : mOk M_85.1 M_85.2.1 M_85.2.2.1 M_85.2.2.2 23 (o_il 3 1) := ok_iload_n dX9_markStaying_23 rfl
theorem k_85_24 : mOk M_85.1 M_85.2.1 M_85.2.2.1 M_85.2.2.2 24 (o_il 2 1) := ok_iload_n dX9_markStaying_24 rfl
theorem k_85_25 : mOk M_85.1 M_85.2.1 M_85.2.2.1 M_85.2.2.2 25 (o_cne 32) := ok_cne dX9_markStaying_25 (by decide)
theorem k_85_28 : mOk M_85.1 M_85.2.1 M_85.2.2.1 M_85.2.2.2 28 (oS 1 (s_push (.int 1))) := ok_iconst dX9_markStaying_28 (by decide)
theorem k_85_29 : mOk M_85.1 M_85.2.1 M_85.2.2.1 M_85.2.2.2 29 (o_goto 33) := ok_goto dX9_markStaying_29 (by decide)
theorem k_85_32 : mOk M_85.1 M_85.2.1 M_85.2.2.1 M_85.2.2.2 32 (oS 1 (s_push (.int 0))) := ok_iconst dX9_markStaying_32 (by decide)
theorem k_85_33 : mOk M_85.1 M_85.2.1 M_85.2.2.1 M_85.2.2.2 33 (o_bast) := ok_bast dX9_markStaying_33
theorem k_85_34 : mOk M_85.1 M_85.2.1 M_85.2.2.1 M_85.2.2.2 34 (o_inc 3 1) := ok_iinc dX9_markStaying_34 (by decide)
theorem k_85_37 : mOk M_85.1 M_85.2.1 M_85.2.2.1 M_85.2.2.2 37 (o_goto 9) := ok_goto dX9_markStaying_37 (by decide)
theorem k_85_40 : mOk M_85.1 M_85.2.1 M_85.2.2.1 M_85.2.2.2 40 (oS 1 (s_push (.int 0))) := ok_iconst dX9_markStaying_40 (by decide)
theorem k_85_41 : mOk M_85.1 M_85.2.1 M_85.2.2.1 M_85.2.2.2 41 (o_is 3 1) := ok_istore_n dX9_markStaying_41 rfl
theorem k_85_42 : mOk M_85.1 M_85.2.1 M_85.2.2.1 M_85.2.2.2 42 (oS 1 (s_push (.int 0))) := ok_iconst dX9_markStaying_42 (by decide)
theorem k_85_43 : mOk M_85.1 M_85.2.1 M_85.2.2.1 M_85.2.2.2 43 (o_is 4 2) := ok_istore dX9_markStaying_43
theorem k_85_45 : mOk M_85.1 M_85.2.1 M_85.2.2.1 M_85.2.2.2 45 (o_il 4 2) := ok_iload dX9_markStaying_45
theorem k_85_47 : mOk M_85.1 M_85.2.1 M_85.2.2.1 M_85.2.2.2 47 (oS 1 (s_push (.int 2))) := ok_iconst dX9_markStaying_47 (by decide)
theorem k_85_48 : mOk M_85.1 M_85.2.1 M_85.2.2.1 M_85.2.2.2 48 (o_al 1 1) := ok_aload_n dX9_markStaying_48 rfl
theorem k_85_49 : mOk M_85.1 M_85.2.1 M_85.2.2.1 M_85.2.2.2 49 (o_gI 6 3) := ok_gI dX9_markStaying_49 f_RX9_51 (Or.inl rfl)
theorem k_85_52 : mOk M_85.1 M_85.2.1 M_85.2.2.1 M_85.2.2.2 52 (oS 1 (s_ii (fun a b => a * b))) := ok_imul dX9_markStaying_52
theorem k_85_53 : mOk M_85.1 M_85.2.1 M_85.2.2.1 M_85.2.2.2 53 (o_cge 104) := ok_cge dX9_markStaying_53 (by decide)
theorem k_85_56 : mOk M_85.1 M_85.2.1 M_85.2.2.1 M_85.2.2.2 56 (o_il 3 1) := ok_iload_n dX9_markStaying_56 rfl
theorem k_85_57 : mOk M_85.1 M_85.2.1 M_85.2.2.1 M_85.2.2.2 57 (o_il 2 1) := ok_iload_n dX9_markStaying_57 rfl
theorem k_85_58 : mOk M_85.1 M_85.2.1 M_85.2.2.1 M_85.2.2.2 58 (o_cge 104) := ok_cge dX9_markStaying_58 (by decide)
theorem k_85_61 : mOk M_85.1 M_85.2.1 M_85.2.2.1 M_85.2.2.2 61 (o_al 0 1) := ok_aload_n dX9_markStaying_61 rfl
theorem k_85_62 : mOk M_85.1 M_85.2.1 M_85.2.2.1 M_85.2.2.2 62 (o_il 3 1) := ok_iload_n dX9_markStaying_62 rfl
theorem k_85_63 : mOk M_85.1 M_85.2.1 M_85.2.2.1 M_85.2.2.2 63 (o_il 2 1) := ok_iload_n dX9_markStaying_63 rfl
theorem k_85_67 : mOk M_85.1 M_85.2.1 M_85.2.2.1 M_85.2.2.2 67 (o_is 5 2) := ok_istore dX9_markStaying_67
theorem k_85_69 : mOk M_85.1 M_85.2.1 M_85.2.2.1 M_85.2.2.2 69 (o_al 1 1) := ok_aload_n dX9_markStaying_69 rfl
theorem k_85_70 : mOk M_85.1 M_85.2.1 M_85.2.2.1 M_85.2.2.2 70 (o_il 3 1) := ok_iload_n dX9_markStaying_70 rfl
theorem k_85_71 : mOk M_85.1 M_85.2.1 M_85.2.2.1 M_85.2.2.2 71 (o_il 5 2) := ok_iload dX9_markStaying_71
theorem k_85_76 : mOk M_85.1 M_85.2.1 M_85.2.2.1 M_85.2.2.2 76 (o_is 6 2) := ok_istore dX9_markStaying_76
theorem k_85_78 : mOk M_85.1 M_85.2.1 M_85.2.2.1 M_85.2.2.2 78 (o_il 6 2) := ok_iload dX9_markStaying_78
theorem k_85_80 : mOk M_85.1 M_85.2.1 M_85.2.2.1 M_85.2.2.2 80 (oS 1 (s_push (.int (-1)))) := ok_iconst dX9_markStaying_80 (by decide)
theorem k_85_81 : mOk M_85.1 M_85.2.1 M_85.2.2.1 M_85.2.2.2 81 (o_cne 90) := ok_cne dX9_markStaying_81 (by decide)
theorem k_85_84 : mOk M_85.1 M_85.2.1 M_85.2.2.1 M_85.2.2.2 84 (o_il 5 2) := ok_iload dX9_markStaying_84
theorem k_85_86 : mOk M_85.1 M_85.2.1 M_85.2.2.1 M_85.2.2.2 86 (o_is 3 1) := ok_istore_n dX9_markStaying_86 rfl
theorem k_85_87 : mOk M_85.1 M_85.2.1 M_85.2.2.1 M_85.2.2.2 87 (o_goto 98) := ok_goto dX9_markStaying_87 (by decide)
theorem k_85_90 : mOk M_85.1 M_85.2.1 M_85.2.2.1 M_85.2.2.2 90 (o_al 0 1) := ok_aload_n dX9_markStaying_90 rfl
theorem k_85_91 : mOk M_85.1 M_85.2.1 M_85.2.2.1 M_85.2.2.2 91 (o_gP 9 3) := ok_gP dX9_markStaying_91 f_RX9_17 rfl
theorem k_85_94 : mOk M_85.1 M_85.2.1 M_85.2.2.1 M_85.2.2.2 94 (o_il 6 2) := ok_iload dX9_markStaying_94
theorem k_85_96 : mOk M_85.1 M_85.2.1 M_85.2.2.1 M_85.2.2.2 96 (oS 1 (s_push (.int 1))) := ok_iconst dX9_markStaying_96 (by decide)
theorem k_85_97 : mOk M_85.1 M_85.2.1 M_85.2.2.1 M_85.2.2.2 97 (o_bast) := ok_bast dX9_markStaying_97
theorem k_85_98 : mOk M_85.1 M_85.2.1 M_85.2.2.1 M_85.2.2.2 98 (o_inc 4 1) := ok_iinc dX9_markStaying_98 (by decide)
theorem k_85_101 : mOk M_85.1 M_85.2.1 M_85.2.2.1 M_85.2.2.2 101 (o_goto 45) := ok_goto dX9_markStaying_101 (by decide)
set_option maxRecDepth 20000 in
set_option maxHeartbeats 4000000 in
theorem tk_85 (l : Launch) (H9 : mThr l) (H10 : mSpl l) (pc : Nat) (q : mEnt) (h : tb_85 pc = some q) : EE l 85 pc q := nd h (fun h => nd h (fun h => nd h (fun h => nd h (fun h => nd h (fun h => lf (P := EE l 85) h k_85_0) (fun h => nd h (fun h => lf (P := EE l 85) h k_85_1) (fun h => lf (P := EE l 85) h k_85_4))) (fun h => nd h (fun h => nd h (fun h => lf (P := EE l 85) h k_85_5) (fun h => lf (P := EE l 85) h k_85_6)) (fun h => nd h (fun h => lf (P := EE l 85) h k_85_7) (fun h => lf (P := EE l 85) h k_85_8)))) (fun h => nd h (fun h => nd h (fun h => nd h (fun h => lf (P := EE l 85) h k_85_9) (fun h => lf (P := EE l 85) h k_85_10)) (fun h => nd h (fun h => lf (P := EE l 85) h k_85_11) (fun h => lf (P := EE l 85) h k_85_14))) (fun h => nd h (fun h => nd h (fun h => lf (P := EE l 85) h k_85_15) (fun h => lf (P := EE l 85) h k_85_18)) (fun h => nd h (fun h => lf (P := EE l 85) h k_85_19) (fun h => lf (P := EE l 85) h k_85_20))))) (fun h => nd h (fun h => nd h (fun h => nd h (fun h => lf (P := EE l 85) h k_85_23) (fun h => nd h (fun h => lf (P := EE l 85) h k_85_24) (fun h => lf (P := EE l 85) h k_85_25))) (fun h => nd h (fun h => nd h (fun h => lf (P := EE l 85) h k_85_28) (fun h => lf (P := EE l 85) h k_85_29)) (fun h => nd h (fun h => lf (P := EE l 85) h k_85_32) (fun h => lf (P := EE l 85) h k_85_33)))) (fun h => nd h (fun h => nd h (fun h => nd h (fun h => lf (P := EE l 85) h k_85_34) (fun h => lf (P := EE l 85) h k_85_37)) (fun h => nd h (fun h => lf (P := EE l 85) h k_85_40) (fun h => lf (P := EE l 85) h k_85_41))) (fun h => nd h (fun h => nd h (fun h => lf (P := EE l 85) h k_85_42) (fun h => lf (P := EE l 85) h k_85_43)) (fun h => nd h (fun h => lf (P := EE l 85) h k_85_45) (fun h => lf (P := EE l 85) h k_85_47)))))) (fun h => nd h (fun h => nd h (fun h => nd h (fun h => nd h (fun h => lf (P := EE l 85) h k_85_48) (fun h => nd h (fun h => lf (P := EE l 85) h k_85_49) (fun h => lf (P := EE l 85) h k_85_52))) (fun h => nd h (fun h => nd h (fun h => lf (P := EE l 85) h k_85_53) (fun h => lf (P := EE l 85) h k_85_56)) (fun h => nd h (fun h => lf (P := EE l 85) h k_85_57) (fun h => lf (P := EE l 85) h k_85_58)))) (fun h => nd h (fun h => nd h (fun h => nd h (fun h => lf (P := EE l 85) h k_85_61) (fun h => lf (P := EE l 85) h k_85_62)) (fun h => nd h (fun h => lf (P := EE l 85) h k_85_63) (fun h => lf (P := EE l 85) h (EE_ca (by decide) (⟨m_743, m_74, ⟨by decide, by decide⟩, by decide +kernel, ⟨by decide, by decide⟩, 99, 2, by decide +kernel, Or.inr (Or.inr (Or.inl ⟨rfl, rfl, dX9_markStaying_64, m_740, m_742, _, rfl, by decide, m_14⟩))⟩) rfl)))) (fun h => nd h (fun h => nd h (fun h => lf (P := EE l 85) h k_85_67) (fun h => lf (P := EE l 85) h k_85_69)) (fun h => nd h (fun h => lf (P := EE l 85) h k_85_70) (fun h => lf (P := EE l 85) h k_85_71))))) (fun h => nd h (fun h => nd h (fun h => nd h (fun h => nd h (fun h => lf (P := EE l 85) h (EE_ca (by decide) (⟨m_746, m_74, ⟨by decide, by decide⟩, by decide +kernel, ⟨by decide, by decide⟩, 103, 3, by decide +kernel, Or.inl ⟨rfl, rfl, dX9_markStaying_73, m_744, m_745⟩⟩) rfl)) (fun h => lf (P := EE l 85) h k_85_76)) (fun h => nd h (fun h => lf (P := EE l 85) h k_85_78) (fun h => lf (P := EE l 85) h k_85_80))) (fun h => nd h (fun h => nd h (fun h => lf (P := EE l 85) h k_85_81) (fun h => lf (P := EE l 85) h k_85_84)) (fun h => nd h (fun h => lf (P := EE l 85) h k_85_86) (fun h => lf (P := EE l 85) h k_85_87)))) (fun h => nd h (fun h => nd h (fun h => nd h (fun h => lf (P := EE l 85) h k_85_90) (fun h => lf (P := EE l 85) h k_85_91)) (fun h => nd h (fun h => lf (P := EE l 85) h k_85_94) (fun h => lf (P := EE l 85) h k_85_96))) (fun h => nd h (fun h => nd h (fun h => lf (P := EE l 85) h k_85_97) (fun h => lf (P := EE l 85) h k_85_98)) (fun h => nd h (fun h => lf (P := EE l 85) h k_85_101) (fun h => lf (P := EE l 85) h (EE_re (Or.inr (Or.inr (Or.inr (Or.inr ⟨rfl, dX9_markStaying_104, rfl⟩)))))))))))
theorem dX9_nextStaying_0 : decode cX9_nextStaying 0 = .ok (.iload_n 1, 1) := by decide +kernel
theorem dX9_nextStaying_1 : decode cX9_nextStaying 1 = .ok (.iconst 1, 1) := by decide +kernel
theorem dX9_nextStaying_2 : decode cX9_nextStaying 2 = .ok (.iadd, 1) := by decide +kernel
theorem dX9_nextStaying_3 : decode cX9_nextStaying 3 = .ok (.istore_n 3, 1) := by decide +kernel
theorem dX9_nextStaying_4 : decode cX9_nextStaying 4 = .ok (.iload_n 3, 1) := by decide +kernel
theorem dX9_nextStaying_5 : decode cX9_nextStaying 5 = .ok (.iload_n 2, 1) := by decide +kernel
theorem dX9_nextStaying_6 : decode cX9_nextStaying 6 = .ok (.if_icmp .ge 20, 3) := by decide +kernel
theorem dX9_nextStaying_9 : decode cX9_nextStaying 9 = .ok (.aload_n 0, 1) := by decide +kernel
theorem dX9_nextStaying_10 : decode cX9_nextStaying 10 = .ok (.getfield 17, 3) := by decide +kernel
theorem dX9_nextStaying_13 : decode cX9_nextStaying 13 = .ok (.iload_n 3, 1) := by decide +kernel
theorem dX9_nextStaying_14 : decode cX9_nextStaying 14 = .ok (.baload, 1) := by decide +kernel
theorem dX9_nextStaying_15 : decode cX9_nextStaying 15 = .ok (.ifCond .eq 5, 3) := by decide +kernel
theorem dX9_nextStaying_18 : decode cX9_nextStaying 18 = .ok (.iload_n 3, 1) := by decide +kernel
theorem dX9_nextStaying_19 : decode cX9_nextStaying 19 = .ok (.ireturn, 1) := by decide +kernel
theorem dX9_nextStaying_20 : decode cX9_nextStaying 20 = .ok (.iinc 3 1, 3) := by decide +kernel
theorem dX9_nextStaying_23 : decode cX9_nextStaying 23 = .ok (.goto (-19), 3) := by decide +kernel
theorem dX9_nextStaying_26 : decode cX9_nextStaying 26 = .ok (.iload_n 2, 1) := by decide +kernel
theorem dX9_nextStaying_27 : decode cX9_nextStaying 27 = .ok (.ireturn, 1) := by decide +kernel
def tb_86 (pc : Nat) : Option mEnt := bif Nat.ble pc 10 then (bif Nat.ble pc 3 then (bif Nat.ble pc 1 then (bif Nat.ble pc 0 then (bif Nat.beq pc 0 then some (.inl (o_il 1 1)) else none) else (bif Nat.beq pc 1 then some (.inl (oS 1 (s_push (.int 1)))) else none)) else (bif Nat.ble pc 2 then (bif Nat.beq pc 2 then some (.inl (oS 1 (s_ii (fun a b => a + b)))) else none) else (bif Nat.beq pc 3 then some (.inl (o_is 3 1)) else none))) else (bif Nat.ble pc 5 then (bif Nat.ble pc 4 then (bif Nat.beq pc 4 then some (.inl (o_il 3 1)) else none) else (bif Nat.beq pc 5 then some (.inl (o_il 2 1)) else none)) else (bif Nat.ble pc 6 then (bif Nat.beq pc 6 then some (.inl (o_cge 26)) else none) else (bif Nat.ble pc 9 then (bif Nat.beq pc 9 then some (.inl (o_al 0 1)) else none) else (bif Nat.beq pc 10 then some (.inl (o_gP 9 3)) else none))))) else (bif Nat.ble pc 18 then (bif Nat.ble pc 14 then (bif Nat.ble pc 13 then (bif Nat.beq pc 13 then some (.inl (o_il 3 1)) else none) else (bif Nat.beq pc 14 then some (.inl (o_bald)) else none)) else (bif Nat.ble pc 15 then (bif Nat.beq pc 15 then some (.inl (o_zeq 20)) else none) else (bif Nat.beq pc 18 then some (.inl (o_il 3 1)) else none))) else (bif Nat.ble pc 20 then (bif Nat.ble pc 19 then (bif Nat.beq pc 19 then some (.inr (0, 0, 0, 0)) else none) else (bif Nat.beq pc 20 then some (.inl (o_inc 3 1)) else none)) else (bif Nat.ble pc 23 then (bif Nat.beq pc 23 then some (.inl (o_goto 4)) else none) else (bif Nat.ble pc 26 then (bif Nat.beq pc 26 then some (.inl (o_il 2 1)) else none) else (bif Nat.beq pc 27 then some (.inr (0, 0, 0, 0)) else none)))))
theorem k_86_0 : mOk M_86.1 M_86.2.1 M_86.2.2.1 M_86.2.2.2 0 (o_il 1 1) := ok_iload_n dX9_nextStaying_0 rfl
theorem k_86_1 : mOk M_86.1 M_86.2.1 M_86.2.2.1 M_86.2.2.2 1 (oS 1 (s_push (.int 1))) := ok_iconst dX9_nextStaying_1 (by decide)
theorem k_86_2 : mOk M_86.1 M_86.2.1 M_86.2.2.1 M_86.2.2.2 2 (oS 1 (s_ii (fun a b => a + b))) := ok_iadd dX9_nextStaying_2
theorem k_86_3 : mOk M_86.1 M_86.2.1 M_86.2.2.1 M_86.2.2.2 3 (o_is 3 1) := ok_istore_n dX9_nextStaying_3 rfl
theorem k_86_4 : mOk M_86.1 M_86.2.1 M_86.2.2.1 M_86.2.2.2 4 (o_il 3 1) := ok_iload_n dX9_nextStaying_4 rfl
theorem k_86_5 : mOk M_86.1 M_86.2.1 M_86.2.2.1 M_86.2.2.2 5 (o_il 2 1) := ok_iload_n dX9_nextStaying_5 rfl
theorem k_86_6 : mOk M_86.1 M_86.2.1 M_86.2.2.1 M_86.2.2.2 6 (o_cge 26) := ok_cge dX9_nextStaying_6 (by decide)
theorem k_86_9 : mOk M_86.1 M_86.2.1 M_86.2.2.1 M_86.2.2.2 9 (o_al 0 1) := ok_aload_n dX9_nextStaying_9 rfl
theorem k_86_10 : mOk M_86.1 M_86.2.1 M_86.2.2.1 M_86.2.2.2 10 (o_gP 9 3) := ok_gP dX9_nextStaying_10 f_RX9_17 rfl
theorem k_86_13 : mOk M_86.1 M_86.2.1 M_86.2.2.1 M_86.2.2.2 13 (o_il 3 1) := ok_iload_n dX9_nextStaying_13 rfl
theorem k_86_14 : mOk M_86.1 M_86.2.1 M_86.2.2.1 M_86.2.2.2 14 (o_bald) := ok_bald dX9_nextStaying_14
theorem k_86_15 : mOk M_86.1 M_86.2.1 M_86.2.2.1 M_86.2.2.2 15 (o_zeq 20) := ok_zeq dX9_nextStaying_15 (by decide)
theorem k_86_18 : mOk M_86.1 M_86.2.1 M_86.2.2.1 M_86.2.2.2 18 (o_il 3 1) := ok_iload_n dX9_nextStaying_18 rfl
theorem k_86_20 : mOk M_86.1 M_86.2.1 M_86.2.2.1 M_86.2.2.2 20 (o_inc 3 1) := ok_iinc dX9_nextStaying_20 (by decide)
theorem k_86_23 : mOk M_86.1 M_86.2.1 M_86.2.2.1 M_86.2.2.2 23 (o_goto 4) := ok_goto dX9_nextStaying_23 (by decide)
theorem k_86_26 : mOk M_86.1 M_86.2.1 M_86.2.2.1 M_86.2.2.2 26 (o_il 2 1) := ok_iload_n dX9_nextStaying_26 rfl
set_option maxRecDepth 20000 in
set_option maxHeartbeats 4000000 in
theorem tk_86 (l : Launch) (H9 : mThr l) (H10 : mSpl l) (pc : Nat) (q : mEnt) (h : tb_86 pc = some q) : EE l 86 pc q := nd h (fun h => nd h (fun h => nd h (fun h => nd h (fun h => lf (P := EE l 86) h k_86_0) (fun h => lf (P := EE l 86) h k_86_1)) (fun h => nd h (fun h => lf (P := EE l 86) h k_86_2) (fun h => lf (P := EE l 86) h k_86_3))) (fun h => nd h (fun h => nd h (fun h => lf (P := EE l 86) h k_86_4) (fun h => lf (P := EE l 86) h k_86_5)) (fun h => nd h (fun h => lf (P := EE l 86) h k_86_6) (fun h => nd h (fun h => lf (P := EE l 86) h k_86_9) (fun h => lf (P := EE l 86) h k_86_10))))) (fun h => nd h (fun h => nd h (fun h => nd h (fun h => lf (P := EE l 86) h k_86_13) (fun h => lf (P := EE l 86) h k_86_14)) (fun h => nd h (fun h => lf (P := EE l 86) h k_86_15) (fun h => lf (P := EE l 86) h k_86_18))) (fun h => nd h (fun h => nd h (fun h => lf (P := EE l 86) h (EE_re (Or.inl ⟨rfl, dX9_nextStaying_19, rfl⟩))) (fun h => lf (P := EE l 86) h k_86_20)) (fun h => nd h (fun h => lf (P := EE l 86) h k_86_23) (fun h => nd h (fun h => lf (P := EE l 86) h k_86_26) (fun h => lf (P := EE l 86) h (EE_re (Or.inl ⟨rfl, dX9_nextStaying_27, rfl⟩)))))))
theorem dX9_farthest_0 : decode cX9_farthest 0 = .ok (.aload_n 0, 1) := by decide +kernel
theorem dX9_farthest_1 : decode cX9_farthest 1 = .ok (.getfield 80, 3) := by decide +kernel
theorem dX9_farthest_4 : decode cX9_farthest 4 = .ok (.iload_n 2, 1) := by decide +kernel
theorem dX9_farthest_5 : decode cX9_farthest 5 = .ok (.iaload, 1) := by decide +kernel
theorem dX9_farthest_6 : decode cX9_farthest 6 = .ok (.aload_n 0, 1) := by decide +kernel
theorem dX9_farthest_7 : decode cX9_farthest 7 = .ok (.getfield 80, 3) := by decide +kernel
theorem dX9_farthest_10 : decode cX9_farthest 10 = .ok (.iload_n 1, 1) := by decide +kernel
theorem dX9_farthest_11 : decode cX9_farthest 11 = .ok (.iaload, 1) := by decide +kernel
theorem dX9_farthest_12 : decode cX9_farthest 12 = .ok (.isub, 1) := by decide +kernel
theorem dX9_farthest_13 : decode cX9_farthest 13 = .ok (.istore_n 3, 1) := by decide +kernel
theorem dX9_farthest_14 : decode cX9_farthest 14 = .ok (.aload_n 0, 1) := by decide +kernel
theorem dX9_farthest_15 : decode cX9_farthest 15 = .ok (.getfield 81, 3) := by decide +kernel
theorem dX9_farthest_18 : decode cX9_farthest 18 = .ok (.iload_n 2, 1) := by decide +kernel
theorem dX9_farthest_19 : decode cX9_farthest 19 = .ok (.iaload, 1) := by decide +kernel
theorem dX9_farthest_20 : decode cX9_farthest 20 = .ok (.aload_n 0, 1) := by decide +kernel
theorem dX9_farthest_21 : decode cX9_farthest 21 = .ok (.getfield 81, 3) := by decide +kernel
theorem dX9_farthest_24 : decode cX9_farthest 24 = .ok (.iload_n 1, 1) := by decide +kernel
theorem dX9_farthest_25 : decode cX9_farthest 25 = .ok (.iaload, 1) := by decide +kernel
theorem dX9_farthest_26 : decode cX9_farthest 26 = .ok (.isub, 1) := by decide +kernel
theorem dX9_farthest_27 : decode cX9_farthest 27 = .ok (.istore 4, 2) := by decide +kernel
theorem dX9_farthest_29 : decode cX9_farthest 29 = .ok (.iload_n 3, 1) := by decide +kernel
theorem dX9_farthest_30 : decode cX9_farthest 30 = .ok (.ifCond .ne 12, 3) := by decide +kernel
theorem dX9_farthest_33 : decode cX9_farthest 33 = .ok (.iload 4, 2) := by decide +kernel
theorem dX9_farthest_35 : decode cX9_farthest 35 = .ok (.ifCond .ne 7, 3) := by decide +kernel
theorem dX9_farthest_38 : decode cX9_farthest 38 = .ok (.iconst 1, 1) := by decide +kernel
theorem dX9_farthest_39 : decode cX9_farthest 39 = .ok (.goto 4, 3) := by decide +kernel
theorem dX9_farthest_42 : decode cX9_farthest 42 = .ok (.iconst 0, 1) := by decide +kernel
theorem dX9_farthest_43 : decode cX9_farthest 43 = .ok (.istore 5, 2) := by decide +kernel
theorem dX9_farthest_45 : decode cX9_farthest 45 = .ok (.iconst (-1), 1) := by decide +kernel
theorem dX9_farthest_46 : decode cX9_farthest 46 = .ok (.istore 6, 2) := by decide +kernel
theorem dX9_farthest_48 : decode cX9_farthest 48 = .ok (.ldc2_w 107, 3) := by decide +kernel
theorem dX9_farthest_51 : decode cX9_farthest 51 = .ok (.lstore 7, 2) := by decide +kernel
theorem dX9_farthest_53 : decode cX9_farthest 53 = .ok (.iload_n 1, 1) := by decide +kernel
theorem dX9_farthest_54 : decode cX9_farthest 54 = .ok (.iconst 1, 1) := by decide +kernel
theorem dX9_farthest_55 : decode cX9_farthest 55 = .ok (.iadd, 1) := by decide +kernel
theorem dX9_farthest_56 : decode cX9_farthest 56 = .ok (.istore 9, 2) := by decide +kernel
theorem dX9_farthest_58 : decode cX9_farthest 58 = .ok (.iload 9, 2) := by decide +kernel
theorem dX9_farthest_60 : decode cX9_farthest 60 = .ok (.iload_n 2, 1) := by decide +kernel
theorem dX9_farthest_61 : decode cX9_farthest 61 = .ok (.if_icmp .ge 93, 3) := by decide +kernel
theorem dX9_farthest_64 : decode cX9_farthest 64 = .ok (.aload_n 0, 1) := by decide +kernel
theorem dX9_farthest_65 : decode cX9_farthest 65 = .ok (.getfield 80, 3) := by decide +kernel
theorem dX9_farthest_68 : decode cX9_farthest 68 = .ok (.iload 9, 2) := by decide +kernel
theorem dX9_farthest_70 : decode cX9_farthest 70 = .ok (.iaload, 1) := by decide +kernel
theorem dX9_farthest_71 : decode cX9_farthest 71 = .ok (.aload_n 0, 1) := by decide +kernel
theorem dX9_farthest_72 : decode cX9_farthest 72 = .ok (.getfield 80, 3) := by decide +kernel
theorem dX9_farthest_75 : decode cX9_farthest 75 = .ok (.iload_n 1, 1) := by decide +kernel
theorem dX9_farthest_76 : decode cX9_farthest 76 = .ok (.iaload, 1) := by decide +kernel
theorem dX9_farthest_77 : decode cX9_farthest 77 = .ok (.isub, 1) := by decide +kernel
theorem dX9_farthest_78 : decode cX9_farthest 78 = .ok (.istore 10, 2) := by decide +kernel
theorem dX9_farthest_80 : decode cX9_farthest 80 = .ok (.aload_n 0, 1) := by decide +kernel
theorem dX9_farthest_81 : decode cX9_farthest 81 = .ok (.getfield 81, 3) := by decide +kernel
theorem dX9_farthest_84 : decode cX9_farthest 84 = .ok (.iload 9, 2) := by decide +kernel
theorem dX9_farthest_86 : decode cX9_farthest 86 = .ok (.iaload, 1) := by decide +kernel
theorem dX9_farthest_87 : decode cX9_farthest 87 = .ok (.aload_n 0, 1) := by decide +kernel
theorem dX9_farthest_88 : decode cX9_farthest 88 = .ok (.getfield 81, 3) := by decide +kernel
theorem dX9_farthest_91 : decode cX9_farthest 91 = .ok (.iload_n 1, 1) := by decide +kernel
theorem dX9_farthest_92 : decode cX9_farthest 92 = .ok (.iaload, 1) := by decide +kernel
theorem dX9_farthest_93 : decode cX9_farthest 93 = .ok (.isub, 1) := by decide +kernel
theorem dX9_farthest_94 : decode cX9_farthest 94 = .ok (.istore 11, 2) := by decide +kernel
theorem dX9_farthest_96 : decode cX9_farthest 96 = .ok (.iload 5, 2) := by decide +kernel
theorem dX9_farthest_98 : decode cX9_farthest 98 = .ok (.ifCond .eq 17, 3) := by decide +kernel
theorem dX9_farthest_101 : decode cX9_farthest 101 = .ok (.iload 10, 2) := by decide +kernel
theorem dX9_farthest_103 : decode cX9_farthest 103 = .ok (.iload 10, 2) := by decide +kernel
theorem dX9_farthest_105 : decode cX9_farthest 105 = .ok (.imul, 1) := by decide +kernel
theorem dX9_farthest_106 : decode cX9_farthest 106 = .ok (.iload 11, 2) := by decide +kernel
theorem dX9_farthest_108 : decode cX9_farthest 108 = .ok (.iload 11, 2) := by decide +kernel
theorem dX9_farthest_110 : decode cX9_farthest 110 = .ok (.imul, 1) := by decide +kernel
theorem dX9_farthest_111 : decode cX9_farthest 111 = .ok (.iadd, 1) := by decide +kernel
theorem dX9_farthest_112 : decode cX9_farthest 112 = .ok (.goto 16, 3) := by decide +kernel
theorem dX9_farthest_115 : decode cX9_farthest 115 = .ok (.iload_n 3, 1) := by decide +kernel
theorem dX9_farthest_116 : decode cX9_farthest 116 = .ok (.iload 11, 2) := by decide +kernel
theorem dX9_farthest_118 : decode cX9_farthest 118 = .ok (.imul, 1) := by decide +kernel
theorem dX9_farthest_119 : decode cX9_farthest 119 = .ok (.iload 4, 2) := by decide +kernel
theorem dX9_farthest_121 : decode cX9_farthest 121 = .ok (.iload 10, 2) := by decide +kernel
theorem dX9_farthest_123 : decode cX9_farthest 123 = .ok (.imul, 1) := by decide +kernel
theorem dX9_farthest_124 : decode cX9_farthest 124 = .ok (.isub, 1) := by decide +kernel
theorem dX9_farthest_125 : decode cX9_farthest 125 = .ok (.invokestatic 109, 3) := by decide +kernel
theorem dX9_farthest_128 : decode cX9_farthest 128 = .ok (.istore 12, 2) := by decide +kernel
theorem dX9_farthest_130 : decode cX9_farthest 130 = .ok (.iload 12, 2) := by decide +kernel
theorem dX9_farthest_132 : decode cX9_farthest 132 = .ok (.i2l, 1) := by decide +kernel
theorem dX9_farthest_133 : decode cX9_farthest 133 = .ok (.lload 7, 2) := by decide +kernel
theorem dX9_farthest_135 : decode cX9_farthest 135 = .ok (.lcmp, 1) := by decide +kernel
theorem dX9_farthest_136 : decode cX9_farthest 136 = .ok (.ifCond .le 12, 3) := by decide +kernel
theorem dX9_farthest_139 : decode cX9_farthest 139 = .ok (.iload 12, 2) := by decide +kernel
theorem dX9_farthest_141 : decode cX9_farthest 141 = .ok (.i2l, 1) := by decide +kernel
theorem dX9_farthest_142 : decode cX9_farthest 142 = .ok (.lstore 7, 2) := by decide +kernel
theorem dX9_farthest_144 : decode cX9_farthest 144 = .ok (.iload 9, 2) := by decide +kernel
theorem dX9_farthest_146 : decode cX9_farthest 146 = .ok (.istore 6, 2) := by decide +kernel
theorem dX9_farthest_148 : decode cX9_farthest 148 = .ok (.iinc 9 1, 3) := by decide +kernel
theorem dX9_farthest_151 : decode cX9_farthest 151 = .ok (.goto (-93), 3) := by decide +kernel
theorem dX9_farthest_154 : decode cX9_farthest 154 = .ok (.iload 5, 2) := by decide +kernel
theorem dX9_farthest_156 : decode cX9_farthest 156 = .ok (.ifCond .eq 20, 3) := by decide +kernel
theorem dX9_farthest_159 : decode cX9_farthest 159 = .ok (.lload 7, 2) := by decide +kernel
theorem dX9_farthest_161 : decode cX9_farthest 161 = .ok (.ldc2_w 115, 3) := by decide +kernel
theorem dX9_farthest_164 : decode cX9_farthest 164 = .ok (.lcmp, 1) := by decide +kernel
theorem dX9_farthest_165 : decode cX9_farthest 165 = .ok (.ifCond .lt 7, 3) := by decide +kernel
theorem dX9_farthest_168 : decode cX9_farthest 168 = .ok (.iconst 1, 1) := by decide +kernel
theorem dX9_farthest_169 : decode cX9_farthest 169 = .ok (.goto 35, 3) := by decide +kernel
theorem dX9_farthest_172 : decode cX9_farthest 172 = .ok (.iconst 0, 1) := by decide +kernel
theorem dX9_farthest_173 : decode cX9_farthest 173 = .ok (.goto 31, 3) := by decide +kernel
theorem dX9_farthest_176 : decode cX9_farthest 176 = .ok (.lload 7, 2) := by decide +kernel
theorem dX9_farthest_178 : decode cX9_farthest 178 = .ok (.lload 7, 2) := by decide +kernel
theorem dX9_farthest_180 : decode cX9_farthest 180 = .ok (.lmul, 1) := by decide +kernel
theorem dX9_farthest_181 : decode cX9_farthest 181 = .ok (.ldc2_w 115, 3) := by decide +kernel
theorem dX9_farthest_184 : decode cX9_farthest 184 = .ok (.iload_n 3, 1) := by decide +kernel
theorem dX9_farthest_185 : decode cX9_farthest 185 = .ok (.iload_n 3, 1) := by decide +kernel
theorem dX9_farthest_186 : decode cX9_farthest 186 = .ok (.imul, 1) := by decide +kernel
theorem dX9_farthest_187 : decode cX9_farthest 187 = .ok (.iload 4, 2) := by decide +kernel
theorem dX9_farthest_189 : decode cX9_farthest 189 = .ok (.iload 4, 2) := by decide +kernel
theorem dX9_farthest_191 : decode cX9_farthest 191 = .ok (.imul, 1) := by decide +kernel
theorem dX9_farthest_192 : decode cX9_farthest 192 = .ok (.iadd, 1) := by decide +kernel
theorem dX9_farthest_193 : decode cX9_farthest 193 = .ok (.i2l, 1) := by decide +kernel
theorem dX9_farthest_194 : decode cX9_farthest 194 = .ok (.lmul, 1) := by decide +kernel
theorem dX9_farthest_195 : decode cX9_farthest 195 = .ok (.lcmp, 1) := by decide +kernel
theorem dX9_farthest_196 : decode cX9_farthest 196 = .ok (.ifCond .lt 7, 3) := by decide +kernel
theorem dX9_farthest_199 : decode cX9_farthest 199 = .ok (.iconst 1, 1) := by decide +kernel
theorem dX9_farthest_200 : decode cX9_farthest 200 = .ok (.goto 4, 3) := by decide +kernel
theorem dX9_farthest_203 : decode cX9_farthest 203 = .ok (.iconst 0, 1) := by decide +kernel
theorem dX9_farthest_204 : decode cX9_farthest 204 = .ok (.istore 9, 2) := by decide +kernel
theorem dX9_farthest_206 : decode cX9_farthest 206 = .ok (.iload 9, 2) := by decide +kernel
theorem dX9_farthest_208 : decode cX9_farthest 208 = .ok (.ifCond .eq 8, 3) := by decide +kernel
theorem dX9_farthest_211 : decode cX9_farthest 211 = .ok (.iload 6, 2) := by decide +kernel
theorem dX9_farthest_213 : decode cX9_farthest 213 = .ok (.goto 4, 3) := by decide +kernel
theorem dX9_farthest_216 : decode cX9_farthest 216 = .ok (.iconst (-1), 1) := by decide +kernel
theorem dX9_farthest_217 : decode cX9_farthest 217 = .ok (.ireturn, 1) := by decide +kernel
def tb_87 (pc : Nat) : Option mEnt := bif Nat.ble pc 101 then (bif Nat.ble pc 48 then (bif Nat.ble pc 20 then (bif Nat.ble pc 10 then (bif Nat.ble pc 4 then (bif Nat.ble pc 0 then (bif Nat.beq pc 0 then some (.inl (o_al 0 1)) else none) else (bif Nat.ble pc 1 then (bif Nat.beq pc 1 then some (.inl (o_gP 6 0)) else none) else (bif Nat.beq pc 4 then some (.inl (o_il 2 1)) else none))) else (bif Nat.ble pc 6 then (bif Nat.ble pc 5 then (bif Nat.beq pc 5 then some (.inl (o_iald)) else none) else (bif Nat.beq pc 6 then some (.inl (o_al 0 1)) else none)) else (bif Nat.ble pc 7 then (bif Nat.beq pc 7 then some (.inl (o_gP 6 0)) else none) else (bif Nat.beq pc 10 then some (.inl (o_il 1 1)) else none)))) else (bif Nat.ble pc 14 then (bif Nat.ble pc 12 then (bif Nat.ble pc 11 then (bif Nat.beq pc 11 then some (.inl (o_iald)) else none) else (bif Nat.beq pc 12 then some (.inl (oS 1 (s_ii (fun a b => a - b)))) else none)) else (bif Nat.ble pc 13 then (bif Nat.beq pc 13 then some (.inl (o_is 3 1)) else none) else (bif Nat.beq pc 14 then some (.inl (o_al 0 1)) else none))) else (bif Nat.ble pc 18 then (bif Nat.ble pc 15 then (bif Nat.beq pc 15 then some (.inl (o_gP 6 1)) else none) else (bif Nat.beq pc 18 then some (.inl (o_il 2 1)) else none)) else (bif Nat.ble pc 19 then (bif Nat.beq pc 19 then some (.inl (o_iald)) else none) else (bif Nat.beq pc 20 then some (.inl (o_al 0 1)) else none))))) else (bif Nat.ble pc 33 then (bif Nat.ble pc 26 then (bif Nat.ble pc 24 then (bif Nat.ble pc 21 then (bif Nat.beq pc 21 then some (.inl (o_gP 6 1)) else none) else (bif Nat.beq pc 24 then some (.inl (o_il 1 1)) else none)) else (bif Nat.ble pc 25 then (bif Nat.beq pc 25 then some (.inl (o_iald)) else none) else (bif Nat.beq pc 26 then some (.inl (oS 1 (s_ii (fun a b => a - b)))) else none))) else (bif Nat.ble pc 29 then (bif Nat.ble pc 27 then (bif Nat.beq pc 27 then some (.inl (o_is 4 2)) else none) else (bif Nat.beq pc 29 then some (.inl (o_il 3 1)) else none)) else (bif Nat.ble pc 30 then (bif Nat.beq pc 30 then some (.inl (o_zne 42)) else none) else (bif Nat.beq pc 33 then some (.inl (o_il 4 2)) else none)))) else (bif Nat.ble pc 42 then (bif Nat.ble pc 38 then (bif Nat.ble pc 35 then (bif Nat.beq pc 35 then some (.inl (o_zne 42)) else none) else (bif Nat.beq pc 38 then some (.inl (oS 1 (s_push (.int 1)))) else none)) else (bif Nat.ble pc 39 then (bif Nat.beq pc 39 then some (.inl (o_goto 43)) else none) else (bif Nat.beq pc 42 then some (.inl (oS 1 (s_push (.int 0)))) else none))) else (bif Nat.ble pc 45 then (bif Nat.ble pc 43 then (bif Nat.beq pc 43 then some (.inl (o_is 5 2)) else none) else (bif Nat.beq pc 45 then some (.inl (oS 1 (s_push (.int (-1))))) else none)) else (bif Nat.ble pc 46 then (bif Nat.beq pc 46 then some (.inl (o_is 6 2)) else none) else (bif Nat.beq pc 48 then some (.inl (oS 3 (s_push (.long (-1))))) else none)))))) else (bif Nat.ble pc 75 then (bif Nat.ble pc 60 then (bif Nat.ble pc 54 then (bif Nat.ble pc 51 then (bif Nat.beq pc 51 then some (.inl (o_ls 7 2)) else none) else (bif Nat.ble pc 53 then (bif Nat.beq pc 53 then some (.inl (o_il 1 1)) else none) else (bif Nat.beq pc 54 then some (.inl (oS 1 (s_push (.int 1)))) else none))) else (bif Nat.ble pc 56 then (bif Nat.ble pc 55 then (bif Nat.beq pc 55 then some (.inl (oS 1 (s_ii (fun a b => a + b)))) else none) else (bif Nat.beq pc 56 then some (.inl (o_is 9 2)) else none)) else (bif Nat.ble pc 58 then (bif Nat.beq pc 58 then some (.inl (o_il 9 2)) else none) else (bif Nat.beq pc 60 then some (.inl (o_il 2 1)) else none)))) else (bif Nat.ble pc 68 then (bif Nat.ble pc 64 then (bif Nat.ble pc 61 then (bif Nat.beq pc 61 then some (.inl (o_cge 154)) else none) else (bif Nat.beq pc 64 then some (.inl (o_al 0 1)) else none)) else (bif Nat.ble pc 65 then (bif Nat.beq pc 65 then some (.inl (o_gP 6 0)) else none) else (bif Nat.beq pc 68 then some (.inl (o_il 9 2)) else none))) else (bif Nat.ble pc 71 then (bif Nat.ble pc 70 then (bif Nat.beq pc 70 then some (.inl (o_iald)) else none) else (bif Nat.beq pc 71 then some (.inl (o_al 0 1)) else none)) else (bif Nat.ble pc 72 then (bif Nat.beq pc 72 then some (.inl (o_gP 6 0)) else none) else (bif Nat.beq pc 75 then some (.inl (o_il 1 1)) else none))))) else (bif Nat.ble pc 87 then (bif Nat.ble pc 80 then (bif Nat.ble pc 77 then (bif Nat.ble pc 76 then (bif Nat.beq pc 76 then some (.inl (o_iald)) else none) else (bif Nat.beq pc 77 then some (.inl (oS 1 (s_ii (fun a b => a - b)))) else none)) else (bif Nat.ble pc 78 then (bif Nat.beq pc 78 then some (.inl (o_is 10 2)) else none) else (bif Nat.beq pc 80 then some (.inl (o_al 0 1)) else none))) else (bif Nat.ble pc 84 then (bif Nat.ble pc 81 then (bif Nat.beq pc 81 then some (.inl (o_gP 6 1)) else none) else (bif Nat.beq pc 84 then some (.inl (o_il 9 2)) else none)) else (bif Nat.ble pc 86 then (bif Nat.beq pc 86 then some (.inl (o_iald)) else none) else (bif Nat.beq pc 87 then some (.inl (o_al 0 1)) else none)))) else (bif Nat.ble pc 93 then (bif Nat.ble pc 91 then (bif Nat.ble pc 88 then (bif Nat.beq pc 88 then some (.inl (o_gP 6 1)) else none) else (bif Nat.beq pc 91 then some (.inl (o_il 1 1)) else none)) else (bif Nat.ble pc 92 then (bif Nat.beq pc 92 then some (.inl (o_iald)) else none) else (bif Nat.beq pc 93 then some (.inl (oS 1 (s_ii (fun a b => a - b)))) else none))) else (bif Nat.ble pc 96 then (bif Nat.ble pc 94 then (bif Nat.beq pc 94 then some (.inl (o_is 11 2)) else none) else (bif Nat.beq pc 96 then some (.inl (o_il 5 2)) else none)) else (bif Nat.ble pc 98 then (bif Nat.beq pc 98 then some (.inl (o_zeq 115)) else none) else (bif Nat.beq pc 101 then some (.inl (o_il 10 2)) else none))))))) else (bif Nat.ble pc 159 then (bif Nat.ble pc 125 then (bif Nat.ble pc 112 then (bif Nat.ble pc 106 then (bif Nat.ble pc 103 then (bif Nat.beq pc 103 then some (.inl (o_il 10 2)) else none) else (bif Nat.ble pc 105 then (bif Nat.beq pc 105 then some (.inl (oS 1 (s_ii (fun a b => a * b)))) else none) else (bif Nat.beq pc 106 then some (.inl (o_il 11 2)) else none))) else (bif Nat.ble pc 110 then (bif Nat.ble pc 108 then (bif Nat.beq pc 108 then some (.inl (o_il 11 2)) else none) else (bif Nat.beq pc 110 then some (.inl (oS 1 (s_ii (fun a b => a * b)))) else none)) else (bif Nat.ble pc 111 then (bif Nat.beq pc 111 then some (.inl (oS 1 (s_ii (fun a b => a + b)))) else none) else (bif Nat.beq pc 112 then some (.inl (o_goto 128)) else none)))) else (bif Nat.ble pc 119 then (bif Nat.ble pc 116 then (bif Nat.ble pc 115 then (bif Nat.beq pc 115 then some (.inl (o_il 3 1)) else none) else (bif Nat.beq pc 116 then some (.inl (o_il 11 2)) else none)) else (bif Nat.ble pc 118 then (bif Nat.beq pc 118 then some (.inl (oS 1 (s_ii (fun a b => a * b)))) else none) else (bif Nat.beq pc 119 then some (.inl (o_il 4 2)) else none))) else (bif Nat.ble pc 123 then (bif Nat.ble pc 121 then (bif Nat.beq pc 121 then some (.inl (o_il 10 2)) else none) else (bif Nat.beq pc 123 then some (.inl (oS 1 (s_ii (fun a b => a * b)))) else none)) else (bif Nat.ble pc 124 then (bif Nat.beq pc 124 then some (.inl (oS 1 (s_ii (fun a b => a - b)))) else none) else (bif Nat.beq pc 125 then some (.inr (2, 182, 1, 0)) else none))))) else (bif Nat.ble pc 141 then (bif Nat.ble pc 133 then (bif Nat.ble pc 130 then (bif Nat.ble pc 128 then (bif Nat.beq pc 128 then some (.inl (o_is 12 2)) else none) else (bif Nat.beq pc 130 then some (.inl (o_il 12 2)) else none)) else (bif Nat.ble pc 132 then (bif Nat.beq pc 132 then some (.inl (oS 1 s_i2l)) else none) else (bif Nat.beq pc 133 then some (.inl (o_ll 7 2)) else none))) else (bif Nat.ble pc 136 then (bif Nat.ble pc 135 then (bif Nat.beq pc 135 then some (.inl (oS 1 s_lcmp)) else none) else (bif Nat.beq pc 136 then some (.inl (o_zle 148)) else none)) else (bif Nat.ble pc 139 then (bif Nat.beq pc 139 then some (.inl (o_il 12 2)) else none) else (bif Nat.beq pc 141 then some (.inl (oS 1 s_i2l)) else none)))) else (bif Nat.ble pc 148 then (bif Nat.ble pc 144 then (bif Nat.ble pc 142 then (bif Nat.beq pc 142 then some (.inl (o_ls 7 2)) else none) else (bif Nat.beq pc 144 then some (.inl (o_il 9 2)) else none)) else (bif Nat.ble pc 146 then (bif Nat.beq pc 146 then some (.inl (o_is 6 2)) else none) else (bif Nat.beq pc 148 then some (.inl (o_inc 9 1)) else none))) else (bif Nat.ble pc 154 then (bif Nat.ble pc 151 then (bif Nat.beq pc 151 then some (.inl (o_goto 58)) else none) else (bif Nat.beq pc 154 then some (.inl (o_il 5 2)) else none)) else (bif Nat.ble pc 156 then (bif Nat.beq pc 156 then some (.inl (o_zeq 176)) else none) else (bif Nat.beq pc 159 then some (.inl (o_ll 7 2)) else none)))))) else (bif Nat.ble pc 189 then (bif Nat.ble pc 176 then (bif Nat.ble pc 168 then (bif Nat.ble pc 164 then (bif Nat.ble pc 161 then (bif Nat.beq pc 161 then some (.inl (oS 3 (s_push (.long 4)))) else none) else (bif Nat.beq pc 164 then some (.inl (oS 1 s_lcmp)) else none)) else (bif Nat.ble pc 165 then (bif Nat.beq pc 165 then some (.inl (o_zlt 172)) else none) else (bif Nat.beq pc 168 then some (.inl (oS 1 (s_push (.int 1)))) else none))) else (bif Nat.ble pc 172 then (bif Nat.ble pc 169 then (bif Nat.beq pc 169 then some (.inl (o_goto 204)) else none) else (bif Nat.beq pc 172 then some (.inl (oS 1 (s_push (.int 0)))) else none)) else (bif Nat.ble pc 173 then (bif Nat.beq pc 173 then some (.inl (o_goto 204)) else none) else (bif Nat.beq pc 176 then some (.inl (o_ll 7 2)) else none)))) else (bif Nat.ble pc 184 then (bif Nat.ble pc 180 then (bif Nat.ble pc 178 then (bif Nat.beq pc 178 then some (.inl (o_ll 7 2)) else none) else (bif Nat.beq pc 180 then some (.inl (oS 1 (s_ll (fun a b => a * b)))) else none)) else (bif Nat.ble pc 181 then (bif Nat.beq pc 181 then some (.inl (oS 3 (s_push (.long 4)))) else none) else (bif Nat.beq pc 184 then some (.inl (o_il 3 1)) else none))) else (bif Nat.ble pc 186 then (bif Nat.ble pc 185 then (bif Nat.beq pc 185 then some (.inl (o_il 3 1)) else none) else (bif Nat.beq pc 186 then some (.inl (oS 1 (s_ii (fun a b => a * b)))) else none)) else (bif Nat.ble pc 187 then (bif Nat.beq pc 187 then some (.inl (o_il 4 2)) else none) else (bif Nat.beq pc 189 then some (.inl (o_il 4 2)) else none))))) else (bif Nat.ble pc 200 then (bif Nat.ble pc 194 then (bif Nat.ble pc 192 then (bif Nat.ble pc 191 then (bif Nat.beq pc 191 then some (.inl (oS 1 (s_ii (fun a b => a * b)))) else none) else (bif Nat.beq pc 192 then some (.inl (oS 1 (s_ii (fun a b => a + b)))) else none)) else (bif Nat.ble pc 193 then (bif Nat.beq pc 193 then some (.inl (oS 1 s_i2l)) else none) else (bif Nat.beq pc 194 then some (.inl (oS 1 (s_ll (fun a b => a * b)))) else none))) else (bif Nat.ble pc 196 then (bif Nat.ble pc 195 then (bif Nat.beq pc 195 then some (.inl (oS 1 s_lcmp)) else none) else (bif Nat.beq pc 196 then some (.inl (o_zlt 203)) else none)) else (bif Nat.ble pc 199 then (bif Nat.beq pc 199 then some (.inl (oS 1 (s_push (.int 1)))) else none) else (bif Nat.beq pc 200 then some (.inl (o_goto 204)) else none)))) else (bif Nat.ble pc 208 then (bif Nat.ble pc 204 then (bif Nat.ble pc 203 then (bif Nat.beq pc 203 then some (.inl (oS 1 (s_push (.int 0)))) else none) else (bif Nat.beq pc 204 then some (.inl (o_is 9 2)) else none)) else (bif Nat.ble pc 206 then (bif Nat.beq pc 206 then some (.inl (o_il 9 2)) else none) else (bif Nat.beq pc 208 then some (.inl (o_zeq 216)) else none))) else (bif Nat.ble pc 213 then (bif Nat.ble pc 211 then (bif Nat.beq pc 211 then some (.inl (o_il 6 2)) else none) else (bif Nat.beq pc 213 then some (.inl (o_goto 217)) else none)) else (bif Nat.ble pc 216 then (bif Nat.beq pc 216 then some (.inl (oS 1 (s_push (.int (-1))))) else none) else (bif Nat.beq pc 217 then some (.inr (0, 0, 0, 0)) else none)))))))
theorem k_87_0 : mOk M_87.1 M_87.2.1 M_87.2.2.1 M_87.2.2.2 0 (o_al 0 1) := ok_aload_n dX9_farthest_0 rfl
theorem k_87_1 : mOk M_87.1 M_87.2.1 M_87.2.2.1 M_87.2.2.2 1 (o_gP 6 0) := ok_gP dX9_farthest_1 f_RX9_80 rfl
theorem k_87_4 : mOk M_87.1 M_87.2.1 M_87.2.2.1 M_87.2.2.2 4 (o_il 2 1) := ok_iload_n dX9_farthest_4 rfl
theorem k_87_5 : mOk M_87.1 M_87.2.1 M_87.2.2.1 M_87.2.2.2 5 (o_iald) := ok_iald dX9_farthest_5
theorem k_87_6 : mOk M_87.1 M_87.2.1 M_87.2.2.1 M_87.2.2.2 6 (o_al 0 1) := ok_aload_n dX9_farthest_6 rfl
theorem k_87_7 : mOk M_87.1 M_87.2.1 M_87.2.2.1 M_87.2.2.2 7 (o_gP 6 0) := ok_gP dX9_farthest_7 f_RX9_80 rfl
theorem k_87_10 : mOk M_87.1 M_87.2.1 M_87.2.2.1 M_87.2.2.2 10 (o_il 1 1) := ok_iload_n dX9_farthest_10 rfl
theorem k_87_11 : mOk M_87.1 M_87.2.1 M_87.2.2.1 M_87.2.2.2 11 (o_iald) := ok_iald dX9_farthest_11
theorem k_87_12 : mOk M_87.1 M_87.2.1 M_87.2.2.1 M_87.2.2.2 12 (oS 1 (s_ii (fun a b => a - b))) := ok_isub dX9_farthest_12
theorem k_87_13 : mOk M_87.1 M_87.2.1 M_87.2.2.1 M_87.2.2.2 13 (o_is 3 1) := ok_istore_n dX9_farthest_13 rfl
theorem k_87_14 : mOk M_87.1 M_87.2.1 M_87.2.2.1 M_87.2.2.2 14 (o_al 0 1) := ok_aload_n dX9_farthest_14 rfl
theorem k_87_15 : mOk M_87.1 M_87.2.1 M_87.2.2.1 M_87.2.2.2 15 (o_gP 6 1) := ok_gP dX9_farthest_15 f_RX9_81 rfl
theorem k_87_18 : mOk M_87.1 M_87.2.1 M_87.2.2.1 M_87.2.2.2 18 (o_il 2 1) := ok_iload_n dX9_farthest_18 rfl
theorem k_87_19 : mOk M_87.1 M_87.2.1 M_87.2.2.1 M_87.2.2.2 19 (o_iald) := ok_iald dX9_farthest_19
theorem k_87_20 : mOk M_87.1 M_87.2.1 M_87.2.2.1 M_87.2.2.2 20 (o_al 0 1) := ok_aload_n dX9_farthest_20 rfl
theorem k_87_21 : mOk M_87.1 M_87.2.1 M_87.2.2.1 M_87.2.2.2 21 (o_gP 6 1) := ok_gP dX9_farthest_21 f_RX9_81 rfl
theorem k_87_24 : mOk M_87.1 M_87.2.1 M_87.2.2.1 M_87.2.2.2 24 (o_il 1 1) := ok_iload_n dX9_farthest_24 rfl
theorem k_87_25 : mOk M_87.1 M_87.2.1 M_87.2.2.1 M_87.2.2.2 25 (o_iald) := ok_iald dX9_farthest_25
theorem k_87_26 : mOk M_87.1 M_87.2.1 M_87.2.2.1 M_87.2.2.2 26 (oS 1 (s_ii (fun a b => a - b))) := ok_isub dX9_farthest_26
theorem k_87_27 : mOk M_87.1 M_87.2.1 M_87.2.2.1 M_87.2.2.2 27 (o_is 4 2) := ok_istore dX9_farthest_27
theorem k_87_29 : mOk M_87.1 M_87.2.1 M_87.2.2.1 M_87.2.2.2 29 (o_il 3 1) := ok_iload_n dX9_farthest_29 rfl
theorem k_87_30 : mOk M_87.1 M_87.2.1 M_87.2.2.1 M_87.2.2.2 30 (o_zne 42) := ok_zne dX9_farthest_30 (by decide)
theorem k_87_33 : mOk M_87.1 M_87.2.1 M_87.2.2.1 M_87.2.2.2 33 (o_il 4 2) := ok_iload dX9_farthest_33
theorem k_87_35 : mOk M_87.1 M_87.2.1 M_87.2.2.1 M_87.2.2.2 35 (o_zne 42) := ok_zne dX9_farthest_35 (by decide)
theorem k_87_38 : mOk M_87.1 M_87.2.1 M_87.2.2.1 M_87.2.2.2 38 (oS 1 (s_push (.int 1))) := ok_iconst dX9_farthest_38 (by decide)
theorem k_87_39 : mOk M_87.1 M_87.2.1 M_87.2.2.1 M_87.2.2.2 39 (o_goto 43) := ok_goto dX9_farthest_39 (by decide)
theorem k_87_42 : mOk M_87.1 M_87.2.1 M_87.2.2.1 M_87.2.2.2 42 (oS 1 (s_push (.int 0))) := ok_iconst dX9_farthest_42 (by decide)
theorem k_87_43 : mOk M_87.1 M_87.2.1 M_87.2.2.1 M_87.2.2.2 43 (o_is 5 2) := ok_istore dX9_farthest_43
theorem k_87_45 : mOk M_87.1 M_87.2.1 M_87.2.2.1 M_87.2.2.2 45 (oS 1 (s_push (.int (-1)))) := ok_iconst dX9_farthest_45 (by decide)
theorem k_87_46 : mOk M_87.1 M_87.2.1 M_87.2.2.1 M_87.2.2.2 46 (o_is 6 2) := ok_istore dX9_farthest_46
theorem k_87_48 : mOk M_87.1 M_87.2.1 M_87.2.2.1 M_87.2.2.2 48 (oS 3 (s_push (.long (-1)))) := ok_ldc2 dX9_farthest_48 m_747
theorem k_87_51 : mOk M_87.1 M_87.2.1 M_87.2.2.1 M_87.2.2.2 51 (o_ls 7 2) := ok_lstore dX9_farthest_51
theorem k_87_53 : mOk M_87.1 M_87.2.1 M_87.2.2.1 M_87.2.2.2 53 (o_il 1 1) := ok_iload_n dX9_farthest_53 rfl
theorem k_87_54 : mOk M_87.1 M_87.2.1 M_87.2.2.1 M_87.2.2.2 54 (oS 1 (s_push (.int 1))) := ok_iconst dX9_farthest_54 (by decide)
theorem k_87_55 : mOk M_87.1 M_87.2.1 M_87.2.2.1 M_87.2.2.2 55 (oS 1 (s_ii (fun a b => a + b))) := ok_iadd dX9_farthest_55
theorem k_87_56 : mOk M_87.1 M_87.2.1 M_87.2.2.1 M_87.2.2.2 56 (o_is 9 2) := ok_istore dX9_farthest_56
theorem k_87_58 : mOk M_87.1 M_87.2.1 M_87.2.2.1 M_87.2.2.2 58 (o_il 9 2) := ok_iload dX9_farthest_58
theorem k_87_60 : mOk M_87.1 M_87.2.1 M_87.2.2.1 M_87.2.2.2 60 (o_il 2 1) := ok_iload_n dX9_farthest_60 rfl
theorem k_87_61 : mOk M_87.1 M_87.2.1 M_87.2.2.1 M_87.2.2.2 61 (o_cge 154) := ok_cge dX9_farthest_61 (by decide)
theorem k_87_64 : mOk M_87.1 M_87.2.1 M_87.2.2.1 M_87.2.2.2 64 (o_al 0 1) := ok_aload_n dX9_farthest_64 rfl
theorem k_87_65 : mOk M_87.1 M_87.2.1 M_87.2.2.1 M_87.2.2.2 65 (o_gP 6 0) := ok_gP dX9_farthest_65 f_RX9_80 rfl
theorem k_87_68 : mOk M_87.1 M_87.2.1 M_87.2.2.1 M_87.2.2.2 68 (o_il 9 2) := ok_iload dX9_farthest_68
theorem k_87_70 : mOk M_87.1 M_87.2.1 M_87.2.2.1 M_87.2.2.2 70 (o_iald) := ok_iald dX9_farthest_70
theorem k_87_71 : mOk M_87.1 M_87.2.1 M_87.2.2.1 M_87.2.2.2 71 (o_al 0 1) := ok_aload_n dX9_farthest_71 rfl
theorem k_87_72 : mOk M_87.1 M_87.2.1 M_87.2.2.1 M_87.2.2.2 72 (o_gP 6 0) := ok_gP dX9_farthest_72 f_RX9_80 rfl
theorem k_87_75 : mOk M_87.1 M_87.2.1 M_87.2.2.1 M_87.2.2.2 75 (o_il 1 1) := ok_iload_n dX9_farthest_75 rfl
theorem k_87_76 : mOk M_87.1 M_87.2.1 M_87.2.2.1 M_87.2.2.2 76 (o_iald) := ok_iald dX9_farthest_76
theorem k_87_77 : mOk M_87.1 M_87.2.1 M_87.2.2.1 M_87.2.2.2 77 (oS 1 (s_ii (fun a b => a - b))) := ok_isub dX9_farthest_77
theorem k_87_78 : mOk M_87.1 M_87.2.1 M_87.2.2.1 M_87.2.2.2 78 (o_is 10 2) := ok_istore dX9_farthest_78
theorem k_87_80 : mOk M_87.1 M_87.2.1 M_87.2.2.1 M_87.2.2.2 80 (o_al 0 1) := ok_aload_n dX9_farthest_80 rfl
theorem k_87_81 : mOk M_87.1 M_87.2.1 M_87.2.2.1 M_87.2.2.2 81 (o_gP 6 1) := ok_gP dX9_farthest_81 f_RX9_81 rfl
theorem k_87_84 : mOk M_87.1 M_87.2.1 M_87.2.2.1 M_87.2.2.2 84 (o_il 9 2) := ok_iload dX9_farthest_84
theorem k_87_86 : mOk M_87.1 M_87.2.1 M_87.2.2.1 M_87.2.2.2 86 (o_iald) := ok_iald dX9_farthest_86
theorem k_87_87 : mOk M_87.1 M_87.2.1 M_87.2.2.1 M_87.2.2.2 87 (o_al 0 1) := ok_aload_n dX9_farthest_87 rfl
theorem k_87_88 : mOk M_87.1 M_87.2.1 M_87.2.2.1 M_87.2.2.2 88 (o_gP 6 1) := ok_gP dX9_farthest_88 f_RX9_81 rfl
theorem k_87_91 : mOk M_87.1 M_87.2.1 M_87.2.2.1 M_87.2.2.2 91 (o_il 1 1) := ok_iload_n dX9_farthest_91 rfl
theorem k_87_92 : mOk M_87.1 M_87.2.1 M_87.2.2.1 M_87.2.2.2 92 (o_iald) := ok_iald dX9_farthest_92
theorem k_87_93 : mOk M_87.1 M_87.2.1 M_87.2.2.1 M_87.2.2.2 93 (oS 1 (s_ii (fun a b => a - b))) := ok_isub dX9_farthest_93
theorem k_87_94 : mOk M_87.1 M_87.2.1 M_87.2.2.1 M_87.2.2.2 94 (o_is 11 2) := ok_istore dX9_farthest_94
theorem k_87_96 : mOk M_87.1 M_87.2.1 M_87.2.2.1 M_87.2.2.2 96 (o_il 5 2) := ok_iload dX9_farthest_96
theorem k_87_98 : mOk M_87.1 M_87.2.1 M_87.2.2.1 M_87.2.2.2 98 (o_zeq 115) := ok_zeq dX9_farthest_98 (by decide)
theorem k_87_101 : mOk M_87.1 M_87.2.1 M_87.2.2.1 M_87.2.2.2 101 (o_il 10 2) := ok_iload dX9_farthest_101
theorem k_87_103 : mOk M_87.1 M_87.2.1 M_87.2.2.1 M_87.2.2.2 103 (o_il 10 2) := ok_iload dX9_farthest_103
theorem k_87_105 : mOk M_87.1 M_87.2.1 M_87.2.2.1 M_87.2.2.2 105 (oS 1 (s_ii (fun a b => a * b))) := ok_imul dX9_farthest_105
theorem k_87_106 : mOk M_87.1 M_87.2.1 M_87.2.2.1 M_87.2.2.2 106 (o_il 11 2) := ok_iload dX9_farthest_106
theorem k_87_108 : mOk M_87.1 M_87.2.1 M_87.2.2.1 M_87.2.2.2 108 (o_il 11 2) := ok_iload dX9_farthest_108
theorem k_87_110 : mOk M_87.1 M_87.2.1 M_87.2.2.1 M_87.2.2.2 110 (oS 1 (s_ii (fun a b => a * b))) := ok_imul dX9_farthest_110
theorem k_87_111 : mOk M_87.1 M_87.2.1 M_87.2.2.1 M_87.2.2.2 111 (oS 1 (s_ii (fun a b => a + b))) := ok_iadd dX9_farthest_111
theorem k_87_112 : mOk M_87.1 M_87.2.1 M_87.2.2.1 M_87.2.2.2 112 (o_goto 128) := ok_goto dX9_farthest_112 (by decide)
theorem k_87_115 : mOk M_87.1 M_87.2.1 M_87.2.2.1 M_87.2.2.2 115 (o_il 3 1) := ok_iload_n dX9_farthest_115 rfl
theorem k_87_116 : mOk M_87.1 M_87.2.1 M_87.2.2.1 M_87.2.2.2 116 (o_il 11 2) := ok_iload dX9_farthest_116
theorem k_87_118 : mOk M_87.1 M_87.2.1 M_87.2.2.1 M_87.2.2.2 118 (oS 1 (s_ii (fun a b => a * b))) := ok_imul dX9_farthest_118
theorem k_87_119 : mOk M_87.1 M_87.2.1 M_87.2.2.1 M_87.2.2.2 119 (o_il 4 2) := ok_iload dX9_farthest_119
theorem k_87_121 : mOk M_87.1 M_87.2.1 M_87.2.2.1 M_87.2.2.2 121 (o_il 10 2) := ok_iload dX9_farthest_121
theorem k_87_123 : mOk M_87.1 M_87.2.1 M_87.2.2.1 M_87.2.2.2 123 (oS 1 (s_ii (fun a b => a * b))) := ok_imul dX9_farthest_123
theorem k_87_124 : mOk M_87.1 M_87.2.1 M_87.2.2.1 M_87.2.2.2 124 (oS 1 (s_ii (fun a b => a - b))) := ok_isub dX9_farthest_124
theorem k_87_128 : mOk M_87.1 M_87.2.1 M_87.2.2.1 M_87.2.2.2 128 (o_is 12 2) := ok_istore dX9_farthest_128
theorem k_87_130 : mOk M_87.1 M_87.2.1 M_87.2.2.1 M_87.2.2.2 130 (o_il 12 2) := ok_iload dX9_farthest_130
theorem k_87_132 : mOk M_87.1 M_87.2.1 M_87.2.2.1 M_87.2.2.2 132 (oS 1 s_i2l) := ok_i2l dX9_farthest_132
theorem k_87_133 : mOk M_87.1 M_87.2.1 M_87.2.2.1 M_87.2.2.2 133 (o_ll 7 2) := ok_lload dX9_farthest_133
theorem k_87_135 : mOk M_87.1 M_87.2.1 M_87.2.2.1 M_87.2.2.2 135 (oS 1 s_lcmp) := ok_lcmp dX9_farthest_135
theorem k_87_136 : mOk M_87.1 M_87.2.1 M_87.2.2.1 M_87.2.2.2 136 (o_zle 148) := ok_zle dX9_farthest_136 (by decide)
theorem k_87_139 : mOk M_87.1 M_87.2.1 M_87.2.2.1 M_87.2.2.2 139 (o_il 12 2) := ok_iload dX9_farthest_139
theorem k_87_141 : mOk M_87.1 M_87.2.1 M_87.2.2.1 M_87.2.2.2 141 (oS 1 s_i2l) := ok_i2l dX9_farthest_141
theorem k_87_142 : mOk M_87.1 M_87.2.1 M_87.2.2.1 M_87.2.2.2 142 (o_ls 7 2) := ok_lstore dX9_farthest_142
theorem k_87_144 : mOk M_87.1 M_87.2.1 M_87.2.2.1 M_87.2.2.2 144 (o_il 9 2) := ok_iload dX9_farthest_144
theorem k_87_146 : mOk M_87.1 M_87.2.1 M_87.2.2.1 M_87.2.2.2 146 (o_is 6 2) := ok_istore dX9_farthest_146
theorem k_87_148 : mOk M_87.1 M_87.2.1 M_87.2.2.1 M_87.2.2.2 148 (o_inc 9 1) := ok_iinc dX9_farthest_148 (by decide)
theorem k_87_151 : mOk M_87.1 M_87.2.1 M_87.2.2.1 M_87.2.2.2 151 (o_goto 58) := ok_goto dX9_farthest_151 (by decide)
theorem k_87_154 : mOk M_87.1 M_87.2.1 M_87.2.2.1 M_87.2.2.2 154 (o_il 5 2) := ok_iload dX9_farthest_154
theorem k_87_156 : mOk M_87.1 M_87.2.1 M_87.2.2.1 M_87.2.2.2 156 (o_zeq 176) := ok_zeq dX9_farthest_156 (by decide)
theorem k_87_159 : mOk M_87.1 M_87.2.1 M_87.2.2.1 M_87.2.2.2 159 (o_ll 7 2) := ok_lload dX9_farthest_159
theorem k_87_161 : mOk M_87.1 M_87.2.1 M_87.2.2.1 M_87.2.2.2 161 (oS 3 (s_push (.long 4))) := ok_ldc2 dX9_farthest_161 m_751
theorem k_87_164 : mOk M_87.1 M_87.2.1 M_87.2.2.1 M_87.2.2.2 164 (oS 1 s_lcmp) := ok_lcmp dX9_farthest_164
theorem k_87_165 : mOk M_87.1 M_87.2.1 M_87.2.2.1 M_87.2.2.2 165 (o_zlt 172) := ok_zlt dX9_farthest_165 (by decide)
theorem k_87_168 : mOk M_87.1 M_87.2.1 M_87.2.2.1 M_87.2.2.2 168 (oS 1 (s_push (.int 1))) := ok_iconst dX9_farthest_168 (by decide)
theorem k_87_169 : mOk M_87.1 M_87.2.1 M_87.2.2.1 M_87.2.2.2 169 (o_goto 204) := ok_goto dX9_farthest_169 (by decide)
theorem k_87_172 : mOk M_87.1 M_87.2.1 M_87.2.2.1 M_87.2.2.2 172 (oS 1 (s_push (.int 0))) := ok_iconst dX9_farthest_172 (by decide)
theorem k_87_173 : mOk M_87.1 M_87.2.1 M_87.2.2.1 M_87.2.2.2 173 (o_goto 204) := ok_goto dX9_farthest_173 (by decide)
theorem k_87_176 : mOk M_87.1 M_87.2.1 M_87.2.2.1 M_87.2.2.2 176 (o_ll 7 2) := ok_lload dX9_farthest_176
theorem k_87_178 : mOk M_87.1 M_87.2.1 M_87.2.2.1 M_87.2.2.2 178 (o_ll 7 2) := ok_lload dX9_farthest_178
theorem k_87_180 : mOk M_87.1 M_87.2.1 M_87.2.2.1 M_87.2.2.2 180 (oS 1 (s_ll (fun a b => a * b))) := ok_lmul dX9_farthest_180
theorem k_87_181 : mOk M_87.1 M_87.2.1 M_87.2.2.1 M_87.2.2.2 181 (oS 3 (s_push (.long 4))) := ok_ldc2 dX9_farthest_181 m_751
theorem k_87_184 : mOk M_87.1 M_87.2.1 M_87.2.2.1 M_87.2.2.2 184 (o_il 3 1) := ok_iload_n dX9_farthest_184 rfl
theorem k_87_185 : mOk M_87.1 M_87.2.1 M_87.2.2.1 M_87.2.2.2 185 (o_il 3 1) := ok_iload_n dX9_farthest_185 rfl
theorem k_87_186 : mOk M_87.1 M_87.2.1 M_87.2.2.1 M_87.2.2.2 186 (oS 1 (s_ii (fun a b => a * b))) := ok_imul dX9_farthest_186
theorem k_87_187 : mOk M_87.1 M_87.2.1 M_87.2.2.1 M_87.2.2.2 187 (o_il 4 2) := ok_iload dX9_farthest_187
theorem k_87_189 : mOk M_87.1 M_87.2.1 M_87.2.2.1 M_87.2.2.2 189 (o_il 4 2) := ok_iload dX9_farthest_189
theorem k_87_191 : mOk M_87.1 M_87.2.1 M_87.2.2.1 M_87.2.2.2 191 (oS 1 (s_ii (fun a b => a * b))) := ok_imul dX9_farthest_191
theorem k_87_192 : mOk M_87.1 M_87.2.1 M_87.2.2.1 M_87.2.2.2 192 (oS 1 (s_ii (fun a b => a + b))) := ok_iadd dX9_farthest_192
theorem k_87_193 : mOk M_87.1 M_87.2.1 M_87.2.2.1 M_87.2.2.2 193 (oS 1 s_i2l) := ok_i2l dX9_farthest_193
theorem k_87_194 : mOk M_87.1 M_87.2.1 M_87.2.2.1 M_87.2.2.2 194 (oS 1 (s_ll (fun a b => a * b))) := ok_lmul dX9_farthest_194
theorem k_87_195 : mOk M_87.1 M_87.2.1 M_87.2.2.1 M_87.2.2.2 195 (oS 1 s_lcmp) := ok_lcmp dX9_farthest_195
theorem k_87_196 : mOk M_87.1 M_87.2.1 M_87.2.2.1 M_87.2.2.2 196 (o_zlt 203) := ok_zlt dX9_farthest_196 (by decide)
theorem k_87_199 : mOk M_87.1 M_87.2.1 M_87.2.2.1 M_87.2.2.2 199 (oS 1 (s_push (.int 1))) := ok_iconst dX9_farthest_199 (by decide)
theorem k_87_200 : mOk M_87.1 M_87.2.1 M_87.2.2.1 M_87.2.2.2 200 (o_goto 204) := ok_goto dX9_farthest_200 (by decide)
theorem k_87_203 : mOk M_87.1 M_87.2.1 M_87.2.2.1 M_87.2.2.2 203 (oS 1 (s_push (.int 0))) := ok_iconst dX9_farthest_203 (by decide)
theorem k_87_204 : mOk M_87.1 M_87.2.1 M_87.2.2.1 M_87.2.2.2 204 (o_is 9 2) := ok_istore dX9_farthest_204
theorem k_87_206 : mOk M_87.1 M_87.2.1 M_87.2.2.1 M_87.2.2.2 206 (o_il 9 2) := ok_iload dX9_farthest_206
theorem k_87_208 : mOk M_87.1 M_87.2.1 M_87.2.2.1 M_87.2.2.2 208 (o_zeq 216) := ok_zeq dX9_farthest_208 (by decide)
theorem k_87_211 : mOk M_87.1 M_87.2.1 M_87.2.2.1 M_87.2.2.2 211 (o_il 6 2) := ok_iload dX9_farthest_211
theorem k_87_213 : mOk M_87.1 M_87.2.1 M_87.2.2.1 M_87.2.2.2 213 (o_goto 217) := ok_goto dX9_farthest_213 (by decide)
theorem k_87_216 : mOk M_87.1 M_87.2.1 M_87.2.2.1 M_87.2.2.2 216 (oS 1 (s_push (.int (-1)))) := ok_iconst dX9_farthest_216 (by decide)
set_option maxRecDepth 20000 in
set_option maxHeartbeats 4000000 in
theorem tk_87 (l : Launch) (H9 : mThr l) (H10 : mSpl l) (pc : Nat) (q : mEnt) (h : tb_87 pc = some q) : EE l 87 pc q := nd h (fun h => nd h (fun h => nd h (fun h => nd h (fun h => nd h (fun h => nd h (fun h => lf (P := EE l 87) h k_87_0) (fun h => nd h (fun h => lf (P := EE l 87) h k_87_1) (fun h => lf (P := EE l 87) h k_87_4))) (fun h => nd h (fun h => nd h (fun h => lf (P := EE l 87) h k_87_5) (fun h => lf (P := EE l 87) h k_87_6)) (fun h => nd h (fun h => lf (P := EE l 87) h k_87_7) (fun h => lf (P := EE l 87) h k_87_10)))) (fun h => nd h (fun h => nd h (fun h => nd h (fun h => lf (P := EE l 87) h k_87_11) (fun h => lf (P := EE l 87) h k_87_12)) (fun h => nd h (fun h => lf (P := EE l 87) h k_87_13) (fun h => lf (P := EE l 87) h k_87_14))) (fun h => nd h (fun h => nd h (fun h => lf (P := EE l 87) h k_87_15) (fun h => lf (P := EE l 87) h k_87_18)) (fun h => nd h (fun h => lf (P := EE l 87) h k_87_19) (fun h => lf (P := EE l 87) h k_87_20))))) (fun h => nd h (fun h => nd h (fun h => nd h (fun h => nd h (fun h => lf (P := EE l 87) h k_87_21) (fun h => lf (P := EE l 87) h k_87_24)) (fun h => nd h (fun h => lf (P := EE l 87) h k_87_25) (fun h => lf (P := EE l 87) h k_87_26))) (fun h => nd h (fun h => nd h (fun h => lf (P := EE l 87) h k_87_27) (fun h => lf (P := EE l 87) h k_87_29)) (fun h => nd h (fun h => lf (P := EE l 87) h k_87_30) (fun h => lf (P := EE l 87) h k_87_33)))) (fun h => nd h (fun h => nd h (fun h => nd h (fun h => lf (P := EE l 87) h k_87_35) (fun h => lf (P := EE l 87) h k_87_38)) (fun h => nd h (fun h => lf (P := EE l 87) h k_87_39) (fun h => lf (P := EE l 87) h k_87_42))) (fun h => nd h (fun h => nd h (fun h => lf (P := EE l 87) h k_87_43) (fun h => lf (P := EE l 87) h k_87_45)) (fun h => nd h (fun h => lf (P := EE l 87) h k_87_46) (fun h => lf (P := EE l 87) h k_87_48)))))) (fun h => nd h (fun h => nd h (fun h => nd h (fun h => nd h (fun h => lf (P := EE l 87) h k_87_51) (fun h => nd h (fun h => lf (P := EE l 87) h k_87_53) (fun h => lf (P := EE l 87) h k_87_54))) (fun h => nd h (fun h => nd h (fun h => lf (P := EE l 87) h k_87_55) (fun h => lf (P := EE l 87) h k_87_56)) (fun h => nd h (fun h => lf (P := EE l 87) h k_87_58) (fun h => lf (P := EE l 87) h k_87_60)))) (fun h => nd h (fun h => nd h (fun h => nd h (fun h => lf (P := EE l 87) h k_87_61) (fun h => lf (P := EE l 87) h k_87_64)) (fun h => nd h (fun h => lf (P := EE l 87) h k_87_65) (fun h => lf (P := EE l 87) h k_87_68))) (fun h => nd h (fun h => nd h (fun h => lf (P := EE l 87) h k_87_70) (fun h => lf (P := EE l 87) h k_87_71)) (fun h => nd h (fun h => lf (P := EE l 87) h k_87_72) (fun h => lf (P := EE l 87) h k_87_75))))) (fun h => nd h (fun h => nd h (fun h => nd h (fun h => nd h (fun h => lf (P := EE l 87) h k_87_76) (fun h => lf (P := EE l 87) h k_87_77)) (fun h => nd h (fun h => lf (P := EE l 87) h k_87_78) (fun h => lf (P := EE l 87) h k_87_80))) (fun h => nd h (fun h => nd h (fun h => lf (P := EE l 87) h k_87_81) (fun h => lf (P := EE l 87) h k_87_84)) (fun h => nd h (fun h => lf (P := EE l 87) h k_87_86) (fun h => lf (P := EE l 87) h k_87_87)))) (fun h => nd h (fun h => nd h (fun h => nd h (fun h => lf (P := EE l 87) h k_87_88) (fun h => lf (P := EE l 87) h k_87_91)) (fun h => nd h (fun h => lf (P := EE l 87) h k_87_92) (fun h => lf (P := EE l 87) h k_87_93))) (fun h => nd h (fun h => nd h (fun h => lf (P := EE l 87) h k_87_94) (fun h => lf (P := EE l 87) h k_87_96)) (fun h => nd h (fun h => lf (P := EE l 87) h k_87_98) (fun h => lf (P := EE l 87) h k_87_101))))))) (fun h => nd h (fun h => nd h (fun h => nd h (fun h => nd h (fun h => nd h (fun h => lf (P := EE l 87) h k_87_103) (fun h => nd h (fun h => lf (P := EE l 87) h k_87_105) (fun h => lf (P := EE l 87) h k_87_106))) (fun h => nd h (fun h => nd h (fun h => lf (P := EE l 87) h k_87_108) (fun h => lf (P := EE l 87) h k_87_110)) (fun h => nd h (fun h => lf (P := EE l 87) h k_87_111) (fun h => lf (P := EE l 87) h k_87_112)))) (fun h => nd h (fun h => nd h (fun h => nd h (fun h => lf (P := EE l 87) h k_87_115) (fun h => lf (P := EE l 87) h k_87_116)) (fun h => nd h (fun h => lf (P := EE l 87) h k_87_118) (fun h => lf (P := EE l 87) h k_87_119))) (fun h => nd h (fun h => nd h (fun h => lf (P := EE l 87) h k_87_121) (fun h => lf (P := EE l 87) h k_87_123)) (fun h => nd h (fun h => lf (P := EE l 87) h k_87_124) (fun h => lf (P := EE l 87) h (EE_ca (by decide) (⟨m_750, m_82, ⟨by decide, by decide⟩, by decide +kernel, ⟨by decide, by decide⟩, 109, 1, by decide +kernel, Or.inl ⟨rfl, rfl, dX9_farthest_125, m_748, m_749⟩⟩) rfl)))))) (fun h => nd h (fun h => nd h (fun h => nd h (fun h => nd h (fun h => lf (P := EE l 87) h k_87_128) (fun h => lf (P := EE l 87) h k_87_130)) (fun h => nd h (fun h => lf (P := EE l 87) h k_87_132) (fun h => lf (P := EE l 87) h k_87_133))) (fun h => nd h (fun h => nd h (fun h => lf (P := EE l 87) h k_87_135) (fun h => lf (P := EE l 87) h k_87_136)) (fun h => nd h (fun h => lf (P := EE l 87) h k_87_139) (fun h => lf (P := EE l 87) h k_87_141)))) (fun h => nd h (fun h => nd h (fun h => nd h (fun h => lf (P := EE l 87) h k_87_142) (fun h => lf (P := EE l 87) h k_87_144)) (fun h => nd h (fun h => lf (P := EE l 87) h k_87_146) (fun h => lf (P := EE l 87) h k_87_148))) (fun h => nd h (fun h => nd h (fun h => lf (P := EE l 87) h k_87_151) (fun h => lf (P := EE l 87) h k_87_154)) (fun h => nd h (fun h => lf (P := EE l 87) h k_87_156) (fun h => lf (P := EE l 87) h k_87_159)))))) (fun h => nd h (fun h => nd h (fun h => nd h (fun h => nd h (fun h => nd h (fun h => lf (P := EE l 87) h k_87_161) (fun h => lf (P := EE l 87) h k_87_164)) (fun h => nd h (fun h => lf (P := EE l 87) h k_87_165) (fun h => lf (P := EE l 87) h k_87_168))) (fun h => nd h (fun h => nd h (fun h => lf (P := EE l 87) h k_87_169) (fun h => lf (P := EE l 87) h k_87_172)) (fun h => nd h (fun h => lf (P := EE l 87) h k_87_173) (fun h => lf (P := EE l 87) h k_87_176)))) (fun h => nd h (fun h => nd h (fun h => nd h (fun h => lf (P := EE l 87) h k_87_178) (fun h => lf (P := EE l 87) h k_87_180)) (fun h => nd h (fun h => lf (P := EE l 87) h k_87_181) (fun h => lf (P := EE l 87) h k_87_184))) (fun h => nd h (fun h => nd h (fun h => lf (P := EE l 87) h k_87_185) (fun h => lf (P := EE l 87) h k_87_186)) (fun h => nd h (fun h => lf (P := EE l 87) h k_87_187) (fun h => lf (P := EE l 87) h k_87_189))))) (fun h => nd h (fun h => nd h (fun h => nd h (fun h => nd h (fun h => lf (P := EE l 87) h k_87_191) (fun h => lf (P := EE l 87) h k_87_192)) (fun h => nd h (fun h => lf (P := EE l 87) h k_87_193) (fun h => lf (P := EE l 87) h k_87_194))) (fun h => nd h (fun h => nd h (fun h => lf (P := EE l 87) h k_87_195) (fun h => lf (P := EE l 87) h k_87_196)) (fun h => nd h (fun h => lf (P := EE l 87) h k_87_199) (fun h => lf (P := EE l 87) h k_87_200)))) (fun h => nd h (fun h => nd h (fun h => nd h (fun h => lf (P := EE l 87) h k_87_203) (fun h => lf (P := EE l 87) h k_87_204)) (fun h => nd h (fun h => lf (P := EE l 87) h k_87_206) (fun h => lf (P := EE l 87) h k_87_208))) (fun h => nd h (fun h => nd h (fun h => lf (P := EE l 87) h k_87_211) (fun h => lf (P := EE l 87) h k_87_213)) (fun h => nd h (fun h => lf (P := EE l 87) h k_87_216) (fun h => lf (P := EE l 87) h (EE_re (Or.inl ⟨rfl, dX9_farthest_217, rfl⟩)))))))))
theorem dX9_make_0 : decode cX9_make 0 = .ok (.sipush 256, 3) := by decide +kernel
theorem dX9_make_3 : decode cX9_make 3 = .ok (.iload_n 1, 1) := by decide +kernel
theorem dX9_make_4 : decode cX9_make 4 = .ok (.imul, 1) := by decide +kernel
theorem dX9_make_5 : decode cX9_make 5 = .ok (.istore 4, 2) := by decide +kernel
theorem dX9_make_7 : decode cX9_make 7 = .ok (.sipush 256, 3) := by decide +kernel
theorem dX9_make_10 : decode cX9_make 10 = .ok (.iload_n 2, 1) := by decide +kernel
theorem dX9_make_11 : decode cX9_make 11 = .ok (.imul, 1) := by decide +kernel
theorem dX9_make_12 : decode cX9_make 12 = .ok (.istore 5, 2) := by decide +kernel
theorem dX9_make_14 : decode cX9_make 14 = .ok (.iconst 0, 1) := by decide +kernel
theorem dX9_make_15 : decode cX9_make 15 = .ok (.istore 6, 2) := by decide +kernel
theorem dX9_make_17 : decode cX9_make 17 = .ok (.aload_n 3, 1) := by decide +kernel
theorem dX9_make_18 : decode cX9_make 18 = .ok (.iconst 0, 1) := by decide +kernel
theorem dX9_make_19 : decode cX9_make 19 = .ok (.putfield 117, 3) := by decide +kernel
theorem dX9_make_22 : decode cX9_make 22 = .ok (.aload_n 0, 1) := by decide +kernel
theorem dX9_make_23 : decode cX9_make 23 = .ok (.getfield 38, 3) := by decide +kernel
theorem dX9_make_26 : decode cX9_make 26 = .ok (.ifnonnull 4, 3) := by decide +kernel
theorem dX9_make_29 : decode cX9_make 29 = .ok (.return_, 1) := by decide +kernel
theorem dX9_make_30 : decode cX9_make 30 = .ok (.iconst 0, 1) := by decide +kernel
theorem dX9_make_31 : decode cX9_make 31 = .ok (.istore 7, 2) := by decide +kernel
theorem dX9_make_33 : decode cX9_make 33 = .ok (.iload 7, 2) := by decide +kernel
theorem dX9_make_35 : decode cX9_make 35 = .ok (.aload_n 0, 1) := by decide +kernel
theorem dX9_make_36 : decode cX9_make 36 = .ok (.getfield 38, 3) := by decide +kernel
theorem dX9_make_39 : decode cX9_make 39 = .ok (.getfield 46, 3) := by decide +kernel
theorem dX9_make_42 : decode cX9_make 42 = .ok (.if_icmp .ge 107, 3) := by decide +kernel
theorem dX9_make_45 : decode cX9_make 45 = .ok (.aload_n 0, 1) := by decide +kernel
theorem dX9_make_46 : decode cX9_make 46 = .ok (.getfield 38, 3) := by decide +kernel
theorem dX9_make_49 : decode cX9_make 49 = .ok (.getfield 52, 3) := by decide +kernel
theorem dX9_make_52 : decode cX9_make 52 = .ok (.iload 7, 2) := by decide +kernel
theorem dX9_make_54 : decode cX9_make 54 = .ok (.aaload, 1) := by decide +kernel
theorem dX9_make_55 : decode cX9_make 55 = .ok (.astore 8, 2) := by decide +kernel
theorem dX9_make_57 : decode cX9_make 57 = .ok (.aload_n 0, 1) := by decide +kernel
theorem dX9_make_58 : decode cX9_make 58 = .ok (.getfield 11, 3) := by decide +kernel
theorem dX9_make_61 : decode cX9_make 61 = .ok (.iload 7, 2) := by decide +kernel
theorem dX9_make_63 : decode cX9_make 63 = .ok (.aaload, 1) := by decide +kernel
theorem dX9_make_64 : decode cX9_make 64 = .ok (.getfield 51, 3) := by decide +kernel
theorem dX9_make_67 : decode cX9_make 67 = .ok (.ifCond .le 76, 3) := by decide +kernel
theorem dX9_make_70 : decode cX9_make 70 = .ok (.aload_n 0, 1) := by decide +kernel
theorem dX9_make_71 : decode cX9_make 71 = .ok (.getfield 11, 3) := by decide +kernel
theorem dX9_make_74 : decode cX9_make 74 = .ok (.iload 7, 2) := by decide +kernel
theorem dX9_make_76 : decode cX9_make 76 = .ok (.aaload, 1) := by decide +kernel
theorem dX9_make_77 : decode cX9_make 77 = .ok (.iload 4, 2) := by decide +kernel
theorem dX9_make_79 : decode cX9_make 79 = .ok (.iload 5, 2) := by decide +kernel
theorem dX9_make_81 : decode cX9_make 81 = .ok (.invokevirtual 122, 3) := by decide +kernel
theorem dX9_make_84 : decode cX9_make 84 = .ok (.ifCond .ne 59, 3) := by decide +kernel
theorem dX9_make_87 : decode cX9_make 87 = .ok (.aload_n 0, 1) := by decide +kernel
theorem dX9_make_88 : decode cX9_make 88 = .ok (.aload_n 0, 1) := by decide +kernel
theorem dX9_make_89 : decode cX9_make 89 = .ok (.getfield 11, 3) := by decide +kernel
theorem dX9_make_92 : decode cX9_make 92 = .ok (.iload 7, 2) := by decide +kernel
theorem dX9_make_94 : decode cX9_make 94 = .ok (.aaload, 1) := by decide +kernel
theorem dX9_make_95 : decode cX9_make 95 = .ok (.aload 8, 2) := by decide +kernel
theorem dX9_make_97 : decode cX9_make 97 = .ok (.getfield 77, 3) := by decide +kernel
theorem dX9_make_100 : decode cX9_make 100 = .ok (.iload 4, 2) := by decide +kernel
theorem dX9_make_102 : decode cX9_make 102 = .ok (.iload 5, 2) := by decide +kernel
theorem dX9_make_104 : decode cX9_make 104 = .ok (.invokevirtual 126, 3) := by decide +kernel
theorem dX9_make_107 : decode cX9_make 107 = .ok (.aload_n 0, 1) := by decide +kernel
theorem dX9_make_108 : decode cX9_make 108 = .ok (.getfield 28, 3) := by decide +kernel
theorem dX9_make_111 : decode cX9_make 111 = .ok (.getfield 51, 3) := by decide +kernel
theorem dX9_make_114 : decode cX9_make 114 = .ok (.ifCond .le 29, 3) := by decide +kernel
theorem dX9_make_117 : decode cX9_make 117 = .ok (.aload_n 0, 1) := by decide +kernel
theorem dX9_make_118 : decode cX9_make 118 = .ok (.aload 8, 2) := by decide +kernel
theorem dX9_make_120 : decode cX9_make 120 = .ok (.aload 8, 2) := by decide +kernel
theorem dX9_make_122 : decode cX9_make 122 = .ok (.getfield 130, 3) := by decide +kernel
theorem dX9_make_125 : decode cX9_make 125 = .ok (.iload 6, 2) := by decide +kernel
theorem dX9_make_127 : decode cX9_make 127 = .ok (.isub, 1) := by decide +kernel
theorem dX9_make_128 : decode cX9_make 128 = .ok (.iload 4, 2) := by decide +kernel
theorem dX9_make_130 : decode cX9_make 130 = .ok (.iload 5, 2) := by decide +kernel
theorem dX9_make_132 : decode cX9_make 132 = .ok (.aload_n 3, 1) := by decide +kernel
theorem dX9_make_133 : decode cX9_make 133 = .ok (.invokevirtual 133, 3) := by decide +kernel
theorem dX9_make_136 : decode cX9_make 136 = .ok (.aload 8, 2) := by decide +kernel
theorem dX9_make_138 : decode cX9_make 138 = .ok (.getfield 130, 3) := by decide +kernel
theorem dX9_make_141 : decode cX9_make 141 = .ok (.istore 6, 2) := by decide +kernel
theorem dX9_make_143 : decode cX9_make 143 = .ok (.iinc 7 1, 3) := by decide +kernel
theorem dX9_make_146 : decode cX9_make 146 = .ok (.goto (-113), 3) := by decide +kernel
theorem dX9_make_149 : decode cX9_make 149 = .ok (.return_, 1) := by decide +kernel
def tb_88 (pc : Nat) : Option mEnt := bif Nat.ble pc 70 then (bif Nat.ble pc 30 then (bif Nat.ble pc 14 then (bif Nat.ble pc 5 then (bif Nat.ble pc 3 then (bif Nat.ble pc 0 then (bif Nat.beq pc 0 then some (.inl (oS 3 (s_push (.int 256)))) else none) else (bif Nat.beq pc 3 then some (.inl (o_il 1 1)) else none)) else (bif Nat.ble pc 4 then (bif Nat.beq pc 4 then some (.inl (oS 1 (s_ii (fun a b => a * b)))) else none) else (bif Nat.beq pc 5 then some (.inl (o_is 4 2)) else none))) else (bif Nat.ble pc 10 then (bif Nat.ble pc 7 then (bif Nat.beq pc 7 then some (.inl (oS 3 (s_push (.int 256)))) else none) else (bif Nat.beq pc 10 then some (.inl (o_il 2 1)) else none)) else (bif Nat.ble pc 11 then (bif Nat.beq pc 11 then some (.inl (oS 1 (s_ii (fun a b => a * b)))) else none) else (bif Nat.ble pc 12 then (bif Nat.beq pc 12 then some (.inl (o_is 5 2)) else none) else (bif Nat.beq pc 14 then some (.inl (oS 1 (s_push (.int 0)))) else none))))) else (bif Nat.ble pc 19 then (bif Nat.ble pc 17 then (bif Nat.ble pc 15 then (bif Nat.beq pc 15 then some (.inl (o_is 6 2)) else none) else (bif Nat.beq pc 17 then some (.inl (o_al 3 1)) else none)) else (bif Nat.ble pc 18 then (bif Nat.beq pc 18 then some (.inl (oS 1 (s_push (.int 0)))) else none) else (bif Nat.beq pc 19 then some (.inl (o_pI 3 1)) else none))) else (bif Nat.ble pc 23 then (bif Nat.ble pc 22 then (bif Nat.beq pc 22 then some (.inl (o_al 0 1)) else none) else (bif Nat.beq pc 23 then some (.inl (o_gP 9 0)) else none)) else (bif Nat.ble pc 26 then (bif Nat.beq pc 26 then some (.inl (o_nnull 30)) else none) else (bif Nat.ble pc 29 then (bif Nat.beq pc 29 then some (.inr (0, 0, 0, 3)) else none) else (bif Nat.beq pc 30 then some (.inl (oS 1 (s_push (.int 0)))) else none)))))) else (bif Nat.ble pc 49 then (bif Nat.ble pc 36 then (bif Nat.ble pc 33 then (bif Nat.ble pc 31 then (bif Nat.beq pc 31 then some (.inl (o_is 7 2)) else none) else (bif Nat.beq pc 33 then some (.inl (o_il 7 2)) else none)) else (bif Nat.ble pc 35 then (bif Nat.beq pc 35 then some (.inl (o_al 0 1)) else none) else (bif Nat.beq pc 36 then some (.inl (o_gP 9 0)) else none))) else (bif Nat.ble pc 42 then (bif Nat.ble pc 39 then (bif Nat.beq pc 39 then some (.inl (o_gI 1 1)) else none) else (bif Nat.beq pc 42 then some (.inl (o_cge 149)) else none)) else (bif Nat.ble pc 45 then (bif Nat.beq pc 45 then some (.inl (o_al 0 1)) else none) else (bif Nat.ble pc 46 then (bif Nat.beq pc 46 then some (.inl (o_gP 9 0)) else none) else (bif Nat.beq pc 49 then some (.inl (o_gP 1 0)) else none))))) else (bif Nat.ble pc 58 then (bif Nat.ble pc 54 then (bif Nat.ble pc 52 then (bif Nat.beq pc 52 then some (.inl (o_il 7 2)) else none) else (bif Nat.beq pc 54 then some (.inl (o_aald)) else none)) else (bif Nat.ble pc 55 then (bif Nat.beq pc 55 then some (.inl (o_as 8 2)) else none) else (bif Nat.ble pc 57 then (bif Nat.beq pc 57 then some (.inl (o_al 0 1)) else none) else (bif Nat.beq pc 58 then some (.inl (o_gP 9 2)) else none)))) else (bif Nat.ble pc 63 then (bif Nat.ble pc 61 then (bif Nat.beq pc 61 then some (.inl (o_il 7 2)) else none) else (bif Nat.beq pc 63 then some (.inl (o_aald)) else none)) else (bif Nat.ble pc 64 then (bif Nat.beq pc 64 then some (.inl (o_gI 6 3)) else none) else (bif Nat.ble pc 67 then (bif Nat.beq pc 67 then some (.inl (o_zle 143)) else none) else (bif Nat.beq pc 70 then some (.inl (o_al 0 1)) else none))))))) else (bif Nat.ble pc 107 then (bif Nat.ble pc 88 then (bif Nat.ble pc 77 then (bif Nat.ble pc 74 then (bif Nat.ble pc 71 then (bif Nat.beq pc 71 then some (.inl (o_gP 9 2)) else none) else (bif Nat.beq pc 74 then some (.inl (o_il 7 2)) else none)) else (bif Nat.ble pc 76 then (bif Nat.beq pc 76 then some (.inl (o_aald)) else none) else (bif Nat.beq pc 77 then some (.inl (o_il 4 2)) else none))) else (bif Nat.ble pc 81 then (bif Nat.ble pc 79 then (bif Nat.beq pc 79 then some (.inl (o_il 5 2)) else none) else (bif Nat.beq pc 81 then some (.inr (3, 66, 3, 6)) else none)) else (bif Nat.ble pc 84 then (bif Nat.beq pc 84 then some (.inl (o_zne 143)) else none) else (bif Nat.ble pc 87 then (bif Nat.beq pc 87 then some (.inl (o_al 0 1)) else none) else (bif Nat.beq pc 88 then some (.inl (o_al 0 1)) else none))))) else (bif Nat.ble pc 95 then (bif Nat.ble pc 92 then (bif Nat.ble pc 89 then (bif Nat.beq pc 89 then some (.inl (o_gP 9 2)) else none) else (bif Nat.beq pc 92 then some (.inl (o_il 7 2)) else none)) else (bif Nat.ble pc 94 then (bif Nat.beq pc 94 then some (.inl (o_aald)) else none) else (bif Nat.beq pc 95 then some (.inl (o_al 8 2)) else none))) else (bif Nat.ble pc 100 then (bif Nat.ble pc 97 then (bif Nat.beq pc 97 then some (.inl (o_gI 2 1)) else none) else (bif Nat.beq pc 100 then some (.inl (o_il 4 2)) else none)) else (bif Nat.ble pc 102 then (bif Nat.beq pc 102 then some (.inl (o_il 5 2)) else none) else (bif Nat.ble pc 104 then (bif Nat.beq pc 104 then some (.inr (3, 89, 5, 9)) else none) else (bif Nat.beq pc 107 then some (.inl (o_al 0 1)) else none)))))) else (bif Nat.ble pc 127 then (bif Nat.ble pc 117 then (bif Nat.ble pc 111 then (bif Nat.ble pc 108 then (bif Nat.beq pc 108 then some (.inl (o_gP 9 5)) else none) else (bif Nat.beq pc 111 then some (.inl (o_gI 6 3)) else none)) else (bif Nat.ble pc 114 then (bif Nat.beq pc 114 then some (.inl (o_zle 143)) else none) else (bif Nat.beq pc 117 then some (.inl (o_al 0 1)) else none))) else (bif Nat.ble pc 120 then (bif Nat.ble pc 118 then (bif Nat.beq pc 118 then some (.inl (o_al 8 2)) else none) else (bif Nat.beq pc 120 then some (.inl (o_al 8 2)) else none)) else (bif Nat.ble pc 122 then (bif Nat.beq pc 122 then some (.inl (o_gI 2 0)) else none) else (bif Nat.ble pc 125 then (bif Nat.beq pc 125 then some (.inl (o_il 6 2)) else none) else (bif Nat.beq pc 127 then some (.inl (oS 1 (s_ii (fun a b => a - b)))) else none))))) else (bif Nat.ble pc 136 then (bif Nat.ble pc 130 then (bif Nat.ble pc 128 then (bif Nat.beq pc 128 then some (.inl (o_il 4 2)) else none) else (bif Nat.beq pc 130 then some (.inl (o_il 5 2)) else none)) else (bif Nat.ble pc 132 then (bif Nat.beq pc 132 then some (.inl (o_al 3 1)) else none) else (bif Nat.ble pc 133 then (bif Nat.beq pc 133 then some (.inr (3, 90, 6, 9)) else none) else (bif Nat.beq pc 136 then some (.inl (o_al 8 2)) else none)))) else (bif Nat.ble pc 141 then (bif Nat.ble pc 138 then (bif Nat.beq pc 138 then some (.inl (o_gI 2 0)) else none) else (bif Nat.beq pc 141 then some (.inl (o_is 6 2)) else none)) else (bif Nat.ble pc 143 then (bif Nat.beq pc 143 then some (.inl (o_inc 7 1)) else none) else (bif Nat.ble pc 146 then (bif Nat.beq pc 146 then some (.inl (o_goto 33)) else none) else (bif Nat.beq pc 149 then some (.inr (0, 0, 0, 3)) else none)))))))
theorem k_88_0 : mOk M_88.1 M_88.2.1 M_88.2.2.1 M_88.2.2.2 0 (oS 3 (s_push (.int 256))) := ok_sipush dX9_make_0 (by decide)
theorem k_88_3 : mOk M_88.1 M_88.2.1 M_88.2.2.1 M_88.2.2.2 3 (o_il 1 1) := ok_iload_n dX9_make_3 rfl
theorem k_88_4 : mOk M_88.1 M_88.2.1 M_88.2.2.1 M_88.2.2.2 4 (oS 1 (s_ii (fun a b => a * b))) := ok_imul dX9_make_4
theorem k_88_5 : mOk M_88.1 M_88.2.1 M_88.2.2.1 M_88.2.2.2 5 (o_is 4 2) := ok_istore dX9_make_5
theorem k_88_7 : mOk M_88.1 M_88.2.1 M_88.2.2.1 M_88.2.2.2 7 (oS 3 (s_push (.int 256))) := ok_sipush dX9_make_7 (by decide)
theorem k_88_10 : mOk M_88.1 M_88.2.1 M_88.2.2.1 M_88.2.2.2 10 (o_il 2 1) := ok_iload_n dX9_make_10 rfl
theorem k_88_11 : mOk M_88.1 M_88.2.1 M_88.2.2.1 M_88.2.2.2 11 (oS 1 (s_ii (fun a b => a * b))) := ok_imul dX9_make_11
theorem k_88_12 : mOk M_88.1 M_88.2.1 M_88.2.2.1 M_88.2.2.2 12 (o_is 5 2) := ok_istore dX9_make_12
theorem k_88_14 : mOk M_88.1 M_88.2.1 M_88.2.2.1 M_88.2.2.2 14 (oS 1 (s_push (.int 0))) := ok_iconst dX9_make_14 (by decide)
theorem k_88_15 : mOk M_88.1 M_88.2.1 M_88.2.2.1 M_88.2.2.2 15 (o_is 6 2) := ok_istore dX9_make_15
theorem k_88_17 : mOk M_88.1 M_88.2.1 M_88.2.2.1 M_88.2.2.2 17 (o_al 3 1) := ok_aload_n dX9_make_17 rfl
theorem k_88_18 : mOk M_88.1 M_88.2.1 M_88.2.2.1 M_88.2.2.2 18 (oS 1 (s_push (.int 0))) := ok_iconst dX9_make_18 (by decide)
theorem k_88_19 : mOk M_88.1 M_88.2.1 M_88.2.2.1 M_88.2.2.2 19 (o_pI 3 1) := ok_pI dX9_make_19 (mFw_of f_RX9_117_c (Or.inl rfl)) rfl
theorem k_88_22 : mOk M_88.1 M_88.2.1 M_88.2.2.1 M_88.2.2.2 22 (o_al 0 1) := ok_aload_n dX9_make_22 rfl
theorem k_88_23 : mOk M_88.1 M_88.2.1 M_88.2.2.1 M_88.2.2.2 23 (o_gP 9 0) := ok_gP dX9_make_23 f_RX9_38 rfl
theorem k_88_26 : mOk M_88.1 M_88.2.1 M_88.2.2.1 M_88.2.2.2 26 (o_nnull 30) := ok_ifnonnull dX9_make_26 (by decide)
theorem k_88_30 : mOk M_88.1 M_88.2.1 M_88.2.2.1 M_88.2.2.2 30 (oS 1 (s_push (.int 0))) := ok_iconst dX9_make_30 (by decide)
theorem k_88_31 : mOk M_88.1 M_88.2.1 M_88.2.2.1 M_88.2.2.2 31 (o_is 7 2) := ok_istore dX9_make_31
theorem k_88_33 : mOk M_88.1 M_88.2.1 M_88.2.2.1 M_88.2.2.2 33 (o_il 7 2) := ok_iload dX9_make_33
theorem k_88_35 : mOk M_88.1 M_88.2.1 M_88.2.2.1 M_88.2.2.2 35 (o_al 0 1) := ok_aload_n dX9_make_35 rfl
theorem k_88_36 : mOk M_88.1 M_88.2.1 M_88.2.2.1 M_88.2.2.2 36 (o_gP 9 0) := ok_gP dX9_make_36 f_RX9_38 rfl
theorem k_88_39 : mOk M_88.1 M_88.2.1 M_88.2.2.1 M_88.2.2.2 39 (o_gI 1 1) := ok_gI dX9_make_39 f_RX9_46 (Or.inl rfl)
theorem k_88_42 : mOk M_88.1 M_88.2.1 M_88.2.2.1 M_88.2.2.2 42 (o_cge 149) := ok_cge dX9_make_42 (by decide)
theorem k_88_45 : mOk M_88.1 M_88.2.1 M_88.2.2.1 M_88.2.2.2 45 (o_al 0 1) := ok_aload_n dX9_make_45 rfl
theorem k_88_46 : mOk M_88.1 M_88.2.1 M_88.2.2.1 M_88.2.2.2 46 (o_gP 9 0) := ok_gP dX9_make_46 f_RX9_38 rfl
theorem k_88_49 : mOk M_88.1 M_88.2.1 M_88.2.2.1 M_88.2.2.2 49 (o_gP 1 0) := ok_gP dX9_make_49 f_RX9_52 rfl
theorem k_88_52 : mOk M_88.1 M_88.2.1 M_88.2.2.1 M_88.2.2.2 52 (o_il 7 2) := ok_iload dX9_make_52
theorem k_88_54 : mOk M_88.1 M_88.2.1 M_88.2.2.1 M_88.2.2.2 54 (o_aald) := ok_aald dX9_make_54
theorem k_88_55 : mOk M_88.1 M_88.2.1 M_88.2.2.1 M_88.2.2.2 55 (o_as 8 2) := ok_astore dX9_make_55
theorem k_88_57 : mOk M_88.1 M_88.2.1 M_88.2.2.1 M_88.2.2.2 57 (o_al 0 1) := ok_aload_n dX9_make_57 rfl
theorem k_88_58 : mOk M_88.1 M_88.2.1 M_88.2.2.1 M_88.2.2.2 58 (o_gP 9 2) := ok_gP dX9_make_58 f_RX9_11 rfl
theorem k_88_61 : mOk M_88.1 M_88.2.1 M_88.2.2.1 M_88.2.2.2 61 (o_il 7 2) := ok_iload dX9_make_61
theorem k_88_63 : mOk M_88.1 M_88.2.1 M_88.2.2.1 M_88.2.2.2 63 (o_aald) := ok_aald dX9_make_63
theorem k_88_64 : mOk M_88.1 M_88.2.1 M_88.2.2.1 M_88.2.2.2 64 (o_gI 6 3) := ok_gI dX9_make_64 f_RX9_51 (Or.inl rfl)
theorem k_88_67 : mOk M_88.1 M_88.2.1 M_88.2.2.1 M_88.2.2.2 67 (o_zle 143) := ok_zle dX9_make_67 (by decide)
theorem k_88_70 : mOk M_88.1 M_88.2.1 M_88.2.2.1 M_88.2.2.2 70 (o_al 0 1) := ok_aload_n dX9_make_70 rfl
theorem k_88_71 : mOk M_88.1 M_88.2.1 M_88.2.2.1 M_88.2.2.2 71 (o_gP 9 2) := ok_gP dX9_make_71 f_RX9_11 rfl
theorem k_88_74 : mOk M_88.1 M_88.2.1 M_88.2.2.1 M_88.2.2.2 74 (o_il 7 2) := ok_iload dX9_make_74
theorem k_88_76 : mOk M_88.1 M_88.2.1 M_88.2.2.1 M_88.2.2.2 76 (o_aald) := ok_aald dX9_make_76
theorem k_88_77 : mOk M_88.1 M_88.2.1 M_88.2.2.1 M_88.2.2.2 77 (o_il 4 2) := ok_iload dX9_make_77
theorem k_88_79 : mOk M_88.1 M_88.2.1 M_88.2.2.1 M_88.2.2.2 79 (o_il 5 2) := ok_iload dX9_make_79
theorem k_88_84 : mOk M_88.1 M_88.2.1 M_88.2.2.1 M_88.2.2.2 84 (o_zne 143) := ok_zne dX9_make_84 (by decide)
theorem k_88_87 : mOk M_88.1 M_88.2.1 M_88.2.2.1 M_88.2.2.2 87 (o_al 0 1) := ok_aload_n dX9_make_87 rfl
theorem k_88_88 : mOk M_88.1 M_88.2.1 M_88.2.2.1 M_88.2.2.2 88 (o_al 0 1) := ok_aload_n dX9_make_88 rfl
theorem k_88_89 : mOk M_88.1 M_88.2.1 M_88.2.2.1 M_88.2.2.2 89 (o_gP 9 2) := ok_gP dX9_make_89 f_RX9_11 rfl
theorem k_88_92 : mOk M_88.1 M_88.2.1 M_88.2.2.1 M_88.2.2.2 92 (o_il 7 2) := ok_iload dX9_make_92
theorem k_88_94 : mOk M_88.1 M_88.2.1 M_88.2.2.1 M_88.2.2.2 94 (o_aald) := ok_aald dX9_make_94
theorem k_88_95 : mOk M_88.1 M_88.2.1 M_88.2.2.1 M_88.2.2.2 95 (o_al 8 2) := ok_aload dX9_make_95
theorem k_88_97 : mOk M_88.1 M_88.2.1 M_88.2.2.1 M_88.2.2.2 97 (o_gI 2 1) := ok_gI dX9_make_97 f_RX9_77 (Or.inl rfl)
theorem k_88_100 : mOk M_88.1 M_88.2.1 M_88.2.2.1 M_88.2.2.2 100 (o_il 4 2) := ok_iload dX9_make_100
theorem k_88_102 : mOk M_88.1 M_88.2.1 M_88.2.2.1 M_88.2.2.2 102 (o_il 5 2) := ok_iload dX9_make_102
theorem k_88_107 : mOk M_88.1 M_88.2.1 M_88.2.2.1 M_88.2.2.2 107 (o_al 0 1) := ok_aload_n dX9_make_107 rfl
theorem k_88_108 : mOk M_88.1 M_88.2.1 M_88.2.2.1 M_88.2.2.2 108 (o_gP 9 5) := ok_gP dX9_make_108 f_RX9_28 rfl
theorem k_88_111 : mOk M_88.1 M_88.2.1 M_88.2.2.1 M_88.2.2.2 111 (o_gI 6 3) := ok_gI dX9_make_111 f_RX9_51 (Or.inl rfl)
theorem k_88_114 : mOk M_88.1 M_88.2.1 M_88.2.2.1 M_88.2.2.2 114 (o_zle 143) := ok_zle dX9_make_114 (by decide)
theorem k_88_117 : mOk M_88.1 M_88.2.1 M_88.2.2.1 M_88.2.2.2 117 (o_al 0 1) := ok_aload_n dX9_make_117 rfl
theorem k_88_118 : mOk M_88.1 M_88.2.1 M_88.2.2.1 M_88.2.2.2 118 (o_al 8 2) := ok_aload dX9_make_118
theorem k_88_120 : mOk M_88.1 M_88.2.1 M_88.2.2.1 M_88.2.2.2 120 (o_al 8 2) := ok_aload dX9_make_120
theorem k_88_122 : mOk M_88.1 M_88.2.1 M_88.2.2.1 M_88.2.2.2 122 (o_gI 2 0) := ok_gI dX9_make_122 f_RX9_130 (Or.inl rfl)
theorem k_88_125 : mOk M_88.1 M_88.2.1 M_88.2.2.1 M_88.2.2.2 125 (o_il 6 2) := ok_iload dX9_make_125
theorem k_88_127 : mOk M_88.1 M_88.2.1 M_88.2.2.1 M_88.2.2.2 127 (oS 1 (s_ii (fun a b => a - b))) := ok_isub dX9_make_127
theorem k_88_128 : mOk M_88.1 M_88.2.1 M_88.2.2.1 M_88.2.2.2 128 (o_il 4 2) := ok_iload dX9_make_128
theorem k_88_130 : mOk M_88.1 M_88.2.1 M_88.2.2.1 M_88.2.2.2 130 (o_il 5 2) := ok_iload dX9_make_130
theorem k_88_132 : mOk M_88.1 M_88.2.1 M_88.2.2.1 M_88.2.2.2 132 (o_al 3 1) := ok_aload_n dX9_make_132 rfl
theorem k_88_136 : mOk M_88.1 M_88.2.1 M_88.2.2.1 M_88.2.2.2 136 (o_al 8 2) := ok_aload dX9_make_136
theorem k_88_138 : mOk M_88.1 M_88.2.1 M_88.2.2.1 M_88.2.2.2 138 (o_gI 2 0) := ok_gI dX9_make_138 f_RX9_130 (Or.inl rfl)
theorem k_88_141 : mOk M_88.1 M_88.2.1 M_88.2.2.1 M_88.2.2.2 141 (o_is 6 2) := ok_istore dX9_make_141
theorem k_88_143 : mOk M_88.1 M_88.2.1 M_88.2.2.1 M_88.2.2.2 143 (o_inc 7 1) := ok_iinc dX9_make_143 (by decide)
theorem k_88_146 : mOk M_88.1 M_88.2.1 M_88.2.2.1 M_88.2.2.2 146 (o_goto 33) := ok_goto dX9_make_146 (by decide)
set_option maxRecDepth 20000 in
set_option maxHeartbeats 4000000 in
theorem tk_88 (l : Launch) (H9 : mThr l) (H10 : mSpl l) (pc : Nat) (q : mEnt) (h : tb_88 pc = some q) : EE l 88 pc q := nd h (fun h => nd h (fun h => nd h (fun h => nd h (fun h => nd h (fun h => nd h (fun h => lf (P := EE l 88) h k_88_0) (fun h => lf (P := EE l 88) h k_88_3)) (fun h => nd h (fun h => lf (P := EE l 88) h k_88_4) (fun h => lf (P := EE l 88) h k_88_5))) (fun h => nd h (fun h => nd h (fun h => lf (P := EE l 88) h k_88_7) (fun h => lf (P := EE l 88) h k_88_10)) (fun h => nd h (fun h => lf (P := EE l 88) h k_88_11) (fun h => nd h (fun h => lf (P := EE l 88) h k_88_12) (fun h => lf (P := EE l 88) h k_88_14))))) (fun h => nd h (fun h => nd h (fun h => nd h (fun h => lf (P := EE l 88) h k_88_15) (fun h => lf (P := EE l 88) h k_88_17)) (fun h => nd h (fun h => lf (P := EE l 88) h k_88_18) (fun h => lf (P := EE l 88) h k_88_19))) (fun h => nd h (fun h => nd h (fun h => lf (P := EE l 88) h k_88_22) (fun h => lf (P := EE l 88) h k_88_23)) (fun h => nd h (fun h => lf (P := EE l 88) h k_88_26) (fun h => nd h (fun h => lf (P := EE l 88) h (EE_re (Or.inr (Or.inr (Or.inr (Or.inr ⟨rfl, dX9_make_29, rfl⟩)))))) (fun h => lf (P := EE l 88) h k_88_30)))))) (fun h => nd h (fun h => nd h (fun h => nd h (fun h => nd h (fun h => lf (P := EE l 88) h k_88_31) (fun h => lf (P := EE l 88) h k_88_33)) (fun h => nd h (fun h => lf (P := EE l 88) h k_88_35) (fun h => lf (P := EE l 88) h k_88_36))) (fun h => nd h (fun h => nd h (fun h => lf (P := EE l 88) h k_88_39) (fun h => lf (P := EE l 88) h k_88_42)) (fun h => nd h (fun h => lf (P := EE l 88) h k_88_45) (fun h => nd h (fun h => lf (P := EE l 88) h k_88_46) (fun h => lf (P := EE l 88) h k_88_49))))) (fun h => nd h (fun h => nd h (fun h => nd h (fun h => lf (P := EE l 88) h k_88_52) (fun h => lf (P := EE l 88) h k_88_54)) (fun h => nd h (fun h => lf (P := EE l 88) h k_88_55) (fun h => nd h (fun h => lf (P := EE l 88) h k_88_57) (fun h => lf (P := EE l 88) h k_88_58)))) (fun h => nd h (fun h => nd h (fun h => lf (P := EE l 88) h k_88_61) (fun h => lf (P := EE l 88) h k_88_63)) (fun h => nd h (fun h => lf (P := EE l 88) h k_88_64) (fun h => nd h (fun h => lf (P := EE l 88) h k_88_67) (fun h => lf (P := EE l 88) h k_88_70))))))) (fun h => nd h (fun h => nd h (fun h => nd h (fun h => nd h (fun h => nd h (fun h => lf (P := EE l 88) h k_88_71) (fun h => lf (P := EE l 88) h k_88_74)) (fun h => nd h (fun h => lf (P := EE l 88) h k_88_76) (fun h => lf (P := EE l 88) h k_88_77))) (fun h => nd h (fun h => nd h (fun h => lf (P := EE l 88) h k_88_79) (fun h => lf (P := EE l 88) h (EE_ca (by decide) (⟨m_790, m_75, ⟨by decide, by decide⟩, by decide +kernel, ⟨by decide, by decide⟩, 122, 2, by decide +kernel, Or.inr (Or.inr (Or.inl ⟨rfl, rfl, dX9_make_81, m_787, m_788, _, rfl, by decide, m_789⟩))⟩) rfl))) (fun h => nd h (fun h => lf (P := EE l 88) h k_88_84) (fun h => nd h (fun h => lf (P := EE l 88) h k_88_87) (fun h => lf (P := EE l 88) h k_88_88))))) (fun h => nd h (fun h => nd h (fun h => nd h (fun h => lf (P := EE l 88) h k_88_89) (fun h => lf (P := EE l 88) h k_88_92)) (fun h => nd h (fun h => lf (P := EE l 88) h k_88_94) (fun h => lf (P := EE l 88) h k_88_95))) (fun h => nd h (fun h => nd h (fun h => lf (P := EE l 88) h k_88_97) (fun h => lf (P := EE l 88) h k_88_100)) (fun h => nd h (fun h => lf (P := EE l 88) h k_88_102) (fun h => nd h (fun h => lf (P := EE l 88) h (EE_ca (by decide) (⟨m_794, m_74, ⟨by decide, by decide⟩, by decide +kernel, ⟨by decide, by decide⟩, 126, 4, by decide +kernel, Or.inr (Or.inr (Or.inl ⟨rfl, rfl, dX9_make_104, m_791, m_793, _, rfl, by decide, m_18⟩))⟩) rfl)) (fun h => lf (P := EE l 88) h k_88_107)))))) (fun h => nd h (fun h => nd h (fun h => nd h (fun h => nd h (fun h => lf (P := EE l 88) h k_88_108) (fun h => lf (P := EE l 88) h k_88_111)) (fun h => nd h (fun h => lf (P := EE l 88) h k_88_114) (fun h => lf (P := EE l 88) h k_88_117))) (fun h => nd h (fun h => nd h (fun h => lf (P := EE l 88) h k_88_118) (fun h => lf (P := EE l 88) h k_88_120)) (fun h => nd h (fun h => lf (P := EE l 88) h k_88_122) (fun h => nd h (fun h => lf (P := EE l 88) h k_88_125) (fun h => lf (P := EE l 88) h k_88_127))))) (fun h => nd h (fun h => nd h (fun h => nd h (fun h => lf (P := EE l 88) h k_88_128) (fun h => lf (P := EE l 88) h k_88_130)) (fun h => nd h (fun h => lf (P := EE l 88) h k_88_132) (fun h => nd h (fun h => lf (P := EE l 88) h (EE_ca (by decide) (⟨m_826, m_74, ⟨by decide, by decide⟩, by decide +kernel, ⟨by decide, by decide⟩, 133, 5, by decide +kernel, Or.inr (Or.inr (Or.inl ⟨rfl, rfl, dX9_make_133, m_823, m_825, _, rfl, by decide, m_20⟩))⟩) rfl)) (fun h => lf (P := EE l 88) h k_88_136)))) (fun h => nd h (fun h => nd h (fun h => lf (P := EE l 88) h k_88_138) (fun h => lf (P := EE l 88) h k_88_141)) (fun h => nd h (fun h => lf (P := EE l 88) h k_88_143) (fun h => nd h (fun h => lf (P := EE l 88) h k_88_146) (fun h => lf (P := EE l 88) h (EE_re (Or.inr (Or.inr (Or.inr (Or.inr ⟨rfl, dX9_make_149, rfl⟩))))))))))))
theorem dX9_cutToTile_0 : decode cX9_cutToTile 0 = .ok (.aload_n 0, 1) := by decide +kernel
theorem dX9_cutToTile_1 : decode cX9_cutToTile 1 = .ok (.getfield 28, 3) := by decide +kernel
theorem dX9_cutToTile_4 : decode cX9_cutToTile 4 = .ok (.aload_n 1, 1) := by decide +kernel
theorem dX9_cutToTile_5 : decode cX9_cutToTile 5 = .ok (.invokevirtual 137, 3) := by decide +kernel
theorem dX9_cutToTile_8 : decode cX9_cutToTile 8 = .ok (.iconst 0, 1) := by decide +kernel
theorem dX9_cutToTile_9 : decode cX9_cutToTile 9 = .ok (.istore 5, 2) := by decide +kernel
theorem dX9_cutToTile_11 : decode cX9_cutToTile 11 = .ok (.iload 5, 2) := by decide +kernel
theorem dX9_cutToTile_13 : decode cX9_cutToTile 13 = .ok (.iconst 4, 1) := by decide +kernel
theorem dX9_cutToTile_14 : decode cX9_cutToTile 14 = .ok (.if_icmp .ge 66, 3) := by decide +kernel
theorem dX9_cutToTile_17 : decode cX9_cutToTile 17 = .ok (.aload_n 0, 1) := by decide +kernel
theorem dX9_cutToTile_18 : decode cX9_cutToTile 18 = .ok (.getfield 24, 3) := by decide +kernel
theorem dX9_cutToTile_21 : decode cX9_cutToTile 21 = .ok (.astore 6, 2) := by decide +kernel
theorem dX9_cutToTile_23 : decode cX9_cutToTile 23 = .ok (.aload_n 0, 1) := by decide +kernel
theorem dX9_cutToTile_24 : decode cX9_cutToTile 24 = .ok (.aload_n 0, 1) := by decide +kernel
theorem dX9_cutToTile_25 : decode cX9_cutToTile 25 = .ok (.getfield 28, 3) := by decide +kernel
theorem dX9_cutToTile_28 : decode cX9_cutToTile 28 = .ok (.putfield 24, 3) := by decide +kernel
theorem dX9_cutToTile_31 : decode cX9_cutToTile 31 = .ok (.aload_n 0, 1) := by decide +kernel
theorem dX9_cutToTile_32 : decode cX9_cutToTile 32 = .ok (.aload 6, 2) := by decide +kernel
theorem dX9_cutToTile_34 : decode cX9_cutToTile 34 = .ok (.putfield 28, 3) := by decide +kernel
theorem dX9_cutToTile_37 : decode cX9_cutToTile 37 = .ok (.aload_n 0, 1) := by decide +kernel
theorem dX9_cutToTile_38 : decode cX9_cutToTile 38 = .ok (.getfield 34, 3) := by decide +kernel
theorem dX9_cutToTile_41 : decode cX9_cutToTile 41 = .ok (.iload 5, 2) := by decide +kernel
theorem dX9_cutToTile_43 : decode cX9_cutToTile 43 = .ok (.iload_n 3, 1) := by decide +kernel
theorem dX9_cutToTile_44 : decode cX9_cutToTile 44 = .ok (.iload 4, 2) := by decide +kernel
theorem dX9_cutToTile_46 : decode cX9_cutToTile 46 = .ok (.invokevirtual 140, 3) := by decide +kernel
theorem dX9_cutToTile_49 : decode cX9_cutToTile 49 = .ok (.aload_n 0, 1) := by decide +kernel
theorem dX9_cutToTile_50 : decode cX9_cutToTile 50 = .ok (.getfield 28, 3) := by decide +kernel
theorem dX9_cutToTile_53 : decode cX9_cutToTile 53 = .ok (.aload_n 0, 1) := by decide +kernel
theorem dX9_cutToTile_54 : decode cX9_cutToTile 54 = .ok (.getfield 24, 3) := by decide +kernel
theorem dX9_cutToTile_57 : decode cX9_cutToTile 57 = .ok (.aload_n 0, 1) := by decide +kernel
theorem dX9_cutToTile_58 : decode cX9_cutToTile 58 = .ok (.getfield 34, 3) := by decide +kernel
theorem dX9_cutToTile_61 : decode cX9_cutToTile 61 = .ok (.iload_n 2, 1) := by decide +kernel
theorem dX9_cutToTile_62 : decode cX9_cutToTile 62 = .ok (.iconst 2, 1) := by decide +kernel
theorem dX9_cutToTile_63 : decode cX9_cutToTile 63 = .ok (.if_icmp .ne 7, 3) := by decide +kernel
theorem dX9_cutToTile_66 : decode cX9_cutToTile 66 = .ok (.iconst 1, 1) := by decide +kernel
theorem dX9_cutToTile_67 : decode cX9_cutToTile 67 = .ok (.goto 4, 3) := by decide +kernel
theorem dX9_cutToTile_70 : decode cX9_cutToTile 70 = .ok (.iconst 0, 1) := by decide +kernel
theorem dX9_cutToTile_71 : decode cX9_cutToTile 71 = .ok (.invokevirtual 144, 3) := by decide +kernel
theorem dX9_cutToTile_74 : decode cX9_cutToTile 74 = .ok (.iinc 5 1, 3) := by decide +kernel
theorem dX9_cutToTile_77 : decode cX9_cutToTile 77 = .ok (.goto (-66), 3) := by decide +kernel
theorem dX9_cutToTile_80 : decode cX9_cutToTile 80 = .ok (.aload_n 0, 1) := by decide +kernel
theorem dX9_cutToTile_81 : decode cX9_cutToTile 81 = .ok (.getfield 28, 3) := by decide +kernel
theorem dX9_cutToTile_84 : decode cX9_cutToTile 84 = .ok (.iload_n 2, 1) := by decide +kernel
theorem dX9_cutToTile_85 : decode cX9_cutToTile 85 = .ok (.invokevirtual 89, 3) := by decide +kernel
theorem dX9_cutToTile_88 : decode cX9_cutToTile 88 = .ok (.return_, 1) := by decide +kernel
def tb_89 (pc : Nat) : Option mEnt := bif Nat.ble pc 41 then (bif Nat.ble pc 18 then (bif Nat.ble pc 8 then (bif Nat.ble pc 1 then (bif Nat.ble pc 0 then (bif Nat.beq pc 0 then some (.inl (o_al 0 1)) else none) else (bif Nat.beq pc 1 then some (.inl (o_gP 9 5)) else none)) else (bif Nat.ble pc 4 then (bif Nat.beq pc 4 then some (.inl (o_al 1 1)) else none) else (bif Nat.ble pc 5 then (bif Nat.beq pc 5 then some (.inr (3, 67, 2, 6)) else none) else (bif Nat.beq pc 8 then some (.inl (oS 1 (s_push (.int 0)))) else none)))) else (bif Nat.ble pc 13 then (bif Nat.ble pc 9 then (bif Nat.beq pc 9 then some (.inl (o_is 5 2)) else none) else (bif Nat.ble pc 11 then (bif Nat.beq pc 11 then some (.inl (o_il 5 2)) else none) else (bif Nat.beq pc 13 then some (.inl (oS 1 (s_push (.int 4)))) else none))) else (bif Nat.ble pc 14 then (bif Nat.beq pc 14 then some (.inl (o_cge 80)) else none) else (bif Nat.ble pc 17 then (bif Nat.beq pc 17 then some (.inl (o_al 0 1)) else none) else (bif Nat.beq pc 18 then some (.inl (o_gP 9 4)) else none))))) else (bif Nat.ble pc 28 then (bif Nat.ble pc 23 then (bif Nat.ble pc 21 then (bif Nat.beq pc 21 then some (.inl (o_as 6 2)) else none) else (bif Nat.beq pc 23 then some (.inl (o_al 0 1)) else none)) else (bif Nat.ble pc 24 then (bif Nat.beq pc 24 then some (.inl (o_al 0 1)) else none) else (bif Nat.ble pc 25 then (bif Nat.beq pc 25 then some (.inl (o_gP 9 5)) else none) else (bif Nat.beq pc 28 then some (.inl (o_pP 9 4)) else none)))) else (bif Nat.ble pc 34 then (bif Nat.ble pc 31 then (bif Nat.beq pc 31 then some (.inl (o_al 0 1)) else none) else (bif Nat.ble pc 32 then (bif Nat.beq pc 32 then some (.inl (o_al 6 2)) else none) else (bif Nat.beq pc 34 then some (.inl (o_pP 9 5)) else none))) else (bif Nat.ble pc 37 then (bif Nat.beq pc 37 then some (.inl (o_al 0 1)) else none) else (bif Nat.ble pc 38 then (bif Nat.beq pc 38 then some (.inl (o_gP 9 6)) else none) else (bif Nat.beq pc 41 then some (.inl (o_il 5 2)) else none)))))) else (bif Nat.ble pc 62 then (bif Nat.ble pc 50 then (bif Nat.ble pc 44 then (bif Nat.ble pc 43 then (bif Nat.beq pc 43 then some (.inl (o_il 3 1)) else none) else (bif Nat.beq pc 44 then some (.inl (o_il 4 2)) else none)) else (bif Nat.ble pc 46 then (bif Nat.beq pc 46 then some (.inr (3, 78, 4, 8)) else none) else (bif Nat.ble pc 49 then (bif Nat.beq pc 49 then some (.inl (o_al 0 1)) else none) else (bif Nat.beq pc 50 then some (.inl (o_gP 9 5)) else none)))) else (bif Nat.ble pc 57 then (bif Nat.ble pc 53 then (bif Nat.beq pc 53 then some (.inl (o_al 0 1)) else none) else (bif Nat.ble pc 54 then (bif Nat.beq pc 54 then some (.inl (o_gP 9 4)) else none) else (bif Nat.beq pc 57 then some (.inl (o_al 0 1)) else none))) else (bif Nat.ble pc 58 then (bif Nat.beq pc 58 then some (.inl (o_gP 9 6)) else none) else (bif Nat.ble pc 61 then (bif Nat.beq pc 61 then some (.inl (o_il 2 1)) else none) else (bif Nat.beq pc 62 then some (.inl (oS 1 (s_push (.int 2)))) else none))))) else (bif Nat.ble pc 74 then (bif Nat.ble pc 67 then (bif Nat.ble pc 63 then (bif Nat.beq pc 63 then some (.inl (o_cne 70)) else none) else (bif Nat.ble pc 66 then (bif Nat.beq pc 66 then some (.inl (oS 1 (s_push (.int 1)))) else none) else (bif Nat.beq pc 67 then some (.inl (o_goto 71)) else none))) else (bif Nat.ble pc 70 then (bif Nat.beq pc 70 then some (.inl (oS 1 (s_push (.int 0)))) else none) else (bif Nat.ble pc 71 then (bif Nat.beq pc 71 then some (.inr (3, 68, 4, 6)) else none) else (bif Nat.beq pc 74 then some (.inl (o_inc 5 1)) else none)))) else (bif Nat.ble pc 81 then (bif Nat.ble pc 77 then (bif Nat.beq pc 77 then some (.inl (o_goto 11)) else none) else (bif Nat.ble pc 80 then (bif Nat.beq pc 80 then some (.inl (o_al 0 1)) else none) else (bif Nat.beq pc 81 then some (.inl (o_gP 9 5)) else none))) else (bif Nat.ble pc 84 then (bif Nat.beq pc 84 then some (.inl (o_il 2 1)) else none) else (bif Nat.ble pc 85 then (bif Nat.beq pc 85 then some (.inr (3, 60, 2, 6)) else none) else (bif Nat.beq pc 88 then some (.inr (0, 0, 0, 3)) else none))))))
theorem k_89_0 : mOk M_89.1 M_89.2.1 M_89.2.2.1 M_89.2.2.2 0 (o_al 0 1) := ok_aload_n dX9_cutToTile_0 rfl
theorem k_89_1 : mOk M_89.1 M_89.2.1 M_89.2.2.1 M_89.2.2.2 1 (o_gP 9 5) := ok_gP dX9_cutToTile_1 f_RX9_28 rfl
theorem k_89_4 : mOk M_89.1 M_89.2.1 M_89.2.2.1 M_89.2.2.2 4 (o_al 1 1) := ok_aload_n dX9_cutToTile_4 rfl
theorem k_89_8 : mOk M_89.1 M_89.2.1 M_89.2.2.1 M_89.2.2.2 8 (oS 1 (s_push (.int 0))) := ok_iconst dX9_cutToTile_8 (by decide)
theorem k_89_9 : mOk M_89.1 M_89.2.1 M_89.2.2.1 M_89.2.2.2 9 (o_is 5 2) := ok_istore dX9_cutToTile_9
theorem k_89_11 : mOk M_89.1 M_89.2.1 M_89.2.2.1 M_89.2.2.2 11 (o_il 5 2) := ok_iload dX9_cutToTile_11
theorem k_89_13 : mOk M_89.1 M_89.2.1 M_89.2.2.1 M_89.2.2.2 13 (oS 1 (s_push (.int 4))) := ok_iconst dX9_cutToTile_13 (by decide)
theorem k_89_14 : mOk M_89.1 M_89.2.1 M_89.2.2.1 M_89.2.2.2 14 (o_cge 80) := ok_cge dX9_cutToTile_14 (by decide)
theorem k_89_17 : mOk M_89.1 M_89.2.1 M_89.2.2.1 M_89.2.2.2 17 (o_al 0 1) := ok_aload_n dX9_cutToTile_17 rfl
theorem k_89_18 : mOk M_89.1 M_89.2.1 M_89.2.2.1 M_89.2.2.2 18 (o_gP 9 4) := ok_gP dX9_cutToTile_18 f_RX9_24 rfl
theorem k_89_21 : mOk M_89.1 M_89.2.1 M_89.2.2.1 M_89.2.2.2 21 (o_as 6 2) := ok_astore dX9_cutToTile_21
theorem k_89_23 : mOk M_89.1 M_89.2.1 M_89.2.2.1 M_89.2.2.2 23 (o_al 0 1) := ok_aload_n dX9_cutToTile_23 rfl
theorem k_89_24 : mOk M_89.1 M_89.2.1 M_89.2.2.1 M_89.2.2.2 24 (o_al 0 1) := ok_aload_n dX9_cutToTile_24 rfl
theorem k_89_25 : mOk M_89.1 M_89.2.1 M_89.2.2.1 M_89.2.2.2 25 (o_gP 9 5) := ok_gP dX9_cutToTile_25 f_RX9_28 rfl
theorem k_89_28 : mOk M_89.1 M_89.2.1 M_89.2.2.1 M_89.2.2.2 28 (o_pP 9 4) := ok_pP dX9_cutToTile_28 (mFw_of f_RX9_24_c (Or.inl rfl)) rfl
theorem k_89_31 : mOk M_89.1 M_89.2.1 M_89.2.2.1 M_89.2.2.2 31 (o_al 0 1) := ok_aload_n dX9_cutToTile_31 rfl
theorem k_89_32 : mOk M_89.1 M_89.2.1 M_89.2.2.1 M_89.2.2.2 32 (o_al 6 2) := ok_aload dX9_cutToTile_32
theorem k_89_34 : mOk M_89.1 M_89.2.1 M_89.2.2.1 M_89.2.2.2 34 (o_pP 9 5) := ok_pP dX9_cutToTile_34 (mFw_of f_RX9_28_c (Or.inl rfl)) rfl
theorem k_89_37 : mOk M_89.1 M_89.2.1 M_89.2.2.1 M_89.2.2.2 37 (o_al 0 1) := ok_aload_n dX9_cutToTile_37 rfl
theorem k_89_38 : mOk M_89.1 M_89.2.1 M_89.2.2.1 M_89.2.2.2 38 (o_gP 9 6) := ok_gP dX9_cutToTile_38 f_RX9_34 rfl
theorem k_89_41 : mOk M_89.1 M_89.2.1 M_89.2.2.1 M_89.2.2.2 41 (o_il 5 2) := ok_iload dX9_cutToTile_41
theorem k_89_43 : mOk M_89.1 M_89.2.1 M_89.2.2.1 M_89.2.2.2 43 (o_il 3 1) := ok_iload_n dX9_cutToTile_43 rfl
theorem k_89_44 : mOk M_89.1 M_89.2.1 M_89.2.2.1 M_89.2.2.2 44 (o_il 4 2) := ok_iload dX9_cutToTile_44
theorem k_89_49 : mOk M_89.1 M_89.2.1 M_89.2.2.1 M_89.2.2.2 49 (o_al 0 1) := ok_aload_n dX9_cutToTile_49 rfl
theorem k_89_50 : mOk M_89.1 M_89.2.1 M_89.2.2.1 M_89.2.2.2 50 (o_gP 9 5) := ok_gP dX9_cutToTile_50 f_RX9_28 rfl
theorem k_89_53 : mOk M_89.1 M_89.2.1 M_89.2.2.1 M_89.2.2.2 53 (o_al 0 1) := ok_aload_n dX9_cutToTile_53 rfl
theorem k_89_54 : mOk M_89.1 M_89.2.1 M_89.2.2.1 M_89.2.2.2 54 (o_gP 9 4) := ok_gP dX9_cutToTile_54 f_RX9_24 rfl
theorem k_89_57 : mOk M_89.1 M_89.2.1 M_89.2.2.1 M_89.2.2.2 57 (o_al 0 1) := ok_aload_n dX9_cutToTile_57 rfl
theorem k_89_58 : mOk M_89.1 M_89.2.1 M_89.2.2.1 M_89.2.2.2 58 (o_gP 9 6) := ok_gP dX9_cutToTile_58 f_RX9_34 rfl
theorem k_89_61 : mOk M_89.1 M_89.2.1 M_89.2.2.1 M_89.2.2.2 61 (o_il 2 1) := ok_iload_n dX9_cutToTile_61 rfl
theorem k_89_62 : mOk M_89.1 M_89.2.1 M_89.2.2.1 M_89.2.2.2 62 (oS 1 (s_push (.int 2))) := ok_iconst dX9_cutToTile_62 (by decide)
theorem k_89_63 : mOk M_89.1 M_89.2.1 M_89.2.2.1 M_89.2.2.2 63 (o_cne 70) := ok_cne dX9_cutToTile_63 (by decide)
theorem k_89_66 : mOk M_89.1 M_89.2.1 M_89.2.2.1 M_89.2.2.2 66 (oS 1 (s_push (.int 1))) := ok_iconst dX9_cutToTile_66 (by decide)
theorem k_89_67 : mOk M_89.1 M_89.2.1 M_89.2.2.1 M_89.2.2.2 67 (o_goto 71) := ok_goto dX9_cutToTile_67 (by decide)
theorem k_89_70 : mOk M_89.1 M_89.2.1 M_89.2.2.1 M_89.2.2.2 70 (oS 1 (s_push (.int 0))) := ok_iconst dX9_cutToTile_70 (by decide)
theorem k_89_74 : mOk M_89.1 M_89.2.1 M_89.2.2.1 M_89.2.2.2 74 (o_inc 5 1) := ok_iinc dX9_cutToTile_74 (by decide)
theorem k_89_77 : mOk M_89.1 M_89.2.1 M_89.2.2.1 M_89.2.2.2 77 (o_goto 11) := ok_goto dX9_cutToTile_77 (by decide)
theorem k_89_80 : mOk M_89.1 M_89.2.1 M_89.2.2.1 M_89.2.2.2 80 (o_al 0 1) := ok_aload_n dX9_cutToTile_80 rfl
theorem k_89_81 : mOk M_89.1 M_89.2.1 M_89.2.2.1 M_89.2.2.2 81 (o_gP 9 5) := ok_gP dX9_cutToTile_81 f_RX9_28 rfl
theorem k_89_84 : mOk M_89.1 M_89.2.1 M_89.2.2.1 M_89.2.2.2 84 (o_il 2 1) := ok_iload_n dX9_cutToTile_84 rfl
set_option maxRecDepth 20000 in
set_option maxHeartbeats 4000000 in
theorem tk_89 (l : Launch) (H9 : mThr l) (H10 : mSpl l) (pc : Nat) (q : mEnt) (h : tb_89 pc = some q) : EE l 89 pc q := nd h (fun h => nd h (fun h => nd h (fun h => nd h (fun h => nd h (fun h => lf (P := EE l 89) h k_89_0) (fun h => lf (P := EE l 89) h k_89_1)) (fun h => nd h (fun h => lf (P := EE l 89) h k_89_4) (fun h => nd h (fun h => lf (P := EE l 89) h (EE_ca (by decide) (⟨m_798, m_75, ⟨by decide, by decide⟩, by decide +kernel, ⟨by decide, by decide⟩, 137, 1, by decide +kernel, Or.inr (Or.inr (Or.inl ⟨rfl, rfl, dX9_cutToTile_5, m_795, m_796, _, rfl, by decide, m_797⟩))⟩) rfl)) (fun h => lf (P := EE l 89) h k_89_8)))) (fun h => nd h (fun h => nd h (fun h => lf (P := EE l 89) h k_89_9) (fun h => nd h (fun h => lf (P := EE l 89) h k_89_11) (fun h => lf (P := EE l 89) h k_89_13))) (fun h => nd h (fun h => lf (P := EE l 89) h k_89_14) (fun h => nd h (fun h => lf (P := EE l 89) h k_89_17) (fun h => lf (P := EE l 89) h k_89_18))))) (fun h => nd h (fun h => nd h (fun h => nd h (fun h => lf (P := EE l 89) h k_89_21) (fun h => lf (P := EE l 89) h k_89_23)) (fun h => nd h (fun h => lf (P := EE l 89) h k_89_24) (fun h => nd h (fun h => lf (P := EE l 89) h k_89_25) (fun h => lf (P := EE l 89) h k_89_28)))) (fun h => nd h (fun h => nd h (fun h => lf (P := EE l 89) h k_89_31) (fun h => nd h (fun h => lf (P := EE l 89) h k_89_32) (fun h => lf (P := EE l 89) h k_89_34))) (fun h => nd h (fun h => lf (P := EE l 89) h k_89_37) (fun h => nd h (fun h => lf (P := EE l 89) h k_89_38) (fun h => lf (P := EE l 89) h k_89_41)))))) (fun h => nd h (fun h => nd h (fun h => nd h (fun h => nd h (fun h => lf (P := EE l 89) h k_89_43) (fun h => lf (P := EE l 89) h k_89_44)) (fun h => nd h (fun h => lf (P := EE l 89) h (EE_ca (by decide) (⟨m_803, m_76, ⟨by decide, by decide⟩, by decide +kernel, ⟨by decide, by decide⟩, 140, 3, by decide +kernel, Or.inr (Or.inr (Or.inl ⟨rfl, rfl, dX9_cutToTile_46, m_800, m_801, _, rfl, by decide, m_802⟩))⟩) rfl)) (fun h => nd h (fun h => lf (P := EE l 89) h k_89_49) (fun h => lf (P := EE l 89) h k_89_50)))) (fun h => nd h (fun h => nd h (fun h => lf (P := EE l 89) h k_89_53) (fun h => nd h (fun h => lf (P := EE l 89) h k_89_54) (fun h => lf (P := EE l 89) h k_89_57))) (fun h => nd h (fun h => lf (P := EE l 89) h k_89_58) (fun h => nd h (fun h => lf (P := EE l 89) h k_89_61) (fun h => lf (P := EE l 89) h k_89_62))))) (fun h => nd h (fun h => nd h (fun h => nd h (fun h => lf (P := EE l 89) h k_89_63) (fun h => nd h (fun h => lf (P := EE l 89) h k_89_66) (fun h => lf (P := EE l 89) h k_89_67))) (fun h => nd h (fun h => lf (P := EE l 89) h k_89_70) (fun h => nd h (fun h => lf (P := EE l 89) h (EE_ca (by decide) (⟨m_807, m_75, ⟨by decide, by decide⟩, by decide +kernel, ⟨by decide, by decide⟩, 144, 3, by decide +kernel, Or.inr (Or.inr (Or.inl ⟨rfl, rfl, dX9_cutToTile_71, m_804, m_805, _, rfl, by decide, m_806⟩))⟩) rfl)) (fun h => lf (P := EE l 89) h k_89_74)))) (fun h => nd h (fun h => nd h (fun h => lf (P := EE l 89) h k_89_77) (fun h => nd h (fun h => lf (P := EE l 89) h k_89_80) (fun h => lf (P := EE l 89) h k_89_81))) (fun h => nd h (fun h => lf (P := EE l 89) h k_89_84) (fun h => nd h (fun h => lf (P := EE l 89) h (EE_ca (by decide) (⟨m_763, m_75, ⟨by decide, by decide⟩, by decide +kernel, ⟨by decide, by decide⟩, 89, 1, by decide +kernel, Or.inr (Or.inr (Or.inl ⟨rfl, rfl, dX9_cutToTile_85, m_760, m_761, _, rfl, by decide, m_762⟩))⟩) rfl)) (fun h => lf (P := EE l 89) h (EE_re (Or.inr (Or.inr (Or.inr (Or.inr ⟨rfl, dX9_cutToTile_88, rfl⟩)))))))))))
theorem dX9_write_0 : decode cX9_write 0 = .ok (.iload_n 3, 1) := by decide +kernel
theorem dX9_write_1 : decode cX9_write 1 = .ok (.istore 6, 2) := by decide +kernel
theorem dX9_write_3 : decode cX9_write 3 = .ok (.iload 4, 2) := by decide +kernel
theorem dX9_write_5 : decode cX9_write 5 = .ok (.istore 7, 2) := by decide +kernel
theorem dX9_write_7 : decode cX9_write 7 = .ok (.aload 5, 2) := by decide +kernel
theorem dX9_write_9 : decode cX9_write 9 = .ok (.iload_n 2, 1) := by decide +kernel
theorem dX9_write_10 : decode cX9_write 10 = .ok (.invokevirtual 148, 3) := by decide +kernel
theorem dX9_write_13 : decode cX9_write 13 = .ok (.aload 5, 2) := by decide +kernel
theorem dX9_write_15 : decode cX9_write 15 = .ok (.aload_n 1, 1) := by decide +kernel
theorem dX9_write_16 : decode cX9_write 16 = .ok (.getfield 77, 3) := by decide +kernel
theorem dX9_write_19 : decode cX9_write 19 = .ok (.iconst 4, 1) := by decide +kernel
theorem dX9_write_20 : decode cX9_write 20 = .ok (.aload_n 1, 1) := by decide +kernel
theorem dX9_write_21 : decode cX9_write 21 = .ok (.getfield 151, 3) := by decide +kernel
theorem dX9_write_24 : decode cX9_write 24 = .ok (.imul, 1) := by decide +kernel
theorem dX9_write_25 : decode cX9_write 25 = .ok (.iadd, 1) := by decide +kernel
theorem dX9_write_26 : decode cX9_write 26 = .ok (.invokevirtual 154, 3) := by decide +kernel
theorem dX9_write_29 : decode cX9_write 29 = .ok (.aload 5, 2) := by decide +kernel
theorem dX9_write_31 : decode cX9_write 31 = .ok (.aload_n 0, 1) := by decide +kernel
theorem dX9_write_32 : decode cX9_write 32 = .ok (.getfield 28, 3) := by decide +kernel
theorem dX9_write_35 : decode cX9_write 35 = .ok (.invokevirtual 156, 3) := by decide +kernel
theorem dX9_write_38 : decode cX9_write 38 = .ok (.invokevirtual 148, 3) := by decide +kernel
theorem dX9_write_41 : decode cX9_write 41 = .ok (.iconst 0, 1) := by decide +kernel
theorem dX9_write_42 : decode cX9_write 42 = .ok (.istore 8, 2) := by decide +kernel
theorem dX9_write_44 : decode cX9_write 44 = .ok (.iload 8, 2) := by decide +kernel
theorem dX9_write_46 : decode cX9_write 46 = .ok (.aload_n 0, 1) := by decide +kernel
theorem dX9_write_47 : decode cX9_write 47 = .ok (.getfield 28, 3) := by decide +kernel
theorem dX9_write_50 : decode cX9_write 50 = .ok (.getfield 51, 3) := by decide +kernel
theorem dX9_write_53 : decode cX9_write 53 = .ok (.if_icmp .ge 96, 3) := by decide +kernel
theorem dX9_write_56 : decode cX9_write 56 = .ok (.aload_n 0, 1) := by decide +kernel
theorem dX9_write_57 : decode cX9_write 57 = .ok (.getfield 28, 3) := by decide +kernel
theorem dX9_write_60 : decode cX9_write 60 = .ok (.getfield 160, 3) := by decide +kernel
theorem dX9_write_63 : decode cX9_write 63 = .ok (.iload 8, 2) := by decide +kernel
theorem dX9_write_65 : decode cX9_write 65 = .ok (.baload, 1) := by decide +kernel
theorem dX9_write_66 : decode cX9_write 66 = .ok (.ifCond .eq 17, 3) := by decide +kernel
theorem dX9_write_69 : decode cX9_write 69 = .ok (.aload 5, 2) := by decide +kernel
theorem dX9_write_71 : decode cX9_write 71 = .ok (.aload_n 0, 1) := by decide +kernel
theorem dX9_write_72 : decode cX9_write 72 = .ok (.getfield 28, 3) := by decide +kernel
theorem dX9_write_75 : decode cX9_write 75 = .ok (.iload 8, 2) := by decide +kernel
theorem dX9_write_77 : decode cX9_write 77 = .ok (.invokevirtual 163, 3) := by decide +kernel
theorem dX9_write_80 : decode cX9_write 80 = .ok (.invokevirtual 148, 3) := by decide +kernel
theorem dX9_write_83 : decode cX9_write 83 = .ok (.aload 5, 2) := by decide +kernel
theorem dX9_write_85 : decode cX9_write 85 = .ok (.aload_n 0, 1) := by decide +kernel
theorem dX9_write_86 : decode cX9_write 86 = .ok (.getfield 28, 3) := by decide +kernel
theorem dX9_write_89 : decode cX9_write 89 = .ok (.getfield 80, 3) := by decide +kernel
theorem dX9_write_92 : decode cX9_write 92 = .ok (.iload 8, 2) := by decide +kernel
theorem dX9_write_94 : decode cX9_write 94 = .ok (.iaload, 1) := by decide +kernel
theorem dX9_write_95 : decode cX9_write 95 = .ok (.iload 6, 2) := by decide +kernel
theorem dX9_write_97 : decode cX9_write 97 = .ok (.isub, 1) := by decide +kernel
theorem dX9_write_98 : decode cX9_write 98 = .ok (.invokevirtual 166, 3) := by decide +kernel
theorem dX9_write_101 : decode cX9_write 101 = .ok (.aload 5, 2) := by decide +kernel
theorem dX9_write_103 : decode cX9_write 103 = .ok (.aload_n 0, 1) := by decide +kernel
theorem dX9_write_104 : decode cX9_write 104 = .ok (.getfield 28, 3) := by decide +kernel
theorem dX9_write_107 : decode cX9_write 107 = .ok (.getfield 81, 3) := by decide +kernel
theorem dX9_write_110 : decode cX9_write 110 = .ok (.iload 8, 2) := by decide +kernel
theorem dX9_write_112 : decode cX9_write 112 = .ok (.iaload, 1) := by decide +kernel
theorem dX9_write_113 : decode cX9_write 113 = .ok (.iload 7, 2) := by decide +kernel
theorem dX9_write_115 : decode cX9_write 115 = .ok (.isub, 1) := by decide +kernel
theorem dX9_write_116 : decode cX9_write 116 = .ok (.invokevirtual 166, 3) := by decide +kernel
theorem dX9_write_119 : decode cX9_write 119 = .ok (.aload_n 0, 1) := by decide +kernel
theorem dX9_write_120 : decode cX9_write 120 = .ok (.getfield 28, 3) := by decide +kernel
theorem dX9_write_123 : decode cX9_write 123 = .ok (.getfield 80, 3) := by decide +kernel
theorem dX9_write_126 : decode cX9_write 126 = .ok (.iload 8, 2) := by decide +kernel
theorem dX9_write_128 : decode cX9_write 128 = .ok (.iaload, 1) := by decide +kernel
theorem dX9_write_129 : decode cX9_write 129 = .ok (.istore 6, 2) := by decide +kernel
theorem dX9_write_131 : decode cX9_write 131 = .ok (.aload_n 0, 1) := by decide +kernel
theorem dX9_write_132 : decode cX9_write 132 = .ok (.getfield 28, 3) := by decide +kernel
theorem dX9_write_135 : decode cX9_write 135 = .ok (.getfield 81, 3) := by decide +kernel
theorem dX9_write_138 : decode cX9_write 138 = .ok (.iload 8, 2) := by decide +kernel
theorem dX9_write_140 : decode cX9_write 140 = .ok (.iaload, 1) := by decide +kernel
theorem dX9_write_141 : decode cX9_write 141 = .ok (.istore 7, 2) := by decide +kernel
theorem dX9_write_143 : decode cX9_write 143 = .ok (.iinc 8 1, 3) := by decide +kernel
theorem dX9_write_146 : decode cX9_write 146 = .ok (.goto (-102), 3) := by decide +kernel
theorem dX9_write_149 : decode cX9_write 149 = .ok (.return_, 1) := by decide +kernel
def tb_90 (pc : Nat) : Option mEnt := bif Nat.ble pc 71 then (bif Nat.ble pc 31 then (bif Nat.ble pc 15 then (bif Nat.ble pc 5 then (bif Nat.ble pc 1 then (bif Nat.ble pc 0 then (bif Nat.beq pc 0 then some (.inl (o_il 3 1)) else none) else (bif Nat.beq pc 1 then some (.inl (o_is 6 2)) else none)) else (bif Nat.ble pc 3 then (bif Nat.beq pc 3 then some (.inl (o_il 4 2)) else none) else (bif Nat.beq pc 5 then some (.inl (o_is 7 2)) else none))) else (bif Nat.ble pc 9 then (bif Nat.ble pc 7 then (bif Nat.beq pc 7 then some (.inl (o_al 5 2)) else none) else (bif Nat.beq pc 9 then some (.inl (o_il 2 1)) else none)) else (bif Nat.ble pc 10 then (bif Nat.beq pc 10 then some (.inr (3, 41, 2, 3)) else none) else (bif Nat.ble pc 13 then (bif Nat.beq pc 13 then some (.inl (o_al 5 2)) else none) else (bif Nat.beq pc 15 then some (.inl (o_al 1 1)) else none))))) else (bif Nat.ble pc 21 then (bif Nat.ble pc 19 then (bif Nat.ble pc 16 then (bif Nat.beq pc 16 then some (.inl (o_gI 2 1)) else none) else (bif Nat.beq pc 19 then some (.inl (oS 1 (s_push (.int 4)))) else none)) else (bif Nat.ble pc 20 then (bif Nat.beq pc 20 then some (.inl (o_al 1 1)) else none) else (bif Nat.beq pc 21 then some (.inl (o_gI 2 2)) else none))) else (bif Nat.ble pc 25 then (bif Nat.ble pc 24 then (bif Nat.beq pc 24 then some (.inl (oS 1 (s_ii (fun a b => a * b)))) else none) else (bif Nat.beq pc 25 then some (.inl (oS 1 (s_ii (fun a b => a + b)))) else none)) else (bif Nat.ble pc 26 then (bif Nat.beq pc 26 then some (.inr (3, 40, 2, 3)) else none) else (bif Nat.ble pc 29 then (bif Nat.beq pc 29 then some (.inl (o_al 5 2)) else none) else (bif Nat.beq pc 31 then some (.inl (o_al 0 1)) else none)))))) else (bif Nat.ble pc 50 then (bif Nat.ble pc 41 then (bif Nat.ble pc 35 then (bif Nat.ble pc 32 then (bif Nat.beq pc 32 then some (.inl (o_gP 9 5)) else none) else (bif Nat.beq pc 35 then some (.inr (3, 63, 1, 6)) else none)) else (bif Nat.ble pc 38 then (bif Nat.beq pc 38 then some (.inr (3, 41, 2, 3)) else none) else (bif Nat.beq pc 41 then some (.inl (oS 1 (s_push (.int 0)))) else none))) else (bif Nat.ble pc 44 then (bif Nat.ble pc 42 then (bif Nat.beq pc 42 then some (.inl (o_is 8 2)) else none) else (bif Nat.beq pc 44 then some (.inl (o_il 8 2)) else none)) else (bif Nat.ble pc 46 then (bif Nat.beq pc 46 then some (.inl (o_al 0 1)) else none) else (bif Nat.ble pc 47 then (bif Nat.beq pc 47 then some (.inl (o_gP 9 5)) else none) else (bif Nat.beq pc 50 then some (.inl (o_gI 6 3)) else none))))) else (bif Nat.ble pc 60 then (bif Nat.ble pc 56 then (bif Nat.ble pc 53 then (bif Nat.beq pc 53 then some (.inl (o_cge 149)) else none) else (bif Nat.beq pc 56 then some (.inl (o_al 0 1)) else none)) else (bif Nat.ble pc 57 then (bif Nat.beq pc 57 then some (.inl (o_gP 9 5)) else none) else (bif Nat.beq pc 60 then some (.inl (o_gP 6 2)) else none))) else (bif Nat.ble pc 65 then (bif Nat.ble pc 63 then (bif Nat.beq pc 63 then some (.inl (o_il 8 2)) else none) else (bif Nat.beq pc 65 then some (.inl (o_bald)) else none)) else (bif Nat.ble pc 66 then (bif Nat.beq pc 66 then some (.inl (o_zeq 83)) else none) else (bif Nat.ble pc 69 then (bif Nat.beq pc 69 then some (.inl (o_al 5 2)) else none) else (bif Nat.beq pc 71 then some (.inl (o_al 0 1)) else none))))))) else (bif Nat.ble pc 110 then (bif Nat.ble pc 92 then (bif Nat.ble pc 80 then (bif Nat.ble pc 75 then (bif Nat.ble pc 72 then (bif Nat.beq pc 72 then some (.inl (o_gP 9 5)) else none) else (bif Nat.beq pc 75 then some (.inl (o_il 8 2)) else none)) else (bif Nat.ble pc 77 then (bif Nat.beq pc 77 then some (.inr (3, 64, 2, 6)) else none) else (bif Nat.beq pc 80 then some (.inr (3, 41, 2, 3)) else none))) else (bif Nat.ble pc 85 then (bif Nat.ble pc 83 then (bif Nat.beq pc 83 then some (.inl (o_al 5 2)) else none) else (bif Nat.beq pc 85 then some (.inl (o_al 0 1)) else none)) else (bif Nat.ble pc 86 then (bif Nat.beq pc 86 then some (.inl (o_gP 9 5)) else none) else (bif Nat.ble pc 89 then (bif Nat.beq pc 89 then some (.inl (o_gP 6 0)) else none) else (bif Nat.beq pc 92 then some (.inl (o_il 8 2)) else none))))) else (bif Nat.ble pc 98 then (bif Nat.ble pc 95 then (bif Nat.ble pc 94 then (bif Nat.beq pc 94 then some (.inl (o_iald)) else none) else (bif Nat.beq pc 95 then some (.inl (o_il 6 2)) else none)) else (bif Nat.ble pc 97 then (bif Nat.beq pc 97 then some (.inl (oS 1 (s_ii (fun a b => a - b)))) else none) else (bif Nat.beq pc 98 then some (.inr (3, 42, 2, 3)) else none))) else (bif Nat.ble pc 103 then (bif Nat.ble pc 101 then (bif Nat.beq pc 101 then some (.inl (o_al 5 2)) else none) else (bif Nat.beq pc 103 then some (.inl (o_al 0 1)) else none)) else (bif Nat.ble pc 104 then (bif Nat.beq pc 104 then some (.inl (o_gP 9 5)) else none) else (bif Nat.ble pc 107 then (bif Nat.beq pc 107 then some (.inl (o_gP 6 1)) else none) else (bif Nat.beq pc 110 then some (.inl (o_il 8 2)) else none)))))) else (bif Nat.ble pc 128 then (bif Nat.ble pc 116 then (bif Nat.ble pc 113 then (bif Nat.ble pc 112 then (bif Nat.beq pc 112 then some (.inl (o_iald)) else none) else (bif Nat.beq pc 113 then some (.inl (o_il 7 2)) else none)) else (bif Nat.ble pc 115 then (bif Nat.beq pc 115 then some (.inl (oS 1 (s_ii (fun a b => a - b)))) else none) else (bif Nat.beq pc 116 then some (.inr (3, 42, 2, 3)) else none))) else (bif Nat.ble pc 120 then (bif Nat.ble pc 119 then (bif Nat.beq pc 119 then some (.inl (o_al 0 1)) else none) else (bif Nat.beq pc 120 then some (.inl (o_gP 9 5)) else none)) else (bif Nat.ble pc 123 then (bif Nat.beq pc 123 then some (.inl (o_gP 6 0)) else none) else (bif Nat.ble pc 126 then (bif Nat.beq pc 126 then some (.inl (o_il 8 2)) else none) else (bif Nat.beq pc 128 then some (.inl (o_iald)) else none))))) else (bif Nat.ble pc 138 then (bif Nat.ble pc 131 then (bif Nat.ble pc 129 then (bif Nat.beq pc 129 then some (.inl (o_is 6 2)) else none) else (bif Nat.beq pc 131 then some (.inl (o_al 0 1)) else none)) else (bif Nat.ble pc 132 then (bif Nat.beq pc 132 then some (.inl (o_gP 9 5)) else none) else (bif Nat.ble pc 135 then (bif Nat.beq pc 135 then some (.inl (o_gP 6 1)) else none) else (bif Nat.beq pc 138 then some (.inl (o_il 8 2)) else none)))) else (bif Nat.ble pc 141 then (bif Nat.ble pc 140 then (bif Nat.beq pc 140 then some (.inl (o_iald)) else none) else (bif Nat.beq pc 141 then some (.inl (o_is 7 2)) else none)) else (bif Nat.ble pc 143 then (bif Nat.beq pc 143 then some (.inl (o_inc 8 1)) else none) else (bif Nat.ble pc 146 then (bif Nat.beq pc 146 then some (.inl (o_goto 44)) else none) else (bif Nat.beq pc 149 then some (.inr (0, 0, 0, 3)) else none)))))))
theorem k_90_0 : mOk M_90.1 M_90.2.1 M_90.2.2.1 M_90.2.2.2 0 (o_il 3 1) := ok_iload_n dX9_write_0 rfl
theorem k_90_1 : mOk M_90.1 M_90.2.1 M_90.2.2.1 M_90.2.2.2 1 (o_is 6 2) := ok_istore dX9_write_1
theorem k_90_3 : mOk M_90.1 M_90.2.1 M_90.2.2.1 M_90.2.2.2 3 (o_il 4 2) := ok_iload dX9_write_3
theorem k_90_5 : mOk M_90.1 M_90.2.1 M_90.2.2.1 M_90.2.2.2 5 (o_is 7 2) := ok_istore dX9_write_5
theorem k_90_7 : mOk M_90.1 M_90.2.1 M_90.2.2.1 M_90.2.2.2 7 (o_al 5 2) := ok_aload dX9_write_7
theorem k_90_9 : mOk M_90.1 M_90.2.1 M_90.2.2.1 M_90.2.2.2 9 (o_il 2 1) := ok_iload_n dX9_write_9 rfl
theorem k_90_13 : mOk M_90.1 M_90.2.1 M_90.2.2.1 M_90.2.2.2 13 (o_al 5 2) := ok_aload dX9_write_13
theorem k_90_15 : mOk M_90.1 M_90.2.1 M_90.2.2.1 M_90.2.2.2 15 (o_al 1 1) := ok_aload_n dX9_write_15 rfl
theorem k_90_16 : mOk M_90.1 M_90.2.1 M_90.2.2.1 M_90.2.2.2 16 (o_gI 2 1) := ok_gI dX9_write_16 f_RX9_77 (Or.inl rfl)
theorem k_90_19 : mOk M_90.1 M_90.2.1 M_90.2.2.1 M_90.2.2.2 19 (oS 1 (s_push (.int 4))) := ok_iconst dX9_write_19 (by decide)
theorem k_90_20 : mOk M_90.1 M_90.2.1 M_90.2.2.1 M_90.2.2.2 20 (o_al 1 1) := ok_aload_n dX9_write_20 rfl
theorem k_90_21 : mOk M_90.1 M_90.2.1 M_90.2.2.1 M_90.2.2.2 21 (o_gI 2 2) := ok_gI dX9_write_21 f_RX9_151 (Or.inl rfl)
theorem k_90_24 : mOk M_90.1 M_90.2.1 M_90.2.2.1 M_90.2.2.2 24 (oS 1 (s_ii (fun a b => a * b))) := ok_imul dX9_write_24
theorem k_90_25 : mOk M_90.1 M_90.2.1 M_90.2.2.1 M_90.2.2.2 25 (oS 1 (s_ii (fun a b => a + b))) := ok_iadd dX9_write_25
theorem k_90_29 : mOk M_90.1 M_90.2.1 M_90.2.2.1 M_90.2.2.2 29 (o_al 5 2) := ok_aload dX9_write_29
theorem k_90_31 : mOk M_90.1 M_90.2.1 M_90.2.2.1 M_90.2.2.2 31 (o_al 0 1) := ok_aload_n dX9_write_31 rfl
theorem k_90_32 : mOk M_90.1 M_90.2.1 M_90.2.2.1 M_90.2.2.2 32 (o_gP 9 5) := ok_gP dX9_write_32 f_RX9_28 rfl
theorem k_90_41 : mOk M_90.1 M_90.2.1 M_90.2.2.1 M_90.2.2.2 41 (oS 1 (s_push (.int 0))) := ok_iconst dX9_write_41 (by decide)
theorem k_90_42 : mOk M_90.1 M_90.2.1 M_90.2.2.1 M_90.2.2.2 42 (o_is 8 2) := ok_istore dX9_write_42
theorem k_90_44 : mOk M_90.1 M_90.2.1 M_90.2.2.1 M_90.2.2.2 44 (o_il 8 2) := ok_iload dX9_write_44
theorem k_90_46 : mOk M_90.1 M_90.2.1 M_90.2.2.1 M_90.2.2.2 46 (o_al 0 1) := ok_aload_n dX9_write_46 rfl
theorem k_90_47 : mOk M_90.1 M_90.2.1 M_90.2.2.1 M_90.2.2.2 47 (o_gP 9 5) := ok_gP dX9_write_47 f_RX9_28 rfl
theorem k_90_50 : mOk M_90.1 M_90.2.1 M_90.2.2.1 M_90.2.2.2 50 (o_gI 6 3) := ok_gI dX9_write_50 f_RX9_51 (Or.inl rfl)
theorem k_90_53 : mOk M_90.1 M_90.2.1 M_90.2.2.1 M_90.2.2.2 53 (o_cge 149) := ok_cge dX9_write_53 (by decide)
theorem k_90_56 : mOk M_90.1 M_90.2.1 M_90.2.2.1 M_90.2.2.2 56 (o_al 0 1) := ok_aload_n dX9_write_56 rfl
theorem k_90_57 : mOk M_90.1 M_90.2.1 M_90.2.2.1 M_90.2.2.2 57 (o_gP 9 5) := ok_gP dX9_write_57 f_RX9_28 rfl
theorem k_90_60 : mOk M_90.1 M_90.2.1 M_90.2.2.1 M_90.2.2.2 60 (o_gP 6 2) := ok_gP dX9_write_60 f_RX9_160 rfl
theorem k_90_63 : mOk M_90.1 M_90.2.1 M_90.2.2.1 M_90.2.2.2 63 (o_il 8 2) := ok_iload dX9_write_63
theorem k_90_65 : mOk M_90.1 M_90.2.1 M_90.2.2.1 M_90.2.2.2 65 (o_bald) := ok_bald dX9_write_65
theorem k_90_66 : mOk M_90.1 M_90.2.1 M_90.2.2.1 M_90.2.2.2 66 (o_zeq 83) := ok_zeq dX9_write_66 (by decide)
theorem k_90_69 : mOk M_90.1 M_90.2.1 M_90.2.2.1 M_90.2.2.2 69 (o_al 5 2) := ok_aload dX9_write_69
theorem k_90_71 : mOk M_90.1 M_90.2.1 M_90.2.2.1 M_90.2.2.2 71 (o_al 0 1) := ok_aload_n dX9_write_71 rfl
theorem k_90_72 : mOk M_90.1 M_90.2.1 M_90.2.2.1 M_90.2.2.2 72 (o_gP 9 5) := ok_gP dX9_write_72 f_RX9_28 rfl
theorem k_90_75 : mOk M_90.1 M_90.2.1 M_90.2.2.1 M_90.2.2.2 75 (o_il 8 2) := ok_iload dX9_write_75
theorem k_90_83 : mOk M_90.1 M_90.2.1 M_90.2.2.1 M_90.2.2.2 83 (o_al 5 2) := ok_aload dX9_write_83
theorem k_90_85 : mOk M_90.1 M_90.2.1 M_90.2.2.1 M_90.2.2.2 85 (o_al 0 1) := ok_aload_n dX9_write_85 rfl
theorem k_90_86 : mOk M_90.1 M_90.2.1 M_90.2.2.1 M_90.2.2.2 86 (o_gP 9 5) := ok_gP dX9_write_86 f_RX9_28 rfl
theorem k_90_89 : mOk M_90.1 M_90.2.1 M_90.2.2.1 M_90.2.2.2 89 (o_gP 6 0) := ok_gP dX9_write_89 f_RX9_80 rfl
theorem k_90_92 : mOk M_90.1 M_90.2.1 M_90.2.2.1 M_90.2.2.2 92 (o_il 8 2) := ok_iload dX9_write_92
theorem k_90_94 : mOk M_90.1 M_90.2.1 M_90.2.2.1 M_90.2.2.2 94 (o_iald) := ok_iald dX9_write_94
theorem k_90_95 : mOk M_90.1 M_90.2.1 M_90.2.2.1 M_90.2.2.2 95 (o_il 6 2) := ok_iload dX9_write_95
theorem k_90_97 : mOk M_90.1 M_90.2.1 M_90.2.2.1 M_90.2.2.2 97 (oS 1 (s_ii (fun a b => a - b))) := ok_isub dX9_write_97
theorem k_90_101 : mOk M_90.1 M_90.2.1 M_90.2.2.1 M_90.2.2.2 101 (o_al 5 2) := ok_aload dX9_write_101
theorem k_90_103 : mOk M_90.1 M_90.2.1 M_90.2.2.1 M_90.2.2.2 103 (o_al 0 1) := ok_aload_n dX9_write_103 rfl
theorem k_90_104 : mOk M_90.1 M_90.2.1 M_90.2.2.1 M_90.2.2.2 104 (o_gP 9 5) := ok_gP dX9_write_104 f_RX9_28 rfl
theorem k_90_107 : mOk M_90.1 M_90.2.1 M_90.2.2.1 M_90.2.2.2 107 (o_gP 6 1) := ok_gP dX9_write_107 f_RX9_81 rfl
theorem k_90_110 : mOk M_90.1 M_90.2.1 M_90.2.2.1 M_90.2.2.2 110 (o_il 8 2) := ok_iload dX9_write_110
theorem k_90_112 : mOk M_90.1 M_90.2.1 M_90.2.2.1 M_90.2.2.2 112 (o_iald) := ok_iald dX9_write_112
theorem k_90_113 : mOk M_90.1 M_90.2.1 M_90.2.2.1 M_90.2.2.2 113 (o_il 7 2) := ok_iload dX9_write_113
theorem k_90_115 : mOk M_90.1 M_90.2.1 M_90.2.2.1 M_90.2.2.2 115 (oS 1 (s_ii (fun a b => a - b))) := ok_isub dX9_write_115
theorem k_90_119 : mOk M_90.1 M_90.2.1 M_90.2.2.1 M_90.2.2.2 119 (o_al 0 1) := ok_aload_n dX9_write_119 rfl
theorem k_90_120 : mOk M_90.1 M_90.2.1 M_90.2.2.1 M_90.2.2.2 120 (o_gP 9 5) := ok_gP dX9_write_120 f_RX9_28 rfl
theorem k_90_123 : mOk M_90.1 M_90.2.1 M_90.2.2.1 M_90.2.2.2 123 (o_gP 6 0) := ok_gP dX9_write_123 f_RX9_80 rfl
theorem k_90_126 : mOk M_90.1 M_90.2.1 M_90.2.2.1 M_90.2.2.2 126 (o_il 8 2) := ok_iload dX9_write_126
theorem k_90_128 : mOk M_90.1 M_90.2.1 M_90.2.2.1 M_90.2.2.2 128 (o_iald) := ok_iald dX9_write_128
theorem k_90_129 : mOk M_90.1 M_90.2.1 M_90.2.2.1 M_90.2.2.2 129 (o_is 6 2) := ok_istore dX9_write_129
theorem k_90_131 : mOk M_90.1 M_90.2.1 M_90.2.2.1 M_90.2.2.2 131 (o_al 0 1) := ok_aload_n dX9_write_131 rfl
theorem k_90_132 : mOk M_90.1 M_90.2.1 M_90.2.2.1 M_90.2.2.2 132 (o_gP 9 5) := ok_gP dX9_write_132 f_RX9_28 rfl
theorem k_90_135 : mOk M_90.1 M_90.2.1 M_90.2.2.1 M_90.2.2.2 135 (o_gP 6 1) := ok_gP dX9_write_135 f_RX9_81 rfl
theorem k_90_138 : mOk M_90.1 M_90.2.1 M_90.2.2.1 M_90.2.2.2 138 (o_il 8 2) := ok_iload dX9_write_138
theorem k_90_140 : mOk M_90.1 M_90.2.1 M_90.2.2.1 M_90.2.2.2 140 (o_iald) := ok_iald dX9_write_140
theorem k_90_141 : mOk M_90.1 M_90.2.1 M_90.2.2.1 M_90.2.2.2 141 (o_is 7 2) := ok_istore dX9_write_141
theorem k_90_143 : mOk M_90.1 M_90.2.1 M_90.2.2.1 M_90.2.2.2 143 (o_inc 8 1) := ok_iinc dX9_write_143 (by decide)
theorem k_90_146 : mOk M_90.1 M_90.2.1 M_90.2.2.1 M_90.2.2.2 146 (o_goto 44) := ok_goto dX9_write_146 (by decide)
set_option maxRecDepth 20000 in
set_option maxHeartbeats 4000000 in
theorem tk_90 (l : Launch) (H9 : mThr l) (H10 : mSpl l) (pc : Nat) (q : mEnt) (h : tb_90 pc = some q) : EE l 90 pc q := nd h (fun h => nd h (fun h => nd h (fun h => nd h (fun h => nd h (fun h => nd h (fun h => lf (P := EE l 90) h k_90_0) (fun h => lf (P := EE l 90) h k_90_1)) (fun h => nd h (fun h => lf (P := EE l 90) h k_90_3) (fun h => lf (P := EE l 90) h k_90_5))) (fun h => nd h (fun h => nd h (fun h => lf (P := EE l 90) h k_90_7) (fun h => lf (P := EE l 90) h k_90_9)) (fun h => nd h (fun h => lf (P := EE l 90) h (EE_ca (by decide) (⟨m_830, m_77, ⟨by decide, by decide⟩, by decide +kernel, ⟨by decide, by decide⟩, 148, 1, by decide +kernel, Or.inr (Or.inr (Or.inl ⟨rfl, rfl, dX9_write_10, m_827, m_828, _, rfl, by decide, m_829⟩))⟩) rfl)) (fun h => nd h (fun h => lf (P := EE l 90) h k_90_13) (fun h => lf (P := EE l 90) h k_90_15))))) (fun h => nd h (fun h => nd h (fun h => nd h (fun h => lf (P := EE l 90) h k_90_16) (fun h => lf (P := EE l 90) h k_90_19)) (fun h => nd h (fun h => lf (P := EE l 90) h k_90_20) (fun h => lf (P := EE l 90) h k_90_21))) (fun h => nd h (fun h => nd h (fun h => lf (P := EE l 90) h k_90_24) (fun h => lf (P := EE l 90) h k_90_25)) (fun h => nd h (fun h => lf (P := EE l 90) h (EE_ca (by decide) (⟨m_834, m_77, ⟨by decide, by decide⟩, by decide +kernel, ⟨by decide, by decide⟩, 154, 1, by decide +kernel, Or.inr (Or.inr (Or.inl ⟨rfl, rfl, dX9_write_26, m_835, m_832, _, rfl, by decide, m_833⟩))⟩) rfl)) (fun h => nd h (fun h => lf (P := EE l 90) h k_90_29) (fun h => lf (P := EE l 90) h k_90_31)))))) (fun h => nd h (fun h => nd h (fun h => nd h (fun h => nd h (fun h => lf (P := EE l 90) h k_90_32) (fun h => lf (P := EE l 90) h (EE_ca (by decide) (⟨m_839, m_75, ⟨by decide, by decide⟩, by decide +kernel, ⟨by decide, by decide⟩, 156, 0, by decide +kernel, Or.inr (Or.inr (Or.inl ⟨rfl, rfl, dX9_write_35, m_836, m_837, _, rfl, by decide, m_838⟩))⟩) rfl))) (fun h => nd h (fun h => lf (P := EE l 90) h (EE_ca (by decide) (⟨m_830, m_77, ⟨by decide, by decide⟩, by decide +kernel, ⟨by decide, by decide⟩, 148, 1, by decide +kernel, Or.inr (Or.inr (Or.inl ⟨rfl, rfl, dX9_write_38, m_827, m_828, _, rfl, by decide, m_829⟩))⟩) rfl)) (fun h => lf (P := EE l 90) h k_90_41))) (fun h => nd h (fun h => nd h (fun h => lf (P := EE l 90) h k_90_42) (fun h => lf (P := EE l 90) h k_90_44)) (fun h => nd h (fun h => lf (P := EE l 90) h k_90_46) (fun h => nd h (fun h => lf (P := EE l 90) h k_90_47) (fun h => lf (P := EE l 90) h k_90_50))))) (fun h => nd h (fun h => nd h (fun h => nd h (fun h => lf (P := EE l 90) h k_90_53) (fun h => lf (P := EE l 90) h k_90_56)) (fun h => nd h (fun h => lf (P := EE l 90) h k_90_57) (fun h => lf (P := EE l 90) h k_90_60))) (fun h => nd h (fun h => nd h (fun h => lf (P := EE l 90) h k_90_63) (fun h => lf (P := EE l 90) h k_90_65)) (fun h => nd h (fun h => lf (P := EE l 90) h k_90_66) (fun h => nd h (fun h => lf (P := EE l 90) h k_90_69) (fun h => lf (P := EE l 90) h k_90_71))))))) (fun h => nd h (fun h => nd h (fun h => nd h (fun h => nd h (fun h => nd h (fun h => lf (P := EE l 90) h k_90_72) (fun h => lf (P := EE l 90) h k_90_75)) (fun h => nd h (fun h => lf (P := EE l 90) h (EE_ca (by decide) (⟨m_843, m_75, ⟨by decide, by decide⟩, by decide +kernel, ⟨by decide, by decide⟩, 163, 1, by decide +kernel, Or.inr (Or.inr (Or.inl ⟨rfl, rfl, dX9_write_77, m_840, m_841, _, rfl, by decide, m_842⟩))⟩) rfl)) (fun h => lf (P := EE l 90) h (EE_ca (by decide) (⟨m_830, m_77, ⟨by decide, by decide⟩, by decide +kernel, ⟨by decide, by decide⟩, 148, 1, by decide +kernel, Or.inr (Or.inr (Or.inl ⟨rfl, rfl, dX9_write_80, m_827, m_828, _, rfl, by decide, m_829⟩))⟩) rfl)))) (fun h => nd h (fun h => nd h (fun h => lf (P := EE l 90) h k_90_83) (fun h => lf (P := EE l 90) h k_90_85)) (fun h => nd h (fun h => lf (P := EE l 90) h k_90_86) (fun h => nd h (fun h => lf (P := EE l 90) h k_90_89) (fun h => lf (P := EE l 90) h k_90_92))))) (fun h => nd h (fun h => nd h (fun h => nd h (fun h => lf (P := EE l 90) h k_90_94) (fun h => lf (P := EE l 90) h k_90_95)) (fun h => nd h (fun h => lf (P := EE l 90) h k_90_97) (fun h => lf (P := EE l 90) h (EE_ca (by decide) (⟨m_847, m_77, ⟨by decide, by decide⟩, by decide +kernel, ⟨by decide, by decide⟩, 166, 1, by decide +kernel, Or.inr (Or.inr (Or.inl ⟨rfl, rfl, dX9_write_98, m_844, m_845, _, rfl, by decide, m_846⟩))⟩) rfl)))) (fun h => nd h (fun h => nd h (fun h => lf (P := EE l 90) h k_90_101) (fun h => lf (P := EE l 90) h k_90_103)) (fun h => nd h (fun h => lf (P := EE l 90) h k_90_104) (fun h => nd h (fun h => lf (P := EE l 90) h k_90_107) (fun h => lf (P := EE l 90) h k_90_110)))))) (fun h => nd h (fun h => nd h (fun h => nd h (fun h => nd h (fun h => lf (P := EE l 90) h k_90_112) (fun h => lf (P := EE l 90) h k_90_113)) (fun h => nd h (fun h => lf (P := EE l 90) h k_90_115) (fun h => lf (P := EE l 90) h (EE_ca (by decide) (⟨m_847, m_77, ⟨by decide, by decide⟩, by decide +kernel, ⟨by decide, by decide⟩, 166, 1, by decide +kernel, Or.inr (Or.inr (Or.inl ⟨rfl, rfl, dX9_write_116, m_844, m_845, _, rfl, by decide, m_846⟩))⟩) rfl)))) (fun h => nd h (fun h => nd h (fun h => lf (P := EE l 90) h k_90_119) (fun h => lf (P := EE l 90) h k_90_120)) (fun h => nd h (fun h => lf (P := EE l 90) h k_90_123) (fun h => nd h (fun h => lf (P := EE l 90) h k_90_126) (fun h => lf (P := EE l 90) h k_90_128))))) (fun h => nd h (fun h => nd h (fun h => nd h (fun h => lf (P := EE l 90) h k_90_129) (fun h => lf (P := EE l 90) h k_90_131)) (fun h => nd h (fun h => lf (P := EE l 90) h k_90_132) (fun h => nd h (fun h => lf (P := EE l 90) h k_90_135) (fun h => lf (P := EE l 90) h k_90_138)))) (fun h => nd h (fun h => nd h (fun h => lf (P := EE l 90) h k_90_140) (fun h => lf (P := EE l 90) h k_90_141)) (fun h => nd h (fun h => lf (P := EE l 90) h k_90_143) (fun h => nd h (fun h => lf (P := EE l 90) h k_90_146) (fun h => lf (P := EE l 90) h (EE_re (Or.inr (Or.inr (Or.inr (Or.inr ⟨rfl, dX9_write_149, rfl⟩))))))))))))
