/-! tables of X4 (written by a program) -/
theorem dX4_init_0 : decode cX4_init 0 = .ok (.aload_n 0, 1) := by decide +kernel
theorem dX4_init_1 : decode cX4_init 1 = .ok (.invokespecial 3, 3) := by decide +kernel
theorem dX4_init_4 : decode cX4_init 4 = .ok (.aload_n 0, 1) := by decide +kernel
theorem dX4_init_5 : decode cX4_init 5 = .ok (.new 9, 3) := by decide +kernel
theorem dX4_init_8 : decode cX4_init 8 = .ok (.dup, 1) := by decide +kernel
theorem dX4_init_9 : decode cX4_init 9 = .ok (.invokespecial 11, 3) := by decide +kernel
theorem dX4_init_12 : decode cX4_init 12 = .ok (.putfield 12, 3) := by decide +kernel
theorem dX4_init_15 : decode cX4_init 15 = .ok (.aload_n 0, 1) := by decide +kernel
theorem dX4_init_16 : decode cX4_init 16 = .ok (.new 18, 3) := by decide +kernel
theorem dX4_init_19 : decode cX4_init 19 = .ok (.dup, 1) := by decide +kernel
theorem dX4_init_20 : decode cX4_init 20 = .ok (.invokespecial 20, 3) := by decide +kernel
theorem dX4_init_23 : decode cX4_init 23 = .ok (.putfield 21, 3) := by decide +kernel
theorem dX4_init_26 : decode cX4_init 26 = .ok (.aload_n 0, 1) := by decide +kernel
theorem dX4_init_27 : decode cX4_init 27 = .ok (.bipush 100, 2) := by decide +kernel
theorem dX4_init_29 : decode cX4_init 29 = .ok (.newarray .int, 2) := by decide +kernel
theorem dX4_init_31 : decode cX4_init 31 = .ok (.putfield 25, 3) := by decide +kernel
theorem dX4_init_34 : decode cX4_init 34 = .ok (.aload_n 0, 1) := by decide +kernel
theorem dX4_init_35 : decode cX4_init 35 = .ok (.bipush 100, 2) := by decide +kernel
theorem dX4_init_37 : decode cX4_init 37 = .ok (.newarray .int, 2) := by decide +kernel
theorem dX4_init_39 : decode cX4_init 39 = .ok (.putfield 29, 3) := by decide +kernel
theorem dX4_init_42 : decode cX4_init 42 = .ok (.aload_n 0, 1) := by decide +kernel
theorem dX4_init_43 : decode cX4_init 43 = .ok (.bipush 100, 2) := by decide +kernel
theorem dX4_init_45 : decode cX4_init 45 = .ok (.newarray .int, 2) := by decide +kernel
theorem dX4_init_47 : decode cX4_init 47 = .ok (.putfield 32, 3) := by decide +kernel
theorem dX4_init_50 : decode cX4_init 50 = .ok (.aload_n 0, 1) := by decide +kernel
theorem dX4_init_51 : decode cX4_init 51 = .ok (.bipush 100, 2) := by decide +kernel
theorem dX4_init_53 : decode cX4_init 53 = .ok (.newarray .int, 2) := by decide +kernel
theorem dX4_init_55 : decode cX4_init 55 = .ok (.putfield 35, 3) := by decide +kernel
theorem dX4_init_58 : decode cX4_init 58 = .ok (.aload_n 0, 1) := by decide +kernel
theorem dX4_init_59 : decode cX4_init 59 = .ok (.bipush 100, 2) := by decide +kernel
theorem dX4_init_61 : decode cX4_init 61 = .ok (.newarray .int, 2) := by decide +kernel
theorem dX4_init_63 : decode cX4_init 63 = .ok (.putfield 38, 3) := by decide +kernel
theorem dX4_init_66 : decode cX4_init 66 = .ok (.aload_n 0, 1) := by decide +kernel
theorem dX4_init_67 : decode cX4_init 67 = .ok (.bipush 100, 2) := by decide +kernel
theorem dX4_init_69 : decode cX4_init 69 = .ok (.newarray .int, 2) := by decide +kernel
theorem dX4_init_71 : decode cX4_init 71 = .ok (.putfield 41, 3) := by decide +kernel
theorem dX4_init_74 : decode cX4_init 74 = .ok (.aload_n 0, 1) := by decide +kernel
theorem dX4_init_75 : decode cX4_init 75 = .ok (.bipush 100, 2) := by decide +kernel
theorem dX4_init_77 : decode cX4_init 77 = .ok (.newarray .int, 2) := by decide +kernel
theorem dX4_init_79 : decode cX4_init 79 = .ok (.putfield 44, 3) := by decide +kernel
theorem dX4_init_82 : decode cX4_init 82 = .ok (.aload_n 0, 1) := by decide +kernel
theorem dX4_init_83 : decode cX4_init 83 = .ok (.sipush 5000, 3) := by decide +kernel
theorem dX4_init_86 : decode cX4_init 86 = .ok (.newarray .byte, 2) := by decide +kernel
theorem dX4_init_88 : decode cX4_init 88 = .ok (.putfield 47, 3) := by decide +kernel
theorem dX4_init_91 : decode cX4_init 91 = .ok (.return_, 1) := by decide +kernel
def tb_43 (pc : Nat) : Option mEnt := bif Nat.ble pc 43 then (bif Nat.ble pc 20 then (bif Nat.ble pc 8 then (bif Nat.ble pc 1 then (bif Nat.ble pc 0 then (bif Nat.beq pc 0 then some (.inl (o_al 0 1)) else none) else (bif Nat.beq pc 1 then some (.inr (5, 0, 0, 0)) else none)) else (bif Nat.ble pc 4 then (bif Nat.beq pc 4 then some (.inl (o_al 0 1)) else none) else (bif Nat.ble pc 5 then (bif Nat.beq pc 5 then some (.inl (o_new 7)) else none) else (bif Nat.beq pc 8 then some (.inl (oS 1 s_dup)) else none)))) else (bif Nat.ble pc 15 then (bif Nat.ble pc 9 then (bif Nat.beq pc 9 then some (.inr (7, 70, 1, 7)) else none) else (bif Nat.ble pc 12 then (bif Nat.beq pc 12 then some (.inl (o_pP 4 1)) else none) else (bif Nat.beq pc 15 then some (.inl (o_al 0 1)) else none))) else (bif Nat.ble pc 16 then (bif Nat.beq pc 16 then some (.inl (o_new 1)) else none) else (bif Nat.ble pc 19 then (bif Nat.beq pc 19 then some (.inl (oS 1 s_dup)) else none) else (bif Nat.beq pc 20 then some (.inr (4, 3, 1, 1)) else none))))) else (bif Nat.ble pc 31 then (bif Nat.ble pc 26 then (bif Nat.ble pc 23 then (bif Nat.beq pc 23 then some (.inl (o_pP 4 2)) else none) else (bif Nat.beq pc 26 then some (.inl (o_al 0 1)) else none)) else (bif Nat.ble pc 27 then (bif Nat.beq pc 27 then some (.inl (oS 2 (s_push (.int 100)))) else none) else (bif Nat.ble pc 29 then (bif Nat.beq pc 29 then some (.inl (o_newa 1)) else none) else (bif Nat.beq pc 31 then some (.inl (o_pP 4 6)) else none)))) else (bif Nat.ble pc 37 then (bif Nat.ble pc 34 then (bif Nat.beq pc 34 then some (.inl (o_al 0 1)) else none) else (bif Nat.ble pc 35 then (bif Nat.beq pc 35 then some (.inl (oS 2 (s_push (.int 100)))) else none) else (bif Nat.beq pc 37 then some (.inl (o_newa 1)) else none))) else (bif Nat.ble pc 39 then (bif Nat.beq pc 39 then some (.inl (o_pP 4 7)) else none) else (bif Nat.ble pc 42 then (bif Nat.beq pc 42 then some (.inl (o_al 0 1)) else none) else (bif Nat.beq pc 43 then some (.inl (oS 2 (s_push (.int 100)))) else none)))))) else (bif Nat.ble pc 66 then (bif Nat.ble pc 53 then (bif Nat.ble pc 47 then (bif Nat.ble pc 45 then (bif Nat.beq pc 45 then some (.inl (o_newa 1)) else none) else (bif Nat.beq pc 47 then some (.inl (o_pP 4 8)) else none)) else (bif Nat.ble pc 50 then (bif Nat.beq pc 50 then some (.inl (o_al 0 1)) else none) else (bif Nat.ble pc 51 then (bif Nat.beq pc 51 then some (.inl (oS 2 (s_push (.int 100)))) else none) else (bif Nat.beq pc 53 then some (.inl (o_newa 1)) else none)))) else (bif Nat.ble pc 59 then (bif Nat.ble pc 55 then (bif Nat.beq pc 55 then some (.inl (o_pP 4 9)) else none) else (bif Nat.ble pc 58 then (bif Nat.beq pc 58 then some (.inl (o_al 0 1)) else none) else (bif Nat.beq pc 59 then some (.inl (oS 2 (s_push (.int 100)))) else none))) else (bif Nat.ble pc 61 then (bif Nat.beq pc 61 then some (.inl (o_newa 1)) else none) else (bif Nat.ble pc 63 then (bif Nat.beq pc 63 then some (.inl (o_pP 4 10)) else none) else (bif Nat.beq pc 66 then some (.inl (o_al 0 1)) else none))))) else (bif Nat.ble pc 77 then (bif Nat.ble pc 71 then (bif Nat.ble pc 67 then (bif Nat.beq pc 67 then some (.inl (oS 2 (s_push (.int 100)))) else none) else (bif Nat.ble pc 69 then (bif Nat.beq pc 69 then some (.inl (o_newa 1)) else none) else (bif Nat.beq pc 71 then some (.inl (o_pP 4 11)) else none))) else (bif Nat.ble pc 74 then (bif Nat.beq pc 74 then some (.inl (o_al 0 1)) else none) else (bif Nat.ble pc 75 then (bif Nat.beq pc 75 then some (.inl (oS 2 (s_push (.int 100)))) else none) else (bif Nat.beq pc 77 then some (.inl (o_newa 1)) else none)))) else (bif Nat.ble pc 83 then (bif Nat.ble pc 79 then (bif Nat.beq pc 79 then some (.inl (o_pP 4 12)) else none) else (bif Nat.ble pc 82 then (bif Nat.beq pc 82 then some (.inl (o_al 0 1)) else none) else (bif Nat.beq pc 83 then some (.inl (oS 3 (s_push (.int 5000)))) else none))) else (bif Nat.ble pc 86 then (bif Nat.beq pc 86 then some (.inl (o_newa 0)) else none) else (bif Nat.ble pc 88 then (bif Nat.beq pc 88 then some (.inl (o_pP 4 13)) else none) else (bif Nat.beq pc 91 then some (.inr (0, 0, 0, 3)) else none))))))
theorem k_43_0 : mOk M_43.1 M_43.2.1 M_43.2.2.1 M_43.2.2.2 0 (o_al 0 1) := ok_aload_n dX4_init_0 rfl
theorem k_43_4 : mOk M_43.1 M_43.2.1 M_43.2.2.1 M_43.2.2.2 4 (o_al 0 1) := ok_aload_n dX4_init_4 rfl
theorem k_43_5 : mOk M_43.1 M_43.2.1 M_43.2.2.1 M_43.2.2.2 5 (o_new 7) := ok_new dX4_init_5 cl_7 rfl m_315 m_286 m_78
theorem k_43_8 : mOk M_43.1 M_43.2.1 M_43.2.2.1 M_43.2.2.2 8 (oS 1 s_dup) := ok_dup dX4_init_8
theorem k_43_12 : mOk M_43.1 M_43.2.1 M_43.2.2.1 M_43.2.2.2 12 (o_pP 4 1) := ok_pP dX4_init_12 (mFw_of f_RX4_12_c (Or.inr ⟨rfl, rfl, rfl⟩)) rfl
theorem k_43_15 : mOk M_43.1 M_43.2.1 M_43.2.2.1 M_43.2.2.2 15 (o_al 0 1) := ok_aload_n dX4_init_15 rfl
theorem k_43_16 : mOk M_43.1 M_43.2.1 M_43.2.2.1 M_43.2.2.2 16 (o_new 1) := ok_new dX4_init_16 cl_1 rfl m_317 m_147 m_72
theorem k_43_19 : mOk M_43.1 M_43.2.1 M_43.2.2.1 M_43.2.2.2 19 (oS 1 s_dup) := ok_dup dX4_init_19
theorem k_43_23 : mOk M_43.1 M_43.2.1 M_43.2.2.1 M_43.2.2.2 23 (o_pP 4 2) := ok_pP dX4_init_23 (mFw_of f_RX4_21_c (Or.inr ⟨rfl, rfl, rfl⟩)) rfl
theorem k_43_26 : mOk M_43.1 M_43.2.1 M_43.2.2.1 M_43.2.2.2 26 (o_al 0 1) := ok_aload_n dX4_init_26 rfl
theorem k_43_27 : mOk M_43.1 M_43.2.1 M_43.2.2.1 M_43.2.2.2 27 (oS 2 (s_push (.int 100))) := ok_bipush dX4_init_27 (by decide)
theorem k_43_29 : mOk M_43.1 M_43.2.1 M_43.2.2.1 M_43.2.2.2 29 (o_newa 1) := ok_newa dX4_init_29 (by decide) m_145 (fun _ => rfl) (fun _ _ h => h) (by decide) rfl
theorem k_43_31 : mOk M_43.1 M_43.2.1 M_43.2.2.1 M_43.2.2.2 31 (o_pP 4 6) := ok_pP dX4_init_31 (mFw_of f_RX4_25_c (Or.inr ⟨rfl, rfl, rfl⟩)) rfl
theorem k_43_34 : mOk M_43.1 M_43.2.1 M_43.2.2.1 M_43.2.2.2 34 (o_al 0 1) := ok_aload_n dX4_init_34 rfl
theorem k_43_35 : mOk M_43.1 M_43.2.1 M_43.2.2.1 M_43.2.2.2 35 (oS 2 (s_push (.int 100))) := ok_bipush dX4_init_35 (by decide)
theorem k_43_37 : mOk M_43.1 M_43.2.1 M_43.2.2.1 M_43.2.2.2 37 (o_newa 1) := ok_newa dX4_init_37 (by decide) m_145 (fun _ => rfl) (fun _ _ h => h) (by decide) rfl
theorem k_43_39 : mOk M_43.1 M_43.2.1 M_43.2.2.1 M_43.2.2.2 39 (o_pP 4 7) := ok_pP dX4_init_39 (mFw_of f_RX4_29_c (Or.inr ⟨rfl, rfl, rfl⟩)) rfl
theorem k_43_42 : mOk M_43.1 M_43.2.1 M_43.2.2.1 M_43.2.2.2 42 (o_al 0 1) := ok_aload_n dX4_init_42 rfl
theorem k_43_43 : mOk M_43.1 M_43.2.1 M_43.2.2.1 M_43.2.2.2 43 (oS 2 (s_push (.int 100))) := ok_bipush dX4_init_43 (by decide)
theorem k_43_45 : mOk M_43.1 M_43.2.1 M_43.2.2.1 M_43.2.2.2 45 (o_newa 1) := ok_newa dX4_init_45 (by decide) m_145 (fun _ => rfl) (fun _ _ h => h) (by decide) rfl
theorem k_43_47 : mOk M_43.1 M_43.2.1 M_43.2.2.1 M_43.2.2.2 47 (o_pP 4 8) := ok_pP dX4_init_47 (mFw_of f_RX4_32_c (Or.inr ⟨rfl, rfl, rfl⟩)) rfl
theorem k_43_50 : mOk M_43.1 M_43.2.1 M_43.2.2.1 M_43.2.2.2 50 (o_al 0 1) := ok_aload_n dX4_init_50 rfl
theorem k_43_51 : mOk M_43.1 M_43.2.1 M_43.2.2.1 M_43.2.2.2 51 (oS 2 (s_push (.int 100))) := ok_bipush dX4_init_51 (by decide)
theorem k_43_53 : mOk M_43.1 M_43.2.1 M_43.2.2.1 M_43.2.2.2 53 (o_newa 1) := ok_newa dX4_init_53 (by decide) m_145 (fun _ => rfl) (fun _ _ h => h) (by decide) rfl
theorem k_43_55 : mOk M_43.1 M_43.2.1 M_43.2.2.1 M_43.2.2.2 55 (o_pP 4 9) := ok_pP dX4_init_55 (mFw_of f_RX4_35_c (Or.inr ⟨rfl, rfl, rfl⟩)) rfl
theorem k_43_58 : mOk M_43.1 M_43.2.1 M_43.2.2.1 M_43.2.2.2 58 (o_al 0 1) := ok_aload_n dX4_init_58 rfl
theorem k_43_59 : mOk M_43.1 M_43.2.1 M_43.2.2.1 M_43.2.2.2 59 (oS 2 (s_push (.int 100))) := ok_bipush dX4_init_59 (by decide)
theorem k_43_61 : mOk M_43.1 M_43.2.1 M_43.2.2.1 M_43.2.2.2 61 (o_newa 1) := ok_newa dX4_init_61 (by decide) m_145 (fun _ => rfl) (fun _ _ h => h) (by decide) rfl
theorem k_43_63 : mOk M_43.1 M_43.2.1 M_43.2.2.1 M_43.2.2.2 63 (o_pP 4 10) := ok_pP dX4_init_63 (mFw_of f_RX4_38_c (Or.inr ⟨rfl, rfl, rfl⟩)) rfl
theorem k_43_66 : mOk M_43.1 M_43.2.1 M_43.2.2.1 M_43.2.2.2 66 (o_al 0 1) := ok_aload_n dX4_init_66 rfl
theorem k_43_67 : mOk M_43.1 M_43.2.1 M_43.2.2.1 M_43.2.2.2 67 (oS 2 (s_push (.int 100))) := ok_bipush dX4_init_67 (by decide)
theorem k_43_69 : mOk M_43.1 M_43.2.1 M_43.2.2.1 M_43.2.2.2 69 (o_newa 1) := ok_newa dX4_init_69 (by decide) m_145 (fun _ => rfl) (fun _ _ h => h) (by decide) rfl
theorem k_43_71 : mOk M_43.1 M_43.2.1 M_43.2.2.1 M_43.2.2.2 71 (o_pP 4 11) := ok_pP dX4_init_71 (mFw_of f_RX4_41_c (Or.inr ⟨rfl, rfl, rfl⟩)) rfl
theorem k_43_74 : mOk M_43.1 M_43.2.1 M_43.2.2.1 M_43.2.2.2 74 (o_al 0 1) := ok_aload_n dX4_init_74 rfl
theorem k_43_75 : mOk M_43.1 M_43.2.1 M_43.2.2.1 M_43.2.2.2 75 (oS 2 (s_push (.int 100))) := ok_bipush dX4_init_75 (by decide)
theorem k_43_77 : mOk M_43.1 M_43.2.1 M_43.2.2.1 M_43.2.2.2 77 (o_newa 1) := ok_newa dX4_init_77 (by decide) m_145 (fun _ => rfl) (fun _ _ h => h) (by decide) rfl
theorem k_43_79 : mOk M_43.1 M_43.2.1 M_43.2.2.1 M_43.2.2.2 79 (o_pP 4 12) := ok_pP dX4_init_79 (mFw_of f_RX4_44_c (Or.inr ⟨rfl, rfl, rfl⟩)) rfl
theorem k_43_82 : mOk M_43.1 M_43.2.1 M_43.2.2.1 M_43.2.2.2 82 (o_al 0 1) := ok_aload_n dX4_init_82 rfl
theorem k_43_83 : mOk M_43.1 M_43.2.1 M_43.2.2.1 M_43.2.2.2 83 (oS 3 (s_push (.int 5000))) := ok_sipush dX4_init_83 (by decide)
theorem k_43_86 : mOk M_43.1 M_43.2.1 M_43.2.2.1 M_43.2.2.2 86 (o_newa 0) := ok_newa dX4_init_86 (by decide) m_274 (fun _ => rfl) (fun _ _ h => h) (by decide) rfl
theorem k_43_88 : mOk M_43.1 M_43.2.1 M_43.2.2.1 M_43.2.2.2 88 (o_pP 4 13) := ok_pP dX4_init_88 (mFw_of f_RX4_47_c (Or.inr ⟨rfl, rfl, rfl⟩)) rfl
set_option maxRecDepth 20000 in
set_option maxHeartbeats 4000000 in
theorem tk_43 (l : Launch) (H9 : mThr l) (H10 : mSpl l) (pc : Nat) (q : mEnt) (h : tb_43 pc = some q) : EE l 43 pc q := nd h (fun h => nd h (fun h => nd h (fun h => nd h (fun h => nd h (fun h => lf (P := EE l 43) h k_43_0) (fun h => lf (P := EE l 43) h (EE_ob (⟨3, dX4_init_1, m_314, m_97, m_98, by decide, by decide⟩)))) (fun h => nd h (fun h => lf (P := EE l 43) h k_43_4) (fun h => nd h (fun h => lf (P := EE l 43) h k_43_5) (fun h => lf (P := EE l 43) h k_43_8)))) (fun h => nd h (fun h => nd h (fun h => lf (P := EE l 43) h (EE_ca (by decide) (⟨m_289, m_78, ⟨by decide, by decide⟩, by decide +kernel, ⟨by decide, by decide⟩, 11, 0, by decide +kernel, Or.inr (Or.inr (Or.inr (Or.inr ⟨rfl, rfl, dX4_init_9, ⟨"AtlasDesk", m_316⟩, m_288, rfl, rfl⟩)))⟩) rfl)) (fun h => nd h (fun h => lf (P := EE l 43) h k_43_12) (fun h => lf (P := EE l 43) h k_43_15))) (fun h => nd h (fun h => lf (P := EE l 43) h k_43_16) (fun h => nd h (fun h => lf (P := EE l 43) h k_43_19) (fun h => lf (P := EE l 43) h (EE_ca (by decide) (⟨m_150, m_72, ⟨by decide, by decide⟩, by decide +kernel, ⟨by decide, by decide⟩, 20, 0, by decide +kernel, Or.inr (Or.inr (Or.inr (Or.inl ⟨rfl, rfl, dX4_init_20, m_318, m_149, rfl, rfl⟩)))⟩) rfl)))))) (fun h => nd h (fun h => nd h (fun h => nd h (fun h => lf (P := EE l 43) h k_43_23) (fun h => lf (P := EE l 43) h k_43_26)) (fun h => nd h (fun h => lf (P := EE l 43) h k_43_27) (fun h => nd h (fun h => lf (P := EE l 43) h k_43_29) (fun h => lf (P := EE l 43) h k_43_31)))) (fun h => nd h (fun h => nd h (fun h => lf (P := EE l 43) h k_43_34) (fun h => nd h (fun h => lf (P := EE l 43) h k_43_35) (fun h => lf (P := EE l 43) h k_43_37))) (fun h => nd h (fun h => lf (P := EE l 43) h k_43_39) (fun h => nd h (fun h => lf (P := EE l 43) h k_43_42) (fun h => lf (P := EE l 43) h k_43_43)))))) (fun h => nd h (fun h => nd h (fun h => nd h (fun h => nd h (fun h => lf (P := EE l 43) h k_43_45) (fun h => lf (P := EE l 43) h k_43_47)) (fun h => nd h (fun h => lf (P := EE l 43) h k_43_50) (fun h => nd h (fun h => lf (P := EE l 43) h k_43_51) (fun h => lf (P := EE l 43) h k_43_53)))) (fun h => nd h (fun h => nd h (fun h => lf (P := EE l 43) h k_43_55) (fun h => nd h (fun h => lf (P := EE l 43) h k_43_58) (fun h => lf (P := EE l 43) h k_43_59))) (fun h => nd h (fun h => lf (P := EE l 43) h k_43_61) (fun h => nd h (fun h => lf (P := EE l 43) h k_43_63) (fun h => lf (P := EE l 43) h k_43_66))))) (fun h => nd h (fun h => nd h (fun h => nd h (fun h => lf (P := EE l 43) h k_43_67) (fun h => nd h (fun h => lf (P := EE l 43) h k_43_69) (fun h => lf (P := EE l 43) h k_43_71))) (fun h => nd h (fun h => lf (P := EE l 43) h k_43_74) (fun h => nd h (fun h => lf (P := EE l 43) h k_43_75) (fun h => lf (P := EE l 43) h k_43_77)))) (fun h => nd h (fun h => nd h (fun h => lf (P := EE l 43) h k_43_79) (fun h => nd h (fun h => lf (P := EE l 43) h k_43_82) (fun h => lf (P := EE l 43) h k_43_83))) (fun h => nd h (fun h => lf (P := EE l 43) h k_43_86) (fun h => nd h (fun h => lf (P := EE l 43) h k_43_88) (fun h => lf (P := EE l 43) h (EE_re (Or.inr (Or.inr (Or.inr (Or.inr ⟨rfl, dX4_init_91, rfl⟩)))))))))))
theorem dX4_clear_0 : decode cX4_clear 0 = .ok (.aload_n 0, 1) := by decide +kernel
theorem dX4_clear_1 : decode cX4_clear 1 = .ok (.iload_n 1, 1) := by decide +kernel
theorem dX4_clear_2 : decode cX4_clear 2 = .ok (.putfield 51, 3) := by decide +kernel
theorem dX4_clear_5 : decode cX4_clear 5 = .ok (.aload_n 0, 1) := by decide +kernel
theorem dX4_clear_6 : decode cX4_clear 6 = .ok (.getfield 12, 3) := by decide +kernel
theorem dX4_clear_9 : decode cX4_clear 9 = .ok (.aload_n 2, 1) := by decide +kernel
theorem dX4_clear_10 : decode cX4_clear 10 = .ok (.invokevirtual 55, 3) := by decide +kernel
theorem dX4_clear_13 : decode cX4_clear 13 = .ok (.aload_n 0, 1) := by decide +kernel
theorem dX4_clear_14 : decode cX4_clear 14 = .ok (.iconst 0, 1) := by decide +kernel
theorem dX4_clear_15 : decode cX4_clear 15 = .ok (.putfield 59, 3) := by decide +kernel
theorem dX4_clear_18 : decode cX4_clear 18 = .ok (.aload_n 0, 1) := by decide +kernel
theorem dX4_clear_19 : decode cX4_clear 19 = .ok (.iconst 0, 1) := by decide +kernel
theorem dX4_clear_20 : decode cX4_clear 20 = .ok (.putfield 62, 3) := by decide +kernel
theorem dX4_clear_23 : decode cX4_clear 23 = .ok (.aload_n 0, 1) := by decide +kernel
theorem dX4_clear_24 : decode cX4_clear 24 = .ok (.iconst 0, 1) := by decide +kernel
theorem dX4_clear_25 : decode cX4_clear 25 = .ok (.putfield 65, 3) := by decide +kernel
theorem dX4_clear_28 : decode cX4_clear 28 = .ok (.return_, 1) := by decide +kernel
def tb_44 (pc : Nat) : Option mEnt := bif Nat.ble pc 13 then (bif Nat.ble pc 5 then (bif Nat.ble pc 1 then (bif Nat.ble pc 0 then (bif Nat.beq pc 0 then some (.inl (o_al 0 1)) else none) else (bif Nat.beq pc 1 then some (.inl (o_il 1 1)) else none)) else (bif Nat.ble pc 2 then (bif Nat.beq pc 2 then some (.inl (o_pI 4 0)) else none) else (bif Nat.beq pc 5 then some (.inl (o_al 0 1)) else none))) else (bif Nat.ble pc 9 then (bif Nat.ble pc 6 then (bif Nat.beq pc 6 then some (.inl (o_gP 4 1)) else none) else (bif Nat.beq pc 9 then some (.inl (o_al 2 1)) else none)) else (bif Nat.ble pc 10 then (bif Nat.beq pc 10 then some (.inr (3, 72, 2, 7)) else none) else (bif Nat.beq pc 13 then some (.inl (o_al 0 1)) else none)))) else (bif Nat.ble pc 19 then (bif Nat.ble pc 15 then (bif Nat.ble pc 14 then (bif Nat.beq pc 14 then some (.inl (oS 1 (s_push (.int 0)))) else none) else (bif Nat.beq pc 15 then some (.inl (o_pI 4 3)) else none)) else (bif Nat.ble pc 18 then (bif Nat.beq pc 18 then some (.inl (o_al 0 1)) else none) else (bif Nat.beq pc 19 then some (.inl (oS 1 (s_push (.int 0)))) else none))) else (bif Nat.ble pc 23 then (bif Nat.ble pc 20 then (bif Nat.beq pc 20 then some (.inl (o_pI 4 4)) else none) else (bif Nat.beq pc 23 then some (.inl (o_al 0 1)) else none)) else (bif Nat.ble pc 24 then (bif Nat.beq pc 24 then some (.inl (oS 1 (s_push (.int 0)))) else none) else (bif Nat.ble pc 25 then (bif Nat.beq pc 25 then some (.inl (o_pI 4 5)) else none) else (bif Nat.beq pc 28 then some (.inr (0, 0, 0, 3)) else none)))))
theorem k_44_0 : mOk M_44.1 M_44.2.1 M_44.2.2.1 M_44.2.2.2 0 (o_al 0 1) := ok_aload_n dX4_clear_0 rfl
theorem k_44_1 : mOk M_44.1 M_44.2.1 M_44.2.2.1 M_44.2.2.2 1 (o_il 1 1) := ok_iload_n dX4_clear_1 rfl
theorem k_44_2 : mOk M_44.1 M_44.2.1 M_44.2.2.1 M_44.2.2.2 2 (o_pI 4 0) := ok_pI dX4_clear_2 (mFw_of f_RX4_51_c (Or.inl rfl)) rfl
theorem k_44_5 : mOk M_44.1 M_44.2.1 M_44.2.2.1 M_44.2.2.2 5 (o_al 0 1) := ok_aload_n dX4_clear_5 rfl
theorem k_44_6 : mOk M_44.1 M_44.2.1 M_44.2.2.1 M_44.2.2.2 6 (o_gP 4 1) := ok_gP dX4_clear_6 f_RX4_12 rfl
theorem k_44_9 : mOk M_44.1 M_44.2.1 M_44.2.2.1 M_44.2.2.2 9 (o_al 2 1) := ok_aload_n dX4_clear_9 rfl
theorem k_44_13 : mOk M_44.1 M_44.2.1 M_44.2.2.1 M_44.2.2.2 13 (o_al 0 1) := ok_aload_n dX4_clear_13 rfl
theorem k_44_14 : mOk M_44.1 M_44.2.1 M_44.2.2.1 M_44.2.2.2 14 (oS 1 (s_push (.int 0))) := ok_iconst dX4_clear_14 (by decide)
theorem k_44_15 : mOk M_44.1 M_44.2.1 M_44.2.2.1 M_44.2.2.2 15 (o_pI 4 3) := ok_pI dX4_clear_15 (mFw_of f_RX4_59_c (Or.inl rfl)) rfl
theorem k_44_18 : mOk M_44.1 M_44.2.1 M_44.2.2.1 M_44.2.2.2 18 (o_al 0 1) := ok_aload_n dX4_clear_18 rfl
theorem k_44_19 : mOk M_44.1 M_44.2.1 M_44.2.2.1 M_44.2.2.2 19 (oS 1 (s_push (.int 0))) := ok_iconst dX4_clear_19 (by decide)
theorem k_44_20 : mOk M_44.1 M_44.2.1 M_44.2.2.1 M_44.2.2.2 20 (o_pI 4 4) := ok_pI dX4_clear_20 (mFw_of f_RX4_62_c (Or.inl rfl)) rfl
theorem k_44_23 : mOk M_44.1 M_44.2.1 M_44.2.2.1 M_44.2.2.2 23 (o_al 0 1) := ok_aload_n dX4_clear_23 rfl
theorem k_44_24 : mOk M_44.1 M_44.2.1 M_44.2.2.1 M_44.2.2.2 24 (oS 1 (s_push (.int 0))) := ok_iconst dX4_clear_24 (by decide)
theorem k_44_25 : mOk M_44.1 M_44.2.1 M_44.2.2.1 M_44.2.2.2 25 (o_pI 4 5) := ok_pI dX4_clear_25 (mFw_of f_RX4_65_c (Or.inl rfl)) rfl
set_option maxRecDepth 20000 in
set_option maxHeartbeats 4000000 in
theorem tk_44 (l : Launch) (H9 : mThr l) (H10 : mSpl l) (pc : Nat) (q : mEnt) (h : tb_44 pc = some q) : EE l 44 pc q := nd h (fun h => nd h (fun h => nd h (fun h => nd h (fun h => lf (P := EE l 44) h k_44_0) (fun h => lf (P := EE l 44) h k_44_1)) (fun h => nd h (fun h => lf (P := EE l 44) h k_44_2) (fun h => lf (P := EE l 44) h k_44_5))) (fun h => nd h (fun h => nd h (fun h => lf (P := EE l 44) h k_44_6) (fun h => lf (P := EE l 44) h k_44_9)) (fun h => nd h (fun h => lf (P := EE l 44) h (EE_ca (by decide) (⟨m_881, m_78, ⟨by decide, by decide⟩, by decide +kernel, ⟨by decide, by decide⟩, 55, 1, by decide +kernel, Or.inr (Or.inr (Or.inl ⟨rfl, rfl, dX4_clear_10, m_878, m_879, _, rfl, by decide, m_880⟩))⟩) rfl)) (fun h => lf (P := EE l 44) h k_44_13)))) (fun h => nd h (fun h => nd h (fun h => nd h (fun h => lf (P := EE l 44) h k_44_14) (fun h => lf (P := EE l 44) h k_44_15)) (fun h => nd h (fun h => lf (P := EE l 44) h k_44_18) (fun h => lf (P := EE l 44) h k_44_19))) (fun h => nd h (fun h => nd h (fun h => lf (P := EE l 44) h k_44_20) (fun h => lf (P := EE l 44) h k_44_23)) (fun h => nd h (fun h => lf (P := EE l 44) h k_44_24) (fun h => nd h (fun h => lf (P := EE l 44) h k_44_25) (fun h => lf (P := EE l 44) h (EE_re (Or.inr (Or.inr (Or.inr (Or.inr ⟨rfl, dX4_clear_28, rfl⟩))))))))))
theorem dX4_addTile_0 : decode cX4_addTile 0 = .ok (.aload_n 0, 1) := by decide +kernel
theorem dX4_addTile_1 : decode cX4_addTile 1 = .ok (.getfield 59, 3) := by decide +kernel
theorem dX4_addTile_4 : decode cX4_addTile 4 = .ok (.bipush 100, 2) := by decide +kernel
theorem dX4_addTile_6 : decode cX4_addTile 6 = .ok (.if_icmp .lt 5, 3) := by decide +kernel
theorem dX4_addTile_9 : decode cX4_addTile 9 = .ok (.iconst 0, 1) := by decide +kernel
theorem dX4_addTile_10 : decode cX4_addTile 10 = .ok (.ireturn, 1) := by decide +kernel
theorem dX4_addTile_11 : decode cX4_addTile 11 = .ok (.aload_n 0, 1) := by decide +kernel
theorem dX4_addTile_12 : decode cX4_addTile 12 = .ok (.aload 5, 2) := by decide +kernel
theorem dX4_addTile_14 : decode cX4_addTile 14 = .ok (.invokevirtual 68, 3) := by decide +kernel
theorem dX4_addTile_17 : decode cX4_addTile 17 = .ok (.istore 6, 2) := by decide +kernel
theorem dX4_addTile_19 : decode cX4_addTile 19 = .ok (.iload 6, 2) := by decide +kernel
theorem dX4_addTile_21 : decode cX4_addTile 21 = .ok (.aload_n 0, 1) := by decide +kernel
theorem dX4_addTile_22 : decode cX4_addTile 22 = .ok (.getfield 59, 3) := by decide +kernel
theorem dX4_addTile_25 : decode cX4_addTile 25 = .ok (.if_icmp .ge 32, 3) := by decide +kernel
theorem dX4_addTile_28 : decode cX4_addTile 28 = .ok (.aload_n 0, 1) := by decide +kernel
theorem dX4_addTile_29 : decode cX4_addTile 29 = .ok (.dup, 1) := by decide +kernel
theorem dX4_addTile_30 : decode cX4_addTile 30 = .ok (.getfield 65, 3) := by decide +kernel
theorem dX4_addTile_33 : decode cX4_addTile 33 = .ok (.iconst 1, 1) := by decide +kernel
theorem dX4_addTile_34 : decode cX4_addTile 34 = .ok (.iadd, 1) := by decide +kernel
theorem dX4_addTile_35 : decode cX4_addTile 35 = .ok (.putfield 65, 3) := by decide +kernel
theorem dX4_addTile_38 : decode cX4_addTile 38 = .ok (.aload_n 0, 1) := by decide +kernel
theorem dX4_addTile_39 : decode cX4_addTile 39 = .ok (.getfield 44, 3) := by decide +kernel
theorem dX4_addTile_42 : decode cX4_addTile 42 = .ok (.aload_n 0, 1) := by decide +kernel
theorem dX4_addTile_43 : decode cX4_addTile 43 = .ok (.getfield 59, 3) := by decide +kernel
theorem dX4_addTile_46 : decode cX4_addTile 46 = .ok (.aload_n 0, 1) := by decide +kernel
theorem dX4_addTile_47 : decode cX4_addTile 47 = .ok (.getfield 44, 3) := by decide +kernel
theorem dX4_addTile_50 : decode cX4_addTile 50 = .ok (.iload 6, 2) := by decide +kernel
theorem dX4_addTile_52 : decode cX4_addTile 52 = .ok (.iaload, 1) := by decide +kernel
theorem dX4_addTile_53 : decode cX4_addTile 53 = .ok (.iastore, 1) := by decide +kernel
theorem dX4_addTile_54 : decode cX4_addTile 54 = .ok (.goto 73, 3) := by decide +kernel
theorem dX4_addTile_57 : decode cX4_addTile 57 = .ok (.aload_n 0, 1) := by decide +kernel
theorem dX4_addTile_58 : decode cX4_addTile 58 = .ok (.getfield 62, 3) := by decide +kernel
theorem dX4_addTile_61 : decode cX4_addTile 61 = .ok (.aload 5, 2) := by decide +kernel
theorem dX4_addTile_63 : decode cX4_addTile 63 = .ok (.getfield 72, 3) := by decide +kernel
theorem dX4_addTile_66 : decode cX4_addTile 66 = .ok (.iadd, 1) := by decide +kernel
theorem dX4_addTile_67 : decode cX4_addTile 67 = .ok (.sipush 5000, 3) := by decide +kernel
theorem dX4_addTile_70 : decode cX4_addTile 70 = .ok (.if_icmp .gt 55, 3) := by decide +kernel
theorem dX4_addTile_73 : decode cX4_addTile 73 = .ok (.aload 5, 2) := by decide +kernel
theorem dX4_addTile_75 : decode cX4_addTile 75 = .ok (.getfield 77, 3) := by decide +kernel
theorem dX4_addTile_78 : decode cX4_addTile 78 = .ok (.iconst 0, 1) := by decide +kernel
theorem dX4_addTile_79 : decode cX4_addTile 79 = .ok (.aload_n 0, 1) := by decide +kernel
theorem dX4_addTile_80 : decode cX4_addTile 80 = .ok (.getfield 47, 3) := by decide +kernel
theorem dX4_addTile_83 : decode cX4_addTile 83 = .ok (.aload_n 0, 1) := by decide +kernel
theorem dX4_addTile_84 : decode cX4_addTile 84 = .ok (.getfield 62, 3) := by decide +kernel
theorem dX4_addTile_87 : decode cX4_addTile 87 = .ok (.aload 5, 2) := by decide +kernel
theorem dX4_addTile_89 : decode cX4_addTile 89 = .ok (.getfield 72, 3) := by decide +kernel
theorem dX4_addTile_92 : decode cX4_addTile 92 = .ok (.invokestatic 78, 3) := by decide +kernel
theorem dX4_addTile_95 : decode cX4_addTile 95 = .ok (.aload_n 0, 1) := by decide +kernel
theorem dX4_addTile_96 : decode cX4_addTile 96 = .ok (.getfield 44, 3) := by decide +kernel
theorem dX4_addTile_99 : decode cX4_addTile 99 = .ok (.aload_n 0, 1) := by decide +kernel
theorem dX4_addTile_100 : decode cX4_addTile 100 = .ok (.getfield 59, 3) := by decide +kernel
theorem dX4_addTile_103 : decode cX4_addTile 103 = .ok (.aload_n 0, 1) := by decide +kernel
theorem dX4_addTile_104 : decode cX4_addTile 104 = .ok (.getfield 62, 3) := by decide +kernel
theorem dX4_addTile_107 : decode cX4_addTile 107 = .ok (.iastore, 1) := by decide +kernel
theorem dX4_addTile_108 : decode cX4_addTile 108 = .ok (.aload_n 0, 1) := by decide +kernel
theorem dX4_addTile_109 : decode cX4_addTile 109 = .ok (.dup, 1) := by decide +kernel
theorem dX4_addTile_110 : decode cX4_addTile 110 = .ok (.getfield 62, 3) := by decide +kernel
theorem dX4_addTile_113 : decode cX4_addTile 113 = .ok (.aload 5, 2) := by decide +kernel
theorem dX4_addTile_115 : decode cX4_addTile 115 = .ok (.getfield 72, 3) := by decide +kernel
theorem dX4_addTile_118 : decode cX4_addTile 118 = .ok (.iadd, 1) := by decide +kernel
theorem dX4_addTile_119 : decode cX4_addTile 119 = .ok (.putfield 62, 3) := by decide +kernel
theorem dX4_addTile_122 : decode cX4_addTile 122 = .ok (.goto 5, 3) := by decide +kernel
theorem dX4_addTile_125 : decode cX4_addTile 125 = .ok (.iconst 0, 1) := by decide +kernel
theorem dX4_addTile_126 : decode cX4_addTile 126 = .ok (.ireturn, 1) := by decide +kernel
theorem dX4_addTile_127 : decode cX4_addTile 127 = .ok (.aload_n 0, 1) := by decide +kernel
theorem dX4_addTile_128 : decode cX4_addTile 128 = .ok (.getfield 25, 3) := by decide +kernel
theorem dX4_addTile_131 : decode cX4_addTile 131 = .ok (.aload_n 0, 1) := by decide +kernel
theorem dX4_addTile_132 : decode cX4_addTile 132 = .ok (.getfield 59, 3) := by decide +kernel
theorem dX4_addTile_135 : decode cX4_addTile 135 = .ok (.iload_n 1, 1) := by decide +kernel
theorem dX4_addTile_136 : decode cX4_addTile 136 = .ok (.iastore, 1) := by decide +kernel
theorem dX4_addTile_137 : decode cX4_addTile 137 = .ok (.aload_n 0, 1) := by decide +kernel
theorem dX4_addTile_138 : decode cX4_addTile 138 = .ok (.getfield 29, 3) := by decide +kernel
theorem dX4_addTile_141 : decode cX4_addTile 141 = .ok (.aload_n 0, 1) := by decide +kernel
theorem dX4_addTile_142 : decode cX4_addTile 142 = .ok (.getfield 59, 3) := by decide +kernel
theorem dX4_addTile_145 : decode cX4_addTile 145 = .ok (.iload_n 2, 1) := by decide +kernel
theorem dX4_addTile_146 : decode cX4_addTile 146 = .ok (.iastore, 1) := by decide +kernel
theorem dX4_addTile_147 : decode cX4_addTile 147 = .ok (.aload_n 0, 1) := by decide +kernel
theorem dX4_addTile_148 : decode cX4_addTile 148 = .ok (.getfield 32, 3) := by decide +kernel
theorem dX4_addTile_151 : decode cX4_addTile 151 = .ok (.aload_n 0, 1) := by decide +kernel
theorem dX4_addTile_152 : decode cX4_addTile 152 = .ok (.getfield 59, 3) := by decide +kernel
theorem dX4_addTile_155 : decode cX4_addTile 155 = .ok (.iload_n 3, 1) := by decide +kernel
theorem dX4_addTile_156 : decode cX4_addTile 156 = .ok (.iastore, 1) := by decide +kernel
theorem dX4_addTile_157 : decode cX4_addTile 157 = .ok (.aload_n 0, 1) := by decide +kernel
theorem dX4_addTile_158 : decode cX4_addTile 158 = .ok (.getfield 35, 3) := by decide +kernel
theorem dX4_addTile_161 : decode cX4_addTile 161 = .ok (.aload_n 0, 1) := by decide +kernel
theorem dX4_addTile_162 : decode cX4_addTile 162 = .ok (.getfield 59, 3) := by decide +kernel
theorem dX4_addTile_165 : decode cX4_addTile 165 = .ok (.iload 4, 2) := by decide +kernel
theorem dX4_addTile_167 : decode cX4_addTile 167 = .ok (.iastore, 1) := by decide +kernel
theorem dX4_addTile_168 : decode cX4_addTile 168 = .ok (.aload_n 0, 1) := by decide +kernel
theorem dX4_addTile_169 : decode cX4_addTile 169 = .ok (.getfield 38, 3) := by decide +kernel
theorem dX4_addTile_172 : decode cX4_addTile 172 = .ok (.aload_n 0, 1) := by decide +kernel
theorem dX4_addTile_173 : decode cX4_addTile 173 = .ok (.getfield 59, 3) := by decide +kernel
theorem dX4_addTile_176 : decode cX4_addTile 176 = .ok (.aload 5, 2) := by decide +kernel
theorem dX4_addTile_178 : decode cX4_addTile 178 = .ok (.getfield 72, 3) := by decide +kernel
theorem dX4_addTile_181 : decode cX4_addTile 181 = .ok (.iastore, 1) := by decide +kernel
theorem dX4_addTile_182 : decode cX4_addTile 182 = .ok (.aload_n 0, 1) := by decide +kernel
theorem dX4_addTile_183 : decode cX4_addTile 183 = .ok (.getfield 41, 3) := by decide +kernel
theorem dX4_addTile_186 : decode cX4_addTile 186 = .ok (.aload_n 0, 1) := by decide +kernel
theorem dX4_addTile_187 : decode cX4_addTile 187 = .ok (.getfield 59, 3) := by decide +kernel
theorem dX4_addTile_190 : decode cX4_addTile 190 = .ok (.iload 6, 2) := by decide +kernel
theorem dX4_addTile_192 : decode cX4_addTile 192 = .ok (.iastore, 1) := by decide +kernel
theorem dX4_addTile_193 : decode cX4_addTile 193 = .ok (.aload_n 0, 1) := by decide +kernel
theorem dX4_addTile_194 : decode cX4_addTile 194 = .ok (.dup, 1) := by decide +kernel
theorem dX4_addTile_195 : decode cX4_addTile 195 = .ok (.getfield 59, 3) := by decide +kernel
theorem dX4_addTile_198 : decode cX4_addTile 198 = .ok (.iconst 1, 1) := by decide +kernel
theorem dX4_addTile_199 : decode cX4_addTile 199 = .ok (.iadd, 1) := by decide +kernel
theorem dX4_addTile_200 : decode cX4_addTile 200 = .ok (.putfield 59, 3) := by decide +kernel
theorem dX4_addTile_203 : decode cX4_addTile 203 = .ok (.iconst 1, 1) := by decide +kernel
theorem dX4_addTile_204 : decode cX4_addTile 204 = .ok (.ireturn, 1) := by decide +kernel
def tb_45 (pc : Nat) : Option mEnt := bif Nat.ble pc 107 then (bif Nat.ble pc 50 then (bif Nat.ble pc 22 then (bif Nat.ble pc 10 then (bif Nat.ble pc 4 then (bif Nat.ble pc 0 then (bif Nat.beq pc 0 then some (.inl (o_al 0 1)) else none) else (bif Nat.ble pc 1 then (bif Nat.beq pc 1 then some (.inl (o_gI 4 3)) else none) else (bif Nat.beq pc 4 then some (.inl (oS 2 (s_push (.int 100)))) else none))) else (bif Nat.ble pc 6 then (bif Nat.beq pc 6 then some (.inl (o_clt 11)) else none) else (bif Nat.ble pc 9 then (bif Nat.beq pc 9 then some (.inl (oS 1 (s_push (.int 0)))) else none) else (bif Nat.beq pc 10 then some (.inr (0, 0, 0, 4)) else none)))) else (bif Nat.ble pc 14 then (bif Nat.ble pc 11 then (bif Nat.beq pc 11 then some (.inl (o_al 0 1)) else none) else (bif Nat.ble pc 12 then (bif Nat.beq pc 12 then some (.inl (o_al 5 2)) else none) else (bif Nat.beq pc 14 then some (.inr (3, 46, 2, 4)) else none))) else (bif Nat.ble pc 19 then (bif Nat.ble pc 17 then (bif Nat.beq pc 17 then some (.inl (o_is 6 2)) else none) else (bif Nat.beq pc 19 then some (.inl (o_il 6 2)) else none)) else (bif Nat.ble pc 21 then (bif Nat.beq pc 21 then some (.inl (o_al 0 1)) else none) else (bif Nat.beq pc 22 then some (.inl (o_gI 4 3)) else none))))) else (bif Nat.ble pc 35 then (bif Nat.ble pc 29 then (bif Nat.ble pc 25 then (bif Nat.beq pc 25 then some (.inl (o_cge 57)) else none) else (bif Nat.ble pc 28 then (bif Nat.beq pc 28 then some (.inl (o_al 0 1)) else none) else (bif Nat.beq pc 29 then some (.inl (oS 1 s_dup)) else none))) else (bif Nat.ble pc 33 then (bif Nat.ble pc 30 then (bif Nat.beq pc 30 then some (.inl (o_gI 4 5)) else none) else (bif Nat.beq pc 33 then some (.inl (oS 1 (s_push (.int 1)))) else none)) else (bif Nat.ble pc 34 then (bif Nat.beq pc 34 then some (.inl (oS 1 (s_ii (fun a b => a + b)))) else none) else (bif Nat.beq pc 35 then some (.inl (o_pI 4 5)) else none)))) else (bif Nat.ble pc 42 then (bif Nat.ble pc 38 then (bif Nat.beq pc 38 then some (.inl (o_al 0 1)) else none) else (bif Nat.ble pc 39 then (bif Nat.beq pc 39 then some (.inl (o_gP 4 12)) else none) else (bif Nat.beq pc 42 then some (.inl (o_al 0 1)) else none))) else (bif Nat.ble pc 46 then (bif Nat.ble pc 43 then (bif Nat.beq pc 43 then some (.inl (o_gI 4 3)) else none) else (bif Nat.beq pc 46 then some (.inl (o_al 0 1)) else none)) else (bif Nat.ble pc 47 then (bif Nat.beq pc 47 then some (.inl (o_gP 4 12)) else none) else (bif Nat.beq pc 50 then some (.inl (o_il 6 2)) else none)))))) else (bif Nat.ble pc 78 then (bif Nat.ble pc 61 then (bif Nat.ble pc 54 then (bif Nat.ble pc 52 then (bif Nat.beq pc 52 then some (.inl (o_iald)) else none) else (bif Nat.ble pc 53 then (bif Nat.beq pc 53 then some (.inl (o_iast)) else none) else (bif Nat.beq pc 54 then some (.inl (o_goto 127)) else none))) else (bif Nat.ble pc 57 then (bif Nat.beq pc 57 then some (.inl (o_al 0 1)) else none) else (bif Nat.ble pc 58 then (bif Nat.beq pc 58 then some (.inl (o_gI 4 4)) else none) else (bif Nat.beq pc 61 then some (.inl (o_al 5 2)) else none)))) else (bif Nat.ble pc 67 then (bif Nat.ble pc 63 then (bif Nat.beq pc 63 then some (.inl (o_gI 3 1)) else none) else (bif Nat.ble pc 66 then (bif Nat.beq pc 66 then some (.inl (oS 1 (s_ii (fun a b => a + b)))) else none) else (bif Nat.beq pc 67 then some (.inl (oS 3 (s_push (.int 5000)))) else none))) else (bif Nat.ble pc 73 then (bif Nat.ble pc 70 then (bif Nat.beq pc 70 then some (.inl (o_cgt 125)) else none) else (bif Nat.beq pc 73 then some (.inl (o_al 5 2)) else none)) else (bif Nat.ble pc 75 then (bif Nat.beq pc 75 then some (.inl (o_gP 3 0)) else none) else (bif Nat.beq pc 78 then some (.inl (oS 1 (s_push (.int 0)))) else none))))) else (bif Nat.ble pc 92 then (bif Nat.ble pc 83 then (bif Nat.ble pc 79 then (bif Nat.beq pc 79 then some (.inl (o_al 0 1)) else none) else (bif Nat.ble pc 80 then (bif Nat.beq pc 80 then some (.inl (o_gP 4 13)) else none) else (bif Nat.beq pc 83 then some (.inl (o_al 0 1)) else none))) else (bif Nat.ble pc 87 then (bif Nat.ble pc 84 then (bif Nat.beq pc 84 then some (.inl (o_gI 4 4)) else none) else (bif Nat.beq pc 87 then some (.inl (o_al 5 2)) else none)) else (bif Nat.ble pc 89 then (bif Nat.beq pc 89 then some (.inl (o_gI 3 1)) else none) else (bif Nat.beq pc 92 then some (.inr (1, 0, 0, 0)) else none)))) else (bif Nat.ble pc 99 then (bif Nat.ble pc 95 then (bif Nat.beq pc 95 then some (.inl (o_al 0 1)) else none) else (bif Nat.ble pc 96 then (bif Nat.beq pc 96 then some (.inl (o_gP 4 12)) else none) else (bif Nat.beq pc 99 then some (.inl (o_al 0 1)) else none))) else (bif Nat.ble pc 103 then (bif Nat.ble pc 100 then (bif Nat.beq pc 100 then some (.inl (o_gI 4 3)) else none) else (bif Nat.beq pc 103 then some (.inl (o_al 0 1)) else none)) else (bif Nat.ble pc 104 then (bif Nat.beq pc 104 then some (.inl (o_gI 4 4)) else none) else (bif Nat.beq pc 107 then some (.inl (o_iast)) else none))))))) else (bif Nat.ble pc 155 then (bif Nat.ble pc 131 then (bif Nat.ble pc 118 then (bif Nat.ble pc 110 then (bif Nat.ble pc 108 then (bif Nat.beq pc 108 then some (.inl (o_al 0 1)) else none) else (bif Nat.ble pc 109 then (bif Nat.beq pc 109 then some (.inl (oS 1 s_dup)) else none) else (bif Nat.beq pc 110 then some (.inl (o_gI 4 4)) else none))) else (bif Nat.ble pc 113 then (bif Nat.beq pc 113 then some (.inl (o_al 5 2)) else none) else (bif Nat.ble pc 115 then (bif Nat.beq pc 115 then some (.inl (o_gI 3 1)) else none) else (bif Nat.beq pc 118 then some (.inl (oS 1 (s_ii (fun a b => a + b)))) else none)))) else (bif Nat.ble pc 125 then (bif Nat.ble pc 119 then (bif Nat.beq pc 119 then some (.inl (o_pI 4 4)) else none) else (bif Nat.ble pc 122 then (bif Nat.beq pc 122 then some (.inl (o_goto 127)) else none) else (bif Nat.beq pc 125 then some (.inl (oS 1 (s_push (.int 0)))) else none))) else (bif Nat.ble pc 127 then (bif Nat.ble pc 126 then (bif Nat.beq pc 126 then some (.inr (0, 0, 0, 4)) else none) else (bif Nat.beq pc 127 then some (.inl (o_al 0 1)) else none)) else (bif Nat.ble pc 128 then (bif Nat.beq pc 128 then some (.inl (o_gP 4 6)) else none) else (bif Nat.beq pc 131 then some (.inl (o_al 0 1)) else none))))) else (bif Nat.ble pc 142 then (bif Nat.ble pc 136 then (bif Nat.ble pc 132 then (bif Nat.beq pc 132 then some (.inl (o_gI 4 3)) else none) else (bif Nat.ble pc 135 then (bif Nat.beq pc 135 then some (.inl (o_il 1 1)) else none) else (bif Nat.beq pc 136 then some (.inl (o_iast)) else none))) else (bif Nat.ble pc 138 then (bif Nat.ble pc 137 then (bif Nat.beq pc 137 then some (.inl (o_al 0 1)) else none) else (bif Nat.beq pc 138 then some (.inl (o_gP 4 7)) else none)) else (bif Nat.ble pc 141 then (bif Nat.beq pc 141 then some (.inl (o_al 0 1)) else none) else (bif Nat.beq pc 142 then some (.inl (o_gI 4 3)) else none)))) else (bif Nat.ble pc 147 then (bif Nat.ble pc 145 then (bif Nat.beq pc 145 then some (.inl (o_il 2 1)) else none) else (bif Nat.ble pc 146 then (bif Nat.beq pc 146 then some (.inl (o_iast)) else none) else (bif Nat.beq pc 147 then some (.inl (o_al 0 1)) else none))) else (bif Nat.ble pc 151 then (bif Nat.ble pc 148 then (bif Nat.beq pc 148 then some (.inl (o_gP 4 8)) else none) else (bif Nat.beq pc 151 then some (.inl (o_al 0 1)) else none)) else (bif Nat.ble pc 152 then (bif Nat.beq pc 152 then some (.inl (o_gI 4 3)) else none) else (bif Nat.beq pc 155 then some (.inl (o_il 3 1)) else none)))))) else (bif Nat.ble pc 181 then (bif Nat.ble pc 167 then (bif Nat.ble pc 158 then (bif Nat.ble pc 156 then (bif Nat.beq pc 156 then some (.inl (o_iast)) else none) else (bif Nat.ble pc 157 then (bif Nat.beq pc 157 then some (.inl (o_al 0 1)) else none) else (bif Nat.beq pc 158 then some (.inl (o_gP 4 9)) else none))) else (bif Nat.ble pc 162 then (bif Nat.ble pc 161 then (bif Nat.beq pc 161 then some (.inl (o_al 0 1)) else none) else (bif Nat.beq pc 162 then some (.inl (o_gI 4 3)) else none)) else (bif Nat.ble pc 165 then (bif Nat.beq pc 165 then some (.inl (o_il 4 2)) else none) else (bif Nat.beq pc 167 then some (.inl (o_iast)) else none)))) else (bif Nat.ble pc 172 then (bif Nat.ble pc 168 then (bif Nat.beq pc 168 then some (.inl (o_al 0 1)) else none) else (bif Nat.ble pc 169 then (bif Nat.beq pc 169 then some (.inl (o_gP 4 10)) else none) else (bif Nat.beq pc 172 then some (.inl (o_al 0 1)) else none))) else (bif Nat.ble pc 176 then (bif Nat.ble pc 173 then (bif Nat.beq pc 173 then some (.inl (o_gI 4 3)) else none) else (bif Nat.beq pc 176 then some (.inl (o_al 5 2)) else none)) else (bif Nat.ble pc 178 then (bif Nat.beq pc 178 then some (.inl (o_gI 3 1)) else none) else (bif Nat.beq pc 181 then some (.inl (o_iast)) else none))))) else (bif Nat.ble pc 193 then (bif Nat.ble pc 186 then (bif Nat.ble pc 182 then (bif Nat.beq pc 182 then some (.inl (o_al 0 1)) else none) else (bif Nat.ble pc 183 then (bif Nat.beq pc 183 then some (.inl (o_gP 4 11)) else none) else (bif Nat.beq pc 186 then some (.inl (o_al 0 1)) else none))) else (bif Nat.ble pc 190 then (bif Nat.ble pc 187 then (bif Nat.beq pc 187 then some (.inl (o_gI 4 3)) else none) else (bif Nat.beq pc 190 then some (.inl (o_il 6 2)) else none)) else (bif Nat.ble pc 192 then (bif Nat.beq pc 192 then some (.inl (o_iast)) else none) else (bif Nat.beq pc 193 then some (.inl (o_al 0 1)) else none)))) else (bif Nat.ble pc 198 then (bif Nat.ble pc 194 then (bif Nat.beq pc 194 then some (.inl (oS 1 s_dup)) else none) else (bif Nat.ble pc 195 then (bif Nat.beq pc 195 then some (.inl (o_gI 4 3)) else none) else (bif Nat.beq pc 198 then some (.inl (oS 1 (s_push (.int 1)))) else none))) else (bif Nat.ble pc 200 then (bif Nat.ble pc 199 then (bif Nat.beq pc 199 then some (.inl (oS 1 (s_ii (fun a b => a + b)))) else none) else (bif Nat.beq pc 200 then some (.inl (o_pI 4 3)) else none)) else (bif Nat.ble pc 203 then (bif Nat.beq pc 203 then some (.inl (oS 1 (s_push (.int 1)))) else none) else (bif Nat.beq pc 204 then some (.inr (0, 0, 0, 4)) else none)))))))
theorem k_45_0 : mOk M_45.1 M_45.2.1 M_45.2.2.1 M_45.2.2.2 0 (o_al 0 1) := ok_aload_n dX4_addTile_0 rfl
theorem k_45_1 : mOk M_45.1 M_45.2.1 M_45.2.2.1 M_45.2.2.2 1 (o_gI 4 3) := ok_gI dX4_addTile_1 f_RX4_59 (Or.inl rfl)
theorem k_45_4 : mOk M_45.1 M_45.2.1 M_45.2.2.1 M_45.2.2.2 4 (oS 2 (s_push (.int 100))) := ok_bipush dX4_addTile_4 (by decide)
theorem k_45_6 : mOk M_45.1 M_45.2.1 M_45.2.2.1 M_45.2.2.2 6 (o_clt 11) := ok_clt dX4_addTile_6 (by decide)
theorem k_45_9 : mOk M_45.1 M_45.2.1 M_45.2.2.1 M_45.2.2.2 9 (oS 1 (s_push (.int 0))) := ok_iconst dX4_addTile_9 (by decide)
theorem k_45_11 : mOk M_45.1 M_45.2.1 M_45.2.2.1 M_45.2.2.2 11 (o_al 0 1) := ok_aload_n dX4_addTile_11 rfl
theorem k_45_12 : mOk M_45.1 M_45.2.1 M_45.2.2.1 M_45.2.2.2 12 (o_al 5 2) := ok_aload dX4_addTile_12
theorem k_45_17 : mOk M_45.1 M_45.2.1 M_45.2.2.1 M_45.2.2.2 17 (o_is 6 2) := ok_istore dX4_addTile_17
theorem k_45_19 : mOk M_45.1 M_45.2.1 M_45.2.2.1 M_45.2.2.2 19 (o_il 6 2) := ok_iload dX4_addTile_19
theorem k_45_21 : mOk M_45.1 M_45.2.1 M_45.2.2.1 M_45.2.2.2 21 (o_al 0 1) := ok_aload_n dX4_addTile_21 rfl
theorem k_45_22 : mOk M_45.1 M_45.2.1 M_45.2.2.1 M_45.2.2.2 22 (o_gI 4 3) := ok_gI dX4_addTile_22 f_RX4_59 (Or.inl rfl)
theorem k_45_25 : mOk M_45.1 M_45.2.1 M_45.2.2.1 M_45.2.2.2 25 (o_cge 57) := ok_cge dX4_addTile_25 (by decide)
theorem k_45_28 : mOk M_45.1 M_45.2.1 M_45.2.2.1 M_45.2.2.2 28 (o_al 0 1) := ok_aload_n dX4_addTile_28 rfl
theorem k_45_29 : mOk M_45.1 M_45.2.1 M_45.2.2.1 M_45.2.2.2 29 (oS 1 s_dup) := ok_dup dX4_addTile_29
theorem k_45_30 : mOk M_45.1 M_45.2.1 M_45.2.2.1 M_45.2.2.2 30 (o_gI 4 5) := ok_gI dX4_addTile_30 f_RX4_65 (Or.inl rfl)
theorem k_45_33 : mOk M_45.1 M_45.2.1 M_45.2.2.1 M_45.2.2.2 33 (oS 1 (s_push (.int 1))) := ok_iconst dX4_addTile_33 (by decide)
theorem k_45_34 : mOk M_45.1 M_45.2.1 M_45.2.2.1 M_45.2.2.2 34 (oS 1 (s_ii (fun a b => a + b))) := ok_iadd dX4_addTile_34
theorem k_45_35 : mOk M_45.1 M_45.2.1 M_45.2.2.1 M_45.2.2.2 35 (o_pI 4 5) := ok_pI dX4_addTile_35 (mFw_of f_RX4_65_c (Or.inl rfl)) rfl
theorem k_45_38 : mOk M_45.1 M_45.2.1 M_45.2.2.1 M_45.2.2.2 38 (o_al 0 1) := ok_aload_n dX4_addTile_38 rfl
theorem k_45_39 : mOk M_45.1 M_45.2.1 M_45.2.2.1 M_45.2.2.2 39 (o_gP 4 12) := ok_gP dX4_addTile_39 f_RX4_44 rfl
theorem k_45_42 : mOk M_45.1 M_45.2.1 M_45.2.2.1 M_45.2.2.2 42 (o_al 0 1) := ok_aload_n dX4_addTile_42 rfl
theorem k_45_43 : mOk M_45.1 M_45.2.1 M_45.2.2.1 M_45.2.2.2 43 (o_gI 4 3) := ok_gI dX4_addTile_43 f_RX4_59 (Or.inl rfl)
theorem k_45_46 : mOk M_45.1 M_45.2.1 M_45.2.2.1 M_45.2.2.2 46 (o_al 0 1) := ok_aload_n dX4_addTile_46 rfl
theorem k_45_47 : mOk M_45.1 M_45.2.1 M_45.2.2.1 M_45.2.2.2 47 (o_gP 4 12) := ok_gP dX4_addTile_47 f_RX4_44 rfl
theorem k_45_50 : mOk M_45.1 M_45.2.1 M_45.2.2.1 M_45.2.2.2 50 (o_il 6 2) := ok_iload dX4_addTile_50
theorem k_45_52 : mOk M_45.1 M_45.2.1 M_45.2.2.1 M_45.2.2.2 52 (o_iald) := ok_iald dX4_addTile_52
theorem k_45_53 : mOk M_45.1 M_45.2.1 M_45.2.2.1 M_45.2.2.2 53 (o_iast) := ok_iast dX4_addTile_53
theorem k_45_54 : mOk M_45.1 M_45.2.1 M_45.2.2.1 M_45.2.2.2 54 (o_goto 127) := ok_goto dX4_addTile_54 (by decide)
theorem k_45_57 : mOk M_45.1 M_45.2.1 M_45.2.2.1 M_45.2.2.2 57 (o_al 0 1) := ok_aload_n dX4_addTile_57 rfl
theorem k_45_58 : mOk M_45.1 M_45.2.1 M_45.2.2.1 M_45.2.2.2 58 (o_gI 4 4) := ok_gI dX4_addTile_58 f_RX4_62 (Or.inl rfl)
theorem k_45_61 : mOk M_45.1 M_45.2.1 M_45.2.2.1 M_45.2.2.2 61 (o_al 5 2) := ok_aload dX4_addTile_61
theorem k_45_63 : mOk M_45.1 M_45.2.1 M_45.2.2.1 M_45.2.2.2 63 (o_gI 3 1) := ok_gI dX4_addTile_63 f_RX4_72 (Or.inl rfl)
theorem k_45_66 : mOk M_45.1 M_45.2.1 M_45.2.2.1 M_45.2.2.2 66 (oS 1 (s_ii (fun a b => a + b))) := ok_iadd dX4_addTile_66
theorem k_45_67 : mOk M_45.1 M_45.2.1 M_45.2.2.1 M_45.2.2.2 67 (oS 3 (s_push (.int 5000))) := ok_sipush dX4_addTile_67 (by decide)
theorem k_45_70 : mOk M_45.1 M_45.2.1 M_45.2.2.1 M_45.2.2.2 70 (o_cgt 125) := ok_cgt dX4_addTile_70 (by decide)
theorem k_45_73 : mOk M_45.1 M_45.2.1 M_45.2.2.1 M_45.2.2.2 73 (o_al 5 2) := ok_aload dX4_addTile_73
theorem k_45_75 : mOk M_45.1 M_45.2.1 M_45.2.2.1 M_45.2.2.2 75 (o_gP 3 0) := ok_gP dX4_addTile_75 f_RX4_77 rfl
theorem k_45_78 : mOk M_45.1 M_45.2.1 M_45.2.2.1 M_45.2.2.2 78 (oS 1 (s_push (.int 0))) := ok_iconst dX4_addTile_78 (by decide)
theorem k_45_79 : mOk M_45.1 M_45.2.1 M_45.2.2.1 M_45.2.2.2 79 (o_al 0 1) := ok_aload_n dX4_addTile_79 rfl
theorem k_45_80 : mOk M_45.1 M_45.2.1 M_45.2.2.1 M_45.2.2.2 80 (o_gP 4 13) := ok_gP dX4_addTile_80 f_RX4_47 rfl
theorem k_45_83 : mOk M_45.1 M_45.2.1 M_45.2.2.1 M_45.2.2.2 83 (o_al 0 1) := ok_aload_n dX4_addTile_83 rfl
theorem k_45_84 : mOk M_45.1 M_45.2.1 M_45.2.2.1 M_45.2.2.2 84 (o_gI 4 4) := ok_gI dX4_addTile_84 f_RX4_62 (Or.inl rfl)
theorem k_45_87 : mOk M_45.1 M_45.2.1 M_45.2.2.1 M_45.2.2.2 87 (o_al 5 2) := ok_aload dX4_addTile_87
theorem k_45_89 : mOk M_45.1 M_45.2.1 M_45.2.2.1 M_45.2.2.2 89 (o_gI 3 1) := ok_gI dX4_addTile_89 f_RX4_72 (Or.inl rfl)
theorem k_45_95 : mOk M_45.1 M_45.2.1 M_45.2.2.1 M_45.2.2.2 95 (o_al 0 1) := ok_aload_n dX4_addTile_95 rfl
theorem k_45_96 : mOk M_45.1 M_45.2.1 M_45.2.2.1 M_45.2.2.2 96 (o_gP 4 12) := ok_gP dX4_addTile_96 f_RX4_44 rfl
theorem k_45_99 : mOk M_45.1 M_45.2.1 M_45.2.2.1 M_45.2.2.2 99 (o_al 0 1) := ok_aload_n dX4_addTile_99 rfl
theorem k_45_100 : mOk M_45.1 M_45.2.1 M_45.2.2.1 M_45.2.2.2 100 (o_gI 4 3) := ok_gI dX4_addTile_100 f_RX4_59 (Or.inl rfl)
theorem k_45_103 : mOk M_45.1 M_45.2.1 M_45.2.2.1 M_45.2.2.2 103 (o_al 0 1) := ok_aload_n dX4_addTile_103 rfl
theorem k_45_104 : mOk M_45.1 M_45.2.1 M_45.2.2.1 M_45.2.2.2 104 (o_gI 4 4) := ok_gI dX4_addTile_104 f_RX4_62 (Or.inl rfl)
theorem k_45_107 : mOk M_45.1 M_45.2.1 M_45.2.2.1 M_45.2.2.2 107 (o_iast) := ok_iast dX4_addTile_107
theorem k_45_108 : mOk M_45.1 M_45.2.1 M_45.2.2.1 M_45.2.2.2 108 (o_al 0 1) := ok_aload_n dX4_addTile_108 rfl
theorem k_45_109 : mOk M_45.1 M_45.2.1 M_45.2.2.1 M_45.2.2.2 109 (oS 1 s_dup) := ok_dup dX4_addTile_109
theorem k_45_110 : mOk M_45.1 M_45.2.1 M_45.2.2.1 M_45.2.2.2 110 (o_gI 4 4) := ok_gI dX4_addTile_110 f_RX4_62 (Or.inl rfl)
theorem k_45_113 : mOk M_45.1 M_45.2.1 M_45.2.2.1 M_45.2.2.2 113 (o_al 5 2) := ok_aload dX4_addTile_113
theorem k_45_115 : mOk M_45.1 M_45.2.1 M_45.2.2.1 M_45.2.2.2 115 (o_gI 3 1) := ok_gI dX4_addTile_115 f_RX4_72 (Or.inl rfl)
theorem k_45_118 : mOk M_45.1 M_45.2.1 M_45.2.2.1 M_45.2.2.2 118 (oS 1 (s_ii (fun a b => a + b))) := ok_iadd dX4_addTile_118
theorem k_45_119 : mOk M_45.1 M_45.2.1 M_45.2.2.1 M_45.2.2.2 119 (o_pI 4 4) := ok_pI dX4_addTile_119 (mFw_of f_RX4_62_c (Or.inl rfl)) rfl
theorem k_45_122 : mOk M_45.1 M_45.2.1 M_45.2.2.1 M_45.2.2.2 122 (o_goto 127) := ok_goto dX4_addTile_122 (by decide)
theorem k_45_125 : mOk M_45.1 M_45.2.1 M_45.2.2.1 M_45.2.2.2 125 (oS 1 (s_push (.int 0))) := ok_iconst dX4_addTile_125 (by decide)
theorem k_45_127 : mOk M_45.1 M_45.2.1 M_45.2.2.1 M_45.2.2.2 127 (o_al 0 1) := ok_aload_n dX4_addTile_127 rfl
theorem k_45_128 : mOk M_45.1 M_45.2.1 M_45.2.2.1 M_45.2.2.2 128 (o_gP 4 6) := ok_gP dX4_addTile_128 f_RX4_25 rfl
theorem k_45_131 : mOk M_45.1 M_45.2.1 M_45.2.2.1 M_45.2.2.2 131 (o_al 0 1) := ok_aload_n dX4_addTile_131 rfl
theorem k_45_132 : mOk M_45.1 M_45.2.1 M_45.2.2.1 M_45.2.2.2 132 (o_gI 4 3) := ok_gI dX4_addTile_132 f_RX4_59 (Or.inl rfl)
theorem k_45_135 : mOk M_45.1 M_45.2.1 M_45.2.2.1 M_45.2.2.2 135 (o_il 1 1) := ok_iload_n dX4_addTile_135 rfl
theorem k_45_136 : mOk M_45.1 M_45.2.1 M_45.2.2.1 M_45.2.2.2 136 (o_iast) := ok_iast dX4_addTile_136
theorem k_45_137 : mOk M_45.1 M_45.2.1 M_45.2.2.1 M_45.2.2.2 137 (o_al 0 1) := ok_aload_n dX4_addTile_137 rfl
theorem k_45_138 : mOk M_45.1 M_45.2.1 M_45.2.2.1 M_45.2.2.2 138 (o_gP 4 7) := ok_gP dX4_addTile_138 f_RX4_29 rfl
theorem k_45_141 : mOk M_45.1 M_45.2.1 M_45.2.2.1 M_45.2.2.2 141 (o_al 0 1) := ok_aload_n dX4_addTile_141 rfl
theorem k_45_142 : mOk M_45.1 M_45.2.1 M_45.2.2.1 M_45.2.2.2 142 (o_gI 4 3) := ok_gI dX4_addTile_142 f_RX4_59 (Or.inl rfl)
theorem k_45_145 : mOk M_45.1 M_45.2.1 M_45.2.2.1 M_45.2.2.2 145 (o_il 2 1) := ok_iload_n dX4_addTile_145 rfl
theorem k_45_146 : mOk M_45.1 M_45.2.1 M_45.2.2.1 M_45.2.2.2 146 (o_iast) := ok_iast dX4_addTile_146
theorem k_45_147 : mOk M_45.1 M_45.2.1 M_45.2.2.1 M_45.2.2.2 147 (o_al 0 1) := ok_aload_n dX4_addTile_147 rfl
theorem k_45_148 : mOk M_45.1 M_45.2.1 M_45.2.2.1 M_45.2.2.2 148 (o_gP 4 8) := ok_gP dX4_addTile_148 f_RX4_32 rfl
theorem k_45_151 : mOk M_45.1 M_45.2.1 M_45.2.2.1 M_45.2.2.2 151 (o_al 0 1) := ok_aload_n dX4_addTile_151 rfl
theorem k_45_152 : mOk M_45.1 M_45.2.1 M_45.2.2.1 M_45.2.2.2 152 (o_gI 4 3) := ok_gI dX4_addTile_152 f_RX4_59 (Or.inl rfl)
theorem k_45_155 : mOk M_45.1 M_45.2.1 M_45.2.2.1 M_45.2.2.2 155 (o_il 3 1) := ok_iload_n dX4_addTile_155 rfl
theorem k_45_156 : mOk M_45.1 M_45.2.1 M_45.2.2.1 M_45.2.2.2 156 (o_iast) := ok_iast dX4_addTile_156
theorem k_45_157 : mOk M_45.1 M_45.2.1 M_45.2.2.1 M_45.2.2.2 157 (o_al 0 1) := ok_aload_n dX4_addTile_157 rfl
theorem k_45_158 : mOk M_45.1 M_45.2.1 M_45.2.2.1 M_45.2.2.2 158 (o_gP 4 9) := ok_gP dX4_addTile_158 f_RX4_35 rfl
theorem k_45_161 : mOk M_45.1 M_45.2.1 M_45.2.2.1 M_45.2.2.2 161 (o_al 0 1) := ok_aload_n dX4_addTile_161 rfl
theorem k_45_162 : mOk M_45.1 M_45.2.1 M_45.2.2.1 M_45.2.2.2 162 (o_gI 4 3) := ok_gI dX4_addTile_162 f_RX4_59 (Or.inl rfl)
theorem k_45_165 : mOk M_45.1 M_45.2.1 M_45.2.2.1 M_45.2.2.2 165 (o_il 4 2) := ok_iload dX4_addTile_165
theorem k_45_167 : mOk M_45.1 M_45.2.1 M_45.2.2.1 M_45.2.2.2 167 (o_iast) := ok_iast dX4_addTile_167
theorem k_45_168 : mOk M_45.1 M_45.2.1 M_45.2.2.1 M_45.2.2.2 168 (o_al 0 1) := ok_aload_n dX4_addTile_168 rfl
theorem k_45_169 : mOk M_45.1 M_45.2.1 M_45.2.2.1 M_45.2.2.2 169 (o_gP 4 10) := ok_gP dX4_addTile_169 f_RX4_38 rfl
theorem k_45_172 : mOk M_45.1 M_45.2.1 M_45.2.2.1 M_45.2.2.2 172 (o_al 0 1) := ok_aload_n dX4_addTile_172 rfl
theorem k_45_173 : mOk M_45.1 M_45.2.1 M_45.2.2.1 M_45.2.2.2 173 (o_gI 4 3) := ok_gI dX4_addTile_173 f_RX4_59 (Or.inl rfl)
theorem k_45_176 : mOk M_45.1 M_45.2.1 M_45.2.2.1 M_45.2.2.2 176 (o_al 5 2) := ok_aload dX4_addTile_176
theorem k_45_178 : mOk M_45.1 M_45.2.1 M_45.2.2.1 M_45.2.2.2 178 (o_gI 3 1) := ok_gI dX4_addTile_178 f_RX4_72 (Or.inl rfl)
theorem k_45_181 : mOk M_45.1 M_45.2.1 M_45.2.2.1 M_45.2.2.2 181 (o_iast) := ok_iast dX4_addTile_181
theorem k_45_182 : mOk M_45.1 M_45.2.1 M_45.2.2.1 M_45.2.2.2 182 (o_al 0 1) := ok_aload_n dX4_addTile_182 rfl
theorem k_45_183 : mOk M_45.1 M_45.2.1 M_45.2.2.1 M_45.2.2.2 183 (o_gP 4 11) := ok_gP dX4_addTile_183 f_RX4_41 rfl
theorem k_45_186 : mOk M_45.1 M_45.2.1 M_45.2.2.1 M_45.2.2.2 186 (o_al 0 1) := ok_aload_n dX4_addTile_186 rfl
theorem k_45_187 : mOk M_45.1 M_45.2.1 M_45.2.2.1 M_45.2.2.2 187 (o_gI 4 3) := ok_gI dX4_addTile_187 f_RX4_59 (Or.inl rfl)
theorem k_45_190 : mOk M_45.1 M_45.2.1 M_45.2.2.1 M_45.2.2.2 190 (o_il 6 2) := ok_iload dX4_addTile_190
theorem k_45_192 : mOk M_45.1 M_45.2.1 M_45.2.2.1 M_45.2.2.2 192 (o_iast) := ok_iast dX4_addTile_192
theorem k_45_193 : mOk M_45.1 M_45.2.1 M_45.2.2.1 M_45.2.2.2 193 (o_al 0 1) := ok_aload_n dX4_addTile_193 rfl
theorem k_45_194 : mOk M_45.1 M_45.2.1 M_45.2.2.1 M_45.2.2.2 194 (oS 1 s_dup) := ok_dup dX4_addTile_194
theorem k_45_195 : mOk M_45.1 M_45.2.1 M_45.2.2.1 M_45.2.2.2 195 (o_gI 4 3) := ok_gI dX4_addTile_195 f_RX4_59 (Or.inl rfl)
theorem k_45_198 : mOk M_45.1 M_45.2.1 M_45.2.2.1 M_45.2.2.2 198 (oS 1 (s_push (.int 1))) := ok_iconst dX4_addTile_198 (by decide)
theorem k_45_199 : mOk M_45.1 M_45.2.1 M_45.2.2.1 M_45.2.2.2 199 (oS 1 (s_ii (fun a b => a + b))) := ok_iadd dX4_addTile_199
theorem k_45_200 : mOk M_45.1 M_45.2.1 M_45.2.2.1 M_45.2.2.2 200 (o_pI 4 3) := ok_pI dX4_addTile_200 (mFw_of f_RX4_59_c (Or.inl rfl)) rfl
theorem k_45_203 : mOk M_45.1 M_45.2.1 M_45.2.2.1 M_45.2.2.2 203 (oS 1 (s_push (.int 1))) := ok_iconst dX4_addTile_203 (by decide)
set_option maxRecDepth 20000 in
set_option maxHeartbeats 4000000 in
theorem tk_45 (l : Launch) (H9 : mThr l) (H10 : mSpl l) (pc : Nat) (q : mEnt) (h : tb_45 pc = some q) : EE l 45 pc q := nd h (fun h => nd h (fun h => nd h (fun h => nd h (fun h => nd h (fun h => nd h (fun h => lf (P := EE l 45) h k_45_0) (fun h => nd h (fun h => lf (P := EE l 45) h k_45_1) (fun h => lf (P := EE l 45) h k_45_4))) (fun h => nd h (fun h => lf (P := EE l 45) h k_45_6) (fun h => nd h (fun h => lf (P := EE l 45) h k_45_9) (fun h => lf (P := EE l 45) h (EE_re (Or.inr (Or.inl ⟨rfl, dX4_addTile_10, rfl⟩))))))) (fun h => nd h (fun h => nd h (fun h => lf (P := EE l 45) h k_45_11) (fun h => nd h (fun h => lf (P := EE l 45) h k_45_12) (fun h => lf (P := EE l 45) h (EE_ca (by decide) (⟨m_899, m_79, ⟨by decide, by decide⟩, by decide +kernel, ⟨by decide, by decide⟩, 68, 1, by decide +kernel, Or.inr (Or.inr (Or.inl ⟨rfl, rfl, dX4_addTile_14, m_896, m_898, _, rfl, by decide, m_21⟩))⟩) rfl)))) (fun h => nd h (fun h => nd h (fun h => lf (P := EE l 45) h k_45_17) (fun h => lf (P := EE l 45) h k_45_19)) (fun h => nd h (fun h => lf (P := EE l 45) h k_45_21) (fun h => lf (P := EE l 45) h k_45_22))))) (fun h => nd h (fun h => nd h (fun h => nd h (fun h => lf (P := EE l 45) h k_45_25) (fun h => nd h (fun h => lf (P := EE l 45) h k_45_28) (fun h => lf (P := EE l 45) h k_45_29))) (fun h => nd h (fun h => nd h (fun h => lf (P := EE l 45) h k_45_30) (fun h => lf (P := EE l 45) h k_45_33)) (fun h => nd h (fun h => lf (P := EE l 45) h k_45_34) (fun h => lf (P := EE l 45) h k_45_35)))) (fun h => nd h (fun h => nd h (fun h => lf (P := EE l 45) h k_45_38) (fun h => nd h (fun h => lf (P := EE l 45) h k_45_39) (fun h => lf (P := EE l 45) h k_45_42))) (fun h => nd h (fun h => nd h (fun h => lf (P := EE l 45) h k_45_43) (fun h => lf (P := EE l 45) h k_45_46)) (fun h => nd h (fun h => lf (P := EE l 45) h k_45_47) (fun h => lf (P := EE l 45) h k_45_50)))))) (fun h => nd h (fun h => nd h (fun h => nd h (fun h => nd h (fun h => lf (P := EE l 45) h k_45_52) (fun h => nd h (fun h => lf (P := EE l 45) h k_45_53) (fun h => lf (P := EE l 45) h k_45_54))) (fun h => nd h (fun h => lf (P := EE l 45) h k_45_57) (fun h => nd h (fun h => lf (P := EE l 45) h k_45_58) (fun h => lf (P := EE l 45) h k_45_61)))) (fun h => nd h (fun h => nd h (fun h => lf (P := EE l 45) h k_45_63) (fun h => nd h (fun h => lf (P := EE l 45) h k_45_66) (fun h => lf (P := EE l 45) h k_45_67))) (fun h => nd h (fun h => nd h (fun h => lf (P := EE l 45) h k_45_70) (fun h => lf (P := EE l 45) h k_45_73)) (fun h => nd h (fun h => lf (P := EE l 45) h k_45_75) (fun h => lf (P := EE l 45) h k_45_78))))) (fun h => nd h (fun h => nd h (fun h => nd h (fun h => lf (P := EE l 45) h k_45_79) (fun h => nd h (fun h => lf (P := EE l 45) h k_45_80) (fun h => lf (P := EE l 45) h k_45_83))) (fun h => nd h (fun h => nd h (fun h => lf (P := EE l 45) h k_45_84) (fun h => lf (P := EE l 45) h k_45_87)) (fun h => nd h (fun h => lf (P := EE l 45) h k_45_89) (fun h => lf (P := EE l 45) h (EE_cp (⟨78, dX4_addTile_92, m_523, m_506, m_505, m_83, by decide, by decide⟩)))))) (fun h => nd h (fun h => nd h (fun h => lf (P := EE l 45) h k_45_95) (fun h => nd h (fun h => lf (P := EE l 45) h k_45_96) (fun h => lf (P := EE l 45) h k_45_99))) (fun h => nd h (fun h => nd h (fun h => lf (P := EE l 45) h k_45_100) (fun h => lf (P := EE l 45) h k_45_103)) (fun h => nd h (fun h => lf (P := EE l 45) h k_45_104) (fun h => lf (P := EE l 45) h k_45_107))))))) (fun h => nd h (fun h => nd h (fun h => nd h (fun h => nd h (fun h => nd h (fun h => lf (P := EE l 45) h k_45_108) (fun h => nd h (fun h => lf (P := EE l 45) h k_45_109) (fun h => lf (P := EE l 45) h k_45_110))) (fun h => nd h (fun h => lf (P := EE l 45) h k_45_113) (fun h => nd h (fun h => lf (P := EE l 45) h k_45_115) (fun h => lf (P := EE l 45) h k_45_118)))) (fun h => nd h (fun h => nd h (fun h => lf (P := EE l 45) h k_45_119) (fun h => nd h (fun h => lf (P := EE l 45) h k_45_122) (fun h => lf (P := EE l 45) h k_45_125))) (fun h => nd h (fun h => nd h (fun h => lf (P := EE l 45) h (EE_re (Or.inr (Or.inl ⟨rfl, dX4_addTile_126, rfl⟩)))) (fun h => lf (P := EE l 45) h k_45_127)) (fun h => nd h (fun h => lf (P := EE l 45) h k_45_128) (fun h => lf (P := EE l 45) h k_45_131))))) (fun h => nd h (fun h => nd h (fun h => nd h (fun h => lf (P := EE l 45) h k_45_132) (fun h => nd h (fun h => lf (P := EE l 45) h k_45_135) (fun h => lf (P := EE l 45) h k_45_136))) (fun h => nd h (fun h => nd h (fun h => lf (P := EE l 45) h k_45_137) (fun h => lf (P := EE l 45) h k_45_138)) (fun h => nd h (fun h => lf (P := EE l 45) h k_45_141) (fun h => lf (P := EE l 45) h k_45_142)))) (fun h => nd h (fun h => nd h (fun h => lf (P := EE l 45) h k_45_145) (fun h => nd h (fun h => lf (P := EE l 45) h k_45_146) (fun h => lf (P := EE l 45) h k_45_147))) (fun h => nd h (fun h => nd h (fun h => lf (P := EE l 45) h k_45_148) (fun h => lf (P := EE l 45) h k_45_151)) (fun h => nd h (fun h => lf (P := EE l 45) h k_45_152) (fun h => lf (P := EE l 45) h k_45_155)))))) (fun h => nd h (fun h => nd h (fun h => nd h (fun h => nd h (fun h => lf (P := EE l 45) h k_45_156) (fun h => nd h (fun h => lf (P := EE l 45) h k_45_157) (fun h => lf (P := EE l 45) h k_45_158))) (fun h => nd h (fun h => nd h (fun h => lf (P := EE l 45) h k_45_161) (fun h => lf (P := EE l 45) h k_45_162)) (fun h => nd h (fun h => lf (P := EE l 45) h k_45_165) (fun h => lf (P := EE l 45) h k_45_167)))) (fun h => nd h (fun h => nd h (fun h => lf (P := EE l 45) h k_45_168) (fun h => nd h (fun h => lf (P := EE l 45) h k_45_169) (fun h => lf (P := EE l 45) h k_45_172))) (fun h => nd h (fun h => nd h (fun h => lf (P := EE l 45) h k_45_173) (fun h => lf (P := EE l 45) h k_45_176)) (fun h => nd h (fun h => lf (P := EE l 45) h k_45_178) (fun h => lf (P := EE l 45) h k_45_181))))) (fun h => nd h (fun h => nd h (fun h => nd h (fun h => lf (P := EE l 45) h k_45_182) (fun h => nd h (fun h => lf (P := EE l 45) h k_45_183) (fun h => lf (P := EE l 45) h k_45_186))) (fun h => nd h (fun h => nd h (fun h => lf (P := EE l 45) h k_45_187) (fun h => lf (P := EE l 45) h k_45_190)) (fun h => nd h (fun h => lf (P := EE l 45) h k_45_192) (fun h => lf (P := EE l 45) h k_45_193)))) (fun h => nd h (fun h => nd h (fun h => lf (P := EE l 45) h k_45_194) (fun h => nd h (fun h => lf (P := EE l 45) h k_45_195) (fun h => lf (P := EE l 45) h k_45_198))) (fun h => nd h (fun h => nd h (fun h => lf (P := EE l 45) h k_45_199) (fun h => lf (P := EE l 45) h k_45_200)) (fun h => nd h (fun h => lf (P := EE l 45) h k_45_203) (fun h => lf (P := EE l 45) h (EE_re (Or.inr (Or.inl ⟨rfl, dX4_addTile_204, rfl⟩))))))))))
theorem dX4_firstWith_0 : decode cX4_firstWith 0 = .ok (.iconst 0, 1) := by decide +kernel
theorem dX4_firstWith_1 : decode cX4_firstWith 1 = .ok (.istore_n 2, 1) := by decide +kernel
theorem dX4_firstWith_2 : decode cX4_firstWith 2 = .ok (.iload_n 2, 1) := by decide +kernel
theorem dX4_firstWith_3 : decode cX4_firstWith 3 = .ok (.aload_n 0, 1) := by decide +kernel
theorem dX4_firstWith_4 : decode cX4_firstWith 4 = .ok (.getfield 59, 3) := by decide +kernel
theorem dX4_firstWith_7 : decode cX4_firstWith 7 = .ok (.if_icmp .ge 28, 3) := by decide +kernel
theorem dX4_firstWith_10 : decode cX4_firstWith 10 = .ok (.aload_n 0, 1) := by decide +kernel
theorem dX4_firstWith_11 : decode cX4_firstWith 11 = .ok (.iload_n 2, 1) := by decide +kernel
theorem dX4_firstWith_12 : decode cX4_firstWith 12 = .ok (.aload_n 1, 1) := by decide +kernel
theorem dX4_firstWith_13 : decode cX4_firstWith 13 = .ok (.getfield 77, 3) := by decide +kernel
theorem dX4_firstWith_16 : decode cX4_firstWith 16 = .ok (.iconst 0, 1) := by decide +kernel
theorem dX4_firstWith_17 : decode cX4_firstWith 17 = .ok (.aload_n 1, 1) := by decide +kernel
theorem dX4_firstWith_18 : decode cX4_firstWith 18 = .ok (.getfield 72, 3) := by decide +kernel
theorem dX4_firstWith_21 : decode cX4_firstWith 21 = .ok (.invokevirtual 84, 3) := by decide +kernel
theorem dX4_firstWith_24 : decode cX4_firstWith 24 = .ok (.ifCond .eq 5, 3) := by decide +kernel
theorem dX4_firstWith_27 : decode cX4_firstWith 27 = .ok (.iload_n 2, 1) := by decide +kernel
theorem dX4_firstWith_28 : decode cX4_firstWith 28 = .ok (.ireturn, 1) := by decide +kernel
theorem dX4_firstWith_29 : decode cX4_firstWith 29 = .ok (.iinc 2 1, 3) := by decide +kernel
theorem dX4_firstWith_32 : decode cX4_firstWith 32 = .ok (.goto (-30), 3) := by decide +kernel
theorem dX4_firstWith_35 : decode cX4_firstWith 35 = .ok (.aload_n 0, 1) := by decide +kernel
theorem dX4_firstWith_36 : decode cX4_firstWith 36 = .ok (.getfield 59, 3) := by decide +kernel
theorem dX4_firstWith_39 : decode cX4_firstWith 39 = .ok (.ireturn, 1) := by decide +kernel
def tb_46 (pc : Nat) : Option mEnt := bif Nat.ble pc 16 then (bif Nat.ble pc 4 then (bif Nat.ble pc 1 then (bif Nat.ble pc 0 then (bif Nat.beq pc 0 then some (.inl (oS 1 (s_push (.int 0)))) else none) else (bif Nat.beq pc 1 then some (.inl (o_is 2 1)) else none)) else (bif Nat.ble pc 2 then (bif Nat.beq pc 2 then some (.inl (o_il 2 1)) else none) else (bif Nat.ble pc 3 then (bif Nat.beq pc 3 then some (.inl (o_al 0 1)) else none) else (bif Nat.beq pc 4 then some (.inl (o_gI 4 3)) else none)))) else (bif Nat.ble pc 11 then (bif Nat.ble pc 7 then (bif Nat.beq pc 7 then some (.inl (o_cge 35)) else none) else (bif Nat.ble pc 10 then (bif Nat.beq pc 10 then some (.inl (o_al 0 1)) else none) else (bif Nat.beq pc 11 then some (.inl (o_il 2 1)) else none))) else (bif Nat.ble pc 12 then (bif Nat.beq pc 12 then some (.inl (o_al 1 1)) else none) else (bif Nat.ble pc 13 then (bif Nat.beq pc 13 then some (.inl (o_gP 3 0)) else none) else (bif Nat.beq pc 16 then some (.inl (oS 1 (s_push (.int 0)))) else none))))) else (bif Nat.ble pc 27 then (bif Nat.ble pc 18 then (bif Nat.ble pc 17 then (bif Nat.beq pc 17 then some (.inl (o_al 1 1)) else none) else (bif Nat.beq pc 18 then some (.inl (o_gI 3 1)) else none)) else (bif Nat.ble pc 21 then (bif Nat.beq pc 21 then some (.inr (3, 47, 5, 4)) else none) else (bif Nat.ble pc 24 then (bif Nat.beq pc 24 then some (.inl (o_zeq 29)) else none) else (bif Nat.beq pc 27 then some (.inl (o_il 2 1)) else none)))) else (bif Nat.ble pc 32 then (bif Nat.ble pc 28 then (bif Nat.beq pc 28 then some (.inr (0, 0, 0, 0)) else none) else (bif Nat.ble pc 29 then (bif Nat.beq pc 29 then some (.inl (o_inc 2 1)) else none) else (bif Nat.beq pc 32 then some (.inl (o_goto 2)) else none))) else (bif Nat.ble pc 35 then (bif Nat.beq pc 35 then some (.inl (o_al 0 1)) else none) else (bif Nat.ble pc 36 then (bif Nat.beq pc 36 then some (.inl (o_gI 4 3)) else none) else (bif Nat.beq pc 39 then some (.inr (0, 0, 0, 0)) else none)))))
theorem k_46_0 : mOk M_46.1 M_46.2.1 M_46.2.2.1 M_46.2.2.2 0 (oS 1 (s_push (.int 0))) := ok_iconst dX4_firstWith_0 (by decide)
theorem k_46_1 : mOk M_46.1 M_46.2.1 M_46.2.2.1 M_46.2.2.2 1 (o_is 2 1) := ok_istore_n dX4_firstWith_1 rfl
theorem k_46_2 : mOk M_46.1 M_46.2.1 M_46.2.2.1 M_46.2.2.2 2 (o_il 2 1) := ok_iload_n dX4_firstWith_2 rfl
theorem k_46_3 : mOk M_46.1 M_46.2.1 M_46.2.2.1 M_46.2.2.2 3 (o_al 0 1) := ok_aload_n dX4_firstWith_3 rfl
theorem k_46_4 : mOk M_46.1 M_46.2.1 M_46.2.2.1 M_46.2.2.2 4 (o_gI 4 3) := ok_gI dX4_firstWith_4 f_RX4_59 (Or.inl rfl)
theorem k_46_7 : mOk M_46.1 M_46.2.1 M_46.2.2.1 M_46.2.2.2 7 (o_cge 35) := ok_cge dX4_firstWith_7 (by decide)
theorem k_46_10 : mOk M_46.1 M_46.2.1 M_46.2.2.1 M_46.2.2.2 10 (o_al 0 1) := ok_aload_n dX4_firstWith_10 rfl
theorem k_46_11 : mOk M_46.1 M_46.2.1 M_46.2.2.1 M_46.2.2.2 11 (o_il 2 1) := ok_iload_n dX4_firstWith_11 rfl
theorem k_46_12 : mOk M_46.1 M_46.2.1 M_46.2.2.1 M_46.2.2.2 12 (o_al 1 1) := ok_aload_n dX4_firstWith_12 rfl
theorem k_46_13 : mOk M_46.1 M_46.2.1 M_46.2.2.1 M_46.2.2.2 13 (o_gP 3 0) := ok_gP dX4_firstWith_13 f_RX4_77 rfl
theorem k_46_16 : mOk M_46.1 M_46.2.1 M_46.2.2.1 M_46.2.2.2 16 (oS 1 (s_push (.int 0))) := ok_iconst dX4_firstWith_16 (by decide)
theorem k_46_17 : mOk M_46.1 M_46.2.1 M_46.2.2.1 M_46.2.2.2 17 (o_al 1 1) := ok_aload_n dX4_firstWith_17 rfl
theorem k_46_18 : mOk M_46.1 M_46.2.1 M_46.2.2.1 M_46.2.2.2 18 (o_gI 3 1) := ok_gI dX4_firstWith_18 f_RX4_72 (Or.inl rfl)
theorem k_46_24 : mOk M_46.1 M_46.2.1 M_46.2.2.1 M_46.2.2.2 24 (o_zeq 29) := ok_zeq dX4_firstWith_24 (by decide)
theorem k_46_27 : mOk M_46.1 M_46.2.1 M_46.2.2.1 M_46.2.2.2 27 (o_il 2 1) := ok_iload_n dX4_firstWith_27 rfl
theorem k_46_29 : mOk M_46.1 M_46.2.1 M_46.2.2.1 M_46.2.2.2 29 (o_inc 2 1) := ok_iinc dX4_firstWith_29 (by decide)
theorem k_46_32 : mOk M_46.1 M_46.2.1 M_46.2.2.1 M_46.2.2.2 32 (o_goto 2) := ok_goto dX4_firstWith_32 (by decide)
theorem k_46_35 : mOk M_46.1 M_46.2.1 M_46.2.2.1 M_46.2.2.2 35 (o_al 0 1) := ok_aload_n dX4_firstWith_35 rfl
theorem k_46_36 : mOk M_46.1 M_46.2.1 M_46.2.2.1 M_46.2.2.2 36 (o_gI 4 3) := ok_gI dX4_firstWith_36 f_RX4_59 (Or.inl rfl)
set_option maxRecDepth 20000 in
set_option maxHeartbeats 4000000 in
theorem tk_46 (l : Launch) (H9 : mThr l) (H10 : mSpl l) (pc : Nat) (q : mEnt) (h : tb_46 pc = some q) : EE l 46 pc q := nd h (fun h => nd h (fun h => nd h (fun h => nd h (fun h => lf (P := EE l 46) h k_46_0) (fun h => lf (P := EE l 46) h k_46_1)) (fun h => nd h (fun h => lf (P := EE l 46) h k_46_2) (fun h => nd h (fun h => lf (P := EE l 46) h k_46_3) (fun h => lf (P := EE l 46) h k_46_4)))) (fun h => nd h (fun h => nd h (fun h => lf (P := EE l 46) h k_46_7) (fun h => nd h (fun h => lf (P := EE l 46) h k_46_10) (fun h => lf (P := EE l 46) h k_46_11))) (fun h => nd h (fun h => lf (P := EE l 46) h k_46_12) (fun h => nd h (fun h => lf (P := EE l 46) h k_46_13) (fun h => lf (P := EE l 46) h k_46_16))))) (fun h => nd h (fun h => nd h (fun h => nd h (fun h => lf (P := EE l 46) h k_46_17) (fun h => lf (P := EE l 46) h k_46_18)) (fun h => nd h (fun h => lf (P := EE l 46) h (EE_ca (by decide) (⟨m_903, m_79, ⟨by decide, by decide⟩, by decide +kernel, ⟨by decide, by decide⟩, 84, 4, by decide +kernel, Or.inr (Or.inr (Or.inl ⟨rfl, rfl, dX4_firstWith_21, m_900, m_902, _, rfl, by decide, m_22⟩))⟩) rfl)) (fun h => nd h (fun h => lf (P := EE l 46) h k_46_24) (fun h => lf (P := EE l 46) h k_46_27)))) (fun h => nd h (fun h => nd h (fun h => lf (P := EE l 46) h (EE_re (Or.inl ⟨rfl, dX4_firstWith_28, rfl⟩))) (fun h => nd h (fun h => lf (P := EE l 46) h k_46_29) (fun h => lf (P := EE l 46) h k_46_32))) (fun h => nd h (fun h => lf (P := EE l 46) h k_46_35) (fun h => nd h (fun h => lf (P := EE l 46) h k_46_36) (fun h => lf (P := EE l 46) h (EE_re (Or.inl ⟨rfl, dX4_firstWith_39, rfl⟩)))))))
theorem dX4_hasBytes_0 : decode cX4_hasBytes 0 = .ok (.aload_n 0, 1) := by decide +kernel
theorem dX4_hasBytes_1 : decode cX4_hasBytes 1 = .ok (.getfield 38, 3) := by decide +kernel
theorem dX4_hasBytes_4 : decode cX4_hasBytes 4 = .ok (.iload_n 1, 1) := by decide +kernel
theorem dX4_hasBytes_5 : decode cX4_hasBytes 5 = .ok (.iaload, 1) := by decide +kernel
theorem dX4_hasBytes_6 : decode cX4_hasBytes 6 = .ok (.iload 4, 2) := by decide +kernel
theorem dX4_hasBytes_8 : decode cX4_hasBytes 8 = .ok (.if_icmp .eq 5, 3) := by decide +kernel
theorem dX4_hasBytes_11 : decode cX4_hasBytes 11 = .ok (.iconst 0, 1) := by decide +kernel
theorem dX4_hasBytes_12 : decode cX4_hasBytes 12 = .ok (.ireturn, 1) := by decide +kernel
theorem dX4_hasBytes_13 : decode cX4_hasBytes 13 = .ok (.iconst 0, 1) := by decide +kernel
theorem dX4_hasBytes_14 : decode cX4_hasBytes 14 = .ok (.istore 5, 2) := by decide +kernel
theorem dX4_hasBytes_16 : decode cX4_hasBytes 16 = .ok (.iload 5, 2) := by decide +kernel
theorem dX4_hasBytes_18 : decode cX4_hasBytes 18 = .ok (.iload 4, 2) := by decide +kernel
theorem dX4_hasBytes_20 : decode cX4_hasBytes 20 = .ok (.if_icmp .ge 34, 3) := by decide +kernel
theorem dX4_hasBytes_23 : decode cX4_hasBytes 23 = .ok (.aload_n 0, 1) := by decide +kernel
theorem dX4_hasBytes_24 : decode cX4_hasBytes 24 = .ok (.getfield 47, 3) := by decide +kernel
theorem dX4_hasBytes_27 : decode cX4_hasBytes 27 = .ok (.aload_n 0, 1) := by decide +kernel
theorem dX4_hasBytes_28 : decode cX4_hasBytes 28 = .ok (.getfield 44, 3) := by decide +kernel
theorem dX4_hasBytes_31 : decode cX4_hasBytes 31 = .ok (.iload_n 1, 1) := by decide +kernel
theorem dX4_hasBytes_32 : decode cX4_hasBytes 32 = .ok (.iaload, 1) := by decide +kernel
theorem dX4_hasBytes_33 : decode cX4_hasBytes 33 = .ok (.iload 5, 2) := by decide +kernel
theorem dX4_hasBytes_35 : decode cX4_hasBytes 35 = .ok (.iadd, 1) := by decide +kernel
theorem dX4_hasBytes_36 : decode cX4_hasBytes 36 = .ok (.baload, 1) := by decide +kernel
theorem dX4_hasBytes_37 : decode cX4_hasBytes 37 = .ok (.aload_n 2, 1) := by decide +kernel
theorem dX4_hasBytes_38 : decode cX4_hasBytes 38 = .ok (.iload_n 3, 1) := by decide +kernel
theorem dX4_hasBytes_39 : decode cX4_hasBytes 39 = .ok (.iload 5, 2) := by decide +kernel
theorem dX4_hasBytes_41 : decode cX4_hasBytes 41 = .ok (.iadd, 1) := by decide +kernel
theorem dX4_hasBytes_42 : decode cX4_hasBytes 42 = .ok (.baload, 1) := by decide +kernel
theorem dX4_hasBytes_43 : decode cX4_hasBytes 43 = .ok (.if_icmp .eq 5, 3) := by decide +kernel
theorem dX4_hasBytes_46 : decode cX4_hasBytes 46 = .ok (.iconst 0, 1) := by decide +kernel
theorem dX4_hasBytes_47 : decode cX4_hasBytes 47 = .ok (.ireturn, 1) := by decide +kernel
theorem dX4_hasBytes_48 : decode cX4_hasBytes 48 = .ok (.iinc 5 1, 3) := by decide +kernel
theorem dX4_hasBytes_51 : decode cX4_hasBytes 51 = .ok (.goto (-35), 3) := by decide +kernel
theorem dX4_hasBytes_54 : decode cX4_hasBytes 54 = .ok (.iconst 1, 1) := by decide +kernel
theorem dX4_hasBytes_55 : decode cX4_hasBytes 55 = .ok (.ireturn, 1) := by decide +kernel
def tb_47 (pc : Nat) : Option mEnt := bif Nat.ble pc 28 then (bif Nat.ble pc 12 then (bif Nat.ble pc 5 then (bif Nat.ble pc 1 then (bif Nat.ble pc 0 then (bif Nat.beq pc 0 then some (.inl (o_al 0 1)) else none) else (bif Nat.beq pc 1 then some (.inl (o_gP 4 10)) else none)) else (bif Nat.ble pc 4 then (bif Nat.beq pc 4 then some (.inl (o_il 1 1)) else none) else (bif Nat.beq pc 5 then some (.inl (o_iald)) else none))) else (bif Nat.ble pc 8 then (bif Nat.ble pc 6 then (bif Nat.beq pc 6 then some (.inl (o_il 4 2)) else none) else (bif Nat.beq pc 8 then some (.inl (o_ceq 13)) else none)) else (bif Nat.ble pc 11 then (bif Nat.beq pc 11 then some (.inl (oS 1 (s_push (.int 0)))) else none) else (bif Nat.beq pc 12 then some (.inr (0, 0, 0, 4)) else none)))) else (bif Nat.ble pc 18 then (bif Nat.ble pc 14 then (bif Nat.ble pc 13 then (bif Nat.beq pc 13 then some (.inl (oS 1 (s_push (.int 0)))) else none) else (bif Nat.beq pc 14 then some (.inl (o_is 5 2)) else none)) else (bif Nat.ble pc 16 then (bif Nat.beq pc 16 then some (.inl (o_il 5 2)) else none) else (bif Nat.beq pc 18 then some (.inl (o_il 4 2)) else none))) else (bif Nat.ble pc 23 then (bif Nat.ble pc 20 then (bif Nat.beq pc 20 then some (.inl (o_cge 54)) else none) else (bif Nat.beq pc 23 then some (.inl (o_al 0 1)) else none)) else (bif Nat.ble pc 24 then (bif Nat.beq pc 24 then some (.inl (o_gP 4 13)) else none) else (bif Nat.ble pc 27 then (bif Nat.beq pc 27 then some (.inl (o_al 0 1)) else none) else (bif Nat.beq pc 28 then some (.inl (o_gP 4 12)) else none)))))) else (bif Nat.ble pc 39 then (bif Nat.ble pc 35 then (bif Nat.ble pc 32 then (bif Nat.ble pc 31 then (bif Nat.beq pc 31 then some (.inl (o_il 1 1)) else none) else (bif Nat.beq pc 32 then some (.inl (o_iald)) else none)) else (bif Nat.ble pc 33 then (bif Nat.beq pc 33 then some (.inl (o_il 5 2)) else none) else (bif Nat.beq pc 35 then some (.inl (oS 1 (s_ii (fun a b => a + b)))) else none))) else (bif Nat.ble pc 37 then (bif Nat.ble pc 36 then (bif Nat.beq pc 36 then some (.inl (o_bald)) else none) else (bif Nat.beq pc 37 then some (.inl (o_al 2 1)) else none)) else (bif Nat.ble pc 38 then (bif Nat.beq pc 38 then some (.inl (o_il 3 1)) else none) else (bif Nat.beq pc 39 then some (.inl (o_il 5 2)) else none)))) else (bif Nat.ble pc 46 then (bif Nat.ble pc 42 then (bif Nat.ble pc 41 then (bif Nat.beq pc 41 then some (.inl (oS 1 (s_ii (fun a b => a + b)))) else none) else (bif Nat.beq pc 42 then some (.inl (o_bald)) else none)) else (bif Nat.ble pc 43 then (bif Nat.beq pc 43 then some (.inl (o_ceq 48)) else none) else (bif Nat.beq pc 46 then some (.inl (oS 1 (s_push (.int 0)))) else none))) else (bif Nat.ble pc 48 then (bif Nat.ble pc 47 then (bif Nat.beq pc 47 then some (.inr (0, 0, 0, 4)) else none) else (bif Nat.beq pc 48 then some (.inl (o_inc 5 1)) else none)) else (bif Nat.ble pc 51 then (bif Nat.beq pc 51 then some (.inl (o_goto 16)) else none) else (bif Nat.ble pc 54 then (bif Nat.beq pc 54 then some (.inl (oS 1 (s_push (.int 1)))) else none) else (bif Nat.beq pc 55 then some (.inr (0, 0, 0, 4)) else none))))))
theorem k_47_0 : mOk M_47.1 M_47.2.1 M_47.2.2.1 M_47.2.2.2 0 (o_al 0 1) := ok_aload_n dX4_hasBytes_0 rfl
theorem k_47_1 : mOk M_47.1 M_47.2.1 M_47.2.2.1 M_47.2.2.2 1 (o_gP 4 10) := ok_gP dX4_hasBytes_1 f_RX4_38 rfl
theorem k_47_4 : mOk M_47.1 M_47.2.1 M_47.2.2.1 M_47.2.2.2 4 (o_il 1 1) := ok_iload_n dX4_hasBytes_4 rfl
theorem k_47_5 : mOk M_47.1 M_47.2.1 M_47.2.2.1 M_47.2.2.2 5 (o_iald) := ok_iald dX4_hasBytes_5
theorem k_47_6 : mOk M_47.1 M_47.2.1 M_47.2.2.1 M_47.2.2.2 6 (o_il 4 2) := ok_iload dX4_hasBytes_6
theorem k_47_8 : mOk M_47.1 M_47.2.1 M_47.2.2.1 M_47.2.2.2 8 (o_ceq 13) := ok_ceq dX4_hasBytes_8 (by decide)
theorem k_47_11 : mOk M_47.1 M_47.2.1 M_47.2.2.1 M_47.2.2.2 11 (oS 1 (s_push (.int 0))) := ok_iconst dX4_hasBytes_11 (by decide)
theorem k_47_13 : mOk M_47.1 M_47.2.1 M_47.2.2.1 M_47.2.2.2 13 (oS 1 (s_push (.int 0))) := ok_iconst dX4_hasBytes_13 (by decide)
theorem k_47_14 : mOk M_47.1 M_47.2.1 M_47.2.2.1 M_47.2.2.2 14 (o_is 5 2) := ok_istore dX4_hasBytes_14
theorem k_47_16 : mOk M_47.1 M_47.2.1 M_47.2.2.1 M_47.2.2.2 16 (o_il 5 2) := ok_iload dX4_hasBytes_16
theorem k_47_18 : mOk M_47.1 M_47.2.1 M_47.2.2.1 M_47.2.2.2 18 (o_il 4 2) := ok_iload dX4_hasBytes_18
theorem k_47_20 : mOk M_47.1 M_47.2.1 M_47.2.2.1 M_47.2.2.2 20 (o_cge 54) := ok_cge dX4_hasBytes_20 (by decide)
theorem k_47_23 : mOk M_47.1 M_47.2.1 M_47.2.2.1 M_47.2.2.2 23 (o_al 0 1) := ok_aload_n dX4_hasBytes_23 rfl
theorem k_47_24 : mOk M_47.1 M_47.2.1 M_47.2.2.1 M_47.2.2.2 24 (o_gP 4 13) := ok_gP dX4_hasBytes_24 f_RX4_47 rfl
theorem k_47_27 : mOk M_47.1 M_47.2.1 M_47.2.2.1 M_47.2.2.2 27 (o_al 0 1) := ok_aload_n dX4_hasBytes_27 rfl
theorem k_47_28 : mOk M_47.1 M_47.2.1 M_47.2.2.1 M_47.2.2.2 28 (o_gP 4 12) := ok_gP dX4_hasBytes_28 f_RX4_44 rfl
theorem k_47_31 : mOk M_47.1 M_47.2.1 M_47.2.2.1 M_47.2.2.2 31 (o_il 1 1) := ok_iload_n dX4_hasBytes_31 rfl
theorem k_47_32 : mOk M_47.1 M_47.2.1 M_47.2.2.1 M_47.2.2.2 32 (o_iald) := ok_iald dX4_hasBytes_32
theorem k_47_33 : mOk M_47.1 M_47.2.1 M_47.2.2.1 M_47.2.2.2 33 (o_il 5 2) := ok_iload dX4_hasBytes_33
theorem k_47_35 : mOk M_47.1 M_47.2.1 M_47.2.2.1 M_47.2.2.2 35 (oS 1 (s_ii (fun a b => a + b))) := ok_iadd dX4_hasBytes_35
theorem k_47_36 : mOk M_47.1 M_47.2.1 M_47.2.2.1 M_47.2.2.2 36 (o_bald) := ok_bald dX4_hasBytes_36
theorem k_47_37 : mOk M_47.1 M_47.2.1 M_47.2.2.1 M_47.2.2.2 37 (o_al 2 1) := ok_aload_n dX4_hasBytes_37 rfl
theorem k_47_38 : mOk M_47.1 M_47.2.1 M_47.2.2.1 M_47.2.2.2 38 (o_il 3 1) := ok_iload_n dX4_hasBytes_38 rfl
theorem k_47_39 : mOk M_47.1 M_47.2.1 M_47.2.2.1 M_47.2.2.2 39 (o_il 5 2) := ok_iload dX4_hasBytes_39
theorem k_47_41 : mOk M_47.1 M_47.2.1 M_47.2.2.1 M_47.2.2.2 41 (oS 1 (s_ii (fun a b => a + b))) := ok_iadd dX4_hasBytes_41
theorem k_47_42 : mOk M_47.1 M_47.2.1 M_47.2.2.1 M_47.2.2.2 42 (o_bald) := ok_bald dX4_hasBytes_42
theorem k_47_43 : mOk M_47.1 M_47.2.1 M_47.2.2.1 M_47.2.2.2 43 (o_ceq 48) := ok_ceq dX4_hasBytes_43 (by decide)
theorem k_47_46 : mOk M_47.1 M_47.2.1 M_47.2.2.1 M_47.2.2.2 46 (oS 1 (s_push (.int 0))) := ok_iconst dX4_hasBytes_46 (by decide)
theorem k_47_48 : mOk M_47.1 M_47.2.1 M_47.2.2.1 M_47.2.2.2 48 (o_inc 5 1) := ok_iinc dX4_hasBytes_48 (by decide)
theorem k_47_51 : mOk M_47.1 M_47.2.1 M_47.2.2.1 M_47.2.2.2 51 (o_goto 16) := ok_goto dX4_hasBytes_51 (by decide)
theorem k_47_54 : mOk M_47.1 M_47.2.1 M_47.2.2.1 M_47.2.2.2 54 (oS 1 (s_push (.int 1))) := ok_iconst dX4_hasBytes_54 (by decide)
set_option maxRecDepth 20000 in
set_option maxHeartbeats 4000000 in
theorem tk_47 (l : Launch) (H9 : mThr l) (H10 : mSpl l) (pc : Nat) (q : mEnt) (h : tb_47 pc = some q) : EE l 47 pc q := nd h (fun h => nd h (fun h => nd h (fun h => nd h (fun h => nd h (fun h => lf (P := EE l 47) h k_47_0) (fun h => lf (P := EE l 47) h k_47_1)) (fun h => nd h (fun h => lf (P := EE l 47) h k_47_4) (fun h => lf (P := EE l 47) h k_47_5))) (fun h => nd h (fun h => nd h (fun h => lf (P := EE l 47) h k_47_6) (fun h => lf (P := EE l 47) h k_47_8)) (fun h => nd h (fun h => lf (P := EE l 47) h k_47_11) (fun h => lf (P := EE l 47) h (EE_re (Or.inr (Or.inl ⟨rfl, dX4_hasBytes_12, rfl⟩))))))) (fun h => nd h (fun h => nd h (fun h => nd h (fun h => lf (P := EE l 47) h k_47_13) (fun h => lf (P := EE l 47) h k_47_14)) (fun h => nd h (fun h => lf (P := EE l 47) h k_47_16) (fun h => lf (P := EE l 47) h k_47_18))) (fun h => nd h (fun h => nd h (fun h => lf (P := EE l 47) h k_47_20) (fun h => lf (P := EE l 47) h k_47_23)) (fun h => nd h (fun h => lf (P := EE l 47) h k_47_24) (fun h => nd h (fun h => lf (P := EE l 47) h k_47_27) (fun h => lf (P := EE l 47) h k_47_28)))))) (fun h => nd h (fun h => nd h (fun h => nd h (fun h => nd h (fun h => lf (P := EE l 47) h k_47_31) (fun h => lf (P := EE l 47) h k_47_32)) (fun h => nd h (fun h => lf (P := EE l 47) h k_47_33) (fun h => lf (P := EE l 47) h k_47_35))) (fun h => nd h (fun h => nd h (fun h => lf (P := EE l 47) h k_47_36) (fun h => lf (P := EE l 47) h k_47_37)) (fun h => nd h (fun h => lf (P := EE l 47) h k_47_38) (fun h => lf (P := EE l 47) h k_47_39)))) (fun h => nd h (fun h => nd h (fun h => nd h (fun h => lf (P := EE l 47) h k_47_41) (fun h => lf (P := EE l 47) h k_47_42)) (fun h => nd h (fun h => lf (P := EE l 47) h k_47_43) (fun h => lf (P := EE l 47) h k_47_46))) (fun h => nd h (fun h => nd h (fun h => lf (P := EE l 47) h (EE_re (Or.inr (Or.inl ⟨rfl, dX4_hasBytes_47, rfl⟩)))) (fun h => lf (P := EE l 47) h k_47_48)) (fun h => nd h (fun h => lf (P := EE l 47) h k_47_51) (fun h => nd h (fun h => lf (P := EE l 47) h k_47_54) (fun h => lf (P := EE l 47) h (EE_re (Or.inr (Or.inl ⟨rfl, dX4_hasBytes_55, rfl⟩)))))))))
theorem dX4_sameBytes_0 : decode cX4_sameBytes 0 = .ok (.aload_n 0, 1) := by decide +kernel
theorem dX4_sameBytes_1 : decode cX4_sameBytes 1 = .ok (.iload_n 1, 1) := by decide +kernel
theorem dX4_sameBytes_2 : decode cX4_sameBytes 2 = .ok (.aload_n 2, 1) := by decide +kernel
theorem dX4_sameBytes_3 : decode cX4_sameBytes 3 = .ok (.getfield 47, 3) := by decide +kernel
theorem dX4_sameBytes_6 : decode cX4_sameBytes 6 = .ok (.aload_n 2, 1) := by decide +kernel
theorem dX4_sameBytes_7 : decode cX4_sameBytes 7 = .ok (.getfield 44, 3) := by decide +kernel
theorem dX4_sameBytes_10 : decode cX4_sameBytes 10 = .ok (.iload_n 3, 1) := by decide +kernel
theorem dX4_sameBytes_11 : decode cX4_sameBytes 11 = .ok (.iaload, 1) := by decide +kernel
theorem dX4_sameBytes_12 : decode cX4_sameBytes 12 = .ok (.aload_n 2, 1) := by decide +kernel
theorem dX4_sameBytes_13 : decode cX4_sameBytes 13 = .ok (.getfield 38, 3) := by decide +kernel
theorem dX4_sameBytes_16 : decode cX4_sameBytes 16 = .ok (.iload_n 3, 1) := by decide +kernel
theorem dX4_sameBytes_17 : decode cX4_sameBytes 17 = .ok (.iaload, 1) := by decide +kernel
theorem dX4_sameBytes_18 : decode cX4_sameBytes 18 = .ok (.invokevirtual 84, 3) := by decide +kernel
theorem dX4_sameBytes_21 : decode cX4_sameBytes 21 = .ok (.ireturn, 1) := by decide +kernel
def tb_48 (pc : Nat) : Option mEnt := bif Nat.ble pc 10 then (bif Nat.ble pc 2 then (bif Nat.ble pc 0 then (bif Nat.beq pc 0 then some (.inl (o_al 0 1)) else none) else (bif Nat.ble pc 1 then (bif Nat.beq pc 1 then some (.inl (o_il 1 1)) else none) else (bif Nat.beq pc 2 then some (.inl (o_al 2 1)) else none))) else (bif Nat.ble pc 6 then (bif Nat.ble pc 3 then (bif Nat.beq pc 3 then some (.inl (o_gP 4 13)) else none) else (bif Nat.beq pc 6 then some (.inl (o_al 2 1)) else none)) else (bif Nat.ble pc 7 then (bif Nat.beq pc 7 then some (.inl (o_gP 4 12)) else none) else (bif Nat.beq pc 10 then some (.inl (o_il 3 1)) else none)))) else (bif Nat.ble pc 13 then (bif Nat.ble pc 11 then (bif Nat.beq pc 11 then some (.inl (o_iald)) else none) else (bif Nat.ble pc 12 then (bif Nat.beq pc 12 then some (.inl (o_al 2 1)) else none) else (bif Nat.beq pc 13 then some (.inl (o_gP 4 10)) else none))) else (bif Nat.ble pc 17 then (bif Nat.ble pc 16 then (bif Nat.beq pc 16 then some (.inl (o_il 3 1)) else none) else (bif Nat.beq pc 17 then some (.inl (o_iald)) else none)) else (bif Nat.ble pc 18 then (bif Nat.beq pc 18 then some (.inr (3, 47, 5, 4)) else none) else (bif Nat.beq pc 21 then some (.inr (0, 0, 0, 4)) else none))))
theorem k_48_0 : mOk M_48.1 M_48.2.1 M_48.2.2.1 M_48.2.2.2 0 (o_al 0 1) := ok_aload_n dX4_sameBytes_0 rfl
theorem k_48_1 : mOk M_48.1 M_48.2.1 M_48.2.2.1 M_48.2.2.2 1 (o_il 1 1) := ok_iload_n dX4_sameBytes_1 rfl
theorem k_48_2 : mOk M_48.1 M_48.2.1 M_48.2.2.1 M_48.2.2.2 2 (o_al 2 1) := ok_aload_n dX4_sameBytes_2 rfl
theorem k_48_3 : mOk M_48.1 M_48.2.1 M_48.2.2.1 M_48.2.2.2 3 (o_gP 4 13) := ok_gP dX4_sameBytes_3 f_RX4_47 rfl
theorem k_48_6 : mOk M_48.1 M_48.2.1 M_48.2.2.1 M_48.2.2.2 6 (o_al 2 1) := ok_aload_n dX4_sameBytes_6 rfl
theorem k_48_7 : mOk M_48.1 M_48.2.1 M_48.2.2.1 M_48.2.2.2 7 (o_gP 4 12) := ok_gP dX4_sameBytes_7 f_RX4_44 rfl
theorem k_48_10 : mOk M_48.1 M_48.2.1 M_48.2.2.1 M_48.2.2.2 10 (o_il 3 1) := ok_iload_n dX4_sameBytes_10 rfl
theorem k_48_11 : mOk M_48.1 M_48.2.1 M_48.2.2.1 M_48.2.2.2 11 (o_iald) := ok_iald dX4_sameBytes_11
theorem k_48_12 : mOk M_48.1 M_48.2.1 M_48.2.2.1 M_48.2.2.2 12 (o_al 2 1) := ok_aload_n dX4_sameBytes_12 rfl
theorem k_48_13 : mOk M_48.1 M_48.2.1 M_48.2.2.1 M_48.2.2.2 13 (o_gP 4 10) := ok_gP dX4_sameBytes_13 f_RX4_38 rfl
theorem k_48_16 : mOk M_48.1 M_48.2.1 M_48.2.2.1 M_48.2.2.2 16 (o_il 3 1) := ok_iload_n dX4_sameBytes_16 rfl
theorem k_48_17 : mOk M_48.1 M_48.2.1 M_48.2.2.1 M_48.2.2.2 17 (o_iald) := ok_iald dX4_sameBytes_17
set_option maxRecDepth 20000 in
set_option maxHeartbeats 4000000 in
theorem tk_48 (l : Launch) (H9 : mThr l) (H10 : mSpl l) (pc : Nat) (q : mEnt) (h : tb_48 pc = some q) : EE l 48 pc q := nd h (fun h => nd h (fun h => nd h (fun h => lf (P := EE l 48) h k_48_0) (fun h => nd h (fun h => lf (P := EE l 48) h k_48_1) (fun h => lf (P := EE l 48) h k_48_2))) (fun h => nd h (fun h => nd h (fun h => lf (P := EE l 48) h k_48_3) (fun h => lf (P := EE l 48) h k_48_6)) (fun h => nd h (fun h => lf (P := EE l 48) h k_48_7) (fun h => lf (P := EE l 48) h k_48_10)))) (fun h => nd h (fun h => nd h (fun h => lf (P := EE l 48) h k_48_11) (fun h => nd h (fun h => lf (P := EE l 48) h k_48_12) (fun h => lf (P := EE l 48) h k_48_13))) (fun h => nd h (fun h => nd h (fun h => lf (P := EE l 48) h k_48_16) (fun h => lf (P := EE l 48) h k_48_17)) (fun h => nd h (fun h => lf (P := EE l 48) h (EE_ca (by decide) (⟨m_903, m_79, ⟨by decide, by decide⟩, by decide +kernel, ⟨by decide, by decide⟩, 84, 4, by decide +kernel, Or.inr (Or.inr (Or.inl ⟨rfl, rfl, dX4_sameBytes_18, m_900, m_902, _, rfl, by decide, m_22⟩))⟩) rfl)) (fun h => lf (P := EE l 48) h (EE_re (Or.inr (Or.inl ⟨rfl, dX4_sameBytes_21, rfl⟩)))))))
theorem dX4_isAt_0 : decode cX4_isAt 0 = .ok (.iload_n 1, 1) := by decide +kernel
theorem dX4_isAt_1 : decode cX4_isAt 1 = .ok (.aload_n 0, 1) := by decide +kernel
theorem dX4_isAt_2 : decode cX4_isAt 2 = .ok (.getfield 59, 3) := by decide +kernel
theorem dX4_isAt_5 : decode cX4_isAt 5 = .ok (.if_icmp .ge 17, 3) := by decide +kernel
theorem dX4_isAt_8 : decode cX4_isAt 8 = .ok (.aload_n 0, 1) := by decide +kernel
theorem dX4_isAt_9 : decode cX4_isAt 9 = .ok (.getfield 25, 3) := by decide +kernel
theorem dX4_isAt_12 : decode cX4_isAt 12 = .ok (.iload_n 1, 1) := by decide +kernel
theorem dX4_isAt_13 : decode cX4_isAt 13 = .ok (.iaload, 1) := by decide +kernel
theorem dX4_isAt_14 : decode cX4_isAt 14 = .ok (.iload_n 2, 1) := by decide +kernel
theorem dX4_isAt_15 : decode cX4_isAt 15 = .ok (.if_icmp .ne 7, 3) := by decide +kernel
theorem dX4_isAt_18 : decode cX4_isAt 18 = .ok (.iconst 1, 1) := by decide +kernel
theorem dX4_isAt_19 : decode cX4_isAt 19 = .ok (.goto 4, 3) := by decide +kernel
theorem dX4_isAt_22 : decode cX4_isAt 22 = .ok (.iconst 0, 1) := by decide +kernel
theorem dX4_isAt_23 : decode cX4_isAt 23 = .ok (.ireturn, 1) := by decide +kernel
def tb_49 (pc : Nat) : Option mEnt := bif Nat.ble pc 12 then (bif Nat.ble pc 2 then (bif Nat.ble pc 0 then (bif Nat.beq pc 0 then some (.inl (o_il 1 1)) else none) else (bif Nat.ble pc 1 then (bif Nat.beq pc 1 then some (.inl (o_al 0 1)) else none) else (bif Nat.beq pc 2 then some (.inl (o_gI 4 3)) else none))) else (bif Nat.ble pc 8 then (bif Nat.ble pc 5 then (bif Nat.beq pc 5 then some (.inl (o_cge 22)) else none) else (bif Nat.beq pc 8 then some (.inl (o_al 0 1)) else none)) else (bif Nat.ble pc 9 then (bif Nat.beq pc 9 then some (.inl (o_gP 4 6)) else none) else (bif Nat.beq pc 12 then some (.inl (o_il 1 1)) else none)))) else (bif Nat.ble pc 15 then (bif Nat.ble pc 13 then (bif Nat.beq pc 13 then some (.inl (o_iald)) else none) else (bif Nat.ble pc 14 then (bif Nat.beq pc 14 then some (.inl (o_il 2 1)) else none) else (bif Nat.beq pc 15 then some (.inl (o_cne 22)) else none))) else (bif Nat.ble pc 19 then (bif Nat.ble pc 18 then (bif Nat.beq pc 18 then some (.inl (oS 1 (s_push (.int 1)))) else none) else (bif Nat.beq pc 19 then some (.inl (o_goto 23)) else none)) else (bif Nat.ble pc 22 then (bif Nat.beq pc 22 then some (.inl (oS 1 (s_push (.int 0)))) else none) else (bif Nat.beq pc 23 then some (.inr (0, 0, 0, 4)) else none))))
theorem k_49_0 : mOk M_49.1 M_49.2.1 M_49.2.2.1 M_49.2.2.2 0 (o_il 1 1) := ok_iload_n dX4_isAt_0 rfl
theorem k_49_1 : mOk M_49.1 M_49.2.1 M_49.2.2.1 M_49.2.2.2 1 (o_al 0 1) := ok_aload_n dX4_isAt_1 rfl
theorem k_49_2 : mOk M_49.1 M_49.2.1 M_49.2.2.1 M_49.2.2.2 2 (o_gI 4 3) := ok_gI dX4_isAt_2 f_RX4_59 (Or.inl rfl)
theorem k_49_5 : mOk M_49.1 M_49.2.1 M_49.2.2.1 M_49.2.2.2 5 (o_cge 22) := ok_cge dX4_isAt_5 (by decide)
theorem k_49_8 : mOk M_49.1 M_49.2.1 M_49.2.2.1 M_49.2.2.2 8 (o_al 0 1) := ok_aload_n dX4_isAt_8 rfl
theorem k_49_9 : mOk M_49.1 M_49.2.1 M_49.2.2.1 M_49.2.2.2 9 (o_gP 4 6) := ok_gP dX4_isAt_9 f_RX4_25 rfl
theorem k_49_12 : mOk M_49.1 M_49.2.1 M_49.2.2.1 M_49.2.2.2 12 (o_il 1 1) := ok_iload_n dX4_isAt_12 rfl
theorem k_49_13 : mOk M_49.1 M_49.2.1 M_49.2.2.1 M_49.2.2.2 13 (o_iald) := ok_iald dX4_isAt_13
theorem k_49_14 : mOk M_49.1 M_49.2.1 M_49.2.2.1 M_49.2.2.2 14 (o_il 2 1) := ok_iload_n dX4_isAt_14 rfl
theorem k_49_15 : mOk M_49.1 M_49.2.1 M_49.2.2.1 M_49.2.2.2 15 (o_cne 22) := ok_cne dX4_isAt_15 (by decide)
theorem k_49_18 : mOk M_49.1 M_49.2.1 M_49.2.2.1 M_49.2.2.2 18 (oS 1 (s_push (.int 1))) := ok_iconst dX4_isAt_18 (by decide)
theorem k_49_19 : mOk M_49.1 M_49.2.1 M_49.2.2.1 M_49.2.2.2 19 (o_goto 23) := ok_goto dX4_isAt_19 (by decide)
theorem k_49_22 : mOk M_49.1 M_49.2.1 M_49.2.2.1 M_49.2.2.2 22 (oS 1 (s_push (.int 0))) := ok_iconst dX4_isAt_22 (by decide)
set_option maxRecDepth 20000 in
set_option maxHeartbeats 4000000 in
theorem tk_49 (l : Launch) (H9 : mThr l) (H10 : mSpl l) (pc : Nat) (q : mEnt) (h : tb_49 pc = some q) : EE l 49 pc q := nd h (fun h => nd h (fun h => nd h (fun h => lf (P := EE l 49) h k_49_0) (fun h => nd h (fun h => lf (P := EE l 49) h k_49_1) (fun h => lf (P := EE l 49) h k_49_2))) (fun h => nd h (fun h => nd h (fun h => lf (P := EE l 49) h k_49_5) (fun h => lf (P := EE l 49) h k_49_8)) (fun h => nd h (fun h => lf (P := EE l 49) h k_49_9) (fun h => lf (P := EE l 49) h k_49_12)))) (fun h => nd h (fun h => nd h (fun h => lf (P := EE l 49) h k_49_13) (fun h => nd h (fun h => lf (P := EE l 49) h k_49_14) (fun h => lf (P := EE l 49) h k_49_15))) (fun h => nd h (fun h => nd h (fun h => lf (P := EE l 49) h k_49_18) (fun h => lf (P := EE l 49) h k_49_19)) (fun h => nd h (fun h => lf (P := EE l 49) h k_49_22) (fun h => lf (P := EE l 49) h (EE_re (Or.inr (Or.inl ⟨rfl, dX4_isAt_23, rfl⟩)))))))
theorem dX4_isLike_0 : decode cX4_isLike 0 = .ok (.aload_n 0, 1) := by decide +kernel
theorem dX4_isLike_1 : decode cX4_isLike 1 = .ok (.getfield 12, 3) := by decide +kernel
theorem dX4_isLike_4 : decode cX4_isLike 4 = .ok (.aload_n 1, 1) := by decide +kernel
theorem dX4_isLike_5 : decode cX4_isLike 5 = .ok (.getfield 12, 3) := by decide +kernel
theorem dX4_isLike_8 : decode cX4_isLike 8 = .ok (.invokevirtual 88, 3) := by decide +kernel
theorem dX4_isLike_11 : decode cX4_isLike 11 = .ok (.ifCond .eq 14, 3) := by decide +kernel
theorem dX4_isLike_14 : decode cX4_isLike 14 = .ok (.aload_n 0, 1) := by decide +kernel
theorem dX4_isLike_15 : decode cX4_isLike 15 = .ok (.getfield 59, 3) := by decide +kernel
theorem dX4_isLike_18 : decode cX4_isLike 18 = .ok (.aload_n 1, 1) := by decide +kernel
theorem dX4_isLike_19 : decode cX4_isLike 19 = .ok (.getfield 59, 3) := by decide +kernel
theorem dX4_isLike_22 : decode cX4_isLike 22 = .ok (.if_icmp .eq 5, 3) := by decide +kernel
theorem dX4_isLike_25 : decode cX4_isLike 25 = .ok (.iconst 0, 1) := by decide +kernel
theorem dX4_isLike_26 : decode cX4_isLike 26 = .ok (.ireturn, 1) := by decide +kernel
theorem dX4_isLike_27 : decode cX4_isLike 27 = .ok (.iconst 0, 1) := by decide +kernel
theorem dX4_isLike_28 : decode cX4_isLike 28 = .ok (.istore_n 2, 1) := by decide +kernel
theorem dX4_isLike_29 : decode cX4_isLike 29 = .ok (.iload_n 2, 1) := by decide +kernel
theorem dX4_isLike_30 : decode cX4_isLike 30 = .ok (.aload_n 0, 1) := by decide +kernel
theorem dX4_isLike_31 : decode cX4_isLike 31 = .ok (.getfield 59, 3) := by decide +kernel
theorem dX4_isLike_34 : decode cX4_isLike 34 = .ok (.if_icmp .ge 36, 3) := by decide +kernel
theorem dX4_isLike_37 : decode cX4_isLike 37 = .ok (.aload_n 0, 1) := by decide +kernel
theorem dX4_isLike_38 : decode cX4_isLike 38 = .ok (.getfield 25, 3) := by decide +kernel
theorem dX4_isLike_41 : decode cX4_isLike 41 = .ok (.iload_n 2, 1) := by decide +kernel
theorem dX4_isLike_42 : decode cX4_isLike 42 = .ok (.iaload, 1) := by decide +kernel
theorem dX4_isLike_43 : decode cX4_isLike 43 = .ok (.aload_n 1, 1) := by decide +kernel
theorem dX4_isLike_44 : decode cX4_isLike 44 = .ok (.getfield 25, 3) := by decide +kernel
theorem dX4_isLike_47 : decode cX4_isLike 47 = .ok (.iload_n 2, 1) := by decide +kernel
theorem dX4_isLike_48 : decode cX4_isLike 48 = .ok (.iaload, 1) := by decide +kernel
theorem dX4_isLike_49 : decode cX4_isLike 49 = .ok (.if_icmp .ne 13, 3) := by decide +kernel
theorem dX4_isLike_52 : decode cX4_isLike 52 = .ok (.aload_n 0, 1) := by decide +kernel
theorem dX4_isLike_53 : decode cX4_isLike 53 = .ok (.iload_n 2, 1) := by decide +kernel
theorem dX4_isLike_54 : decode cX4_isLike 54 = .ok (.aload_n 1, 1) := by decide +kernel
theorem dX4_isLike_55 : decode cX4_isLike 55 = .ok (.iload_n 2, 1) := by decide +kernel
theorem dX4_isLike_56 : decode cX4_isLike 56 = .ok (.invokevirtual 92, 3) := by decide +kernel
theorem dX4_isLike_59 : decode cX4_isLike 59 = .ok (.ifCond .ne 5, 3) := by decide +kernel
theorem dX4_isLike_62 : decode cX4_isLike 62 = .ok (.iconst 0, 1) := by decide +kernel
theorem dX4_isLike_63 : decode cX4_isLike 63 = .ok (.ireturn, 1) := by decide +kernel
theorem dX4_isLike_64 : decode cX4_isLike 64 = .ok (.iinc 2 1, 3) := by decide +kernel
theorem dX4_isLike_67 : decode cX4_isLike 67 = .ok (.goto (-38), 3) := by decide +kernel
theorem dX4_isLike_70 : decode cX4_isLike 70 = .ok (.iconst 1, 1) := by decide +kernel
theorem dX4_isLike_71 : decode cX4_isLike 71 = .ok (.ireturn, 1) := by decide +kernel
def tb_50 (pc : Nat) : Option mEnt := bif Nat.ble pc 37 then (bif Nat.ble pc 19 then (bif Nat.ble pc 8 then (bif Nat.ble pc 1 then (bif Nat.ble pc 0 then (bif Nat.beq pc 0 then some (.inl (o_al 0 1)) else none) else (bif Nat.beq pc 1 then some (.inl (o_gP 4 1)) else none)) else (bif Nat.ble pc 4 then (bif Nat.beq pc 4 then some (.inl (o_al 1 1)) else none) else (bif Nat.ble pc 5 then (bif Nat.beq pc 5 then some (.inl (o_gP 4 1)) else none) else (bif Nat.beq pc 8 then some (.inr (3, 73, 2, 7)) else none)))) else (bif Nat.ble pc 14 then (bif Nat.ble pc 11 then (bif Nat.beq pc 11 then some (.inl (o_zeq 25)) else none) else (bif Nat.beq pc 14 then some (.inl (o_al 0 1)) else none)) else (bif Nat.ble pc 15 then (bif Nat.beq pc 15 then some (.inl (o_gI 4 3)) else none) else (bif Nat.ble pc 18 then (bif Nat.beq pc 18 then some (.inl (o_al 1 1)) else none) else (bif Nat.beq pc 19 then some (.inl (o_gI 4 3)) else none))))) else (bif Nat.ble pc 28 then (bif Nat.ble pc 25 then (bif Nat.ble pc 22 then (bif Nat.beq pc 22 then some (.inl (o_ceq 27)) else none) else (bif Nat.beq pc 25 then some (.inl (oS 1 (s_push (.int 0)))) else none)) else (bif Nat.ble pc 26 then (bif Nat.beq pc 26 then some (.inr (0, 0, 0, 4)) else none) else (bif Nat.ble pc 27 then (bif Nat.beq pc 27 then some (.inl (oS 1 (s_push (.int 0)))) else none) else (bif Nat.beq pc 28 then some (.inl (o_is 2 1)) else none)))) else (bif Nat.ble pc 30 then (bif Nat.ble pc 29 then (bif Nat.beq pc 29 then some (.inl (o_il 2 1)) else none) else (bif Nat.beq pc 30 then some (.inl (o_al 0 1)) else none)) else (bif Nat.ble pc 31 then (bif Nat.beq pc 31 then some (.inl (o_gI 4 3)) else none) else (bif Nat.ble pc 34 then (bif Nat.beq pc 34 then some (.inl (o_cge 70)) else none) else (bif Nat.beq pc 37 then some (.inl (o_al 0 1)) else none)))))) else (bif Nat.ble pc 53 then (bif Nat.ble pc 44 then (bif Nat.ble pc 41 then (bif Nat.ble pc 38 then (bif Nat.beq pc 38 then some (.inl (o_gP 4 6)) else none) else (bif Nat.beq pc 41 then some (.inl (o_il 2 1)) else none)) else (bif Nat.ble pc 42 then (bif Nat.beq pc 42 then some (.inl (o_iald)) else none) else (bif Nat.ble pc 43 then (bif Nat.beq pc 43 then some (.inl (o_al 1 1)) else none) else (bif Nat.beq pc 44 then some (.inl (o_gP 4 6)) else none)))) else (bif Nat.ble pc 48 then (bif Nat.ble pc 47 then (bif Nat.beq pc 47 then some (.inl (o_il 2 1)) else none) else (bif Nat.beq pc 48 then some (.inl (o_iald)) else none)) else (bif Nat.ble pc 49 then (bif Nat.beq pc 49 then some (.inl (o_cne 62)) else none) else (bif Nat.ble pc 52 then (bif Nat.beq pc 52 then some (.inl (o_al 0 1)) else none) else (bif Nat.beq pc 53 then some (.inl (o_il 2 1)) else none))))) else (bif Nat.ble pc 62 then (bif Nat.ble pc 55 then (bif Nat.ble pc 54 then (bif Nat.beq pc 54 then some (.inl (o_al 1 1)) else none) else (bif Nat.beq pc 55 then some (.inl (o_il 2 1)) else none)) else (bif Nat.ble pc 56 then (bif Nat.beq pc 56 then some (.inr (3, 48, 4, 4)) else none) else (bif Nat.ble pc 59 then (bif Nat.beq pc 59 then some (.inl (o_zne 64)) else none) else (bif Nat.beq pc 62 then some (.inl (oS 1 (s_push (.int 0)))) else none)))) else (bif Nat.ble pc 64 then (bif Nat.ble pc 63 then (bif Nat.beq pc 63 then some (.inr (0, 0, 0, 4)) else none) else (bif Nat.beq pc 64 then some (.inl (o_inc 2 1)) else none)) else (bif Nat.ble pc 67 then (bif Nat.beq pc 67 then some (.inl (o_goto 29)) else none) else (bif Nat.ble pc 70 then (bif Nat.beq pc 70 then some (.inl (oS 1 (s_push (.int 1)))) else none) else (bif Nat.beq pc 71 then some (.inr (0, 0, 0, 4)) else none))))))
theorem k_50_0 : mOk M_50.1 M_50.2.1 M_50.2.2.1 M_50.2.2.2 0 (o_al 0 1) := ok_aload_n dX4_isLike_0 rfl
theorem k_50_1 : mOk M_50.1 M_50.2.1 M_50.2.2.1 M_50.2.2.2 1 (o_gP 4 1) := ok_gP dX4_isLike_1 f_RX4_12 rfl
theorem k_50_4 : mOk M_50.1 M_50.2.1 M_50.2.2.1 M_50.2.2.2 4 (o_al 1 1) := ok_aload_n dX4_isLike_4 rfl
theorem k_50_5 : mOk M_50.1 M_50.2.1 M_50.2.2.1 M_50.2.2.2 5 (o_gP 4 1) := ok_gP dX4_isLike_5 f_RX4_12 rfl
theorem k_50_11 : mOk M_50.1 M_50.2.1 M_50.2.2.1 M_50.2.2.2 11 (o_zeq 25) := ok_zeq dX4_isLike_11 (by decide)
theorem k_50_14 : mOk M_50.1 M_50.2.1 M_50.2.2.1 M_50.2.2.2 14 (o_al 0 1) := ok_aload_n dX4_isLike_14 rfl
theorem k_50_15 : mOk M_50.1 M_50.2.1 M_50.2.2.1 M_50.2.2.2 15 (o_gI 4 3) := ok_gI dX4_isLike_15 f_RX4_59 (Or.inl rfl)
theorem k_50_18 : mOk M_50.1 M_50.2.1 M_50.2.2.1 M_50.2.2.2 18 (o_al 1 1) := ok_aload_n dX4_isLike_18 rfl
theorem k_50_19 : mOk M_50.1 M_50.2.1 M_50.2.2.1 M_50.2.2.2 19 (o_gI 4 3) := ok_gI dX4_isLike_19 f_RX4_59 (Or.inl rfl)
theorem k_50_22 : mOk M_50.1 M_50.2.1 M_50.2.2.1 M_50.2.2.2 22 (o_ceq 27) := ok_ceq dX4_isLike_22 (by decide)
theorem k_50_25 : mOk M_50.1 M_50.2.1 M_50.2.2.1 M_50.2.2.2 25 (oS 1 (s_push (.int 0))) := ok_iconst dX4_isLike_25 (by decide)
theorem k_50_27 : mOk M_50.1 M_50.2.1 M_50.2.2.1 M_50.2.2.2 27 (oS 1 (s_push (.int 0))) := ok_iconst dX4_isLike_27 (by decide)
theorem k_50_28 : mOk M_50.1 M_50.2.1 M_50.2.2.1 M_50.2.2.2 28 (o_is 2 1) := ok_istore_n dX4_isLike_28 rfl
theorem k_50_29 : mOk M_50.1 M_50.2.1 M_50.2.2.1 M_50.2.2.2 29 (o_il 2 1) := ok_iload_n dX4_isLike_29 rfl
theorem k_50_30 : mOk M_50.1 M_50.2.1 M_50.2.2.1 M_50.2.2.2 30 (o_al 0 1) := ok_aload_n dX4_isLike_30 rfl
theorem k_50_31 : mOk M_50.1 M_50.2.1 M_50.2.2.1 M_50.2.2.2 31 (o_gI 4 3) := ok_gI dX4_isLike_31 f_RX4_59 (Or.inl rfl)
theorem k_50_34 : mOk M_50.1 M_50.2.1 M_50.2.2.1 M_50.2.2.2 34 (o_cge 70) := ok_cge dX4_isLike_34 (by decide)
theorem k_50_37 : mOk M_50.1 M_50.2.1 M_50.2.2.1 M_50.2.2.2 37 (o_al 0 1) := ok_aload_n dX4_isLike_37 rfl
theorem k_50_38 : mOk M_50.1 M_50.2.1 M_50.2.2.1 M_50.2.2.2 38 (o_gP 4 6) := ok_gP dX4_isLike_38 f_RX4_25 rfl
theorem k_50_41 : mOk M_50.1 M_50.2.1 M_50.2.2.1 M_50.2.2.2 41 (o_il 2 1) := ok_iload_n dX4_isLike_41 rfl
theorem k_50_42 : mOk M_50.1 M_50.2.1 M_50.2.2.1 M_50.2.2.2 42 (o_iald) := ok_iald dX4_isLike_42
theorem k_50_43 : mOk M_50.1 M_50.2.1 M_50.2.2.1 M_50.2.2.2 43 (o_al 1 1) := ok_aload_n dX4_isLike_43 rfl
theorem k_50_44 : mOk M_50.1 M_50.2.1 M_50.2.2.1 M_50.2.2.2 44 (o_gP 4 6) := ok_gP dX4_isLike_44 f_RX4_25 rfl
theorem k_50_47 : mOk M_50.1 M_50.2.1 M_50.2.2.1 M_50.2.2.2 47 (o_il 2 1) := ok_iload_n dX4_isLike_47 rfl
theorem k_50_48 : mOk M_50.1 M_50.2.1 M_50.2.2.1 M_50.2.2.2 48 (o_iald) := ok_iald dX4_isLike_48
theorem k_50_49 : mOk M_50.1 M_50.2.1 M_50.2.2.1 M_50.2.2.2 49 (o_cne 62) := ok_cne dX4_isLike_49 (by decide)
theorem k_50_52 : mOk M_50.1 M_50.2.1 M_50.2.2.1 M_50.2.2.2 52 (o_al 0 1) := ok_aload_n dX4_isLike_52 rfl
theorem k_50_53 : mOk M_50.1 M_50.2.1 M_50.2.2.1 M_50.2.2.2 53 (o_il 2 1) := ok_iload_n dX4_isLike_53 rfl
theorem k_50_54 : mOk M_50.1 M_50.2.1 M_50.2.2.1 M_50.2.2.2 54 (o_al 1 1) := ok_aload_n dX4_isLike_54 rfl
theorem k_50_55 : mOk M_50.1 M_50.2.1 M_50.2.2.1 M_50.2.2.2 55 (o_il 2 1) := ok_iload_n dX4_isLike_55 rfl
theorem k_50_59 : mOk M_50.1 M_50.2.1 M_50.2.2.1 M_50.2.2.2 59 (o_zne 64) := ok_zne dX4_isLike_59 (by decide)
theorem k_50_62 : mOk M_50.1 M_50.2.1 M_50.2.2.1 M_50.2.2.2 62 (oS 1 (s_push (.int 0))) := ok_iconst dX4_isLike_62 (by decide)
theorem k_50_64 : mOk M_50.1 M_50.2.1 M_50.2.2.1 M_50.2.2.2 64 (o_inc 2 1) := ok_iinc dX4_isLike_64 (by decide)
theorem k_50_67 : mOk M_50.1 M_50.2.1 M_50.2.2.1 M_50.2.2.2 67 (o_goto 29) := ok_goto dX4_isLike_67 (by decide)
theorem k_50_70 : mOk M_50.1 M_50.2.1 M_50.2.2.1 M_50.2.2.2 70 (oS 1 (s_push (.int 1))) := ok_iconst dX4_isLike_70 (by decide)
set_option maxRecDepth 20000 in
set_option maxHeartbeats 4000000 in
theorem tk_50 (l : Launch) (H9 : mThr l) (H10 : mSpl l) (pc : Nat) (q : mEnt) (h : tb_50 pc = some q) : EE l 50 pc q := nd h (fun h => nd h (fun h => nd h (fun h => nd h (fun h => nd h (fun h => lf (P := EE l 50) h k_50_0) (fun h => lf (P := EE l 50) h k_50_1)) (fun h => nd h (fun h => lf (P := EE l 50) h k_50_4) (fun h => nd h (fun h => lf (P := EE l 50) h k_50_5) (fun h => lf (P := EE l 50) h (EE_ca (by decide) (⟨m_963, m_78, ⟨by decide, by decide⟩, by decide +kernel, ⟨by decide, by decide⟩, 88, 1, by decide +kernel, Or.inr (Or.inr (Or.inl ⟨rfl, rfl, dX4_isLike_8, m_960, m_961, _, rfl, by decide, m_962⟩))⟩) rfl))))) (fun h => nd h (fun h => nd h (fun h => lf (P := EE l 50) h k_50_11) (fun h => lf (P := EE l 50) h k_50_14)) (fun h => nd h (fun h => lf (P := EE l 50) h k_50_15) (fun h => nd h (fun h => lf (P := EE l 50) h k_50_18) (fun h => lf (P := EE l 50) h k_50_19))))) (fun h => nd h (fun h => nd h (fun h => nd h (fun h => lf (P := EE l 50) h k_50_22) (fun h => lf (P := EE l 50) h k_50_25)) (fun h => nd h (fun h => lf (P := EE l 50) h (EE_re (Or.inr (Or.inl ⟨rfl, dX4_isLike_26, rfl⟩)))) (fun h => nd h (fun h => lf (P := EE l 50) h k_50_27) (fun h => lf (P := EE l 50) h k_50_28)))) (fun h => nd h (fun h => nd h (fun h => lf (P := EE l 50) h k_50_29) (fun h => lf (P := EE l 50) h k_50_30)) (fun h => nd h (fun h => lf (P := EE l 50) h k_50_31) (fun h => nd h (fun h => lf (P := EE l 50) h k_50_34) (fun h => lf (P := EE l 50) h k_50_37)))))) (fun h => nd h (fun h => nd h (fun h => nd h (fun h => nd h (fun h => lf (P := EE l 50) h k_50_38) (fun h => lf (P := EE l 50) h k_50_41)) (fun h => nd h (fun h => lf (P := EE l 50) h k_50_42) (fun h => nd h (fun h => lf (P := EE l 50) h k_50_43) (fun h => lf (P := EE l 50) h k_50_44)))) (fun h => nd h (fun h => nd h (fun h => lf (P := EE l 50) h k_50_47) (fun h => lf (P := EE l 50) h k_50_48)) (fun h => nd h (fun h => lf (P := EE l 50) h k_50_49) (fun h => nd h (fun h => lf (P := EE l 50) h k_50_52) (fun h => lf (P := EE l 50) h k_50_53))))) (fun h => nd h (fun h => nd h (fun h => nd h (fun h => lf (P := EE l 50) h k_50_54) (fun h => lf (P := EE l 50) h k_50_55)) (fun h => nd h (fun h => lf (P := EE l 50) h (EE_ca (by decide) (⟨m_944, m_79, ⟨by decide, by decide⟩, by decide +kernel, ⟨by decide, by decide⟩, 92, 3, by decide +kernel, Or.inr (Or.inr (Or.inl ⟨rfl, rfl, dX4_isLike_56, m_964, m_942, _, rfl, by decide, m_943⟩))⟩) rfl)) (fun h => nd h (fun h => lf (P := EE l 50) h k_50_59) (fun h => lf (P := EE l 50) h k_50_62)))) (fun h => nd h (fun h => nd h (fun h => lf (P := EE l 50) h (EE_re (Or.inr (Or.inl ⟨rfl, dX4_isLike_63, rfl⟩)))) (fun h => lf (P := EE l 50) h k_50_64)) (fun h => nd h (fun h => lf (P := EE l 50) h k_50_67) (fun h => nd h (fun h => lf (P := EE l 50) h k_50_70) (fun h => lf (P := EE l 50) h (EE_re (Or.inr (Or.inl ⟨rfl, dX4_isLike_71, rfl⟩)))))))))
theorem dX4_copyTile_0 : decode cX4_copyTile 0 = .ok (.iconst 0, 1) := by decide +kernel
theorem dX4_copyTile_1 : decode cX4_copyTile 1 = .ok (.istore 5, 2) := by decide +kernel
theorem dX4_copyTile_3 : decode cX4_copyTile 3 = .ok (.iload 5, 2) := by decide +kernel
theorem dX4_copyTile_5 : decode cX4_copyTile 5 = .ok (.aload_n 0, 1) := by decide +kernel
theorem dX4_copyTile_6 : decode cX4_copyTile 6 = .ok (.getfield 59, 3) := by decide +kernel
theorem dX4_copyTile_9 : decode cX4_copyTile 9 = .ok (.if_icmp .ge 82, 3) := by decide +kernel
theorem dX4_copyTile_12 : decode cX4_copyTile 12 = .ok (.aload_n 0, 1) := by decide +kernel
theorem dX4_copyTile_13 : decode cX4_copyTile 13 = .ok (.getfield 29, 3) := by decide +kernel
theorem dX4_copyTile_16 : decode cX4_copyTile 16 = .ok (.iload 5, 2) := by decide +kernel
theorem dX4_copyTile_18 : decode cX4_copyTile 18 = .ok (.iaload, 1) := by decide +kernel
theorem dX4_copyTile_19 : decode cX4_copyTile 19 = .ok (.iload_n 1, 1) := by decide +kernel
theorem dX4_copyTile_20 : decode cX4_copyTile 20 = .ok (.if_icmp .ne 65, 3) := by decide +kernel
theorem dX4_copyTile_23 : decode cX4_copyTile 23 = .ok (.aload_n 0, 1) := by decide +kernel
theorem dX4_copyTile_24 : decode cX4_copyTile 24 = .ok (.getfield 32, 3) := by decide +kernel
theorem dX4_copyTile_27 : decode cX4_copyTile 27 = .ok (.iload 5, 2) := by decide +kernel
theorem dX4_copyTile_29 : decode cX4_copyTile 29 = .ok (.iaload, 1) := by decide +kernel
theorem dX4_copyTile_30 : decode cX4_copyTile 30 = .ok (.iload_n 2, 1) := by decide +kernel
theorem dX4_copyTile_31 : decode cX4_copyTile 31 = .ok (.if_icmp .ne 54, 3) := by decide +kernel
theorem dX4_copyTile_34 : decode cX4_copyTile 34 = .ok (.aload_n 0, 1) := by decide +kernel
theorem dX4_copyTile_35 : decode cX4_copyTile 35 = .ok (.getfield 35, 3) := by decide +kernel
theorem dX4_copyTile_38 : decode cX4_copyTile 38 = .ok (.iload 5, 2) := by decide +kernel
theorem dX4_copyTile_40 : decode cX4_copyTile 40 = .ok (.iaload, 1) := by decide +kernel
theorem dX4_copyTile_41 : decode cX4_copyTile 41 = .ok (.iload_n 3, 1) := by decide +kernel
theorem dX4_copyTile_42 : decode cX4_copyTile 42 = .ok (.if_icmp .ne 43, 3) := by decide +kernel
theorem dX4_copyTile_45 : decode cX4_copyTile 45 = .ok (.aload_n 0, 1) := by decide +kernel
theorem dX4_copyTile_46 : decode cX4_copyTile 46 = .ok (.getfield 47, 3) := by decide +kernel
theorem dX4_copyTile_49 : decode cX4_copyTile 49 = .ok (.aload_n 0, 1) := by decide +kernel
theorem dX4_copyTile_50 : decode cX4_copyTile 50 = .ok (.getfield 44, 3) := by decide +kernel
theorem dX4_copyTile_53 : decode cX4_copyTile 53 = .ok (.iload 5, 2) := by decide +kernel
theorem dX4_copyTile_55 : decode cX4_copyTile 55 = .ok (.iaload, 1) := by decide +kernel
theorem dX4_copyTile_56 : decode cX4_copyTile 56 = .ok (.aload 4, 2) := by decide +kernel
theorem dX4_copyTile_58 : decode cX4_copyTile 58 = .ok (.getfield 77, 3) := by decide +kernel
theorem dX4_copyTile_61 : decode cX4_copyTile 61 = .ok (.iconst 0, 1) := by decide +kernel
theorem dX4_copyTile_62 : decode cX4_copyTile 62 = .ok (.aload_n 0, 1) := by decide +kernel
theorem dX4_copyTile_63 : decode cX4_copyTile 63 = .ok (.getfield 38, 3) := by decide +kernel
theorem dX4_copyTile_66 : decode cX4_copyTile 66 = .ok (.iload 5, 2) := by decide +kernel
theorem dX4_copyTile_68 : decode cX4_copyTile 68 = .ok (.iaload, 1) := by decide +kernel
theorem dX4_copyTile_69 : decode cX4_copyTile 69 = .ok (.invokestatic 78, 3) := by decide +kernel
theorem dX4_copyTile_72 : decode cX4_copyTile 72 = .ok (.aload 4, 2) := by decide +kernel
theorem dX4_copyTile_74 : decode cX4_copyTile 74 = .ok (.aload_n 0, 1) := by decide +kernel
theorem dX4_copyTile_75 : decode cX4_copyTile 75 = .ok (.getfield 38, 3) := by decide +kernel
theorem dX4_copyTile_78 : decode cX4_copyTile 78 = .ok (.iload 5, 2) := by decide +kernel
theorem dX4_copyTile_80 : decode cX4_copyTile 80 = .ok (.iaload, 1) := by decide +kernel
theorem dX4_copyTile_81 : decode cX4_copyTile 81 = .ok (.putfield 72, 3) := by decide +kernel
theorem dX4_copyTile_84 : decode cX4_copyTile 84 = .ok (.return_, 1) := by decide +kernel
theorem dX4_copyTile_85 : decode cX4_copyTile 85 = .ok (.iinc 5 1, 3) := by decide +kernel
theorem dX4_copyTile_88 : decode cX4_copyTile 88 = .ok (.goto (-85), 3) := by decide +kernel
theorem dX4_copyTile_91 : decode cX4_copyTile 91 = .ok (.return_, 1) := by decide +kernel
def tb_51 (pc : Nat) : Option mEnt := bif Nat.ble pc 42 then (bif Nat.ble pc 20 then (bif Nat.ble pc 9 then (bif Nat.ble pc 3 then (bif Nat.ble pc 0 then (bif Nat.beq pc 0 then some (.inl (oS 1 (s_push (.int 0)))) else none) else (bif Nat.ble pc 1 then (bif Nat.beq pc 1 then some (.inl (o_is 5 2)) else none) else (bif Nat.beq pc 3 then some (.inl (o_il 5 2)) else none))) else (bif Nat.ble pc 5 then (bif Nat.beq pc 5 then some (.inl (o_al 0 1)) else none) else (bif Nat.ble pc 6 then (bif Nat.beq pc 6 then some (.inl (o_gI 4 3)) else none) else (bif Nat.beq pc 9 then some (.inl (o_cge 91)) else none)))) else (bif Nat.ble pc 16 then (bif Nat.ble pc 12 then (bif Nat.beq pc 12 then some (.inl (o_al 0 1)) else none) else (bif Nat.ble pc 13 then (bif Nat.beq pc 13 then some (.inl (o_gP 4 7)) else none) else (bif Nat.beq pc 16 then some (.inl (o_il 5 2)) else none))) else (bif Nat.ble pc 18 then (bif Nat.beq pc 18 then some (.inl (o_iald)) else none) else (bif Nat.ble pc 19 then (bif Nat.beq pc 19 then some (.inl (o_il 1 1)) else none) else (bif Nat.beq pc 20 then some (.inl (o_cne 85)) else none))))) else (bif Nat.ble pc 31 then (bif Nat.ble pc 27 then (bif Nat.ble pc 23 then (bif Nat.beq pc 23 then some (.inl (o_al 0 1)) else none) else (bif Nat.ble pc 24 then (bif Nat.beq pc 24 then some (.inl (o_gP 4 8)) else none) else (bif Nat.beq pc 27 then some (.inl (o_il 5 2)) else none))) else (bif Nat.ble pc 29 then (bif Nat.beq pc 29 then some (.inl (o_iald)) else none) else (bif Nat.ble pc 30 then (bif Nat.beq pc 30 then some (.inl (o_il 2 1)) else none) else (bif Nat.beq pc 31 then some (.inl (o_cne 85)) else none)))) else (bif Nat.ble pc 38 then (bif Nat.ble pc 34 then (bif Nat.beq pc 34 then some (.inl (o_al 0 1)) else none) else (bif Nat.ble pc 35 then (bif Nat.beq pc 35 then some (.inl (o_gP 4 9)) else none) else (bif Nat.beq pc 38 then some (.inl (o_il 5 2)) else none))) else (bif Nat.ble pc 40 then (bif Nat.beq pc 40 then some (.inl (o_iald)) else none) else (bif Nat.ble pc 41 then (bif Nat.beq pc 41 then some (.inl (o_il 3 1)) else none) else (bif Nat.beq pc 42 then some (.inl (o_cne 85)) else none)))))) else (bif Nat.ble pc 66 then (bif Nat.ble pc 55 then (bif Nat.ble pc 49 then (bif Nat.ble pc 45 then (bif Nat.beq pc 45 then some (.inl (o_al 0 1)) else none) else (bif Nat.ble pc 46 then (bif Nat.beq pc 46 then some (.inl (o_gP 4 13)) else none) else (bif Nat.beq pc 49 then some (.inl (o_al 0 1)) else none))) else (bif Nat.ble pc 50 then (bif Nat.beq pc 50 then some (.inl (o_gP 4 12)) else none) else (bif Nat.ble pc 53 then (bif Nat.beq pc 53 then some (.inl (o_il 5 2)) else none) else (bif Nat.beq pc 55 then some (.inl (o_iald)) else none)))) else (bif Nat.ble pc 61 then (bif Nat.ble pc 56 then (bif Nat.beq pc 56 then some (.inl (o_al 4 2)) else none) else (bif Nat.ble pc 58 then (bif Nat.beq pc 58 then some (.inl (o_gP 3 0)) else none) else (bif Nat.beq pc 61 then some (.inl (oS 1 (s_push (.int 0)))) else none))) else (bif Nat.ble pc 62 then (bif Nat.beq pc 62 then some (.inl (o_al 0 1)) else none) else (bif Nat.ble pc 63 then (bif Nat.beq pc 63 then some (.inl (o_gP 4 10)) else none) else (bif Nat.beq pc 66 then some (.inl (o_il 5 2)) else none))))) else (bif Nat.ble pc 78 then (bif Nat.ble pc 72 then (bif Nat.ble pc 68 then (bif Nat.beq pc 68 then some (.inl (o_iald)) else none) else (bif Nat.ble pc 69 then (bif Nat.beq pc 69 then some (.inr (1, 0, 0, 0)) else none) else (bif Nat.beq pc 72 then some (.inl (o_al 4 2)) else none))) else (bif Nat.ble pc 74 then (bif Nat.beq pc 74 then some (.inl (o_al 0 1)) else none) else (bif Nat.ble pc 75 then (bif Nat.beq pc 75 then some (.inl (o_gP 4 10)) else none) else (bif Nat.beq pc 78 then some (.inl (o_il 5 2)) else none)))) else (bif Nat.ble pc 84 then (bif Nat.ble pc 80 then (bif Nat.beq pc 80 then some (.inl (o_iald)) else none) else (bif Nat.ble pc 81 then (bif Nat.beq pc 81 then some (.inl (o_pI 3 1)) else none) else (bif Nat.beq pc 84 then some (.inr (0, 0, 0, 3)) else none))) else (bif Nat.ble pc 85 then (bif Nat.beq pc 85 then some (.inl (o_inc 5 1)) else none) else (bif Nat.ble pc 88 then (bif Nat.beq pc 88 then some (.inl (o_goto 3)) else none) else (bif Nat.beq pc 91 then some (.inr (0, 0, 0, 3)) else none))))))
theorem k_51_0 : mOk M_51.1 M_51.2.1 M_51.2.2.1 M_51.2.2.2 0 (oS 1 (s_push (.int 0))) := ok_iconst dX4_copyTile_0 (by decide)
theorem k_51_1 : mOk M_51.1 M_51.2.1 M_51.2.2.1 M_51.2.2.2 1 (o_is 5 2) := ok_istore dX4_copyTile_1
theorem k_51_3 : mOk M_51.1 M_51.2.1 M_51.2.2.1 M_51.2.2.2 3 (o_il 5 2) := ok_iload dX4_copyTile_3
theorem k_51_5 : mOk M_51.1 M_51.2.1 M_51.2.2.1 M_51.2.2.2 5 (o_al 0 1) := ok_aload_n dX4_copyTile_5 rfl
theorem k_51_6 : mOk M_51.1 M_51.2.1 M_51.2.2.1 M_51.2.2.2 6 (o_gI 4 3) := ok_gI dX4_copyTile_6 f_RX4_59 (Or.inl rfl)
theorem k_51_9 : mOk M_51.1 M_51.2.1 M_51.2.2.1 M_51.2.2.2 9 (o_cge 91) := ok_cge dX4_copyTile_9 (by decide)
theorem k_51_12 : mOk M_51.1 M_51.2.1 M_51.2.2.1 M_51.2.2.2 12 (o_al 0 1) := ok_aload_n dX4_copyTile_12 rfl
theorem k_51_13 : mOk M_51.1 M_51.2.1 M_51.2.2.1 M_51.2.2.2 13 (o_gP 4 7) := ok_gP dX4_copyTile_13 f_RX4_29 rfl
theorem k_51_16 : mOk M_51.1 M_51.2.1 M_51.2.2.1 M_51.2.2.2 16 (o_il 5 2) := ok_iload dX4_copyTile_16
theorem k_51_18 : mOk M_51.1 M_51.2.1 M_51.2.2.1 M_51.2.2.2 18 (o_iald) := ok_iald dX4_copyTile_18
theorem k_51_19 : mOk M_51.1 M_51.2.1 M_51.2.2.1 M_51.2.2.2 19 (o_il 1 1) := ok_iload_n dX4_copyTile_19 rfl
theorem k_51_20 : mOk M_51.1 M_51.2.1 M_51.2.2.1 M_51.2.2.2 20 (o_cne 85) := ok_cne dX4_copyTile_20 (by decide)
theorem k_51_23 : mOk M_51.1 M_51.2.1 M_51.2.2.1 M_51.2.2.2 23 (o_al 0 1) := ok_aload_n dX4_copyTile_23 rfl
theorem k_51_24 : mOk M_51.1 M_51.2.1 M_51.2.2.1 M_51.2.2.2 24 (o_gP 4 8) := ok_gP dX4_copyTile_24 f_RX4_32 rfl
theorem k_51_27 : mOk M_51.1 M_51.2.1 M_51.2.2.1 M_51.2.2.2 27 (o_il 5 2) := ok_iload dX4_copyTile_27
theorem k_51_29 : mOk M_51.1 M_51.2.1 M_51.2.2.1 M_51.2.2.2 29 (o_iald) := ok_iald dX4_copyTile_29
theorem k_51_30 : mOk M_51.1 M_51.2.1 M_51.2.2.1 M_51.2.2.2 30 (o_il 2 1) := ok_iload_n dX4_copyTile_30 rfl
theorem k_51_31 : mOk M_51.1 M_51.2.1 M_51.2.2.1 M_51.2.2.2 31 (o_cne 85) := ok_cne dX4_copyTile_31 (by decide)
theorem k_51_34 : mOk M_51.1 M_51.2.1 M_51.2.2.1 M_51.2.2.2 34 (o_al 0 1) := ok_aload_n dX4_copyTile_34 rfl
theorem k_51_35 : mOk M_51.1 M_51.2.1 M_51.2.2.1 M_51.2.2.2 35 (o_gP 4 9) := ok_gP dX4_copyTile_35 f_RX4_35 rfl
theorem k_51_38 : mOk M_51.1 M_51.2.1 M_51.2.2.1 M_51.2.2.2 38 (o_il 5 2) := ok_iload dX4_copyTile_38
theorem k_51_40 : mOk M_51.1 M_51.2.1 M_51.2.2.1 M_51.2.2.2 40 (o_iald) := ok_iald dX4_copyTile_40
theorem k_51_41 : mOk M_51.1 M_51.2.1 M_51.2.2.1 M_51.2.2.2 41 (o_il 3 1) := ok_iload_n dX4_copyTile_41 rfl
theorem k_51_42 : mOk M_51.1 M_51.2.1 M_51.2.2.1 M_51.2.2.2 42 (o_cne 85) := ok_cne dX4_copyTile_42 (by decide)
theorem k_51_45 : mOk M_51.1 M_51.2.1 M_51.2.2.1 M_51.2.2.2 45 (o_al 0 1) := ok_aload_n dX4_copyTile_45 rfl
theorem k_51_46 : mOk M_51.1 M_51.2.1 M_51.2.2.1 M_51.2.2.2 46 (o_gP 4 13) := ok_gP dX4_copyTile_46 f_RX4_47 rfl
theorem k_51_49 : mOk M_51.1 M_51.2.1 M_51.2.2.1 M_51.2.2.2 49 (o_al 0 1) := ok_aload_n dX4_copyTile_49 rfl
theorem k_51_50 : mOk M_51.1 M_51.2.1 M_51.2.2.1 M_51.2.2.2 50 (o_gP 4 12) := ok_gP dX4_copyTile_50 f_RX4_44 rfl
theorem k_51_53 : mOk M_51.1 M_51.2.1 M_51.2.2.1 M_51.2.2.2 53 (o_il 5 2) := ok_iload dX4_copyTile_53
theorem k_51_55 : mOk M_51.1 M_51.2.1 M_51.2.2.1 M_51.2.2.2 55 (o_iald) := ok_iald dX4_copyTile_55
theorem k_51_56 : mOk M_51.1 M_51.2.1 M_51.2.2.1 M_51.2.2.2 56 (o_al 4 2) := ok_aload dX4_copyTile_56
theorem k_51_58 : mOk M_51.1 M_51.2.1 M_51.2.2.1 M_51.2.2.2 58 (o_gP 3 0) := ok_gP dX4_copyTile_58 f_RX4_77 rfl
theorem k_51_61 : mOk M_51.1 M_51.2.1 M_51.2.2.1 M_51.2.2.2 61 (oS 1 (s_push (.int 0))) := ok_iconst dX4_copyTile_61 (by decide)
theorem k_51_62 : mOk M_51.1 M_51.2.1 M_51.2.2.1 M_51.2.2.2 62 (o_al 0 1) := ok_aload_n dX4_copyTile_62 rfl
theorem k_51_63 : mOk M_51.1 M_51.2.1 M_51.2.2.1 M_51.2.2.2 63 (o_gP 4 10) := ok_gP dX4_copyTile_63 f_RX4_38 rfl
theorem k_51_66 : mOk M_51.1 M_51.2.1 M_51.2.2.1 M_51.2.2.2 66 (o_il 5 2) := ok_iload dX4_copyTile_66
theorem k_51_68 : mOk M_51.1 M_51.2.1 M_51.2.2.1 M_51.2.2.2 68 (o_iald) := ok_iald dX4_copyTile_68
theorem k_51_72 : mOk M_51.1 M_51.2.1 M_51.2.2.1 M_51.2.2.2 72 (o_al 4 2) := ok_aload dX4_copyTile_72
theorem k_51_74 : mOk M_51.1 M_51.2.1 M_51.2.2.1 M_51.2.2.2 74 (o_al 0 1) := ok_aload_n dX4_copyTile_74 rfl
theorem k_51_75 : mOk M_51.1 M_51.2.1 M_51.2.2.1 M_51.2.2.2 75 (o_gP 4 10) := ok_gP dX4_copyTile_75 f_RX4_38 rfl
theorem k_51_78 : mOk M_51.1 M_51.2.1 M_51.2.2.1 M_51.2.2.2 78 (o_il 5 2) := ok_iload dX4_copyTile_78
theorem k_51_80 : mOk M_51.1 M_51.2.1 M_51.2.2.1 M_51.2.2.2 80 (o_iald) := ok_iald dX4_copyTile_80
theorem k_51_81 : mOk M_51.1 M_51.2.1 M_51.2.2.1 M_51.2.2.2 81 (o_pI 3 1) := ok_pI dX4_copyTile_81 (mFw_of f_RX4_72_c (Or.inl rfl)) rfl
theorem k_51_85 : mOk M_51.1 M_51.2.1 M_51.2.2.1 M_51.2.2.2 85 (o_inc 5 1) := ok_iinc dX4_copyTile_85 (by decide)
theorem k_51_88 : mOk M_51.1 M_51.2.1 M_51.2.2.1 M_51.2.2.2 88 (o_goto 3) := ok_goto dX4_copyTile_88 (by decide)
set_option maxRecDepth 20000 in
set_option maxHeartbeats 4000000 in
theorem tk_51 (l : Launch) (H9 : mThr l) (H10 : mSpl l) (pc : Nat) (q : mEnt) (h : tb_51 pc = some q) : EE l 51 pc q := nd h (fun h => nd h (fun h => nd h (fun h => nd h (fun h => nd h (fun h => lf (P := EE l 51) h k_51_0) (fun h => nd h (fun h => lf (P := EE l 51) h k_51_1) (fun h => lf (P := EE l 51) h k_51_3))) (fun h => nd h (fun h => lf (P := EE l 51) h k_51_5) (fun h => nd h (fun h => lf (P := EE l 51) h k_51_6) (fun h => lf (P := EE l 51) h k_51_9)))) (fun h => nd h (fun h => nd h (fun h => lf (P := EE l 51) h k_51_12) (fun h => nd h (fun h => lf (P := EE l 51) h k_51_13) (fun h => lf (P := EE l 51) h k_51_16))) (fun h => nd h (fun h => lf (P := EE l 51) h k_51_18) (fun h => nd h (fun h => lf (P := EE l 51) h k_51_19) (fun h => lf (P := EE l 51) h k_51_20))))) (fun h => nd h (fun h => nd h (fun h => nd h (fun h => lf (P := EE l 51) h k_51_23) (fun h => nd h (fun h => lf (P := EE l 51) h k_51_24) (fun h => lf (P := EE l 51) h k_51_27))) (fun h => nd h (fun h => lf (P := EE l 51) h k_51_29) (fun h => nd h (fun h => lf (P := EE l 51) h k_51_30) (fun h => lf (P := EE l 51) h k_51_31)))) (fun h => nd h (fun h => nd h (fun h => lf (P := EE l 51) h k_51_34) (fun h => nd h (fun h => lf (P := EE l 51) h k_51_35) (fun h => lf (P := EE l 51) h k_51_38))) (fun h => nd h (fun h => lf (P := EE l 51) h k_51_40) (fun h => nd h (fun h => lf (P := EE l 51) h k_51_41) (fun h => lf (P := EE l 51) h k_51_42)))))) (fun h => nd h (fun h => nd h (fun h => nd h (fun h => nd h (fun h => lf (P := EE l 51) h k_51_45) (fun h => nd h (fun h => lf (P := EE l 51) h k_51_46) (fun h => lf (P := EE l 51) h k_51_49))) (fun h => nd h (fun h => lf (P := EE l 51) h k_51_50) (fun h => nd h (fun h => lf (P := EE l 51) h k_51_53) (fun h => lf (P := EE l 51) h k_51_55)))) (fun h => nd h (fun h => nd h (fun h => lf (P := EE l 51) h k_51_56) (fun h => nd h (fun h => lf (P := EE l 51) h k_51_58) (fun h => lf (P := EE l 51) h k_51_61))) (fun h => nd h (fun h => lf (P := EE l 51) h k_51_62) (fun h => nd h (fun h => lf (P := EE l 51) h k_51_63) (fun h => lf (P := EE l 51) h k_51_66))))) (fun h => nd h (fun h => nd h (fun h => nd h (fun h => lf (P := EE l 51) h k_51_68) (fun h => nd h (fun h => lf (P := EE l 51) h (EE_cp (⟨78, dX4_copyTile_69, m_523, m_506, m_505, m_83, by decide, by decide⟩))) (fun h => lf (P := EE l 51) h k_51_72))) (fun h => nd h (fun h => lf (P := EE l 51) h k_51_74) (fun h => nd h (fun h => lf (P := EE l 51) h k_51_75) (fun h => lf (P := EE l 51) h k_51_78)))) (fun h => nd h (fun h => nd h (fun h => lf (P := EE l 51) h k_51_80) (fun h => nd h (fun h => lf (P := EE l 51) h k_51_81) (fun h => lf (P := EE l 51) h (EE_re (Or.inr (Or.inr (Or.inr (Or.inr ⟨rfl, dX4_copyTile_84, rfl⟩)))))))) (fun h => nd h (fun h => lf (P := EE l 51) h k_51_85) (fun h => nd h (fun h => lf (P := EE l 51) h k_51_88) (fun h => lf (P := EE l 51) h (EE_re (Or.inr (Or.inr (Or.inr (Or.inr ⟨rfl, dX4_copyTile_91, rfl⟩)))))))))))
theorem dX4_copyFrom_0 : decode cX4_copyFrom 0 = .ok (.aload_n 0, 1) := by decide +kernel
theorem dX4_copyFrom_1 : decode cX4_copyFrom 1 = .ok (.aload_n 1, 1) := by decide +kernel
theorem dX4_copyFrom_2 : decode cX4_copyFrom 2 = .ok (.getfield 51, 3) := by decide +kernel
theorem dX4_copyFrom_5 : decode cX4_copyFrom 5 = .ok (.aload_n 1, 1) := by decide +kernel
theorem dX4_copyFrom_6 : decode cX4_copyFrom 6 = .ok (.getfield 12, 3) := by decide +kernel
theorem dX4_copyFrom_9 : decode cX4_copyFrom 9 = .ok (.invokevirtual 96, 3) := by decide +kernel
theorem dX4_copyFrom_12 : decode cX4_copyFrom 12 = .ok (.aload_n 0, 1) := by decide +kernel
theorem dX4_copyFrom_13 : decode cX4_copyFrom 13 = .ok (.getfield 21, 3) := by decide +kernel
theorem dX4_copyFrom_16 : decode cX4_copyFrom 16 = .ok (.aload_n 1, 1) := by decide +kernel
theorem dX4_copyFrom_17 : decode cX4_copyFrom 17 = .ok (.getfield 21, 3) := by decide +kernel
theorem dX4_copyFrom_20 : decode cX4_copyFrom 20 = .ok (.invokevirtual 100, 3) := by decide +kernel
theorem dX4_copyFrom_23 : decode cX4_copyFrom 23 = .ok (.aload_n 0, 1) := by decide +kernel
theorem dX4_copyFrom_24 : decode cX4_copyFrom 24 = .ok (.aload_n 1, 1) := by decide +kernel
theorem dX4_copyFrom_25 : decode cX4_copyFrom 25 = .ok (.getfield 59, 3) := by decide +kernel
theorem dX4_copyFrom_28 : decode cX4_copyFrom 28 = .ok (.putfield 59, 3) := by decide +kernel
theorem dX4_copyFrom_31 : decode cX4_copyFrom 31 = .ok (.aload_n 0, 1) := by decide +kernel
theorem dX4_copyFrom_32 : decode cX4_copyFrom 32 = .ok (.aload_n 1, 1) := by decide +kernel
theorem dX4_copyFrom_33 : decode cX4_copyFrom 33 = .ok (.getfield 62, 3) := by decide +kernel
theorem dX4_copyFrom_36 : decode cX4_copyFrom 36 = .ok (.putfield 62, 3) := by decide +kernel
theorem dX4_copyFrom_39 : decode cX4_copyFrom 39 = .ok (.aload_n 0, 1) := by decide +kernel
theorem dX4_copyFrom_40 : decode cX4_copyFrom 40 = .ok (.aload_n 1, 1) := by decide +kernel
theorem dX4_copyFrom_41 : decode cX4_copyFrom 41 = .ok (.getfield 65, 3) := by decide +kernel
theorem dX4_copyFrom_44 : decode cX4_copyFrom 44 = .ok (.putfield 65, 3) := by decide +kernel
theorem dX4_copyFrom_47 : decode cX4_copyFrom 47 = .ok (.aload_n 1, 1) := by decide +kernel
theorem dX4_copyFrom_48 : decode cX4_copyFrom 48 = .ok (.getfield 25, 3) := by decide +kernel
theorem dX4_copyFrom_51 : decode cX4_copyFrom 51 = .ok (.iconst 0, 1) := by decide +kernel
theorem dX4_copyFrom_52 : decode cX4_copyFrom 52 = .ok (.aload_n 0, 1) := by decide +kernel
theorem dX4_copyFrom_53 : decode cX4_copyFrom 53 = .ok (.getfield 25, 3) := by decide +kernel
theorem dX4_copyFrom_56 : decode cX4_copyFrom 56 = .ok (.iconst 0, 1) := by decide +kernel
theorem dX4_copyFrom_57 : decode cX4_copyFrom 57 = .ok (.aload_n 0, 1) := by decide +kernel
theorem dX4_copyFrom_58 : decode cX4_copyFrom 58 = .ok (.getfield 59, 3) := by decide +kernel
theorem dX4_copyFrom_61 : decode cX4_copyFrom 61 = .ok (.invokestatic 78, 3) := by decide +kernel
theorem dX4_copyFrom_64 : decode cX4_copyFrom 64 = .ok (.aload_n 1, 1) := by decide +kernel
theorem dX4_copyFrom_65 : decode cX4_copyFrom 65 = .ok (.getfield 29, 3) := by decide +kernel
theorem dX4_copyFrom_68 : decode cX4_copyFrom 68 = .ok (.iconst 0, 1) := by decide +kernel
theorem dX4_copyFrom_69 : decode cX4_copyFrom 69 = .ok (.aload_n 0, 1) := by decide +kernel
theorem dX4_copyFrom_70 : decode cX4_copyFrom 70 = .ok (.getfield 29, 3) := by decide +kernel
theorem dX4_copyFrom_73 : decode cX4_copyFrom 73 = .ok (.iconst 0, 1) := by decide +kernel
theorem dX4_copyFrom_74 : decode cX4_copyFrom 74 = .ok (.aload_n 0, 1) := by decide +kernel
theorem dX4_copyFrom_75 : decode cX4_copyFrom 75 = .ok (.getfield 59, 3) := by decide +kernel
theorem dX4_copyFrom_78 : decode cX4_copyFrom 78 = .ok (.invokestatic 78, 3) := by decide +kernel
theorem dX4_copyFrom_81 : decode cX4_copyFrom 81 = .ok (.aload_n 1, 1) := by decide +kernel
theorem dX4_copyFrom_82 : decode cX4_copyFrom 82 = .ok (.getfield 32, 3) := by decide +kernel
theorem dX4_copyFrom_85 : decode cX4_copyFrom 85 = .ok (.iconst 0, 1) := by decide +kernel
theorem dX4_copyFrom_86 : decode cX4_copyFrom 86 = .ok (.aload_n 0, 1) := by decide +kernel
theorem dX4_copyFrom_87 : decode cX4_copyFrom 87 = .ok (.getfield 32, 3) := by decide +kernel
theorem dX4_copyFrom_90 : decode cX4_copyFrom 90 = .ok (.iconst 0, 1) := by decide +kernel
theorem dX4_copyFrom_91 : decode cX4_copyFrom 91 = .ok (.aload_n 0, 1) := by decide +kernel
theorem dX4_copyFrom_92 : decode cX4_copyFrom 92 = .ok (.getfield 59, 3) := by decide +kernel
theorem dX4_copyFrom_95 : decode cX4_copyFrom 95 = .ok (.invokestatic 78, 3) := by decide +kernel
theorem dX4_copyFrom_98 : decode cX4_copyFrom 98 = .ok (.aload_n 1, 1) := by decide +kernel
theorem dX4_copyFrom_99 : decode cX4_copyFrom 99 = .ok (.getfield 35, 3) := by decide +kernel
theorem dX4_copyFrom_102 : decode cX4_copyFrom 102 = .ok (.iconst 0, 1) := by decide +kernel
theorem dX4_copyFrom_103 : decode cX4_copyFrom 103 = .ok (.aload_n 0, 1) := by decide +kernel
theorem dX4_copyFrom_104 : decode cX4_copyFrom 104 = .ok (.getfield 35, 3) := by decide +kernel
theorem dX4_copyFrom_107 : decode cX4_copyFrom 107 = .ok (.iconst 0, 1) := by decide +kernel
theorem dX4_copyFrom_108 : decode cX4_copyFrom 108 = .ok (.aload_n 0, 1) := by decide +kernel
theorem dX4_copyFrom_109 : decode cX4_copyFrom 109 = .ok (.getfield 59, 3) := by decide +kernel
theorem dX4_copyFrom_112 : decode cX4_copyFrom 112 = .ok (.invokestatic 78, 3) := by decide +kernel
theorem dX4_copyFrom_115 : decode cX4_copyFrom 115 = .ok (.aload_n 1, 1) := by decide +kernel
theorem dX4_copyFrom_116 : decode cX4_copyFrom 116 = .ok (.getfield 38, 3) := by decide +kernel
theorem dX4_copyFrom_119 : decode cX4_copyFrom 119 = .ok (.iconst 0, 1) := by decide +kernel
theorem dX4_copyFrom_120 : decode cX4_copyFrom 120 = .ok (.aload_n 0, 1) := by decide +kernel
theorem dX4_copyFrom_121 : decode cX4_copyFrom 121 = .ok (.getfield 38, 3) := by decide +kernel
theorem dX4_copyFrom_124 : decode cX4_copyFrom 124 = .ok (.iconst 0, 1) := by decide +kernel
theorem dX4_copyFrom_125 : decode cX4_copyFrom 125 = .ok (.aload_n 0, 1) := by decide +kernel
theorem dX4_copyFrom_126 : decode cX4_copyFrom 126 = .ok (.getfield 59, 3) := by decide +kernel
theorem dX4_copyFrom_129 : decode cX4_copyFrom 129 = .ok (.invokestatic 78, 3) := by decide +kernel
theorem dX4_copyFrom_132 : decode cX4_copyFrom 132 = .ok (.aload_n 1, 1) := by decide +kernel
theorem dX4_copyFrom_133 : decode cX4_copyFrom 133 = .ok (.getfield 41, 3) := by decide +kernel
theorem dX4_copyFrom_136 : decode cX4_copyFrom 136 = .ok (.iconst 0, 1) := by decide +kernel
theorem dX4_copyFrom_137 : decode cX4_copyFrom 137 = .ok (.aload_n 0, 1) := by decide +kernel
theorem dX4_copyFrom_138 : decode cX4_copyFrom 138 = .ok (.getfield 41, 3) := by decide +kernel
theorem dX4_copyFrom_141 : decode cX4_copyFrom 141 = .ok (.iconst 0, 1) := by decide +kernel
theorem dX4_copyFrom_142 : decode cX4_copyFrom 142 = .ok (.aload_n 0, 1) := by decide +kernel
theorem dX4_copyFrom_143 : decode cX4_copyFrom 143 = .ok (.getfield 59, 3) := by decide +kernel
theorem dX4_copyFrom_146 : decode cX4_copyFrom 146 = .ok (.invokestatic 78, 3) := by decide +kernel
theorem dX4_copyFrom_149 : decode cX4_copyFrom 149 = .ok (.aload_n 1, 1) := by decide +kernel
theorem dX4_copyFrom_150 : decode cX4_copyFrom 150 = .ok (.getfield 44, 3) := by decide +kernel
theorem dX4_copyFrom_153 : decode cX4_copyFrom 153 = .ok (.iconst 0, 1) := by decide +kernel
theorem dX4_copyFrom_154 : decode cX4_copyFrom 154 = .ok (.aload_n 0, 1) := by decide +kernel
theorem dX4_copyFrom_155 : decode cX4_copyFrom 155 = .ok (.getfield 44, 3) := by decide +kernel
theorem dX4_copyFrom_158 : decode cX4_copyFrom 158 = .ok (.iconst 0, 1) := by decide +kernel
theorem dX4_copyFrom_159 : decode cX4_copyFrom 159 = .ok (.aload_n 0, 1) := by decide +kernel
theorem dX4_copyFrom_160 : decode cX4_copyFrom 160 = .ok (.getfield 59, 3) := by decide +kernel
theorem dX4_copyFrom_163 : decode cX4_copyFrom 163 = .ok (.invokestatic 78, 3) := by decide +kernel
theorem dX4_copyFrom_166 : decode cX4_copyFrom 166 = .ok (.aload_n 1, 1) := by decide +kernel
theorem dX4_copyFrom_167 : decode cX4_copyFrom 167 = .ok (.getfield 47, 3) := by decide +kernel
theorem dX4_copyFrom_170 : decode cX4_copyFrom 170 = .ok (.iconst 0, 1) := by decide +kernel
theorem dX4_copyFrom_171 : decode cX4_copyFrom 171 = .ok (.aload_n 0, 1) := by decide +kernel
theorem dX4_copyFrom_172 : decode cX4_copyFrom 172 = .ok (.getfield 47, 3) := by decide +kernel
theorem dX4_copyFrom_175 : decode cX4_copyFrom 175 = .ok (.iconst 0, 1) := by decide +kernel
theorem dX4_copyFrom_176 : decode cX4_copyFrom 176 = .ok (.aload_n 0, 1) := by decide +kernel
theorem dX4_copyFrom_177 : decode cX4_copyFrom 177 = .ok (.getfield 62, 3) := by decide +kernel
theorem dX4_copyFrom_180 : decode cX4_copyFrom 180 = .ok (.invokestatic 78, 3) := by decide +kernel
theorem dX4_copyFrom_183 : decode cX4_copyFrom 183 = .ok (.return_, 1) := by decide +kernel
def tb_52 (pc : Nat) : Option mEnt := bif Nat.ble pc 91 then (bif Nat.ble pc 47 then (bif Nat.ble pc 23 then (bif Nat.ble pc 9 then (bif Nat.ble pc 2 then (bif Nat.ble pc 0 then (bif Nat.beq pc 0 then some (.inl (o_al 0 1)) else none) else (bif Nat.ble pc 1 then (bif Nat.beq pc 1 then some (.inl (o_al 1 1)) else none) else (bif Nat.beq pc 2 then some (.inl (o_gI 4 0)) else none))) else (bif Nat.ble pc 5 then (bif Nat.beq pc 5 then some (.inl (o_al 1 1)) else none) else (bif Nat.ble pc 6 then (bif Nat.beq pc 6 then some (.inl (o_gP 4 1)) else none) else (bif Nat.beq pc 9 then some (.inr (3, 44, 3, 4)) else none)))) else (bif Nat.ble pc 16 then (bif Nat.ble pc 12 then (bif Nat.beq pc 12 then some (.inl (o_al 0 1)) else none) else (bif Nat.ble pc 13 then (bif Nat.beq pc 13 then some (.inl (o_gP 4 2)) else none) else (bif Nat.beq pc 16 then some (.inl (o_al 1 1)) else none))) else (bif Nat.ble pc 17 then (bif Nat.beq pc 17 then some (.inl (o_gP 4 2)) else none) else (bif Nat.ble pc 20 then (bif Nat.beq pc 20 then some (.inr (3, 8, 2, 1)) else none) else (bif Nat.beq pc 23 then some (.inl (o_al 0 1)) else none))))) else (bif Nat.ble pc 33 then (bif Nat.ble pc 28 then (bif Nat.ble pc 24 then (bif Nat.beq pc 24 then some (.inl (o_al 1 1)) else none) else (bif Nat.ble pc 25 then (bif Nat.beq pc 25 then some (.inl (o_gI 4 3)) else none) else (bif Nat.beq pc 28 then some (.inl (o_pI 4 3)) else none))) else (bif Nat.ble pc 31 then (bif Nat.beq pc 31 then some (.inl (o_al 0 1)) else none) else (bif Nat.ble pc 32 then (bif Nat.beq pc 32 then some (.inl (o_al 1 1)) else none) else (bif Nat.beq pc 33 then some (.inl (o_gI 4 4)) else none)))) else (bif Nat.ble pc 40 then (bif Nat.ble pc 36 then (bif Nat.beq pc 36 then some (.inl (o_pI 4 4)) else none) else (bif Nat.ble pc 39 then (bif Nat.beq pc 39 then some (.inl (o_al 0 1)) else none) else (bif Nat.beq pc 40 then some (.inl (o_al 1 1)) else none))) else (bif Nat.ble pc 41 then (bif Nat.beq pc 41 then some (.inl (o_gI 4 5)) else none) else (bif Nat.ble pc 44 then (bif Nat.beq pc 44 then some (.inl (o_pI 4 5)) else none) else (bif Nat.beq pc 47 then some (.inl (o_al 1 1)) else none)))))) else (bif Nat.ble pc 69 then (bif Nat.ble pc 57 then (bif Nat.ble pc 52 then (bif Nat.ble pc 48 then (bif Nat.beq pc 48 then some (.inl (o_gP 4 6)) else none) else (bif Nat.ble pc 51 then (bif Nat.beq pc 51 then some (.inl (oS 1 (s_push (.int 0)))) else none) else (bif Nat.beq pc 52 then some (.inl (o_al 0 1)) else none))) else (bif Nat.ble pc 53 then (bif Nat.beq pc 53 then some (.inl (o_gP 4 6)) else none) else (bif Nat.ble pc 56 then (bif Nat.beq pc 56 then some (.inl (oS 1 (s_push (.int 0)))) else none) else (bif Nat.beq pc 57 then some (.inl (o_al 0 1)) else none)))) else (bif Nat.ble pc 64 then (bif Nat.ble pc 58 then (bif Nat.beq pc 58 then some (.inl (o_gI 4 3)) else none) else (bif Nat.ble pc 61 then (bif Nat.beq pc 61 then some (.inr (1, 0, 0, 0)) else none) else (bif Nat.beq pc 64 then some (.inl (o_al 1 1)) else none))) else (bif Nat.ble pc 65 then (bif Nat.beq pc 65 then some (.inl (o_gP 4 7)) else none) else (bif Nat.ble pc 68 then (bif Nat.beq pc 68 then some (.inl (oS 1 (s_push (.int 0)))) else none) else (bif Nat.beq pc 69 then some (.inl (o_al 0 1)) else none))))) else (bif Nat.ble pc 81 then (bif Nat.ble pc 74 then (bif Nat.ble pc 70 then (bif Nat.beq pc 70 then some (.inl (o_gP 4 7)) else none) else (bif Nat.ble pc 73 then (bif Nat.beq pc 73 then some (.inl (oS 1 (s_push (.int 0)))) else none) else (bif Nat.beq pc 74 then some (.inl (o_al 0 1)) else none))) else (bif Nat.ble pc 75 then (bif Nat.beq pc 75 then some (.inl (o_gI 4 3)) else none) else (bif Nat.ble pc 78 then (bif Nat.beq pc 78 then some (.inr (1, 0, 0, 0)) else none) else (bif Nat.beq pc 81 then some (.inl (o_al 1 1)) else none)))) else (bif Nat.ble pc 86 then (bif Nat.ble pc 82 then (bif Nat.beq pc 82 then some (.inl (o_gP 4 8)) else none) else (bif Nat.ble pc 85 then (bif Nat.beq pc 85 then some (.inl (oS 1 (s_push (.int 0)))) else none) else (bif Nat.beq pc 86 then some (.inl (o_al 0 1)) else none))) else (bif Nat.ble pc 87 then (bif Nat.beq pc 87 then some (.inl (o_gP 4 8)) else none) else (bif Nat.ble pc 90 then (bif Nat.beq pc 90 then some (.inl (oS 1 (s_push (.int 0)))) else none) else (bif Nat.beq pc 91 then some (.inl (o_al 0 1)) else none))))))) else (bif Nat.ble pc 137 then (bif Nat.ble pc 115 then (bif Nat.ble pc 103 then (bif Nat.ble pc 98 then (bif Nat.ble pc 92 then (bif Nat.beq pc 92 then some (.inl (o_gI 4 3)) else none) else (bif Nat.ble pc 95 then (bif Nat.beq pc 95 then some (.inr (1, 0, 0, 0)) else none) else (bif Nat.beq pc 98 then some (.inl (o_al 1 1)) else none))) else (bif Nat.ble pc 99 then (bif Nat.beq pc 99 then some (.inl (o_gP 4 9)) else none) else (bif Nat.ble pc 102 then (bif Nat.beq pc 102 then some (.inl (oS 1 (s_push (.int 0)))) else none) else (bif Nat.beq pc 103 then some (.inl (o_al 0 1)) else none)))) else (bif Nat.ble pc 108 then (bif Nat.ble pc 104 then (bif Nat.beq pc 104 then some (.inl (o_gP 4 9)) else none) else (bif Nat.ble pc 107 then (bif Nat.beq pc 107 then some (.inl (oS 1 (s_push (.int 0)))) else none) else (bif Nat.beq pc 108 then some (.inl (o_al 0 1)) else none))) else (bif Nat.ble pc 109 then (bif Nat.beq pc 109 then some (.inl (o_gI 4 3)) else none) else (bif Nat.ble pc 112 then (bif Nat.beq pc 112 then some (.inr (1, 0, 0, 0)) else none) else (bif Nat.beq pc 115 then some (.inl (o_al 1 1)) else none))))) else (bif Nat.ble pc 125 then (bif Nat.ble pc 120 then (bif Nat.ble pc 116 then (bif Nat.beq pc 116 then some (.inl (o_gP 4 10)) else none) else (bif Nat.ble pc 119 then (bif Nat.beq pc 119 then some (.inl (oS 1 (s_push (.int 0)))) else none) else (bif Nat.beq pc 120 then some (.inl (o_al 0 1)) else none))) else (bif Nat.ble pc 121 then (bif Nat.beq pc 121 then some (.inl (o_gP 4 10)) else none) else (bif Nat.ble pc 124 then (bif Nat.beq pc 124 then some (.inl (oS 1 (s_push (.int 0)))) else none) else (bif Nat.beq pc 125 then some (.inl (o_al 0 1)) else none)))) else (bif Nat.ble pc 132 then (bif Nat.ble pc 126 then (bif Nat.beq pc 126 then some (.inl (o_gI 4 3)) else none) else (bif Nat.ble pc 129 then (bif Nat.beq pc 129 then some (.inr (1, 0, 0, 0)) else none) else (bif Nat.beq pc 132 then some (.inl (o_al 1 1)) else none))) else (bif Nat.ble pc 133 then (bif Nat.beq pc 133 then some (.inl (o_gP 4 11)) else none) else (bif Nat.ble pc 136 then (bif Nat.beq pc 136 then some (.inl (oS 1 (s_push (.int 0)))) else none) else (bif Nat.beq pc 137 then some (.inl (o_al 0 1)) else none)))))) else (bif Nat.ble pc 159 then (bif Nat.ble pc 149 then (bif Nat.ble pc 142 then (bif Nat.ble pc 138 then (bif Nat.beq pc 138 then some (.inl (o_gP 4 11)) else none) else (bif Nat.ble pc 141 then (bif Nat.beq pc 141 then some (.inl (oS 1 (s_push (.int 0)))) else none) else (bif Nat.beq pc 142 then some (.inl (o_al 0 1)) else none))) else (bif Nat.ble pc 143 then (bif Nat.beq pc 143 then some (.inl (o_gI 4 3)) else none) else (bif Nat.ble pc 146 then (bif Nat.beq pc 146 then some (.inr (1, 0, 0, 0)) else none) else (bif Nat.beq pc 149 then some (.inl (o_al 1 1)) else none)))) else (bif Nat.ble pc 154 then (bif Nat.ble pc 150 then (bif Nat.beq pc 150 then some (.inl (o_gP 4 12)) else none) else (bif Nat.ble pc 153 then (bif Nat.beq pc 153 then some (.inl (oS 1 (s_push (.int 0)))) else none) else (bif Nat.beq pc 154 then some (.inl (o_al 0 1)) else none))) else (bif Nat.ble pc 155 then (bif Nat.beq pc 155 then some (.inl (o_gP 4 12)) else none) else (bif Nat.ble pc 158 then (bif Nat.beq pc 158 then some (.inl (oS 1 (s_push (.int 0)))) else none) else (bif Nat.beq pc 159 then some (.inl (o_al 0 1)) else none))))) else (bif Nat.ble pc 171 then (bif Nat.ble pc 166 then (bif Nat.ble pc 160 then (bif Nat.beq pc 160 then some (.inl (o_gI 4 3)) else none) else (bif Nat.ble pc 163 then (bif Nat.beq pc 163 then some (.inr (1, 0, 0, 0)) else none) else (bif Nat.beq pc 166 then some (.inl (o_al 1 1)) else none))) else (bif Nat.ble pc 167 then (bif Nat.beq pc 167 then some (.inl (o_gP 4 13)) else none) else (bif Nat.ble pc 170 then (bif Nat.beq pc 170 then some (.inl (oS 1 (s_push (.int 0)))) else none) else (bif Nat.beq pc 171 then some (.inl (o_al 0 1)) else none)))) else (bif Nat.ble pc 176 then (bif Nat.ble pc 172 then (bif Nat.beq pc 172 then some (.inl (o_gP 4 13)) else none) else (bif Nat.ble pc 175 then (bif Nat.beq pc 175 then some (.inl (oS 1 (s_push (.int 0)))) else none) else (bif Nat.beq pc 176 then some (.inl (o_al 0 1)) else none))) else (bif Nat.ble pc 177 then (bif Nat.beq pc 177 then some (.inl (o_gI 4 4)) else none) else (bif Nat.ble pc 180 then (bif Nat.beq pc 180 then some (.inr (1, 0, 0, 0)) else none) else (bif Nat.beq pc 183 then some (.inr (0, 0, 0, 3)) else none)))))))
theorem k_52_0 : mOk M_52.1 M_52.2.1 M_52.2.2.1 M_52.2.2.2 0 (o_al 0 1) := ok_aload_n dX4_copyFrom_0 rfl
theorem k_52_1 : mOk M_52.1 M_52.2.1 M_52.2.2.1 M_52.2.2.2 1 (o_al 1 1) := ok_aload_n dX4_copyFrom_1 rfl
theorem k_52_2 : mOk M_52.1 M_52.2.1 M_52.2.2.1 M_52.2.2.2 2 (o_gI 4 0) := ok_gI dX4_copyFrom_2 f_RX4_51 (Or.inl rfl)
theorem k_52_5 : mOk M_52.1 M_52.2.1 M_52.2.2.1 M_52.2.2.2 5 (o_al 1 1) := ok_aload_n dX4_copyFrom_5 rfl
theorem k_52_6 : mOk M_52.1 M_52.2.1 M_52.2.2.1 M_52.2.2.2 6 (o_gP 4 1) := ok_gP dX4_copyFrom_6 f_RX4_12 rfl
theorem k_52_12 : mOk M_52.1 M_52.2.1 M_52.2.2.1 M_52.2.2.2 12 (o_al 0 1) := ok_aload_n dX4_copyFrom_12 rfl
theorem k_52_13 : mOk M_52.1 M_52.2.1 M_52.2.2.1 M_52.2.2.2 13 (o_gP 4 2) := ok_gP dX4_copyFrom_13 f_RX4_21 rfl
theorem k_52_16 : mOk M_52.1 M_52.2.1 M_52.2.2.1 M_52.2.2.2 16 (o_al 1 1) := ok_aload_n dX4_copyFrom_16 rfl
theorem k_52_17 : mOk M_52.1 M_52.2.1 M_52.2.2.1 M_52.2.2.2 17 (o_gP 4 2) := ok_gP dX4_copyFrom_17 f_RX4_21 rfl
theorem k_52_23 : mOk M_52.1 M_52.2.1 M_52.2.2.1 M_52.2.2.2 23 (o_al 0 1) := ok_aload_n dX4_copyFrom_23 rfl
theorem k_52_24 : mOk M_52.1 M_52.2.1 M_52.2.2.1 M_52.2.2.2 24 (o_al 1 1) := ok_aload_n dX4_copyFrom_24 rfl
theorem k_52_25 : mOk M_52.1 M_52.2.1 M_52.2.2.1 M_52.2.2.2 25 (o_gI 4 3) := ok_gI dX4_copyFrom_25 f_RX4_59 (Or.inl rfl)
theorem k_52_28 : mOk M_52.1 M_52.2.1 M_52.2.2.1 M_52.2.2.2 28 (o_pI 4 3) := ok_pI dX4_copyFrom_28 (mFw_of f_RX4_59_c (Or.inl rfl)) rfl
theorem k_52_31 : mOk M_52.1 M_52.2.1 M_52.2.2.1 M_52.2.2.2 31 (o_al 0 1) := ok_aload_n dX4_copyFrom_31 rfl
theorem k_52_32 : mOk M_52.1 M_52.2.1 M_52.2.2.1 M_52.2.2.2 32 (o_al 1 1) := ok_aload_n dX4_copyFrom_32 rfl
theorem k_52_33 : mOk M_52.1 M_52.2.1 M_52.2.2.1 M_52.2.2.2 33 (o_gI 4 4) := ok_gI dX4_copyFrom_33 f_RX4_62 (Or.inl rfl)
theorem k_52_36 : mOk M_52.1 M_52.2.1 M_52.2.2.1 M_52.2.2.2 36 (o_pI 4 4) := ok_pI dX4_copyFrom_36 (mFw_of f_RX4_62_c (Or.inl rfl)) rfl
theorem k_52_39 : mOk M_52.1 M_52.2.1 M_52.2.2.1 M_52.2.2.2 39 (o_al 0 1) := ok_aload_n dX4_copyFrom_39 rfl
theorem k_52_40 : mOk M_52.1 M_52.2.1 M_52.2.2.1 M_52.2.2.2 40 (o_al 1 1) := ok_aload_n dX4_copyFrom_40 rfl
theorem k_52_41 : mOk M_52.1 M_52.2.1 M_52.2.2.1 M_52.2.2.2 41 (o_gI 4 5) := ok_gI dX4_copyFrom_41 f_RX4_65 (Or.inl rfl)
theorem k_52_44 : mOk M_52.1 M_52.2.1 M_52.2.2.1 M_52.2.2.2 44 (o_pI 4 5) := ok_pI dX4_copyFrom_44 (mFw_of f_RX4_65_c (Or.inl rfl)) rfl
theorem k_52_47 : mOk M_52.1 M_52.2.1 M_52.2.2.1 M_52.2.2.2 47 (o_al 1 1) := ok_aload_n dX4_copyFrom_47 rfl
theorem k_52_48 : mOk M_52.1 M_52.2.1 M_52.2.2.1 M_52.2.2.2 48 (o_gP 4 6) := ok_gP dX4_copyFrom_48 f_RX4_25 rfl
theorem k_52_51 : mOk M_52.1 M_52.2.1 M_52.2.2.1 M_52.2.2.2 51 (oS 1 (s_push (.int 0))) := ok_iconst dX4_copyFrom_51 (by decide)
theorem k_52_52 : mOk M_52.1 M_52.2.1 M_52.2.2.1 M_52.2.2.2 52 (o_al 0 1) := ok_aload_n dX4_copyFrom_52 rfl
theorem k_52_53 : mOk M_52.1 M_52.2.1 M_52.2.2.1 M_52.2.2.2 53 (o_gP 4 6) := ok_gP dX4_copyFrom_53 f_RX4_25 rfl
theorem k_52_56 : mOk M_52.1 M_52.2.1 M_52.2.2.1 M_52.2.2.2 56 (oS 1 (s_push (.int 0))) := ok_iconst dX4_copyFrom_56 (by decide)
theorem k_52_57 : mOk M_52.1 M_52.2.1 M_52.2.2.1 M_52.2.2.2 57 (o_al 0 1) := ok_aload_n dX4_copyFrom_57 rfl
theorem k_52_58 : mOk M_52.1 M_52.2.1 M_52.2.2.1 M_52.2.2.2 58 (o_gI 4 3) := ok_gI dX4_copyFrom_58 f_RX4_59 (Or.inl rfl)
theorem k_52_64 : mOk M_52.1 M_52.2.1 M_52.2.2.1 M_52.2.2.2 64 (o_al 1 1) := ok_aload_n dX4_copyFrom_64 rfl
theorem k_52_65 : mOk M_52.1 M_52.2.1 M_52.2.2.1 M_52.2.2.2 65 (o_gP 4 7) := ok_gP dX4_copyFrom_65 f_RX4_29 rfl
theorem k_52_68 : mOk M_52.1 M_52.2.1 M_52.2.2.1 M_52.2.2.2 68 (oS 1 (s_push (.int 0))) := ok_iconst dX4_copyFrom_68 (by decide)
theorem k_52_69 : mOk M_52.1 M_52.2.1 M_52.2.2.1 M_52.2.2.2 69 (o_al 0 1) := ok_aload_n dX4_copyFrom_69 rfl
theorem k_52_70 : mOk M_52.1 M_52.2.1 M_52.2.2.1 M_52.2.2.2 70 (o_gP 4 7) := ok_gP dX4_copyFrom_70 f_RX4_29 rfl
theorem k_52_73 : mOk M_52.1 M_52.2.1 M_52.2.2.1 M_52.2.2.2 73 (oS 1 (s_push (.int 0))) := ok_iconst dX4_copyFrom_73 (by decide)
theorem k_52_74 : mOk M_52.1 M_52.2.1 M_52.2.2.1 M_52.2.2.2 74 (o_al 0 1) := ok_aload_n dX4_copyFrom_74 rfl
theorem k_52_75 : mOk M_52.1 M_52.2.1 M_52.2.2.1 M_52.2.2.2 75 (o_gI 4 3) := ok_gI dX4_copyFrom_75 f_RX4_59 (Or.inl rfl)
theorem k_52_81 : mOk M_52.1 M_52.2.1 M_52.2.2.1 M_52.2.2.2 81 (o_al 1 1) := ok_aload_n dX4_copyFrom_81 rfl
theorem k_52_82 : mOk M_52.1 M_52.2.1 M_52.2.2.1 M_52.2.2.2 82 (o_gP 4 8) := ok_gP dX4_copyFrom_82 f_RX4_32 rfl
theorem k_52_85 : mOk M_52.1 M_52.2.1 M_52.2.2.1 M_52.2.2.2 85 (oS 1 (s_push (.int 0))) := ok_iconst dX4_copyFrom_85 (by decide)
theorem k_52_86 : mOk M_52.1 M_52.2.1 M_52.2.2.1 M_52.2.2.2 86 (o_al 0 1) := ok_aload_n dX4_copyFrom_86 rfl
theorem k_52_87 : mOk M_52.1 M_52.2.1 M_52.2.2.1 M_52.2.2.2 87 (o_gP 4 8) := ok_gP dX4_copyFrom_87 f_RX4_32 rfl
theorem k_52_90 : mOk M_52.1 M_52.2.1 M_52.2.2.1 M_52.2.2.2 90 (oS 1 (s_push (.int 0))) := ok_iconst dX4_copyFrom_90 (by decide)
theorem k_52_91 : mOk M_52.1 M_52.2.1 M_52.2.2.1 M_52.2.2.2 91 (o_al 0 1) := ok_aload_n dX4_copyFrom_91 rfl
theorem k_52_92 : mOk M_52.1 M_52.2.1 M_52.2.2.1 M_52.2.2.2 92 (o_gI 4 3) := ok_gI dX4_copyFrom_92 f_RX4_59 (Or.inl rfl)
theorem k_52_98 : mOk M_52.1 M_52.2.1 M_52.2.2.1 M_52.2.2.2 98 (o_al 1 1) := ok_aload_n dX4_copyFrom_98 rfl
theorem k_52_99 : mOk M_52.1 M_52.2.1 M_52.2.2.1 M_52.2.2.2 99 (o_gP 4 9) := ok_gP dX4_copyFrom_99 f_RX4_35 rfl
theorem k_52_102 : mOk M_52.1 M_52.2.1 M_52.2.2.1 M_52.2.2.2 102 (oS 1 (s_push (.int 0))) := ok_iconst dX4_copyFrom_102 (by decide)
theorem k_52_103 : mOk M_52.1 M_52.2.1 M_52.2.2.1 M_52.2.2.2 103 (o_al 0 1) := ok_aload_n dX4_copyFrom_103 rfl
theorem k_52_104 : mOk M_52.1 M_52.2.1 M_52.2.2.1 M_52.2.2.2 104 (o_gP 4 9) := ok_gP dX4_copyFrom_104 f_RX4_35 rfl
theorem k_52_107 : mOk M_52.1 M_52.2.1 M_52.2.2.1 M_52.2.2.2 107 (oS 1 (s_push (.int 0))) := ok_iconst dX4_copyFrom_107 (by decide)
theorem k_52_108 : mOk M_52.1 M_52.2.1 M_52.2.2.1 M_52.2.2.2 108 (o_al 0 1) := ok_aload_n dX4_copyFrom_108 rfl
theorem k_52_109 : mOk M_52.1 M_52.2.1 M_52.2.2.1 M_52.2.2.2 109 (o_gI 4 3) := ok_gI dX4_copyFrom_109 f_RX4_59 (Or.inl rfl)
theorem k_52_115 : mOk M_52.1 M_52.2.1 M_52.2.2.1 M_52.2.2.2 115 (o_al 1 1) := ok_aload_n dX4_copyFrom_115 rfl
theorem k_52_116 : mOk M_52.1 M_52.2.1 M_52.2.2.1 M_52.2.2.2 116 (o_gP 4 10) := ok_gP dX4_copyFrom_116 f_RX4_38 rfl
theorem k_52_119 : mOk M_52.1 M_52.2.1 M_52.2.2.1 M_52.2.2.2 119 (oS 1 (s_push (.int 0))) := ok_iconst dX4_copyFrom_119 (by decide)
theorem k_52_120 : mOk M_52.1 M_52.2.1 M_52.2.2.1 M_52.2.2.2 120 (o_al 0 1) := ok_aload_n dX4_copyFrom_120 rfl
theorem k_52_121 : mOk M_52.1 M_52.2.1 M_52.2.2.1 M_52.2.2.2 121 (o_gP 4 10) := ok_gP dX4_copyFrom_121 f_RX4_38 rfl
theorem k_52_124 : mOk M_52.1 M_52.2.1 M_52.2.2.1 M_52.2.2.2 124 (oS 1 (s_push (.int 0))) := ok_iconst dX4_copyFrom_124 (by decide)
theorem k_52_125 : mOk M_52.1 M_52.2.1 M_52.2.2.1 M_52.2.2.2 125 (o_al 0 1) := ok_aload_n dX4_copyFrom_125 rfl
theorem k_52_126 : mOk M_52.1 M_52.2.1 M_52.2.2.1 M_52.2.2.2 126 (o_gI 4 3) := ok_gI dX4_copyFrom_126 f_RX4_59 (Or.inl rfl)
theorem k_52_132 : mOk M_52.1 M_52.2.1 M_52.2.2.1 M_52.2.2.2 132 (o_al 1 1) := ok_aload_n dX4_copyFrom_132 rfl
theorem k_52_133 : mOk M_52.1 M_52.2.1 M_52.2.2.1 M_52.2.2.2 133 (o_gP 4 11) := ok_gP dX4_copyFrom_133 f_RX4_41 rfl
theorem k_52_136 : mOk M_52.1 M_52.2.1 M_52.2.2.1 M_52.2.2.2 136 (oS 1 (s_push (.int 0))) := ok_iconst dX4_copyFrom_136 (by decide)
theorem k_52_137 : mOk M_52.1 M_52.2.1 M_52.2.2.1 M_52.2.2.2 137 (o_al 0 1) := ok_aload_n dX4_copyFrom_137 rfl
theorem k_52_138 : mOk M_52.1 M_52.2.1 M_52.2.2.1 M_52.2.2.2 138 (o_gP 4 11) := ok_gP dX4_copyFrom_138 f_RX4_41 rfl
theorem k_52_141 : mOk M_52.1 M_52.2.1 M_52.2.2.1 M_52.2.2.2 141 (oS 1 (s_push (.int 0))) := ok_iconst dX4_copyFrom_141 (by decide)
theorem k_52_142 : mOk M_52.1 M_52.2.1 M_52.2.2.1 M_52.2.2.2 142 (o_al 0 1) := ok_aload_n dX4_copyFrom_142 rfl
theorem k_52_143 : mOk M_52.1 M_52.2.1 M_52.2.2.1 M_52.2.2.2 143 (o_gI 4 3) := ok_gI dX4_copyFrom_143 f_RX4_59 (Or.inl rfl)
theorem k_52_149 : mOk M_52.1 M_52.2.1 M_52.2.2.1 M_52.2.2.2 149 (o_al 1 1) := ok_aload_n dX4_copyFrom_149 rfl
theorem k_52_150 : mOk M_52.1 M_52.2.1 M_52.2.2.1 M_52.2.2.2 150 (o_gP 4 12) := ok_gP dX4_copyFrom_150 f_RX4_44 rfl
theorem k_52_153 : mOk M_52.1 M_52.2.1 M_52.2.2.1 M_52.2.2.2 153 (oS 1 (s_push (.int 0))) := ok_iconst dX4_copyFrom_153 (by decide)
theorem k_52_154 : mOk M_52.1 M_52.2.1 M_52.2.2.1 M_52.2.2.2 154 (o_al 0 1) := ok_aload_n dX4_copyFrom_154 rfl
theorem k_52_155 : mOk M_52.1 M_52.2.1 M_52.2.2.1 M_52.2.2.2 155 (o_gP 4 12) := ok_gP dX4_copyFrom_155 f_RX4_44 rfl
theorem k_52_158 : mOk M_52.1 M_52.2.1 M_52.2.2.1 M_52.2.2.2 158 (oS 1 (s_push (.int 0))) := ok_iconst dX4_copyFrom_158 (by decide)
theorem k_52_159 : mOk M_52.1 M_52.2.1 M_52.2.2.1 M_52.2.2.2 159 (o_al 0 1) := ok_aload_n dX4_copyFrom_159 rfl
theorem k_52_160 : mOk M_52.1 M_52.2.1 M_52.2.2.1 M_52.2.2.2 160 (o_gI 4 3) := ok_gI dX4_copyFrom_160 f_RX4_59 (Or.inl rfl)
theorem k_52_166 : mOk M_52.1 M_52.2.1 M_52.2.2.1 M_52.2.2.2 166 (o_al 1 1) := ok_aload_n dX4_copyFrom_166 rfl
theorem k_52_167 : mOk M_52.1 M_52.2.1 M_52.2.2.1 M_52.2.2.2 167 (o_gP 4 13) := ok_gP dX4_copyFrom_167 f_RX4_47 rfl
theorem k_52_170 : mOk M_52.1 M_52.2.1 M_52.2.2.1 M_52.2.2.2 170 (oS 1 (s_push (.int 0))) := ok_iconst dX4_copyFrom_170 (by decide)
theorem k_52_171 : mOk M_52.1 M_52.2.1 M_52.2.2.1 M_52.2.2.2 171 (o_al 0 1) := ok_aload_n dX4_copyFrom_171 rfl
theorem k_52_172 : mOk M_52.1 M_52.2.1 M_52.2.2.1 M_52.2.2.2 172 (o_gP 4 13) := ok_gP dX4_copyFrom_172 f_RX4_47 rfl
theorem k_52_175 : mOk M_52.1 M_52.2.1 M_52.2.2.1 M_52.2.2.2 175 (oS 1 (s_push (.int 0))) := ok_iconst dX4_copyFrom_175 (by decide)
theorem k_52_176 : mOk M_52.1 M_52.2.1 M_52.2.2.1 M_52.2.2.2 176 (o_al 0 1) := ok_aload_n dX4_copyFrom_176 rfl
theorem k_52_177 : mOk M_52.1 M_52.2.1 M_52.2.2.1 M_52.2.2.2 177 (o_gI 4 4) := ok_gI dX4_copyFrom_177 f_RX4_62 (Or.inl rfl)
set_option maxRecDepth 20000 in
set_option maxHeartbeats 4000000 in
theorem tk_52 (l : Launch) (H9 : mThr l) (H10 : mSpl l) (pc : Nat) (q : mEnt) (h : tb_52 pc = some q) : EE l 52 pc q := nd h (fun h => nd h (fun h => nd h (fun h => nd h (fun h => nd h (fun h => nd h (fun h => lf (P := EE l 52) h k_52_0) (fun h => nd h (fun h => lf (P := EE l 52) h k_52_1) (fun h => lf (P := EE l 52) h k_52_2))) (fun h => nd h (fun h => lf (P := EE l 52) h k_52_5) (fun h => nd h (fun h => lf (P := EE l 52) h k_52_6) (fun h => lf (P := EE l 52) h (EE_ca (by decide) (⟨m_877, m_79, ⟨by decide, by decide⟩, by decide +kernel, ⟨by decide, by decide⟩, 96, 2, by decide +kernel, Or.inr (Or.inr (Or.inl ⟨rfl, rfl, dX4_copyFrom_9, m_970, m_875, _, rfl, by decide, m_876⟩))⟩) rfl))))) (fun h => nd h (fun h => nd h (fun h => lf (P := EE l 52) h k_52_12) (fun h => nd h (fun h => lf (P := EE l 52) h k_52_13) (fun h => lf (P := EE l 52) h k_52_16))) (fun h => nd h (fun h => lf (P := EE l 52) h k_52_17) (fun h => nd h (fun h => lf (P := EE l 52) h (EE_ca (by decide) (⟨m_495, m_72, ⟨by decide, by decide⟩, by decide +kernel, ⟨by decide, by decide⟩, 100, 1, by decide +kernel, Or.inr (Or.inr (Or.inl ⟨rfl, rfl, dX4_copyFrom_20, m_971, m_493, _, rfl, by decide, m_494⟩))⟩) rfl)) (fun h => lf (P := EE l 52) h k_52_23))))) (fun h => nd h (fun h => nd h (fun h => nd h (fun h => lf (P := EE l 52) h k_52_24) (fun h => nd h (fun h => lf (P := EE l 52) h k_52_25) (fun h => lf (P := EE l 52) h k_52_28))) (fun h => nd h (fun h => lf (P := EE l 52) h k_52_31) (fun h => nd h (fun h => lf (P := EE l 52) h k_52_32) (fun h => lf (P := EE l 52) h k_52_33)))) (fun h => nd h (fun h => nd h (fun h => lf (P := EE l 52) h k_52_36) (fun h => nd h (fun h => lf (P := EE l 52) h k_52_39) (fun h => lf (P := EE l 52) h k_52_40))) (fun h => nd h (fun h => lf (P := EE l 52) h k_52_41) (fun h => nd h (fun h => lf (P := EE l 52) h k_52_44) (fun h => lf (P := EE l 52) h k_52_47)))))) (fun h => nd h (fun h => nd h (fun h => nd h (fun h => nd h (fun h => lf (P := EE l 52) h k_52_48) (fun h => nd h (fun h => lf (P := EE l 52) h k_52_51) (fun h => lf (P := EE l 52) h k_52_52))) (fun h => nd h (fun h => lf (P := EE l 52) h k_52_53) (fun h => nd h (fun h => lf (P := EE l 52) h k_52_56) (fun h => lf (P := EE l 52) h k_52_57)))) (fun h => nd h (fun h => nd h (fun h => lf (P := EE l 52) h k_52_58) (fun h => nd h (fun h => lf (P := EE l 52) h (EE_cp (⟨78, dX4_copyFrom_61, m_523, m_506, m_505, m_83, by decide, by decide⟩))) (fun h => lf (P := EE l 52) h k_52_64))) (fun h => nd h (fun h => lf (P := EE l 52) h k_52_65) (fun h => nd h (fun h => lf (P := EE l 52) h k_52_68) (fun h => lf (P := EE l 52) h k_52_69))))) (fun h => nd h (fun h => nd h (fun h => nd h (fun h => lf (P := EE l 52) h k_52_70) (fun h => nd h (fun h => lf (P := EE l 52) h k_52_73) (fun h => lf (P := EE l 52) h k_52_74))) (fun h => nd h (fun h => lf (P := EE l 52) h k_52_75) (fun h => nd h (fun h => lf (P := EE l 52) h (EE_cp (⟨78, dX4_copyFrom_78, m_523, m_506, m_505, m_83, by decide, by decide⟩))) (fun h => lf (P := EE l 52) h k_52_81)))) (fun h => nd h (fun h => nd h (fun h => lf (P := EE l 52) h k_52_82) (fun h => nd h (fun h => lf (P := EE l 52) h k_52_85) (fun h => lf (P := EE l 52) h k_52_86))) (fun h => nd h (fun h => lf (P := EE l 52) h k_52_87) (fun h => nd h (fun h => lf (P := EE l 52) h k_52_90) (fun h => lf (P := EE l 52) h k_52_91))))))) (fun h => nd h (fun h => nd h (fun h => nd h (fun h => nd h (fun h => nd h (fun h => lf (P := EE l 52) h k_52_92) (fun h => nd h (fun h => lf (P := EE l 52) h (EE_cp (⟨78, dX4_copyFrom_95, m_523, m_506, m_505, m_83, by decide, by decide⟩))) (fun h => lf (P := EE l 52) h k_52_98))) (fun h => nd h (fun h => lf (P := EE l 52) h k_52_99) (fun h => nd h (fun h => lf (P := EE l 52) h k_52_102) (fun h => lf (P := EE l 52) h k_52_103)))) (fun h => nd h (fun h => nd h (fun h => lf (P := EE l 52) h k_52_104) (fun h => nd h (fun h => lf (P := EE l 52) h k_52_107) (fun h => lf (P := EE l 52) h k_52_108))) (fun h => nd h (fun h => lf (P := EE l 52) h k_52_109) (fun h => nd h (fun h => lf (P := EE l 52) h (EE_cp (⟨78, dX4_copyFrom_112, m_523, m_506, m_505, m_83, by decide, by decide⟩))) (fun h => lf (P := EE l 52) h k_52_115))))) (fun h => nd h (fun h => nd h (fun h => nd h (fun h => lf (P := EE l 52) h k_52_116) (fun h => nd h (fun h => lf (P := EE l 52) h k_52_119) (fun h => lf (P := EE l 52) h k_52_120))) (fun h => nd h (fun h => lf (P := EE l 52) h k_52_121) (fun h => nd h (fun h => lf (P := EE l 52) h k_52_124) (fun h => lf (P := EE l 52) h k_52_125)))) (fun h => nd h (fun h => nd h (fun h => lf (P := EE l 52) h k_52_126) (fun h => nd h (fun h => lf (P := EE l 52) h (EE_cp (⟨78, dX4_copyFrom_129, m_523, m_506, m_505, m_83, by decide, by decide⟩))) (fun h => lf (P := EE l 52) h k_52_132))) (fun h => nd h (fun h => lf (P := EE l 52) h k_52_133) (fun h => nd h (fun h => lf (P := EE l 52) h k_52_136) (fun h => lf (P := EE l 52) h k_52_137)))))) (fun h => nd h (fun h => nd h (fun h => nd h (fun h => nd h (fun h => lf (P := EE l 52) h k_52_138) (fun h => nd h (fun h => lf (P := EE l 52) h k_52_141) (fun h => lf (P := EE l 52) h k_52_142))) (fun h => nd h (fun h => lf (P := EE l 52) h k_52_143) (fun h => nd h (fun h => lf (P := EE l 52) h (EE_cp (⟨78, dX4_copyFrom_146, m_523, m_506, m_505, m_83, by decide, by decide⟩))) (fun h => lf (P := EE l 52) h k_52_149)))) (fun h => nd h (fun h => nd h (fun h => lf (P := EE l 52) h k_52_150) (fun h => nd h (fun h => lf (P := EE l 52) h k_52_153) (fun h => lf (P := EE l 52) h k_52_154))) (fun h => nd h (fun h => lf (P := EE l 52) h k_52_155) (fun h => nd h (fun h => lf (P := EE l 52) h k_52_158) (fun h => lf (P := EE l 52) h k_52_159))))) (fun h => nd h (fun h => nd h (fun h => nd h (fun h => lf (P := EE l 52) h k_52_160) (fun h => nd h (fun h => lf (P := EE l 52) h (EE_cp (⟨78, dX4_copyFrom_163, m_523, m_506, m_505, m_83, by decide, by decide⟩))) (fun h => lf (P := EE l 52) h k_52_166))) (fun h => nd h (fun h => lf (P := EE l 52) h k_52_167) (fun h => nd h (fun h => lf (P := EE l 52) h k_52_170) (fun h => lf (P := EE l 52) h k_52_171)))) (fun h => nd h (fun h => nd h (fun h => lf (P := EE l 52) h k_52_172) (fun h => nd h (fun h => lf (P := EE l 52) h k_52_175) (fun h => lf (P := EE l 52) h k_52_176))) (fun h => nd h (fun h => lf (P := EE l 52) h k_52_177) (fun h => nd h (fun h => lf (P := EE l 52) h (EE_cp (⟨78, dX4_copyFrom_180, m_523, m_506, m_505, m_83, by decide, by decide⟩))) (fun h => lf (P := EE l 52) h (EE_re (Or.inr (Or.inr (Or.inr (Or.inr ⟨rfl, dX4_copyFrom_183, rfl⟩))))))))))))
