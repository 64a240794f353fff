/-! tables of X10 (written by a program) -/
theorem dX10_init_0 : decode cX10_init 0 = .ok (.aload_n 0, 1) := by decide +kernel
theorem dX10_init_1 : decode cX10_init 1 = .ok (.invokespecial 3, 3) := by decide +kernel
theorem dX10_init_4 : decode cX10_init 4 = .ok (.aload_n 0, 1) := by decide +kernel
theorem dX10_init_5 : decode cX10_init 5 = .ok (.new 9, 3) := by decide +kernel
theorem dX10_init_8 : decode cX10_init 8 = .ok (.dup, 1) := by decide +kernel
theorem dX10_init_9 : decode cX10_init 9 = .ok (.invokespecial 11, 3) := by decide +kernel
theorem dX10_init_12 : decode cX10_init 12 = .ok (.putfield 12, 3) := by decide +kernel
theorem dX10_init_15 : decode cX10_init 15 = .ok (.aload_n 0, 1) := by decide +kernel
theorem dX10_init_16 : decode cX10_init 16 = .ok (.new 16, 3) := by decide +kernel
theorem dX10_init_19 : decode cX10_init 19 = .ok (.dup, 1) := by decide +kernel
theorem dX10_init_20 : decode cX10_init 20 = .ok (.invokespecial 18, 3) := by decide +kernel
theorem dX10_init_23 : decode cX10_init 23 = .ok (.putfield 19, 3) := by decide +kernel
theorem dX10_init_26 : decode cX10_init 26 = .ok (.aload_n 0, 1) := by decide +kernel
theorem dX10_init_27 : decode cX10_init 27 = .ok (.iconst 2, 1) := by decide +kernel
theorem dX10_init_28 : decode cX10_init 28 = .ok (.anewarray 16, 3) := by decide +kernel
theorem dX10_init_31 : decode cX10_init 31 = .ok (.putfield 23, 3) := by decide +kernel
theorem dX10_init_34 : decode cX10_init 34 = .ok (.aload_n 0, 1) := by decide +kernel
theorem dX10_init_35 : decode cX10_init 35 = .ok (.new 27, 3) := by decide +kernel
theorem dX10_init_38 : decode cX10_init 38 = .ok (.dup, 1) := by decide +kernel
theorem dX10_init_39 : decode cX10_init 39 = .ok (.invokespecial 29, 3) := by decide +kernel
theorem dX10_init_42 : decode cX10_init 42 = .ok (.putfield 30, 3) := by decide +kernel
theorem dX10_init_45 : decode cX10_init 45 = .ok (.aload_n 0, 1) := by decide +kernel
theorem dX10_init_46 : decode cX10_init 46 = .ok (.new 34, 3) := by decide +kernel
theorem dX10_init_49 : decode cX10_init 49 = .ok (.dup, 1) := by decide +kernel
theorem dX10_init_50 : decode cX10_init 50 = .ok (.invokespecial 36, 3) := by decide +kernel
theorem dX10_init_53 : decode cX10_init 53 = .ok (.putfield 37, 3) := by decide +kernel
theorem dX10_init_56 : decode cX10_init 56 = .ok (.aload_n 0, 1) := by decide +kernel
theorem dX10_init_57 : decode cX10_init 57 = .ok (.new 41, 3) := by decide +kernel
theorem dX10_init_60 : decode cX10_init 60 = .ok (.dup, 1) := by decide +kernel
theorem dX10_init_61 : decode cX10_init 61 = .ok (.invokespecial 43, 3) := by decide +kernel
theorem dX10_init_64 : decode cX10_init 64 = .ok (.putfield 44, 3) := by decide +kernel
theorem dX10_init_67 : decode cX10_init 67 = .ok (.aload_n 0, 1) := by decide +kernel
theorem dX10_init_68 : decode cX10_init 68 = .ok (.new 48, 3) := by decide +kernel
theorem dX10_init_71 : decode cX10_init 71 = .ok (.dup, 1) := by decide +kernel
theorem dX10_init_72 : decode cX10_init 72 = .ok (.invokespecial 50, 3) := by decide +kernel
theorem dX10_init_75 : decode cX10_init 75 = .ok (.putfield 51, 3) := by decide +kernel
theorem dX10_init_78 : decode cX10_init 78 = .ok (.aload_n 0, 1) := by decide +kernel
theorem dX10_init_79 : decode cX10_init 79 = .ok (.new 48, 3) := by decide +kernel
theorem dX10_init_82 : decode cX10_init 82 = .ok (.dup, 1) := by decide +kernel
theorem dX10_init_83 : decode cX10_init 83 = .ok (.invokespecial 50, 3) := by decide +kernel
theorem dX10_init_86 : decode cX10_init 86 = .ok (.putfield 55, 3) := by decide +kernel
theorem dX10_init_89 : decode cX10_init 89 = .ok (.aload_n 0, 1) := by decide +kernel
theorem dX10_init_90 : decode cX10_init 90 = .ok (.new 58, 3) := by decide +kernel
theorem dX10_init_93 : decode cX10_init 93 = .ok (.dup, 1) := by decide +kernel
theorem dX10_init_94 : decode cX10_init 94 = .ok (.invokespecial 60, 3) := by decide +kernel
theorem dX10_init_97 : decode cX10_init 97 = .ok (.putfield 61, 3) := by decide +kernel
theorem dX10_init_100 : decode cX10_init 100 = .ok (.aload_n 0, 1) := by decide +kernel
theorem dX10_init_101 : decode cX10_init 101 = .ok (.new 58, 3) := by decide +kernel
theorem dX10_init_104 : decode cX10_init 104 = .ok (.dup, 1) := by decide +kernel
theorem dX10_init_105 : decode cX10_init 105 = .ok (.invokespecial 60, 3) := by decide +kernel
theorem dX10_init_108 : decode cX10_init 108 = .ok (.putfield 65, 3) := by decide +kernel
theorem dX10_init_111 : decode cX10_init 111 = .ok (.iconst 0, 1) := by decide +kernel
theorem dX10_init_112 : decode cX10_init 112 = .ok (.istore_n 1, 1) := by decide +kernel
theorem dX10_init_113 : decode cX10_init 113 = .ok (.iload_n 1, 1) := by decide +kernel
theorem dX10_init_114 : decode cX10_init 114 = .ok (.iconst 2, 1) := by decide +kernel
theorem dX10_init_115 : decode cX10_init 115 = .ok (.if_icmp .ge 22, 3) := by decide +kernel
theorem dX10_init_118 : decode cX10_init 118 = .ok (.aload_n 0, 1) := by decide +kernel
theorem dX10_init_119 : decode cX10_init 119 = .ok (.getfield 23, 3) := by decide +kernel
theorem dX10_init_122 : decode cX10_init 122 = .ok (.iload_n 1, 1) := by decide +kernel
theorem dX10_init_123 : decode cX10_init 123 = .ok (.new 16, 3) := by decide +kernel
theorem dX10_init_126 : decode cX10_init 126 = .ok (.dup, 1) := by decide +kernel
theorem dX10_init_127 : decode cX10_init 127 = .ok (.invokespecial 18, 3) := by decide +kernel
theorem dX10_init_130 : decode cX10_init 130 = .ok (.aastore, 1) := by decide +kernel
theorem dX10_init_131 : decode cX10_init 131 = .ok (.iinc 1 1, 3) := by decide +kernel
theorem dX10_init_134 : decode cX10_init 134 = .ok (.goto (-21), 3) := by decide +kernel
theorem dX10_init_137 : decode cX10_init 137 = .ok (.return_, 1) := by decide +kernel
def tb_91 (pc : Nat) : Option mEnt := bif Nat.ble pc 68 then (bif Nat.ble pc 31 then (bif Nat.ble pc 15 then (bif Nat.ble pc 5 then (bif Nat.ble pc 1 then (bif Nat.ble pc 0 then (bif Nat.beq pc 0 then some (.inl (o_al 0 1)) else none) else (bif Nat.beq pc 1 then some (.inr (5, 0, 0, 0)) else none)) else (bif Nat.ble pc 4 then (bif Nat.beq pc 4 then some (.inl (o_al 0 1)) else none) else (bif Nat.beq pc 5 then some (.inl (o_new 2)) else none))) else (bif Nat.ble pc 9 then (bif Nat.ble pc 8 then (bif Nat.beq pc 8 then some (.inl (oS 1 s_dup)) else none) else (bif Nat.beq pc 9 then some (.inr (7, 14, 1, 2)) else none)) else (bif Nat.ble pc 12 then (bif Nat.beq pc 12 then some (.inl (o_pP 10 0)) else none) else (bif Nat.beq pc 15 then some (.inl (o_al 0 1)) else none)))) else (bif Nat.ble pc 23 then (bif Nat.ble pc 19 then (bif Nat.ble pc 16 then (bif Nat.beq pc 16 then some (.inl (o_new 1)) else none) else (bif Nat.beq pc 19 then some (.inl (oS 1 s_dup)) else none)) else (bif Nat.ble pc 20 then (bif Nat.beq pc 20 then some (.inr (4, 3, 1, 1)) else none) else (bif Nat.beq pc 23 then some (.inl (o_pP 10 1)) else none))) else (bif Nat.ble pc 27 then (bif Nat.ble pc 26 then (bif Nat.beq pc 26 then some (.inl (o_al 0 1)) else none) else (bif Nat.beq pc 27 then some (.inl (oS 1 (s_push (.int 2)))) else none)) else (bif Nat.ble pc 28 then (bif Nat.beq pc 28 then some (.inl (o_newq 4)) else none) else (bif Nat.beq pc 31 then some (.inl (o_pP 10 2)) else none))))) else (bif Nat.ble pc 49 then (bif Nat.ble pc 39 then (bif Nat.ble pc 35 then (bif Nat.ble pc 34 then (bif Nat.beq pc 34 then some (.inl (o_al 0 1)) else none) else (bif Nat.beq pc 35 then some (.inl (o_new 5)) else none)) else (bif Nat.ble pc 38 then (bif Nat.beq pc 38 then some (.inl (oS 1 s_dup)) else none) else (bif Nat.beq pc 39 then some (.inr (7, 53, 1, 5)) else none))) else (bif Nat.ble pc 45 then (bif Nat.ble pc 42 then (bif Nat.beq pc 42 then some (.inl (o_pP 10 4)) else none) else (bif Nat.beq pc 45 then some (.inl (o_al 0 1)) else none)) else (bif Nat.ble pc 46 then (bif Nat.beq pc 46 then some (.inl (o_new 3)) else none) else (bif Nat.beq pc 49 then some (.inl (oS 1 s_dup)) else none)))) else (bif Nat.ble pc 57 then (bif Nat.ble pc 53 then (bif Nat.ble pc 50 then (bif Nat.beq pc 50 then some (.inr (7, 39, 1, 3)) else none) else (bif Nat.beq pc 53 then some (.inl (o_pP 10 5)) else none)) else (bif Nat.ble pc 56 then (bif Nat.beq pc 56 then some (.inl (o_al 0 1)) else none) else (bif Nat.beq pc 57 then some (.inl (o_new 7)) else none))) else (bif Nat.ble pc 61 then (bif Nat.ble pc 60 then (bif Nat.beq pc 60 then some (.inl (oS 1 s_dup)) else none) else (bif Nat.beq pc 61 then some (.inr (7, 70, 1, 7)) else none)) else (bif Nat.ble pc 64 then (bif Nat.beq pc 64 then some (.inl (o_pP 10 6)) else none) else (bif Nat.ble pc 67 then (bif Nat.beq pc 67 then some (.inl (o_al 0 1)) else none) else (bif Nat.beq pc 68 then some (.inl (o_new 4)) else none))))))) else (bif Nat.ble pc 104 then (bif Nat.ble pc 86 then (bif Nat.ble pc 78 then (bif Nat.ble pc 72 then (bif Nat.ble pc 71 then (bif Nat.beq pc 71 then some (.inl (oS 1 s_dup)) else none) else (bif Nat.beq pc 72 then some (.inr (7, 43, 1, 4)) else none)) else (bif Nat.ble pc 75 then (bif Nat.beq pc 75 then some (.inl (o_pP 10 8)) else none) else (bif Nat.beq pc 78 then some (.inl (o_al 0 1)) else none))) else (bif Nat.ble pc 82 then (bif Nat.ble pc 79 then (bif Nat.beq pc 79 then some (.inl (o_new 4)) else none) else (bif Nat.beq pc 82 then some (.inl (oS 1 s_dup)) else none)) else (bif Nat.ble pc 83 then (bif Nat.beq pc 83 then some (.inr (7, 43, 1, 4)) else none) else (bif Nat.beq pc 86 then some (.inl (o_pP 10 9)) else none)))) else (bif Nat.ble pc 94 then (bif Nat.ble pc 90 then (bif Nat.ble pc 89 then (bif Nat.beq pc 89 then some (.inl (o_al 0 1)) else none) else (bif Nat.beq pc 90 then some (.inl (o_new 0)) else none)) else (bif Nat.ble pc 93 then (bif Nat.beq pc 93 then some (.inl (oS 1 s_dup)) else none) else (bif Nat.beq pc 94 then some (.inr (7, 0, 1, 0)) else none))) else (bif Nat.ble pc 100 then (bif Nat.ble pc 97 then (bif Nat.beq pc 97 then some (.inl (o_pP 10 11)) else none) else (bif Nat.beq pc 100 then some (.inl (o_al 0 1)) else none)) else (bif Nat.ble pc 101 then (bif Nat.beq pc 101 then some (.inl (o_new 0)) else none) else (bif Nat.beq pc 104 then some (.inl (oS 1 s_dup)) else none))))) else (bif Nat.ble pc 118 then (bif Nat.ble pc 112 then (bif Nat.ble pc 108 then (bif Nat.ble pc 105 then (bif Nat.beq pc 105 then some (.inr (7, 0, 1, 0)) else none) else (bif Nat.beq pc 108 then some (.inl (o_pP 10 12)) else none)) else (bif Nat.ble pc 111 then (bif Nat.beq pc 111 then some (.inl (oS 1 (s_push (.int 0)))) else none) else (bif Nat.beq pc 112 then some (.inl (o_is 1 1)) else none))) else (bif Nat.ble pc 114 then (bif Nat.ble pc 113 then (bif Nat.beq pc 113 then some (.inl (o_il 1 1)) else none) else (bif Nat.beq pc 114 then some (.inl (oS 1 (s_push (.int 2)))) else none)) else (bif Nat.ble pc 115 then (bif Nat.beq pc 115 then some (.inl (o_cge 137)) else none) else (bif Nat.beq pc 118 then some (.inl (o_al 0 1)) else none)))) else (bif Nat.ble pc 126 then (bif Nat.ble pc 122 then (bif Nat.ble pc 119 then (bif Nat.beq pc 119 then some (.inl (o_gP 10 2)) else none) else (bif Nat.beq pc 122 then some (.inl (o_il 1 1)) else none)) else (bif Nat.ble pc 123 then (bif Nat.beq pc 123 then some (.inl (o_new 1)) else none) else (bif Nat.beq pc 126 then some (.inl (oS 1 s_dup)) else none))) else (bif Nat.ble pc 130 then (bif Nat.ble pc 127 then (bif Nat.beq pc 127 then some (.inr (4, 3, 1, 1)) else none) else (bif Nat.beq pc 130 then some (.inl (o_aast)) else none)) else (bif Nat.ble pc 131 then (bif Nat.beq pc 131 then some (.inl (o_inc 1 1)) else none) else (bif Nat.ble pc 134 then (bif Nat.beq pc 134 then some (.inl (o_goto 113)) else none) else (bif Nat.beq pc 137 then some (.inr (0, 0, 0, 3)) else none)))))))
theorem k_91_0 : mOk M_91.1 M_91.2.1 M_91.2.2.1 M_91.2.2.2 0 (o_al 0 1) := ok_aload_n dX10_init_0 rfl
theorem k_91_4 : mOk M_91.1 M_91.2.1 M_91.2.2.1 M_91.2.2.2 4 (o_al 0 1) := ok_aload_n dX10_init_4 rfl
theorem k_91_5 : mOk M_91.1 M_91.2.1 M_91.2.2.1 M_91.2.2.2 5 (o_new 2) := ok_new dX10_init_5 cl_2 rfl m_99 m_100 m_71
theorem k_91_8 : mOk M_91.1 M_91.2.1 M_91.2.2.1 M_91.2.2.2 8 (oS 1 s_dup) := ok_dup dX10_init_8
theorem k_91_12 : mOk M_91.1 M_91.2.1 M_91.2.2.1 M_91.2.2.2 12 (o_pP 10 0) := ok_pP dX10_init_12 (mFw_of f_RX10_12_c (Or.inr ⟨rfl, rfl, rfl⟩)) rfl
theorem k_91_15 : mOk M_91.1 M_91.2.1 M_91.2.2.1 M_91.2.2.2 15 (o_al 0 1) := ok_aload_n dX10_init_15 rfl
theorem k_91_16 : mOk M_91.1 M_91.2.1 M_91.2.2.1 M_91.2.2.2 16 (o_new 1) := ok_new dX10_init_16 cl_1 rfl m_146 m_147 m_72
theorem k_91_19 : mOk M_91.1 M_91.2.1 M_91.2.2.1 M_91.2.2.2 19 (oS 1 s_dup) := ok_dup dX10_init_19
theorem k_91_23 : mOk M_91.1 M_91.2.1 M_91.2.2.1 M_91.2.2.2 23 (o_pP 10 1) := ok_pP dX10_init_23 (mFw_of f_RX10_19_c (Or.inr ⟨rfl, rfl, rfl⟩)) rfl
theorem k_91_26 : mOk M_91.1 M_91.2.1 M_91.2.2.1 M_91.2.2.2 26 (o_al 0 1) := ok_aload_n dX10_init_26 rfl
theorem k_91_27 : mOk M_91.1 M_91.2.1 M_91.2.2.1 M_91.2.2.2 27 (oS 1 (s_push (.int 2))) := ok_iconst dX10_init_27 (by decide)
theorem k_91_28 : mOk M_91.1 M_91.2.1 M_91.2.2.1 M_91.2.2.2 28 (o_newq 4) := ok_newq dX10_init_28 (by decide) m_146 (fun U h => h.2.1) (fun _ => rfl)
theorem k_91_31 : mOk M_91.1 M_91.2.1 M_91.2.2.1 M_91.2.2.2 31 (o_pP 10 2) := ok_pP dX10_init_31 (mFw_of f_RX10_23_c (Or.inr ⟨rfl, rfl, rfl⟩)) rfl
theorem k_91_34 : mOk M_91.1 M_91.2.1 M_91.2.2.1 M_91.2.2.2 34 (o_al 0 1) := ok_aload_n dX10_init_34 rfl
theorem k_91_35 : mOk M_91.1 M_91.2.1 M_91.2.2.1 M_91.2.2.2 35 (o_new 5) := ok_new dX10_init_35 cl_5 rfl m_166 m_167 m_73
theorem k_91_38 : mOk M_91.1 M_91.2.1 M_91.2.2.1 M_91.2.2.2 38 (oS 1 s_dup) := ok_dup dX10_init_38
theorem k_91_42 : mOk M_91.1 M_91.2.1 M_91.2.2.1 M_91.2.2.2 42 (o_pP 10 4) := ok_pP dX10_init_42 (mFw_of f_RX10_30_c (Or.inr ⟨rfl, rfl, rfl⟩)) rfl
theorem k_91_45 : mOk M_91.1 M_91.2.1 M_91.2.2.1 M_91.2.2.2 45 (o_al 0 1) := ok_aload_n dX10_init_45 rfl
theorem k_91_46 : mOk M_91.1 M_91.2.1 M_91.2.2.1 M_91.2.2.2 46 (o_new 3) := ok_new dX10_init_46 cl_3 rfl m_283 m_256 m_77
theorem k_91_49 : mOk M_91.1 M_91.2.1 M_91.2.2.1 M_91.2.2.2 49 (oS 1 s_dup) := ok_dup dX10_init_49
theorem k_91_53 : mOk M_91.1 M_91.2.1 M_91.2.2.1 M_91.2.2.2 53 (o_pP 10 5) := ok_pP dX10_init_53 (mFw_of f_RX10_37_c (Or.inr ⟨rfl, rfl, rfl⟩)) rfl
theorem k_91_56 : mOk M_91.1 M_91.2.1 M_91.2.2.1 M_91.2.2.2 56 (o_al 0 1) := ok_aload_n dX10_init_56 rfl
theorem k_91_57 : mOk M_91.1 M_91.2.1 M_91.2.2.1 M_91.2.2.2 57 (o_new 7) := ok_new dX10_init_57 cl_7 rfl m_285 m_286 m_78
theorem k_91_60 : mOk M_91.1 M_91.2.1 M_91.2.2.1 M_91.2.2.2 60 (oS 1 s_dup) := ok_dup dX10_init_60
theorem k_91_64 : mOk M_91.1 M_91.2.1 M_91.2.2.1 M_91.2.2.2 64 (o_pP 10 6) := ok_pP dX10_init_64 (mFw_of f_RX10_44_c (Or.inr ⟨rfl, rfl, rfl⟩)) rfl
theorem k_91_67 : mOk M_91.1 M_91.2.1 M_91.2.2.1 M_91.2.2.2 67 (o_al 0 1) := ok_aload_n dX10_init_67 rfl
theorem k_91_68 : mOk M_91.1 M_91.2.1 M_91.2.2.1 M_91.2.2.2 68 (o_new 4) := ok_new dX10_init_68 cl_4 rfl m_309 m_310 m_79
theorem k_91_71 : mOk M_91.1 M_91.2.1 M_91.2.2.1 M_91.2.2.2 71 (oS 1 s_dup) := ok_dup dX10_init_71
theorem k_91_75 : mOk M_91.1 M_91.2.1 M_91.2.2.1 M_91.2.2.2 75 (o_pP 10 8) := ok_pP dX10_init_75 (mFw_of f_RX10_51_c (Or.inl rfl)) rfl
theorem k_91_78 : mOk M_91.1 M_91.2.1 M_91.2.2.1 M_91.2.2.2 78 (o_al 0 1) := ok_aload_n dX10_init_78 rfl
theorem k_91_79 : mOk M_91.1 M_91.2.1 M_91.2.2.1 M_91.2.2.2 79 (o_new 4) := ok_new dX10_init_79 cl_4 rfl m_309 m_310 m_79
theorem k_91_82 : mOk M_91.1 M_91.2.1 M_91.2.2.1 M_91.2.2.2 82 (oS 1 s_dup) := ok_dup dX10_init_82
theorem k_91_86 : mOk M_91.1 M_91.2.1 M_91.2.2.1 M_91.2.2.2 86 (o_pP 10 9) := ok_pP dX10_init_86 (mFw_of f_RX10_55_c (Or.inl rfl)) rfl
theorem k_91_89 : mOk M_91.1 M_91.2.1 M_91.2.2.1 M_91.2.2.2 89 (o_al 0 1) := ok_aload_n dX10_init_89 rfl
theorem k_91_90 : mOk M_91.1 M_91.2.1 M_91.2.2.1 M_91.2.2.2 90 (o_new 0) := ok_new dX10_init_90 cl_0 rfl m_377 m_378 m_80
theorem k_91_93 : mOk M_91.1 M_91.2.1 M_91.2.2.1 M_91.2.2.2 93 (oS 1 s_dup) := ok_dup dX10_init_93
theorem k_91_97 : mOk M_91.1 M_91.2.1 M_91.2.2.1 M_91.2.2.2 97 (o_pP 10 11) := ok_pP dX10_init_97 (mFw_of f_RX10_61_c (Or.inl rfl)) rfl
theorem k_91_100 : mOk M_91.1 M_91.2.1 M_91.2.2.1 M_91.2.2.2 100 (o_al 0 1) := ok_aload_n dX10_init_100 rfl
theorem k_91_101 : mOk M_91.1 M_91.2.1 M_91.2.2.1 M_91.2.2.2 101 (o_new 0) := ok_new dX10_init_101 cl_0 rfl m_377 m_378 m_80
theorem k_91_104 : mOk M_91.1 M_91.2.1 M_91.2.2.1 M_91.2.2.2 104 (oS 1 s_dup) := ok_dup dX10_init_104
theorem k_91_108 : mOk M_91.1 M_91.2.1 M_91.2.2.1 M_91.2.2.2 108 (o_pP 10 12) := ok_pP dX10_init_108 (mFw_of f_RX10_65_c (Or.inl rfl)) rfl
theorem k_91_111 : mOk M_91.1 M_91.2.1 M_91.2.2.1 M_91.2.2.2 111 (oS 1 (s_push (.int 0))) := ok_iconst dX10_init_111 (by decide)
theorem k_91_112 : mOk M_91.1 M_91.2.1 M_91.2.2.1 M_91.2.2.2 112 (o_is 1 1) := ok_istore_n dX10_init_112 rfl
theorem k_91_113 : mOk M_91.1 M_91.2.1 M_91.2.2.1 M_91.2.2.2 113 (o_il 1 1) := ok_iload_n dX10_init_113 rfl
theorem k_91_114 : mOk M_91.1 M_91.2.1 M_91.2.2.1 M_91.2.2.2 114 (oS 1 (s_push (.int 2))) := ok_iconst dX10_init_114 (by decide)
theorem k_91_115 : mOk M_91.1 M_91.2.1 M_91.2.2.1 M_91.2.2.2 115 (o_cge 137) := ok_cge dX10_init_115 (by decide)
theorem k_91_118 : mOk M_91.1 M_91.2.1 M_91.2.2.1 M_91.2.2.2 118 (o_al 0 1) := ok_aload_n dX10_init_118 rfl
theorem k_91_119 : mOk M_91.1 M_91.2.1 M_91.2.2.1 M_91.2.2.2 119 (o_gP 10 2) := ok_gP dX10_init_119 f_RX10_23 rfl
theorem k_91_122 : mOk M_91.1 M_91.2.1 M_91.2.2.1 M_91.2.2.2 122 (o_il 1 1) := ok_iload_n dX10_init_122 rfl
theorem k_91_123 : mOk M_91.1 M_91.2.1 M_91.2.2.1 M_91.2.2.2 123 (o_new 1) := ok_new dX10_init_123 cl_1 rfl m_146 m_147 m_72
theorem k_91_126 : mOk M_91.1 M_91.2.1 M_91.2.2.1 M_91.2.2.2 126 (oS 1 s_dup) := ok_dup dX10_init_126
theorem k_91_130 : mOk M_91.1 M_91.2.1 M_91.2.2.1 M_91.2.2.2 130 (o_aast) := ok_aast dX10_init_130
theorem k_91_131 : mOk M_91.1 M_91.2.1 M_91.2.2.1 M_91.2.2.2 131 (o_inc 1 1) := ok_iinc dX10_init_131 (by decide)
theorem k_91_134 : mOk M_91.1 M_91.2.1 M_91.2.2.1 M_91.2.2.2 134 (o_goto 113) := ok_goto dX10_init_134 (by decide)
set_option maxRecDepth 20000 in
set_option maxHeartbeats 4000000 in
theorem tk_91 (l : Launch) (H9 : mThr l) (H10 : mSpl l) (pc : Nat) (q : mEnt) (h : tb_91 pc = some q) : EE l 91 pc q := nd h (fun h => nd h (fun h => nd h (fun h => nd h (fun h => nd h (fun h => nd h (fun h => lf (P := EE l 91) h k_91_0) (fun h => lf (P := EE l 91) h (EE_ob (⟨3, dX10_init_1, m_96, m_97, m_98, by decide, by decide⟩)))) (fun h => nd h (fun h => lf (P := EE l 91) h k_91_4) (fun h => lf (P := EE l 91) h k_91_5))) (fun h => nd h (fun h => nd h (fun h => lf (P := EE l 91) h k_91_8) (fun h => lf (P := EE l 91) h (EE_ca (by decide) (⟨m_103, m_71, ⟨by decide, by decide⟩, by decide +kernel, ⟨by decide, by decide⟩, 11, 0, by decide +kernel, Or.inr (Or.inr (Or.inr (Or.inr ⟨rfl, rfl, dX10_init_9, ⟨"AtlasDesk", m_101⟩, m_102, rfl, rfl⟩)))⟩) rfl))) (fun h => nd h (fun h => lf (P := EE l 91) h k_91_12) (fun h => lf (P := EE l 91) h k_91_15)))) (fun h => nd h (fun h => nd h (fun h => nd h (fun h => lf (P := EE l 91) h k_91_16) (fun h => lf (P := EE l 91) h k_91_19)) (fun h => nd h (fun h => lf (P := EE l 91) h (EE_ca (by decide) (⟨m_150, m_72, ⟨by decide, by decide⟩, by decide +kernel, ⟨by decide, by decide⟩, 18, 0, by decide +kernel, Or.inr (Or.inr (Or.inr (Or.inl ⟨rfl, rfl, dX10_init_20, m_148, m_149, rfl, rfl⟩)))⟩) rfl)) (fun h => lf (P := EE l 91) h k_91_23))) (fun h => nd h (fun h => nd h (fun h => lf (P := EE l 91) h k_91_26) (fun h => lf (P := EE l 91) h k_91_27)) (fun h => nd h (fun h => lf (P := EE l 91) h k_91_28) (fun h => lf (P := EE l 91) h k_91_31))))) (fun h => nd h (fun h => nd h (fun h => nd h (fun h => nd h (fun h => lf (P := EE l 91) h k_91_34) (fun h => lf (P := EE l 91) h k_91_35)) (fun h => nd h (fun h => lf (P := EE l 91) h k_91_38) (fun h => lf (P := EE l 91) h (EE_ca (by decide) (⟨m_170, m_73, ⟨by decide, by decide⟩, by decide +kernel, ⟨by decide, by decide⟩, 29, 0, by decide +kernel, Or.inr (Or.inr (Or.inr (Or.inr ⟨rfl, rfl, dX10_init_39, ⟨"AtlasDesk", m_168⟩, m_169, rfl, rfl⟩)))⟩) rfl)))) (fun h => nd h (fun h => nd h (fun h => lf (P := EE l 91) h k_91_42) (fun h => lf (P := EE l 91) h k_91_45)) (fun h => nd h (fun h => lf (P := EE l 91) h k_91_46) (fun h => lf (P := EE l 91) h k_91_49)))) (fun h => nd h (fun h => nd h (fun h => nd h (fun h => lf (P := EE l 91) h (EE_ca (by decide) (⟨m_259, m_77, ⟨by decide, by decide⟩, by decide +kernel, ⟨by decide, by decide⟩, 36, 0, by decide +kernel, Or.inr (Or.inr (Or.inr (Or.inr ⟨rfl, rfl, dX10_init_50, ⟨"AtlasDesk", m_284⟩, m_258, rfl, rfl⟩)))⟩) rfl)) (fun h => lf (P := EE l 91) h k_91_53)) (fun h => nd h (fun h => lf (P := EE l 91) h k_91_56) (fun h => lf (P := EE l 91) h k_91_57))) (fun h => nd h (fun h => nd h (fun h => lf (P := EE l 91) h k_91_60) (fun h => lf (P := EE l 91) h (EE_ca (by decide) (⟨m_289, m_78, ⟨by decide, by decide⟩, by decide +kernel, ⟨by decide, by decide⟩, 43, 0, by decide +kernel, Or.inr (Or.inr (Or.inr (Or.inr ⟨rfl, rfl, dX10_init_61, ⟨"AtlasDesk", m_287⟩, m_288, rfl, rfl⟩)))⟩) rfl))) (fun h => nd h (fun h => lf (P := EE l 91) h k_91_64) (fun h => nd h (fun h => lf (P := EE l 91) h k_91_67) (fun h => lf (P := EE l 91) h k_91_68))))))) (fun h => nd h (fun h => nd h (fun h => nd h (fun h => nd h (fun h => nd h (fun h => lf (P := EE l 91) h k_91_71) (fun h => lf (P := EE l 91) h (EE_ca (by decide) (⟨m_313, m_79, ⟨by decide, by decide⟩, by decide +kernel, ⟨by decide, by decide⟩, 50, 0, by decide +kernel, Or.inr (Or.inr (Or.inr (Or.inr ⟨rfl, rfl, dX10_init_72, ⟨"AtlasDesk", m_311⟩, m_312, rfl, rfl⟩)))⟩) rfl))) (fun h => nd h (fun h => lf (P := EE l 91) h k_91_75) (fun h => lf (P := EE l 91) h k_91_78))) (fun h => nd h (fun h => nd h (fun h => lf (P := EE l 91) h k_91_79) (fun h => lf (P := EE l 91) h k_91_82)) (fun h => nd h (fun h => lf (P := EE l 91) h (EE_ca (by decide) (⟨m_313, m_79, ⟨by decide, by decide⟩, by decide +kernel, ⟨by decide, by decide⟩, 50, 0, by decide +kernel, Or.inr (Or.inr (Or.inr (Or.inr ⟨rfl, rfl, dX10_init_83, ⟨"AtlasDesk", m_311⟩, m_312, rfl, rfl⟩)))⟩) rfl)) (fun h => lf (P := EE l 91) h k_91_86)))) (fun h => nd h (fun h => nd h (fun h => nd h (fun h => lf (P := EE l 91) h k_91_89) (fun h => lf (P := EE l 91) h k_91_90)) (fun h => nd h (fun h => lf (P := EE l 91) h k_91_93) (fun h => lf (P := EE l 91) h (EE_ca (by decide) (⟨m_381, m_80, ⟨by decide, by decide⟩, by decide +kernel, ⟨by decide, by decide⟩, 60, 0, by decide +kernel, Or.inr (Or.inr (Or.inr (Or.inr ⟨rfl, rfl, dX10_init_94, ⟨"AtlasDesk", m_379⟩, m_380, rfl, rfl⟩)))⟩) rfl)))) (fun h => nd h (fun h => nd h (fun h => lf (P := EE l 91) h k_91_97) (fun h => lf (P := EE l 91) h k_91_100)) (fun h => nd h (fun h => lf (P := EE l 91) h k_91_101) (fun h => lf (P := EE l 91) h k_91_104))))) (fun h => nd h (fun h => nd h (fun h => nd h (fun h => nd h (fun h => lf (P := EE l 91) h (EE_ca (by decide) (⟨m_381, m_80, ⟨by decide, by decide⟩, by decide +kernel, ⟨by decide, by decide⟩, 60, 0, by decide +kernel, Or.inr (Or.inr (Or.inr (Or.inr ⟨rfl, rfl, dX10_init_105, ⟨"AtlasDesk", m_379⟩, m_380, rfl, rfl⟩)))⟩) rfl)) (fun h => lf (P := EE l 91) h k_91_108)) (fun h => nd h (fun h => lf (P := EE l 91) h k_91_111) (fun h => lf (P := EE l 91) h k_91_112))) (fun h => nd h (fun h => nd h (fun h => lf (P := EE l 91) h k_91_113) (fun h => lf (P := EE l 91) h k_91_114)) (fun h => nd h (fun h => lf (P := EE l 91) h k_91_115) (fun h => lf (P := EE l 91) h k_91_118)))) (fun h => nd h (fun h => nd h (fun h => nd h (fun h => lf (P := EE l 91) h k_91_119) (fun h => lf (P := EE l 91) h k_91_122)) (fun h => nd h (fun h => lf (P := EE l 91) h k_91_123) (fun h => lf (P := EE l 91) h k_91_126))) (fun h => nd h (fun h => nd h (fun h => lf (P := EE l 91) h (EE_ca (by decide) (⟨m_150, m_72, ⟨by decide, by decide⟩, by decide +kernel, ⟨by decide, by decide⟩, 18, 0, by decide +kernel, Or.inr (Or.inr (Or.inr (Or.inl ⟨rfl, rfl, dX10_init_127, m_148, m_149, rfl, rfl⟩)))⟩) rfl)) (fun h => lf (P := EE l 91) h k_91_130)) (fun h => nd h (fun h => lf (P := EE l 91) h k_91_131) (fun h => nd h (fun h => lf (P := EE l 91) h k_91_134) (fun h => lf (P := EE l 91) h (EE_re (Or.inr (Or.inr (Or.inr (Or.inr ⟨rfl, dX10_init_137, rfl⟩))))))))))))
theorem dX10_corner_0 : decode cX10_corner 0 = .ok (.aload_n 0, 1) := by decide +kernel
theorem dX10_corner_1 : decode cX10_corner 1 = .ok (.getfield 12, 3) := by decide +kernel
theorem dX10_corner_4 : decode cX10_corner 4 = .ok (.iload_n 1, 1) := by decide +kernel
theorem dX10_corner_5 : decode cX10_corner 5 = .ok (.iload_n 2, 1) := by decide +kernel
theorem dX10_corner_6 : decode cX10_corner 6 = .ok (.invokevirtual 68, 3) := by decide +kernel
theorem dX10_corner_9 : decode cX10_corner 9 = .ok (.ireturn, 1) := by decide +kernel
def tb_92 (pc : Nat) : Option mEnt := bif Nat.ble pc 4 then (bif Nat.ble pc 0 then (bif Nat.beq pc 0 then some (.inl (o_al 0 1)) else none) else (bif Nat.ble pc 1 then (bif Nat.beq pc 1 then some (.inl (o_gP 10 0)) else none) else (bif Nat.beq pc 4 then some (.inl (o_il 1 1)) else none))) else (bif Nat.ble pc 5 then (bif Nat.beq pc 5 then some (.inl (o_il 2 1)) else none) else (bif Nat.ble pc 6 then (bif Nat.beq pc 6 then some (.inr (3, 15, 3, 2)) else none) else (bif Nat.beq pc 9 then some (.inr (0, 0, 0, 4)) else none)))
theorem k_92_0 : mOk M_92.1 M_92.2.1 M_92.2.2.1 M_92.2.2.2 0 (o_al 0 1) := ok_aload_n dX10_corner_0 rfl
theorem k_92_1 : mOk M_92.1 M_92.2.1 M_92.2.2.1 M_92.2.2.2 1 (o_gP 10 0) := ok_gP dX10_corner_1 f_RX10_12 rfl
theorem k_92_4 : mOk M_92.1 M_92.2.1 M_92.2.2.1 M_92.2.2.2 4 (o_il 1 1) := ok_iload_n dX10_corner_4 rfl
theorem k_92_5 : mOk M_92.1 M_92.2.1 M_92.2.2.1 M_92.2.2.2 5 (o_il 2 1) := ok_iload_n dX10_corner_5 rfl
set_option maxRecDepth 20000 in
set_option maxHeartbeats 4000000 in
theorem tk_92 (l : Launch) (H9 : mThr l) (H10 : mSpl l) (pc : Nat) (q : mEnt) (h : tb_92 pc = some q) : EE l 92 pc q := nd h (fun h => nd h (fun h => lf (P := EE l 92) h k_92_0) (fun h => nd h (fun h => lf (P := EE l 92) h k_92_1) (fun h => lf (P := EE l 92) h k_92_4))) (fun h => nd h (fun h => lf (P := EE l 92) h k_92_5) (fun h => nd h (fun h => lf (P := EE l 92) h (EE_ca (by decide) (⟨m_468, m_71, ⟨by decide, by decide⟩, by decide +kernel, ⟨by decide, by decide⟩, 68, 2, by decide +kernel, Or.inr (Or.inr (Or.inl ⟨rfl, rfl, dX10_corner_6, m_465, m_466, _, rfl, by decide, m_467⟩))⟩) rfl)) (fun h => lf (P := EE l 92) h (EE_re (Or.inr (Or.inl ⟨rfl, dX10_corner_9, rfl⟩))))))
theorem dX10_feature_0 : decode cX10_feature 0 = .ok (.aload_n 0, 1) := by decide +kernel
theorem dX10_feature_1 : decode cX10_feature 1 = .ok (.getfield 12, 3) := by decide +kernel
theorem dX10_feature_4 : decode cX10_feature 4 = .ok (.iload_n 1, 1) := by decide +kernel
theorem dX10_feature_5 : decode cX10_feature 5 = .ok (.iload_n 2, 1) := by decide +kernel
theorem dX10_feature_6 : decode cX10_feature 6 = .ok (.iload_n 3, 1) := by decide +kernel
theorem dX10_feature_7 : decode cX10_feature 7 = .ok (.iload 4, 2) := by decide +kernel
theorem dX10_feature_9 : decode cX10_feature 9 = .ok (.lload 5, 2) := by decide +kernel
theorem dX10_feature_11 : decode cX10_feature 11 = .ok (.invokevirtual 72, 3) := by decide +kernel
theorem dX10_feature_14 : decode cX10_feature 14 = .ok (.aload_n 0, 1) := by decide +kernel
theorem dX10_feature_15 : decode cX10_feature 15 = .ok (.getfield 12, 3) := by decide +kernel
theorem dX10_feature_18 : decode cX10_feature 18 = .ok (.invokevirtual 76, 3) := by decide +kernel
theorem dX10_feature_21 : decode cX10_feature 21 = .ok (.ifCond .eq 17, 3) := by decide +kernel
theorem dX10_feature_24 : decode cX10_feature 24 = .ok (.aload_n 0, 1) := by decide +kernel
theorem dX10_feature_25 : decode cX10_feature 25 = .ok (.getfield 12, 3) := by decide +kernel
theorem dX10_feature_28 : decode cX10_feature 28 = .ok (.invokevirtual 80, 3) := by decide +kernel
theorem dX10_feature_31 : decode cX10_feature 31 = .ok (.ifCond .eq 7, 3) := by decide +kernel
theorem dX10_feature_34 : decode cX10_feature 34 = .ok (.iconst 1, 1) := by decide +kernel
theorem dX10_feature_35 : decode cX10_feature 35 = .ok (.goto 4, 3) := by decide +kernel
theorem dX10_feature_38 : decode cX10_feature 38 = .ok (.iconst 0, 1) := by decide +kernel
theorem dX10_feature_39 : decode cX10_feature 39 = .ok (.istore 7, 2) := by decide +kernel
theorem dX10_feature_41 : decode cX10_feature 41 = .ok (.iload 7, 2) := by decide +kernel
theorem dX10_feature_43 : decode cX10_feature 43 = .ok (.ifCond .eq 21, 3) := by decide +kernel
theorem dX10_feature_46 : decode cX10_feature 46 = .ok (.aload_n 0, 1) := by decide +kernel
theorem dX10_feature_47 : decode cX10_feature 47 = .ok (.getfield 19, 3) := by decide +kernel
theorem dX10_feature_50 : decode cX10_feature 50 = .ok (.aload_n 0, 1) := by decide +kernel
theorem dX10_feature_51 : decode cX10_feature 51 = .ok (.getfield 12, 3) := by decide +kernel
theorem dX10_feature_54 : decode cX10_feature 54 = .ok (.invokevirtual 83, 3) := by decide +kernel
theorem dX10_feature_57 : decode cX10_feature 57 = .ok (.ifCond .eq 7, 3) := by decide +kernel
theorem dX10_feature_60 : decode cX10_feature 60 = .ok (.iconst 1, 1) := by decide +kernel
theorem dX10_feature_61 : decode cX10_feature 61 = .ok (.goto 4, 3) := by decide +kernel
theorem dX10_feature_64 : decode cX10_feature 64 = .ok (.iconst 0, 1) := by decide +kernel
theorem dX10_feature_65 : decode cX10_feature 65 = .ok (.istore 8, 2) := by decide +kernel
theorem dX10_feature_67 : decode cX10_feature 67 = .ok (.aload_n 0, 1) := by decide +kernel
theorem dX10_feature_68 : decode cX10_feature 68 = .ok (.getfield 12, 3) := by decide +kernel
theorem dX10_feature_71 : decode cX10_feature 71 = .ok (.iconst 0, 1) := by decide +kernel
theorem dX10_feature_72 : decode cX10_feature 72 = .ok (.putfield 87, 3) := by decide +kernel
theorem dX10_feature_75 : decode cX10_feature 75 = .ok (.iload 7, 2) := by decide +kernel
theorem dX10_feature_77 : decode cX10_feature 77 = .ok (.ifCond .ne 13, 3) := by decide +kernel
theorem dX10_feature_80 : decode cX10_feature 80 = .ok (.new 91, 3) := by decide +kernel
theorem dX10_feature_83 : decode cX10_feature 83 = .ok (.dup, 1) := by decide +kernel
theorem dX10_feature_84 : decode cX10_feature 84 = .ok (.ldc 93, 2) := by decide +kernel
theorem dX10_feature_86 : decode cX10_feature 86 = .ok (.invokespecial 95, 3) := by decide +kernel
theorem dX10_feature_89 : decode cX10_feature 89 = .ok (.athrow, 1) := by decide +kernel
theorem dX10_feature_90 : decode cX10_feature 90 = .ok (.iload 8, 2) := by decide +kernel
theorem dX10_feature_92 : decode cX10_feature 92 = .ok (.ifCond .ne 13, 3) := by decide +kernel
theorem dX10_feature_95 : decode cX10_feature 95 = .ok (.new 98, 3) := by decide +kernel
theorem dX10_feature_98 : decode cX10_feature 98 = .ok (.dup, 1) := by decide +kernel
theorem dX10_feature_99 : decode cX10_feature 99 = .ok (.ldc 100, 2) := by decide +kernel
theorem dX10_feature_101 : decode cX10_feature 101 = .ok (.invokespecial 102, 3) := by decide +kernel
theorem dX10_feature_104 : decode cX10_feature 104 = .ok (.athrow, 1) := by decide +kernel
theorem dX10_feature_105 : decode cX10_feature 105 = .ok (.aload_n 0, 1) := by decide +kernel
theorem dX10_feature_106 : decode cX10_feature 106 = .ok (.getfield 19, 3) := by decide +kernel
theorem dX10_feature_109 : decode cX10_feature 109 = .ok (.getfield 103, 3) := by decide +kernel
theorem dX10_feature_112 : decode cX10_feature 112 = .ok (.ireturn, 1) := by decide +kernel
def tb_93 (pc : Nat) : Option mEnt := bif Nat.ble pc 46 then (bif Nat.ble pc 18 then (bif Nat.ble pc 6 then (bif Nat.ble pc 1 then (bif Nat.ble pc 0 then (bif Nat.beq pc 0 then some (.inl (o_al 0 1)) else none) else (bif Nat.beq pc 1 then some (.inl (o_gP 10 0)) else none)) else (bif Nat.ble pc 4 then (bif Nat.beq pc 4 then some (.inl (o_il 1 1)) else none) else (bif Nat.ble pc 5 then (bif Nat.beq pc 5 then some (.inl (o_il 2 1)) else none) else (bif Nat.beq pc 6 then some (.inl (o_il 3 1)) else none)))) else (bif Nat.ble pc 11 then (bif Nat.ble pc 7 then (bif Nat.beq pc 7 then some (.inl (o_il 4 2)) else none) else (bif Nat.ble pc 9 then (bif Nat.beq pc 9 then some (.inl (o_ll 5 2)) else none) else (bif Nat.beq pc 11 then some (.inr (3, 16, 6, 2)) else none))) else (bif Nat.ble pc 14 then (bif Nat.beq pc 14 then some (.inl (o_al 0 1)) else none) else (bif Nat.ble pc 15 then (bif Nat.beq pc 15 then some (.inl (o_gP 10 0)) else none) else (bif Nat.beq pc 18 then some (.inr (3, 18, 1, 2)) else none))))) else (bif Nat.ble pc 34 then (bif Nat.ble pc 25 then (bif Nat.ble pc 21 then (bif Nat.beq pc 21 then some (.inl (o_zeq 38)) else none) else (bif Nat.ble pc 24 then (bif Nat.beq pc 24 then some (.inl (o_al 0 1)) else none) else (bif Nat.beq pc 25 then some (.inl (o_gP 10 0)) else none))) else (bif Nat.ble pc 28 then (bif Nat.beq pc 28 then some (.inr (3, 19, 1, 2)) else none) else (bif Nat.ble pc 31 then (bif Nat.beq pc 31 then some (.inl (o_zeq 38)) else none) else (bif Nat.beq pc 34 then some (.inl (oS 1 (s_push (.int 1)))) else none)))) else (bif Nat.ble pc 39 then (bif Nat.ble pc 35 then (bif Nat.beq pc 35 then some (.inl (o_goto 39)) else none) else (bif Nat.ble pc 38 then (bif Nat.beq pc 38 then some (.inl (oS 1 (s_push (.int 0)))) else none) else (bif Nat.beq pc 39 then some (.inl (o_is 7 2)) else none))) else (bif Nat.ble pc 41 then (bif Nat.beq pc 41 then some (.inl (o_il 7 2)) else none) else (bif Nat.ble pc 43 then (bif Nat.beq pc 43 then some (.inl (o_zeq 64)) else none) else (bif Nat.beq pc 46 then some (.inl (o_al 0 1)) else none)))))) else (bif Nat.ble pc 68 then (bif Nat.ble pc 57 then (bif Nat.ble pc 50 then (bif Nat.ble pc 47 then (bif Nat.beq pc 47 then some (.inl (o_gP 10 1)) else none) else (bif Nat.beq pc 50 then some (.inl (o_al 0 1)) else none)) else (bif Nat.ble pc 51 then (bif Nat.beq pc 51 then some (.inl (o_gP 10 0)) else none) else (bif Nat.ble pc 54 then (bif Nat.beq pc 54 then some (.inr (3, 4, 2, 1)) else none) else (bif Nat.beq pc 57 then some (.inl (o_zeq 64)) else none)))) else (bif Nat.ble pc 64 then (bif Nat.ble pc 60 then (bif Nat.beq pc 60 then some (.inl (oS 1 (s_push (.int 1)))) else none) else (bif Nat.ble pc 61 then (bif Nat.beq pc 61 then some (.inl (o_goto 65)) else none) else (bif Nat.beq pc 64 then some (.inl (oS 1 (s_push (.int 0)))) else none))) else (bif Nat.ble pc 65 then (bif Nat.beq pc 65 then some (.inl (o_is 8 2)) else none) else (bif Nat.ble pc 67 then (bif Nat.beq pc 67 then some (.inl (o_al 0 1)) else none) else (bif Nat.beq pc 68 then some (.inl (o_gP 10 0)) else none))))) else (bif Nat.ble pc 90 then (bif Nat.ble pc 75 then (bif Nat.ble pc 71 then (bif Nat.beq pc 71 then some (.inl (oS 1 (s_push (.int 0)))) else none) else (bif Nat.ble pc 72 then (bif Nat.beq pc 72 then some (.inl (o_pI 2 5)) else none) else (bif Nat.beq pc 75 then some (.inl (o_il 7 2)) else none))) else (bif Nat.ble pc 77 then (bif Nat.beq pc 77 then some (.inl (o_zne 90)) else none) else (bif Nat.ble pc 80 then (bif Nat.beq pc 80 then some (.inr (9, 0, 6, 0)) else none) else (bif Nat.beq pc 90 then some (.inl (o_il 8 2)) else none)))) else (bif Nat.ble pc 105 then (bif Nat.ble pc 92 then (bif Nat.beq pc 92 then some (.inl (o_zne 105)) else none) else (bif Nat.ble pc 95 then (bif Nat.beq pc 95 then some (.inr (9, 0, 6, 1)) else none) else (bif Nat.beq pc 105 then some (.inl (o_al 0 1)) else none))) else (bif Nat.ble pc 106 then (bif Nat.beq pc 106 then some (.inl (o_gP 10 1)) else none) else (bif Nat.ble pc 109 then (bif Nat.beq pc 109 then some (.inl (o_gI 1 1)) else none) else (bif Nat.beq pc 112 then some (.inr (0, 0, 0, 0)) else none))))))
theorem k_93_0 : mOk M_93.1 M_93.2.1 M_93.2.2.1 M_93.2.2.2 0 (o_al 0 1) := ok_aload_n dX10_feature_0 rfl
theorem k_93_1 : mOk M_93.1 M_93.2.1 M_93.2.2.1 M_93.2.2.2 1 (o_gP 10 0) := ok_gP dX10_feature_1 f_RX10_12 rfl
theorem k_93_4 : mOk M_93.1 M_93.2.1 M_93.2.2.1 M_93.2.2.2 4 (o_il 1 1) := ok_iload_n dX10_feature_4 rfl
theorem k_93_5 : mOk M_93.1 M_93.2.1 M_93.2.2.1 M_93.2.2.2 5 (o_il 2 1) := ok_iload_n dX10_feature_5 rfl
theorem k_93_6 : mOk M_93.1 M_93.2.1 M_93.2.2.1 M_93.2.2.2 6 (o_il 3 1) := ok_iload_n dX10_feature_6 rfl
theorem k_93_7 : mOk M_93.1 M_93.2.1 M_93.2.2.1 M_93.2.2.2 7 (o_il 4 2) := ok_iload dX10_feature_7
theorem k_93_9 : mOk M_93.1 M_93.2.1 M_93.2.2.1 M_93.2.2.2 9 (o_ll 5 2) := ok_lload dX10_feature_9
theorem k_93_14 : mOk M_93.1 M_93.2.1 M_93.2.2.1 M_93.2.2.2 14 (o_al 0 1) := ok_aload_n dX10_feature_14 rfl
theorem k_93_15 : mOk M_93.1 M_93.2.1 M_93.2.2.1 M_93.2.2.2 15 (o_gP 10 0) := ok_gP dX10_feature_15 f_RX10_12 rfl
theorem k_93_21 : mOk M_93.1 M_93.2.1 M_93.2.2.1 M_93.2.2.2 21 (o_zeq 38) := ok_zeq dX10_feature_21 (by decide)
theorem k_93_24 : mOk M_93.1 M_93.2.1 M_93.2.2.1 M_93.2.2.2 24 (o_al 0 1) := ok_aload_n dX10_feature_24 rfl
theorem k_93_25 : mOk M_93.1 M_93.2.1 M_93.2.2.1 M_93.2.2.2 25 (o_gP 10 0) := ok_gP dX10_feature_25 f_RX10_12 rfl
theorem k_93_31 : mOk M_93.1 M_93.2.1 M_93.2.2.1 M_93.2.2.2 31 (o_zeq 38) := ok_zeq dX10_feature_31 (by decide)
theorem k_93_34 : mOk M_93.1 M_93.2.1 M_93.2.2.1 M_93.2.2.2 34 (oS 1 (s_push (.int 1))) := ok_iconst dX10_feature_34 (by decide)
theorem k_93_35 : mOk M_93.1 M_93.2.1 M_93.2.2.1 M_93.2.2.2 35 (o_goto 39) := ok_goto dX10_feature_35 (by decide)
theorem k_93_38 : mOk M_93.1 M_93.2.1 M_93.2.2.1 M_93.2.2.2 38 (oS 1 (s_push (.int 0))) := ok_iconst dX10_feature_38 (by decide)
theorem k_93_39 : mOk M_93.1 M_93.2.1 M_93.2.2.1 M_93.2.2.2 39 (o_is 7 2) := ok_istore dX10_feature_39
theorem k_93_41 : mOk M_93.1 M_93.2.1 M_93.2.2.1 M_93.2.2.2 41 (o_il 7 2) := ok_iload dX10_feature_41
theorem k_93_43 : mOk M_93.1 M_93.2.1 M_93.2.2.1 M_93.2.2.2 43 (o_zeq 64) := ok_zeq dX10_feature_43 (by decide)
theorem k_93_46 : mOk M_93.1 M_93.2.1 M_93.2.2.1 M_93.2.2.2 46 (o_al 0 1) := ok_aload_n dX10_feature_46 rfl
theorem k_93_47 : mOk M_93.1 M_93.2.1 M_93.2.2.1 M_93.2.2.2 47 (o_gP 10 1) := ok_gP dX10_feature_47 f_RX10_19 rfl
theorem k_93_50 : mOk M_93.1 M_93.2.1 M_93.2.2.1 M_93.2.2.2 50 (o_al 0 1) := ok_aload_n dX10_feature_50 rfl
theorem k_93_51 : mOk M_93.1 M_93.2.1 M_93.2.2.1 M_93.2.2.2 51 (o_gP 10 0) := ok_gP dX10_feature_51 f_RX10_12 rfl
theorem k_93_57 : mOk M_93.1 M_93.2.1 M_93.2.2.1 M_93.2.2.2 57 (o_zeq 64) := ok_zeq dX10_feature_57 (by decide)
theorem k_93_60 : mOk M_93.1 M_93.2.1 M_93.2.2.1 M_93.2.2.2 60 (oS 1 (s_push (.int 1))) := ok_iconst dX10_feature_60 (by decide)
theorem k_93_61 : mOk M_93.1 M_93.2.1 M_93.2.2.1 M_93.2.2.2 61 (o_goto 65) := ok_goto dX10_feature_61 (by decide)
theorem k_93_64 : mOk M_93.1 M_93.2.1 M_93.2.2.1 M_93.2.2.2 64 (oS 1 (s_push (.int 0))) := ok_iconst dX10_feature_64 (by decide)
theorem k_93_65 : mOk M_93.1 M_93.2.1 M_93.2.2.1 M_93.2.2.2 65 (o_is 8 2) := ok_istore dX10_feature_65
theorem k_93_67 : mOk M_93.1 M_93.2.1 M_93.2.2.1 M_93.2.2.2 67 (o_al 0 1) := ok_aload_n dX10_feature_67 rfl
theorem k_93_68 : mOk M_93.1 M_93.2.1 M_93.2.2.1 M_93.2.2.2 68 (o_gP 10 0) := ok_gP dX10_feature_68 f_RX10_12 rfl
theorem k_93_71 : mOk M_93.1 M_93.2.1 M_93.2.2.1 M_93.2.2.2 71 (oS 1 (s_push (.int 0))) := ok_iconst dX10_feature_71 (by decide)
theorem k_93_72 : mOk M_93.1 M_93.2.1 M_93.2.2.1 M_93.2.2.2 72 (o_pI 2 5) := ok_pI dX10_feature_72 (mFw_of f_RX10_87_c (Or.inl rfl)) rfl
theorem k_93_75 : mOk M_93.1 M_93.2.1 M_93.2.2.1 M_93.2.2.2 75 (o_il 7 2) := ok_iload dX10_feature_75
theorem k_93_77 : mOk M_93.1 M_93.2.1 M_93.2.2.1 M_93.2.2.2 77 (o_zne 90) := ok_zne dX10_feature_77 (by decide)
theorem k_93_90 : mOk M_93.1 M_93.2.1 M_93.2.2.1 M_93.2.2.2 90 (o_il 8 2) := ok_iload dX10_feature_90
theorem k_93_92 : mOk M_93.1 M_93.2.1 M_93.2.2.1 M_93.2.2.2 92 (o_zne 105) := ok_zne dX10_feature_92 (by decide)
theorem k_93_105 : mOk M_93.1 M_93.2.1 M_93.2.2.1 M_93.2.2.2 105 (o_al 0 1) := ok_aload_n dX10_feature_105 rfl
theorem k_93_106 : mOk M_93.1 M_93.2.1 M_93.2.2.1 M_93.2.2.2 106 (o_gP 10 1) := ok_gP dX10_feature_106 f_RX10_19 rfl
theorem k_93_109 : mOk M_93.1 M_93.2.1 M_93.2.2.1 M_93.2.2.2 109 (o_gI 1 1) := ok_gI dX10_feature_109 f_RX10_103 (Or.inl rfl)
set_option maxRecDepth 20000 in
set_option maxHeartbeats 4000000 in
theorem tk_93 (l : Launch) (H9 : mThr l) (H10 : mSpl l) (pc : Nat) (q : mEnt) (h : tb_93 pc = some q) : EE l 93 pc q := nd h (fun h => nd h (fun h => nd h (fun h => nd h (fun h => nd h (fun h => lf (P := EE l 93) h k_93_0) (fun h => lf (P := EE l 93) h k_93_1)) (fun h => nd h (fun h => lf (P := EE l 93) h k_93_4) (fun h => nd h (fun h => lf (P := EE l 93) h k_93_5) (fun h => lf (P := EE l 93) h k_93_6)))) (fun h => nd h (fun h => nd h (fun h => lf (P := EE l 93) h k_93_7) (fun h => nd h (fun h => lf (P := EE l 93) h k_93_9) (fun h => lf (P := EE l 93) h (EE_ca (by decide) (⟨m_503, m_71, ⟨by decide, by decide⟩, by decide +kernel, ⟨by decide, by decide⟩, 72, 5, by decide +kernel, Or.inr (Or.inr (Or.inl ⟨rfl, rfl, dX10_feature_11, m_541, m_501, _, rfl, by decide, m_502⟩))⟩) rfl)))) (fun h => nd h (fun h => lf (P := EE l 93) h k_93_14) (fun h => nd h (fun h => lf (P := EE l 93) h k_93_15) (fun h => lf (P := EE l 93) h (EE_ca (by decide) (⟨m_545, m_71, ⟨by decide, by decide⟩, by decide +kernel, ⟨by decide, by decide⟩, 76, 0, by decide +kernel, Or.inr (Or.inr (Or.inl ⟨rfl, rfl, dX10_feature_18, m_542, m_543, _, rfl, by decide, m_544⟩))⟩) rfl)))))) (fun h => nd h (fun h => nd h (fun h => nd h (fun h => lf (P := EE l 93) h k_93_21) (fun h => nd h (fun h => lf (P := EE l 93) h k_93_24) (fun h => lf (P := EE l 93) h k_93_25))) (fun h => nd h (fun h => lf (P := EE l 93) h (EE_ca (by decide) (⟨m_555, m_71, ⟨by decide, by decide⟩, by decide +kernel, ⟨by decide, by decide⟩, 80, 0, by decide +kernel, Or.inr (Or.inr (Or.inl ⟨rfl, rfl, dX10_feature_28, m_552, m_553, _, rfl, by decide, m_554⟩))⟩) rfl)) (fun h => nd h (fun h => lf (P := EE l 93) h k_93_31) (fun h => lf (P := EE l 93) h k_93_34)))) (fun h => nd h (fun h => nd h (fun h => lf (P := EE l 93) h k_93_35) (fun h => nd h (fun h => lf (P := EE l 93) h k_93_38) (fun h => lf (P := EE l 93) h k_93_39))) (fun h => nd h (fun h => lf (P := EE l 93) h k_93_41) (fun h => nd h (fun h => lf (P := EE l 93) h k_93_43) (fun h => lf (P := EE l 93) h k_93_46)))))) (fun h => nd h (fun h => nd h (fun h => nd h (fun h => nd h (fun h => lf (P := EE l 93) h k_93_47) (fun h => lf (P := EE l 93) h k_93_50)) (fun h => nd h (fun h => lf (P := EE l 93) h k_93_51) (fun h => nd h (fun h => lf (P := EE l 93) h (EE_ca (by decide) (⟨m_607, m_72, ⟨by decide, by decide⟩, by decide +kernel, ⟨by decide, by decide⟩, 83, 1, by decide +kernel, Or.inr (Or.inr (Or.inl ⟨rfl, rfl, dX10_feature_54, m_604, m_605, _, rfl, by decide, m_606⟩))⟩) rfl)) (fun h => lf (P := EE l 93) h k_93_57)))) (fun h => nd h (fun h => nd h (fun h => lf (P := EE l 93) h k_93_60) (fun h => nd h (fun h => lf (P := EE l 93) h k_93_61) (fun h => lf (P := EE l 93) h k_93_64))) (fun h => nd h (fun h => lf (P := EE l 93) h k_93_65) (fun h => nd h (fun h => lf (P := EE l 93) h k_93_67) (fun h => lf (P := EE l 93) h k_93_68))))) (fun h => nd h (fun h => nd h (fun h => nd h (fun h => lf (P := EE l 93) h k_93_71) (fun h => nd h (fun h => lf (P := EE l 93) h k_93_72) (fun h => lf (P := EE l 93) h k_93_75))) (fun h => nd h (fun h => lf (P := EE l 93) h k_93_77) (fun h => nd h (fun h => lf (P := EE l 93) h (EE_th H9 (by decide))) (fun h => lf (P := EE l 93) h k_93_90)))) (fun h => nd h (fun h => nd h (fun h => lf (P := EE l 93) h k_93_92) (fun h => nd h (fun h => lf (P := EE l 93) h (EE_th H9 (by decide))) (fun h => lf (P := EE l 93) h k_93_105))) (fun h => nd h (fun h => lf (P := EE l 93) h k_93_106) (fun h => nd h (fun h => lf (P := EE l 93) h k_93_109) (fun h => lf (P := EE l 93) h (EE_re (Or.inl ⟨rfl, dX10_feature_112, rfl⟩))))))))
theorem dX10_drop_0 : decode cX10_drop 0 = .ok (.aload_n 0, 1) := by decide +kernel
theorem dX10_drop_1 : decode cX10_drop 1 = .ok (.getfield 19, 3) := by decide +kernel
theorem dX10_drop_4 : decode cX10_drop 4 = .ok (.iload_n 1, 1) := by decide +kernel
theorem dX10_drop_5 : decode cX10_drop 5 = .ok (.invokevirtual 104, 3) := by decide +kernel
theorem dX10_drop_8 : decode cX10_drop 8 = .ok (.ireturn, 1) := by decide +kernel
def tb_94 (pc : Nat) : Option mEnt := bif Nat.ble pc 1 then (bif Nat.ble pc 0 then (bif Nat.beq pc 0 then some (.inl (o_al 0 1)) else none) else (bif Nat.beq pc 1 then some (.inl (o_gP 10 1)) else none)) else (bif Nat.ble pc 4 then (bif Nat.beq pc 4 then some (.inl (o_il 1 1)) else none) else (bif Nat.ble pc 5 then (bif Nat.beq pc 5 then some (.inr (3, 5, 2, 1)) else none) else (bif Nat.beq pc 8 then some (.inr (0, 0, 0, 4)) else none)))
theorem k_94_0 : mOk M_94.1 M_94.2.1 M_94.2.2.1 M_94.2.2.2 0 (o_al 0 1) := ok_aload_n dX10_drop_0 rfl
theorem k_94_1 : mOk M_94.1 M_94.2.1 M_94.2.2.1 M_94.2.2.2 1 (o_gP 10 1) := ok_gP dX10_drop_1 f_RX10_19 rfl
theorem k_94_4 : mOk M_94.1 M_94.2.1 M_94.2.2.1 M_94.2.2.2 4 (o_il 1 1) := ok_iload_n dX10_drop_4 rfl
set_option maxRecDepth 20000 in
set_option maxHeartbeats 4000000 in
theorem tk_94 (l : Launch) (H9 : mThr l) (H10 : mSpl l) (pc : Nat) (q : mEnt) (h : tb_94 pc = some q) : EE l 94 pc q := nd h (fun h => nd h (fun h => lf (P := EE l 94) h k_94_0) (fun h => lf (P := EE l 94) h k_94_1)) (fun h => nd h (fun h => lf (P := EE l 94) h k_94_4) (fun h => nd h (fun h => lf (P := EE l 94) h (EE_ca (by decide) (⟨m_479, m_72, ⟨by decide, by decide⟩, by decide +kernel, ⟨by decide, by decide⟩, 104, 1, by decide +kernel, Or.inr (Or.inr (Or.inl ⟨rfl, rfl, dX10_drop_5, m_476, m_477, _, rfl, by decide, m_478⟩))⟩) rfl)) (fun h => lf (P := EE l 94) h (EE_re (Or.inr (Or.inl ⟨rfl, dX10_drop_8, rfl⟩))))))
theorem dX10_edition_0 : decode cX10_edition 0 = .ok (.aload_n 0, 1) := by decide +kernel
theorem dX10_edition_1 : decode cX10_edition 1 = .ok (.dup, 1) := by decide +kernel
theorem dX10_edition_2 : decode cX10_edition 2 = .ok (.getfield 108, 3) := by decide +kernel
theorem dX10_edition_5 : decode cX10_edition 5 = .ok (.iconst 1, 1) := by decide +kernel
theorem dX10_edition_6 : decode cX10_edition 6 = .ok (.iadd, 1) := by decide +kernel
theorem dX10_edition_7 : decode cX10_edition 7 = .ok (.putfield 108, 3) := by decide +kernel
theorem dX10_edition_10 : decode cX10_edition 10 = .ok (.aload_n 0, 1) := by decide +kernel
theorem dX10_edition_11 : decode cX10_edition 11 = .ok (.getfield 23, 3) := by decide +kernel
theorem dX10_edition_14 : decode cX10_edition 14 = .ok (.aload_n 0, 1) := by decide +kernel
theorem dX10_edition_15 : decode cX10_edition 15 = .ok (.getfield 108, 3) := by decide +kernel
theorem dX10_edition_18 : decode cX10_edition 18 = .ok (.iconst 2, 1) := by decide +kernel
theorem dX10_edition_19 : decode cX10_edition 19 = .ok (.irem, 1) := by decide +kernel
theorem dX10_edition_20 : decode cX10_edition 20 = .ok (.aaload, 1) := by decide +kernel
theorem dX10_edition_21 : decode cX10_edition 21 = .ok (.aload_n 0, 1) := by decide +kernel
theorem dX10_edition_22 : decode cX10_edition 22 = .ok (.getfield 19, 3) := by decide +kernel
theorem dX10_edition_25 : decode cX10_edition 25 = .ok (.invokevirtual 111, 3) := by decide +kernel
theorem dX10_edition_28 : decode cX10_edition 28 = .ok (.aload_n 0, 1) := by decide +kernel
theorem dX10_edition_29 : decode cX10_edition 29 = .ok (.getfield 108, 3) := by decide +kernel
theorem dX10_edition_32 : decode cX10_edition 32 = .ok (.ireturn, 1) := by decide +kernel
def tb_95 (pc : Nat) : Option mEnt := bif Nat.ble pc 14 then (bif Nat.ble pc 5 then (bif Nat.ble pc 1 then (bif Nat.ble pc 0 then (bif Nat.beq pc 0 then some (.inl (o_al 0 1)) else none) else (bif Nat.beq pc 1 then some (.inl (oS 1 s_dup)) else none)) else (bif Nat.ble pc 2 then (bif Nat.beq pc 2 then some (.inl (o_gI 10 3)) else none) else (bif Nat.beq pc 5 then some (.inl (oS 1 (s_push (.int 1)))) else none))) else (bif Nat.ble pc 7 then (bif Nat.ble pc 6 then (bif Nat.beq pc 6 then some (.inl (oS 1 (s_ii (fun a b => a + b)))) else none) else (bif Nat.beq pc 7 then some (.inl (o_pI 10 3)) else none)) else (bif Nat.ble pc 10 then (bif Nat.beq pc 10 then some (.inl (o_al 0 1)) else none) else (bif Nat.ble pc 11 then (bif Nat.beq pc 11 then some (.inl (o_gP 10 2)) else none) else (bif Nat.beq pc 14 then some (.inl (o_al 0 1)) else none))))) else (bif Nat.ble pc 21 then (bif Nat.ble pc 18 then (bif Nat.ble pc 15 then (bif Nat.beq pc 15 then some (.inl (o_gI 10 3)) else none) else (bif Nat.beq pc 18 then some (.inl (oS 1 (s_push (.int 2)))) else none)) else (bif Nat.ble pc 19 then (bif Nat.beq pc 19 then some (.inl (oS 1 (s_iiz (fun a b => a - a / b * b)))) else none) else (bif Nat.ble pc 20 then (bif Nat.beq pc 20 then some (.inl (o_aald)) else none) else (bif Nat.beq pc 21 then some (.inl (o_al 0 1)) else none)))) else (bif Nat.ble pc 25 then (bif Nat.ble pc 22 then (bif Nat.beq pc 22 then some (.inl (o_gP 10 1)) else none) else (bif Nat.beq pc 25 then some (.inr (3, 8, 2, 1)) else none)) else (bif Nat.ble pc 28 then (bif Nat.beq pc 28 then some (.inl (o_al 0 1)) else none) else (bif Nat.ble pc 29 then (bif Nat.beq pc 29 then some (.inl (o_gI 10 3)) else none) else (bif Nat.beq pc 32 then some (.inr (0, 0, 0, 0)) else none)))))
theorem k_95_0 : mOk M_95.1 M_95.2.1 M_95.2.2.1 M_95.2.2.2 0 (o_al 0 1) := ok_aload_n dX10_edition_0 rfl
theorem k_95_1 : mOk M_95.1 M_95.2.1 M_95.2.2.1 M_95.2.2.2 1 (oS 1 s_dup) := ok_dup dX10_edition_1
theorem k_95_2 : mOk M_95.1 M_95.2.1 M_95.2.2.1 M_95.2.2.2 2 (o_gI 10 3) := ok_gI dX10_edition_2 f_RX10_108 (Or.inl rfl)
theorem k_95_5 : mOk M_95.1 M_95.2.1 M_95.2.2.1 M_95.2.2.2 5 (oS 1 (s_push (.int 1))) := ok_iconst dX10_edition_5 (by decide)
theorem k_95_6 : mOk M_95.1 M_95.2.1 M_95.2.2.1 M_95.2.2.2 6 (oS 1 (s_ii (fun a b => a + b))) := ok_iadd dX10_edition_6
theorem k_95_7 : mOk M_95.1 M_95.2.1 M_95.2.2.1 M_95.2.2.2 7 (o_pI 10 3) := ok_pI dX10_edition_7 (mFw_of f_RX10_108_c (Or.inl rfl)) rfl
theorem k_95_10 : mOk M_95.1 M_95.2.1 M_95.2.2.1 M_95.2.2.2 10 (o_al 0 1) := ok_aload_n dX10_edition_10 rfl
theorem k_95_11 : mOk M_95.1 M_95.2.1 M_95.2.2.1 M_95.2.2.2 11 (o_gP 10 2) := ok_gP dX10_edition_11 f_RX10_23 rfl
theorem k_95_14 : mOk M_95.1 M_95.2.1 M_95.2.2.1 M_95.2.2.2 14 (o_al 0 1) := ok_aload_n dX10_edition_14 rfl
theorem k_95_15 : mOk M_95.1 M_95.2.1 M_95.2.2.1 M_95.2.2.2 15 (o_gI 10 3) := ok_gI dX10_edition_15 f_RX10_108 (Or.inl rfl)
theorem k_95_18 : mOk M_95.1 M_95.2.1 M_95.2.2.1 M_95.2.2.2 18 (oS 1 (s_push (.int 2))) := ok_iconst dX10_edition_18 (by decide)
theorem k_95_19 : mOk M_95.1 M_95.2.1 M_95.2.2.1 M_95.2.2.2 19 (oS 1 (s_iiz (fun a b => a - a / b * b))) := ok_irem dX10_edition_19
theorem k_95_20 : mOk M_95.1 M_95.2.1 M_95.2.2.1 M_95.2.2.2 20 (o_aald) := ok_aald dX10_edition_20
theorem k_95_21 : mOk M_95.1 M_95.2.1 M_95.2.2.1 M_95.2.2.2 21 (o_al 0 1) := ok_aload_n dX10_edition_21 rfl
theorem k_95_22 : mOk M_95.1 M_95.2.1 M_95.2.2.1 M_95.2.2.2 22 (o_gP 10 1) := ok_gP dX10_edition_22 f_RX10_19 rfl
theorem k_95_28 : mOk M_95.1 M_95.2.1 M_95.2.2.1 M_95.2.2.2 28 (o_al 0 1) := ok_aload_n dX10_edition_28 rfl
theorem k_95_29 : mOk M_95.1 M_95.2.1 M_95.2.2.1 M_95.2.2.2 29 (o_gI 10 3) := ok_gI dX10_edition_29 f_RX10_108 (Or.inl rfl)
set_option maxRecDepth 20000 in
set_option maxHeartbeats 4000000 in
theorem tk_95 (l : Launch) (H9 : mThr l) (H10 : mSpl l) (pc : Nat) (q : mEnt) (h : tb_95 pc = some q) : EE l 95 pc q := nd h (fun h => nd h (fun h => nd h (fun h => nd h (fun h => lf (P := EE l 95) h k_95_0) (fun h => lf (P := EE l 95) h k_95_1)) (fun h => nd h (fun h => lf (P := EE l 95) h k_95_2) (fun h => lf (P := EE l 95) h k_95_5))) (fun h => nd h (fun h => nd h (fun h => lf (P := EE l 95) h k_95_6) (fun h => lf (P := EE l 95) h k_95_7)) (fun h => nd h (fun h => lf (P := EE l 95) h k_95_10) (fun h => nd h (fun h => lf (P := EE l 95) h k_95_11) (fun h => lf (P := EE l 95) h k_95_14))))) (fun h => nd h (fun h => nd h (fun h => nd h (fun h => lf (P := EE l 95) h k_95_15) (fun h => lf (P := EE l 95) h k_95_18)) (fun h => nd h (fun h => lf (P := EE l 95) h k_95_19) (fun h => nd h (fun h => lf (P := EE l 95) h k_95_20) (fun h => lf (P := EE l 95) h k_95_21)))) (fun h => nd h (fun h => nd h (fun h => lf (P := EE l 95) h k_95_22) (fun h => lf (P := EE l 95) h (EE_ca (by decide) (⟨m_495, m_72, ⟨by decide, by decide⟩, by decide +kernel, ⟨by decide, by decide⟩, 111, 1, by decide +kernel, Or.inr (Or.inr (Or.inl ⟨rfl, rfl, dX10_edition_25, m_492, m_493, _, rfl, by decide, m_494⟩))⟩) rfl))) (fun h => nd h (fun h => lf (P := EE l 95) h k_95_28) (fun h => nd h (fun h => lf (P := EE l 95) h k_95_29) (fun h => lf (P := EE l 95) h (EE_re (Or.inl ⟨rfl, dX10_edition_32, rfl⟩)))))))
theorem dX10_tile_0 : decode cX10_tile 0 = .ok (.aload_n 0, 1) := by decide +kernel
theorem dX10_tile_1 : decode cX10_tile 1 = .ok (.iload_n 1, 1) := by decide +kernel
theorem dX10_tile_2 : decode cX10_tile 2 = .ok (.invokevirtual 115, 3) := by decide +kernel
theorem dX10_tile_5 : decode cX10_tile 5 = .ok (.astore 5, 2) := by decide +kernel
theorem dX10_tile_7 : decode cX10_tile 7 = .ok (.aload 5, 2) := by decide +kernel
theorem dX10_tile_9 : decode cX10_tile 9 = .ok (.ifnull 13, 3) := by decide +kernel
theorem dX10_tile_12 : decode cX10_tile 12 = .ok (.iload_n 2, 1) := by decide +kernel
theorem dX10_tile_13 : decode cX10_tile 13 = .ok (.iload_n 3, 1) := by decide +kernel
theorem dX10_tile_14 : decode cX10_tile 14 = .ok (.iload 4, 2) := by decide +kernel
theorem dX10_tile_16 : decode cX10_tile 16 = .ok (.invokestatic 119, 3) := by decide +kernel
theorem dX10_tile_19 : decode cX10_tile 19 = .ok (.ifCond .ne 13, 3) := by decide +kernel
theorem dX10_tile_22 : decode cX10_tile 22 = .ok (.new 123, 3) := by decide +kernel
theorem dX10_tile_25 : decode cX10_tile 25 = .ok (.dup, 1) := by decide +kernel
theorem dX10_tile_26 : decode cX10_tile 26 = .ok (.ldc 125, 2) := by decide +kernel
theorem dX10_tile_28 : decode cX10_tile 28 = .ok (.invokespecial 127, 3) := by decide +kernel
theorem dX10_tile_31 : decode cX10_tile 31 = .ok (.athrow, 1) := by decide +kernel
theorem dX10_tile_32 : decode cX10_tile 32 = .ok (.aload_n 0, 1) := by decide +kernel
theorem dX10_tile_33 : decode cX10_tile 33 = .ok (.getfield 30, 3) := by decide +kernel
theorem dX10_tile_36 : decode cX10_tile 36 = .ok (.getfield 128, 3) := by decide +kernel
theorem dX10_tile_39 : decode cX10_tile 39 = .ok (.aload 5, 2) := by decide +kernel
theorem dX10_tile_41 : decode cX10_tile 41 = .ok (.iload_n 2, 1) := by decide +kernel
theorem dX10_tile_42 : decode cX10_tile 42 = .ok (.invokevirtual 132, 3) := by decide +kernel
theorem dX10_tile_45 : decode cX10_tile 45 = .ok (.aload_n 0, 1) := by decide +kernel
theorem dX10_tile_46 : decode cX10_tile 46 = .ok (.getfield 30, 3) := by decide +kernel
theorem dX10_tile_49 : decode cX10_tile 49 = .ok (.getfield 128, 3) := by decide +kernel
theorem dX10_tile_52 : decode cX10_tile 52 = .ok (.iload_n 3, 1) := by decide +kernel
theorem dX10_tile_53 : decode cX10_tile 53 = .ok (.iload 4, 2) := by decide +kernel
theorem dX10_tile_55 : decode cX10_tile 55 = .ok (.aload_n 0, 1) := by decide +kernel
theorem dX10_tile_56 : decode cX10_tile 56 = .ok (.getfield 37, 3) := by decide +kernel
theorem dX10_tile_59 : decode cX10_tile 59 = .ok (.invokevirtual 138, 3) := by decide +kernel
theorem dX10_tile_62 : decode cX10_tile 62 = .ok (.aload_n 0, 1) := by decide +kernel
theorem dX10_tile_63 : decode cX10_tile 63 = .ok (.getfield 37, 3) := by decide +kernel
theorem dX10_tile_66 : decode cX10_tile 66 = .ok (.getfield 142, 3) := by decide +kernel
theorem dX10_tile_69 : decode cX10_tile 69 = .ok (.ireturn, 1) := by decide +kernel
def tb_96 (pc : Nat) : Option mEnt := bif Nat.ble pc 36 then (bif Nat.ble pc 12 then (bif Nat.ble pc 2 then (bif Nat.ble pc 0 then (bif Nat.beq pc 0 then some (.inl (o_al 0 1)) else none) else (bif Nat.ble pc 1 then (bif Nat.beq pc 1 then some (.inl (o_il 1 1)) else none) else (bif Nat.beq pc 2 then some (.inr (3, 108, 2, 10)) else none))) else (bif Nat.ble pc 7 then (bif Nat.ble pc 5 then (bif Nat.beq pc 5 then some (.inl (o_as 5 2)) else none) else (bif Nat.beq pc 7 then some (.inl (o_al 5 2)) else none)) else (bif Nat.ble pc 9 then (bif Nat.beq pc 9 then some (.inl (o_null 22)) else none) else (bif Nat.beq pc 12 then some (.inl (o_il 2 1)) else none)))) else (bif Nat.ble pc 19 then (bif Nat.ble pc 14 then (bif Nat.ble pc 13 then (bif Nat.beq pc 13 then some (.inl (o_il 3 1)) else none) else (bif Nat.beq pc 14 then some (.inl (o_il 4 2)) else none)) else (bif Nat.ble pc 16 then (bif Nat.beq pc 16 then some (.inr (2, 111, 3, 0)) else none) else (bif Nat.beq pc 19 then some (.inl (o_zne 32)) else none))) else (bif Nat.ble pc 32 then (bif Nat.ble pc 22 then (bif Nat.beq pc 22 then some (.inr (9, 0, 6, 2)) else none) else (bif Nat.beq pc 32 then some (.inl (o_al 0 1)) else none)) else (bif Nat.ble pc 33 then (bif Nat.beq pc 33 then some (.inl (o_gP 10 4)) else none) else (bif Nat.beq pc 36 then some (.inl (o_gP 5 0)) else none))))) else (bif Nat.ble pc 52 then (bif Nat.ble pc 42 then (bif Nat.ble pc 39 then (bif Nat.beq pc 39 then some (.inl (o_al 5 2)) else none) else (bif Nat.ble pc 41 then (bif Nat.beq pc 41 then some (.inl (o_il 2 1)) else none) else (bif Nat.beq pc 42 then some (.inr (3, 82, 3, 9)) else none))) else (bif Nat.ble pc 46 then (bif Nat.ble pc 45 then (bif Nat.beq pc 45 then some (.inl (o_al 0 1)) else none) else (bif Nat.beq pc 46 then some (.inl (o_gP 10 4)) else none)) else (bif Nat.ble pc 49 then (bif Nat.beq pc 49 then some (.inl (o_gP 5 0)) else none) else (bif Nat.beq pc 52 then some (.inl (o_il 3 1)) else none)))) else (bif Nat.ble pc 59 then (bif Nat.ble pc 55 then (bif Nat.ble pc 53 then (bif Nat.beq pc 53 then some (.inl (o_il 4 2)) else none) else (bif Nat.beq pc 55 then some (.inl (o_al 0 1)) else none)) else (bif Nat.ble pc 56 then (bif Nat.beq pc 56 then some (.inl (o_gP 10 5)) else none) else (bif Nat.beq pc 59 then some (.inr (3, 88, 4, 9)) else none))) else (bif Nat.ble pc 63 then (bif Nat.ble pc 62 then (bif Nat.beq pc 62 then some (.inl (o_al 0 1)) else none) else (bif Nat.beq pc 63 then some (.inl (o_gP 10 5)) else none)) else (bif Nat.ble pc 66 then (bif Nat.beq pc 66 then some (.inl (o_gI 3 1)) else none) else (bif Nat.beq pc 69 then some (.inr (0, 0, 0, 0)) else none)))))
theorem k_96_0 : mOk M_96.1 M_96.2.1 M_96.2.2.1 M_96.2.2.2 0 (o_al 0 1) := ok_aload_n dX10_tile_0 rfl
theorem k_96_1 : mOk M_96.1 M_96.2.1 M_96.2.2.1 M_96.2.2.2 1 (o_il 1 1) := ok_iload_n dX10_tile_1 rfl
theorem k_96_5 : mOk M_96.1 M_96.2.1 M_96.2.2.1 M_96.2.2.2 5 (o_as 5 2) := ok_astore dX10_tile_5
theorem k_96_7 : mOk M_96.1 M_96.2.1 M_96.2.2.1 M_96.2.2.2 7 (o_al 5 2) := ok_aload dX10_tile_7
theorem k_96_9 : mOk M_96.1 M_96.2.1 M_96.2.2.1 M_96.2.2.2 9 (o_null 22) := ok_ifnull dX10_tile_9 (by decide)
theorem k_96_12 : mOk M_96.1 M_96.2.1 M_96.2.2.1 M_96.2.2.2 12 (o_il 2 1) := ok_iload_n dX10_tile_12 rfl
theorem k_96_13 : mOk M_96.1 M_96.2.1 M_96.2.2.1 M_96.2.2.2 13 (o_il 3 1) := ok_iload_n dX10_tile_13 rfl
theorem k_96_14 : mOk M_96.1 M_96.2.1 M_96.2.2.1 M_96.2.2.2 14 (o_il 4 2) := ok_iload dX10_tile_14
theorem k_96_19 : mOk M_96.1 M_96.2.1 M_96.2.2.1 M_96.2.2.2 19 (o_zne 32) := ok_zne dX10_tile_19 (by decide)
theorem k_96_32 : mOk M_96.1 M_96.2.1 M_96.2.2.1 M_96.2.2.2 32 (o_al 0 1) := ok_aload_n dX10_tile_32 rfl
theorem k_96_33 : mOk M_96.1 M_96.2.1 M_96.2.2.1 M_96.2.2.2 33 (o_gP 10 4) := ok_gP dX10_tile_33 f_RX10_30 rfl
theorem k_96_36 : mOk M_96.1 M_96.2.1 M_96.2.2.1 M_96.2.2.2 36 (o_gP 5 0) := ok_gP dX10_tile_36 f_RX10_128 rfl
theorem k_96_39 : mOk M_96.1 M_96.2.1 M_96.2.2.1 M_96.2.2.2 39 (o_al 5 2) := ok_aload dX10_tile_39
theorem k_96_41 : mOk M_96.1 M_96.2.1 M_96.2.2.1 M_96.2.2.2 41 (o_il 2 1) := ok_iload_n dX10_tile_41 rfl
theorem k_96_45 : mOk M_96.1 M_96.2.1 M_96.2.2.1 M_96.2.2.2 45 (o_al 0 1) := ok_aload_n dX10_tile_45 rfl
theorem k_96_46 : mOk M_96.1 M_96.2.1 M_96.2.2.1 M_96.2.2.2 46 (o_gP 10 4) := ok_gP dX10_tile_46 f_RX10_30 rfl
theorem k_96_49 : mOk M_96.1 M_96.2.1 M_96.2.2.1 M_96.2.2.2 49 (o_gP 5 0) := ok_gP dX10_tile_49 f_RX10_128 rfl
theorem k_96_52 : mOk M_96.1 M_96.2.1 M_96.2.2.1 M_96.2.2.2 52 (o_il 3 1) := ok_iload_n dX10_tile_52 rfl
theorem k_96_53 : mOk M_96.1 M_96.2.1 M_96.2.2.1 M_96.2.2.2 53 (o_il 4 2) := ok_iload dX10_tile_53
theorem k_96_55 : mOk M_96.1 M_96.2.1 M_96.2.2.1 M_96.2.2.2 55 (o_al 0 1) := ok_aload_n dX10_tile_55 rfl
theorem k_96_56 : mOk M_96.1 M_96.2.1 M_96.2.2.1 M_96.2.2.2 56 (o_gP 10 5) := ok_gP dX10_tile_56 f_RX10_37 rfl
theorem k_96_62 : mOk M_96.1 M_96.2.1 M_96.2.2.1 M_96.2.2.2 62 (o_al 0 1) := ok_aload_n dX10_tile_62 rfl
theorem k_96_63 : mOk M_96.1 M_96.2.1 M_96.2.2.1 M_96.2.2.2 63 (o_gP 10 5) := ok_gP dX10_tile_63 f_RX10_37 rfl
theorem k_96_66 : mOk M_96.1 M_96.2.1 M_96.2.2.1 M_96.2.2.2 66 (o_gI 3 1) := ok_gI dX10_tile_66 f_RX10_142 (Or.inl rfl)
set_option maxRecDepth 20000 in
set_option maxHeartbeats 4000000 in
theorem tk_96 (l : Launch) (H9 : mThr l) (H10 : mSpl l) (pc : Nat) (q : mEnt) (h : tb_96 pc = some q) : EE l 96 pc q := nd h (fun h => nd h (fun h => nd h (fun h => nd h (fun h => lf (P := EE l 96) h k_96_0) (fun h => nd h (fun h => lf (P := EE l 96) h k_96_1) (fun h => lf (P := EE l 96) h (EE_ca (by decide) (⟨m_703, m_70, ⟨by decide, by decide⟩, by decide +kernel, ⟨by decide, by decide⟩, 115, 1, by decide +kernel, Or.inr (Or.inr (Or.inl ⟨rfl, rfl, dX10_tile_2, m_700, m_702, _, rfl, by decide, m_11⟩))⟩) rfl)))) (fun h => nd h (fun h => nd h (fun h => lf (P := EE l 96) h k_96_5) (fun h => lf (P := EE l 96) h k_96_7)) (fun h => nd h (fun h => lf (P := EE l 96) h k_96_9) (fun h => lf (P := EE l 96) h k_96_12)))) (fun h => nd h (fun h => nd h (fun h => nd h (fun h => lf (P := EE l 96) h k_96_13) (fun h => lf (P := EE l 96) h k_96_14)) (fun h => nd h (fun h => lf (P := EE l 96) h (EE_ca (by decide) (⟨m_706, m_70, ⟨by decide, by decide⟩, by decide +kernel, ⟨by decide, by decide⟩, 119, 3, by decide +kernel, Or.inl ⟨rfl, rfl, dX10_tile_16, m_704, m_705⟩⟩) rfl)) (fun h => lf (P := EE l 96) h k_96_19))) (fun h => nd h (fun h => nd h (fun h => lf (P := EE l 96) h (EE_th H9 (by decide))) (fun h => lf (P := EE l 96) h k_96_32)) (fun h => nd h (fun h => lf (P := EE l 96) h k_96_33) (fun h => lf (P := EE l 96) h k_96_36))))) (fun h => nd h (fun h => nd h (fun h => nd h (fun h => lf (P := EE l 96) h k_96_39) (fun h => nd h (fun h => lf (P := EE l 96) h k_96_41) (fun h => lf (P := EE l 96) h (EE_ca (by decide) (⟨m_727, m_74, ⟨by decide, by decide⟩, by decide +kernel, ⟨by decide, by decide⟩, 132, 2, by decide +kernel, Or.inr (Or.inr (Or.inl ⟨rfl, rfl, dX10_tile_42, m_724, m_725, _, rfl, by decide, m_726⟩))⟩) rfl)))) (fun h => nd h (fun h => nd h (fun h => lf (P := EE l 96) h k_96_45) (fun h => lf (P := EE l 96) h k_96_46)) (fun h => nd h (fun h => lf (P := EE l 96) h k_96_49) (fun h => lf (P := EE l 96) h k_96_52)))) (fun h => nd h (fun h => nd h (fun h => nd h (fun h => lf (P := EE l 96) h k_96_53) (fun h => lf (P := EE l 96) h k_96_55)) (fun h => nd h (fun h => lf (P := EE l 96) h k_96_56) (fun h => lf (P := EE l 96) h (EE_ca (by decide) (⟨m_786, m_74, ⟨by decide, by decide⟩, by decide +kernel, ⟨by decide, by decide⟩, 138, 3, by decide +kernel, Or.inr (Or.inr (Or.inl ⟨rfl, rfl, dX10_tile_59, m_783, m_784, _, rfl, by decide, m_785⟩))⟩) rfl)))) (fun h => nd h (fun h => nd h (fun h => lf (P := EE l 96) h k_96_62) (fun h => lf (P := EE l 96) h k_96_63)) (fun h => nd h (fun h => lf (P := EE l 96) h k_96_66) (fun h => lf (P := EE l 96) h (EE_re (Or.inl ⟨rfl, dX10_tile_69, rfl⟩)))))))
theorem dX10_octet_0 : decode cX10_octet 0 = .ok (.iload_n 1, 1) := by decide +kernel
theorem dX10_octet_1 : decode cX10_octet 1 = .ok (.ifCond .lt 30, 3) := by decide +kernel
theorem dX10_octet_4 : decode cX10_octet 4 = .ok (.iload_n 1, 1) := by decide +kernel
theorem dX10_octet_5 : decode cX10_octet 5 = .ok (.aload_n 0, 1) := by decide +kernel
theorem dX10_octet_6 : decode cX10_octet 6 = .ok (.getfield 37, 3) := by decide +kernel
theorem dX10_octet_9 : decode cX10_octet 9 = .ok (.getfield 142, 3) := by decide +kernel
theorem dX10_octet_12 : decode cX10_octet 12 = .ok (.if_icmp .ge 19, 3) := by decide +kernel
theorem dX10_octet_15 : decode cX10_octet 15 = .ok (.aload_n 0, 1) := by decide +kernel
theorem dX10_octet_16 : decode cX10_octet 16 = .ok (.getfield 37, 3) := by decide +kernel
theorem dX10_octet_19 : decode cX10_octet 19 = .ok (.getfield 145, 3) := by decide +kernel
theorem dX10_octet_22 : decode cX10_octet 22 = .ok (.iload_n 1, 1) := by decide +kernel
theorem dX10_octet_23 : decode cX10_octet 23 = .ok (.baload, 1) := by decide +kernel
theorem dX10_octet_24 : decode cX10_octet 24 = .ok (.sipush 255, 3) := by decide +kernel
theorem dX10_octet_27 : decode cX10_octet 27 = .ok (.iand, 1) := by decide +kernel
theorem dX10_octet_28 : decode cX10_octet 28 = .ok (.goto 4, 3) := by decide +kernel
theorem dX10_octet_31 : decode cX10_octet 31 = .ok (.iconst (-1), 1) := by decide +kernel
theorem dX10_octet_32 : decode cX10_octet 32 = .ok (.ireturn, 1) := by decide +kernel
def tb_97 (pc : Nat) : Option mEnt := bif Nat.ble pc 15 then (bif Nat.ble pc 5 then (bif Nat.ble pc 1 then (bif Nat.ble pc 0 then (bif Nat.beq pc 0 then some (.inl (o_il 1 1)) else none) else (bif Nat.beq pc 1 then some (.inl (o_zlt 31)) else none)) else (bif Nat.ble pc 4 then (bif Nat.beq pc 4 then some (.inl (o_il 1 1)) else none) else (bif Nat.beq pc 5 then some (.inl (o_al 0 1)) else none))) else (bif Nat.ble pc 9 then (bif Nat.ble pc 6 then (bif Nat.beq pc 6 then some (.inl (o_gP 10 5)) else none) else (bif Nat.beq pc 9 then some (.inl (o_gI 3 1)) else none)) else (bif Nat.ble pc 12 then (bif Nat.beq pc 12 then some (.inl (o_cge 31)) else none) else (bif Nat.beq pc 15 then some (.inl (o_al 0 1)) else none)))) else (bif Nat.ble pc 23 then (bif Nat.ble pc 19 then (bif Nat.ble pc 16 then (bif Nat.beq pc 16 then some (.inl (o_gP 10 5)) else none) else (bif Nat.beq pc 19 then some (.inl (o_gP 3 0)) else none)) else (bif Nat.ble pc 22 then (bif Nat.beq pc 22 then some (.inl (o_il 1 1)) else none) else (bif Nat.beq pc 23 then some (.inl (o_bald)) else none))) else (bif Nat.ble pc 27 then (bif Nat.ble pc 24 then (bif Nat.beq pc 24 then some (.inl (oS 3 (s_push (.int 255)))) else none) else (bif Nat.beq pc 27 then some (.inl (oS 1 (s_ii (fun a b => a &&& b)))) else none)) else (bif Nat.ble pc 28 then (bif Nat.beq pc 28 then some (.inl (o_goto 32)) else none) else (bif Nat.ble pc 31 then (bif Nat.beq pc 31 then some (.inl (oS 1 (s_push (.int (-1))))) else none) else (bif Nat.beq pc 32 then some (.inr (0, 0, 0, 0)) else none)))))
theorem k_97_0 : mOk M_97.1 M_97.2.1 M_97.2.2.1 M_97.2.2.2 0 (o_il 1 1) := ok_iload_n dX10_octet_0 rfl
theorem k_97_1 : mOk M_97.1 M_97.2.1 M_97.2.2.1 M_97.2.2.2 1 (o_zlt 31) := ok_zlt dX10_octet_1 (by decide)
theorem k_97_4 : mOk M_97.1 M_97.2.1 M_97.2.2.1 M_97.2.2.2 4 (o_il 1 1) := ok_iload_n dX10_octet_4 rfl
theorem k_97_5 : mOk M_97.1 M_97.2.1 M_97.2.2.1 M_97.2.2.2 5 (o_al 0 1) := ok_aload_n dX10_octet_5 rfl
theorem k_97_6 : mOk M_97.1 M_97.2.1 M_97.2.2.1 M_97.2.2.2 6 (o_gP 10 5) := ok_gP dX10_octet_6 f_RX10_37 rfl
theorem k_97_9 : mOk M_97.1 M_97.2.1 M_97.2.2.1 M_97.2.2.2 9 (o_gI 3 1) := ok_gI dX10_octet_9 f_RX10_142 (Or.inl rfl)
theorem k_97_12 : mOk M_97.1 M_97.2.1 M_97.2.2.1 M_97.2.2.2 12 (o_cge 31) := ok_cge dX10_octet_12 (by decide)
theorem k_97_15 : mOk M_97.1 M_97.2.1 M_97.2.2.1 M_97.2.2.2 15 (o_al 0 1) := ok_aload_n dX10_octet_15 rfl
theorem k_97_16 : mOk M_97.1 M_97.2.1 M_97.2.2.1 M_97.2.2.2 16 (o_gP 10 5) := ok_gP dX10_octet_16 f_RX10_37 rfl
theorem k_97_19 : mOk M_97.1 M_97.2.1 M_97.2.2.1 M_97.2.2.2 19 (o_gP 3 0) := ok_gP dX10_octet_19 f_RX10_145 rfl
theorem k_97_22 : mOk M_97.1 M_97.2.1 M_97.2.2.1 M_97.2.2.2 22 (o_il 1 1) := ok_iload_n dX10_octet_22 rfl
theorem k_97_23 : mOk M_97.1 M_97.2.1 M_97.2.2.1 M_97.2.2.2 23 (o_bald) := ok_bald dX10_octet_23
theorem k_97_24 : mOk M_97.1 M_97.2.1 M_97.2.2.1 M_97.2.2.2 24 (oS 3 (s_push (.int 255))) := ok_sipush dX10_octet_24 (by decide)
theorem k_97_27 : mOk M_97.1 M_97.2.1 M_97.2.2.1 M_97.2.2.2 27 (oS 1 (s_ii (fun a b => a &&& b))) := ok_iand dX10_octet_27
theorem k_97_28 : mOk M_97.1 M_97.2.1 M_97.2.2.1 M_97.2.2.2 28 (o_goto 32) := ok_goto dX10_octet_28 (by decide)
theorem k_97_31 : mOk M_97.1 M_97.2.1 M_97.2.2.1 M_97.2.2.2 31 (oS 1 (s_push (.int (-1)))) := ok_iconst dX10_octet_31 (by decide)
set_option maxRecDepth 20000 in
set_option maxHeartbeats 4000000 in
theorem tk_97 (l : Launch) (H9 : mThr l) (H10 : mSpl l) (pc : Nat) (q : mEnt) (h : tb_97 pc = some q) : EE l 97 pc q := nd h (fun h => nd h (fun h => nd h (fun h => nd h (fun h => lf (P := EE l 97) h k_97_0) (fun h => lf (P := EE l 97) h k_97_1)) (fun h => nd h (fun h => lf (P := EE l 97) h k_97_4) (fun h => lf (P := EE l 97) h k_97_5))) (fun h => nd h (fun h => nd h (fun h => lf (P := EE l 97) h k_97_6) (fun h => lf (P := EE l 97) h k_97_9)) (fun h => nd h (fun h => lf (P := EE l 97) h k_97_12) (fun h => lf (P := EE l 97) h k_97_15)))) (fun h => nd h (fun h => nd h (fun h => nd h (fun h => lf (P := EE l 97) h k_97_16) (fun h => lf (P := EE l 97) h k_97_19)) (fun h => nd h (fun h => lf (P := EE l 97) h k_97_22) (fun h => lf (P := EE l 97) h k_97_23))) (fun h => nd h (fun h => nd h (fun h => lf (P := EE l 97) h k_97_24) (fun h => lf (P := EE l 97) h k_97_27)) (fun h => nd h (fun h => lf (P := EE l 97) h k_97_28) (fun h => nd h (fun h => lf (P := EE l 97) h k_97_31) (fun h => lf (P := EE l 97) h (EE_re (Or.inl ⟨rfl, dX10_octet_32, rfl⟩)))))))
theorem dX10_region_0 : decode cX10_region 0 = .ok (.iload_n 1, 1) := by decide +kernel
theorem dX10_region_1 : decode cX10_region 1 = .ok (.iload_n 3, 1) := by decide +kernel
theorem dX10_region_2 : decode cX10_region 2 = .ok (.if_icmp .gt 13, 3) := by decide +kernel
theorem dX10_region_5 : decode cX10_region 5 = .ok (.iload_n 2, 1) := by decide +kernel
theorem dX10_region_6 : decode cX10_region 6 = .ok (.iload 4, 2) := by decide +kernel
theorem dX10_region_8 : decode cX10_region 8 = .ok (.if_icmp .gt 7, 3) := by decide +kernel
theorem dX10_region_11 : decode cX10_region 11 = .ok (.iconst 1, 1) := by decide +kernel
theorem dX10_region_12 : decode cX10_region 12 = .ok (.goto 4, 3) := by decide +kernel
theorem dX10_region_15 : decode cX10_region 15 = .ok (.iconst 0, 1) := by decide +kernel
theorem dX10_region_16 : decode cX10_region 16 = .ok (.istore 6, 2) := by decide +kernel
theorem dX10_region_18 : decode cX10_region 18 = .ok (.iload 6, 2) := by decide +kernel
theorem dX10_region_20 : decode cX10_region 20 = .ok (.ifCond .eq 28, 3) := by decide +kernel
theorem dX10_region_23 : decode cX10_region 23 = .ok (.iload_n 1, 1) := by decide +kernel
theorem dX10_region_24 : decode cX10_region 24 = .ok (.iload_n 2, 1) := by decide +kernel
theorem dX10_region_25 : decode cX10_region 25 = .ok (.invokestatic 149, 3) := by decide +kernel
theorem dX10_region_28 : decode cX10_region 28 = .ok (.ifCond .eq 20, 3) := by decide +kernel
theorem dX10_region_31 : decode cX10_region 31 = .ok (.iload_n 3, 1) := by decide +kernel
theorem dX10_region_32 : decode cX10_region 32 = .ok (.iload 4, 2) := by decide +kernel
theorem dX10_region_34 : decode cX10_region 34 = .ok (.invokestatic 149, 3) := by decide +kernel
theorem dX10_region_37 : decode cX10_region 37 = .ok (.ifCond .eq 11, 3) := by decide +kernel
theorem dX10_region_40 : decode cX10_region 40 = .ok (.iload 5, 2) := by decide +kernel
theorem dX10_region_42 : decode cX10_region 42 = .ok (.invokestatic 152, 3) := by decide +kernel
theorem dX10_region_45 : decode cX10_region 45 = .ok (.ifCond .ne 13, 3) := by decide +kernel
theorem dX10_region_48 : decode cX10_region 48 = .ok (.new 91, 3) := by decide +kernel
theorem dX10_region_51 : decode cX10_region 51 = .ok (.dup, 1) := by decide +kernel
theorem dX10_region_52 : decode cX10_region 52 = .ok (.ldc 155, 2) := by decide +kernel
theorem dX10_region_54 : decode cX10_region 54 = .ok (.invokespecial 95, 3) := by decide +kernel
theorem dX10_region_57 : decode cX10_region 57 = .ok (.athrow, 1) := by decide +kernel
theorem dX10_region_58 : decode cX10_region 58 = .ok (.aload_n 0, 1) := by decide +kernel
theorem dX10_region_59 : decode cX10_region 59 = .ok (.getfield 44, 3) := by decide +kernel
theorem dX10_region_62 : decode cX10_region 62 = .ok (.iload_n 1, 1) := by decide +kernel
theorem dX10_region_63 : decode cX10_region 63 = .ok (.iload_n 2, 1) := by decide +kernel
theorem dX10_region_64 : decode cX10_region 64 = .ok (.iload_n 3, 1) := by decide +kernel
theorem dX10_region_65 : decode cX10_region 65 = .ok (.iload 4, 2) := by decide +kernel
theorem dX10_region_67 : decode cX10_region 67 = .ok (.iload 5, 2) := by decide +kernel
theorem dX10_region_69 : decode cX10_region 69 = .ok (.invokevirtual 157, 3) := by decide +kernel
theorem dX10_region_72 : decode cX10_region 72 = .ok (.aload_n 0, 1) := by decide +kernel
theorem dX10_region_73 : decode cX10_region 73 = .ok (.iconst 1, 1) := by decide +kernel
theorem dX10_region_74 : decode cX10_region 74 = .ok (.putfield 161, 3) := by decide +kernel
theorem dX10_region_77 : decode cX10_region 77 = .ok (.aload_n 0, 1) := by decide +kernel
theorem dX10_region_78 : decode cX10_region 78 = .ok (.iconst 0, 1) := by decide +kernel
theorem dX10_region_79 : decode cX10_region 79 = .ok (.putfield 165, 3) := by decide +kernel
theorem dX10_region_82 : decode cX10_region 82 = .ok (.return_, 1) := by decide +kernel
def tb_98 (pc : Nat) : Option mEnt := bif Nat.ble pc 34 then (bif Nat.ble pc 15 then (bif Nat.ble pc 5 then (bif Nat.ble pc 1 then (bif Nat.ble pc 0 then (bif Nat.beq pc 0 then some (.inl (o_il 1 1)) else none) else (bif Nat.beq pc 1 then some (.inl (o_il 3 1)) else none)) else (bif Nat.ble pc 2 then (bif Nat.beq pc 2 then some (.inl (o_cgt 15)) else none) else (bif Nat.beq pc 5 then some (.inl (o_il 2 1)) else none))) else (bif Nat.ble pc 8 then (bif Nat.ble pc 6 then (bif Nat.beq pc 6 then some (.inl (o_il 4 2)) else none) else (bif Nat.beq pc 8 then some (.inl (o_cgt 15)) else none)) else (bif Nat.ble pc 11 then (bif Nat.beq pc 11 then some (.inl (oS 1 (s_push (.int 1)))) else none) else (bif Nat.ble pc 12 then (bif Nat.beq pc 12 then some (.inl (o_goto 16)) else none) else (bif Nat.beq pc 15 then some (.inl (oS 1 (s_push (.int 0)))) else none))))) else (bif Nat.ble pc 24 then (bif Nat.ble pc 18 then (bif Nat.ble pc 16 then (bif Nat.beq pc 16 then some (.inl (o_is 6 2)) else none) else (bif Nat.beq pc 18 then some (.inl (o_il 6 2)) else none)) else (bif Nat.ble pc 20 then (bif Nat.beq pc 20 then some (.inl (o_zeq 48)) else none) else (bif Nat.ble pc 23 then (bif Nat.beq pc 23 then some (.inl (o_il 1 1)) else none) else (bif Nat.beq pc 24 then some (.inl (o_il 2 1)) else none)))) else (bif Nat.ble pc 28 then (bif Nat.ble pc 25 then (bif Nat.beq pc 25 then some (.inr (2, 109, 2, 0)) else none) else (bif Nat.beq pc 28 then some (.inl (o_zeq 48)) else none)) else (bif Nat.ble pc 31 then (bif Nat.beq pc 31 then some (.inl (o_il 3 1)) else none) else (bif Nat.ble pc 32 then (bif Nat.beq pc 32 then some (.inl (o_il 4 2)) else none) else (bif Nat.beq pc 34 then some (.inr (2, 109, 2, 0)) else none)))))) else (bif Nat.ble pc 64 then (bif Nat.ble pc 48 then (bif Nat.ble pc 40 then (bif Nat.ble pc 37 then (bif Nat.beq pc 37 then some (.inl (o_zeq 48)) else none) else (bif Nat.beq pc 40 then some (.inl (o_il 5 2)) else none)) else (bif Nat.ble pc 42 then (bif Nat.beq pc 42 then some (.inr (2, 110, 1, 0)) else none) else (bif Nat.ble pc 45 then (bif Nat.beq pc 45 then some (.inl (o_zne 58)) else none) else (bif Nat.beq pc 48 then some (.inr (9, 0, 6, 0)) else none)))) else (bif Nat.ble pc 59 then (bif Nat.ble pc 58 then (bif Nat.beq pc 58 then some (.inl (o_al 0 1)) else none) else (bif Nat.beq pc 59 then some (.inl (o_gP 10 6)) else none)) else (bif Nat.ble pc 62 then (bif Nat.beq pc 62 then some (.inl (o_il 1 1)) else none) else (bif Nat.ble pc 63 then (bif Nat.beq pc 63 then some (.inl (o_il 2 1)) else none) else (bif Nat.beq pc 64 then some (.inl (o_il 3 1)) else none))))) else (bif Nat.ble pc 73 then (bif Nat.ble pc 67 then (bif Nat.ble pc 65 then (bif Nat.beq pc 65 then some (.inl (o_il 4 2)) else none) else (bif Nat.beq pc 67 then some (.inl (o_il 5 2)) else none)) else (bif Nat.ble pc 69 then (bif Nat.beq pc 69 then some (.inr (3, 71, 6, 7)) else none) else (bif Nat.ble pc 72 then (bif Nat.beq pc 72 then some (.inl (o_al 0 1)) else none) else (bif Nat.beq pc 73 then some (.inl (oS 1 (s_push (.int 1)))) else none)))) else (bif Nat.ble pc 77 then (bif Nat.ble pc 74 then (bif Nat.beq pc 74 then some (.inl (o_pZ 10 7)) else none) else (bif Nat.beq pc 77 then some (.inl (o_al 0 1)) else none)) else (bif Nat.ble pc 78 then (bif Nat.beq pc 78 then some (.inl (oS 1 (s_push (.int 0)))) else none) else (bif Nat.ble pc 79 then (bif Nat.beq pc 79 then some (.inl (o_pZ 10 13)) else none) else (bif Nat.beq pc 82 then some (.inr (0, 0, 0, 3)) else none))))))
theorem k_98_0 : mOk M_98.1 M_98.2.1 M_98.2.2.1 M_98.2.2.2 0 (o_il 1 1) := ok_iload_n dX10_region_0 rfl
theorem k_98_1 : mOk M_98.1 M_98.2.1 M_98.2.2.1 M_98.2.2.2 1 (o_il 3 1) := ok_iload_n dX10_region_1 rfl
theorem k_98_2 : mOk M_98.1 M_98.2.1 M_98.2.2.1 M_98.2.2.2 2 (o_cgt 15) := ok_cgt dX10_region_2 (by decide)
theorem k_98_5 : mOk M_98.1 M_98.2.1 M_98.2.2.1 M_98.2.2.2 5 (o_il 2 1) := ok_iload_n dX10_region_5 rfl
theorem k_98_6 : mOk M_98.1 M_98.2.1 M_98.2.2.1 M_98.2.2.2 6 (o_il 4 2) := ok_iload dX10_region_6
theorem k_98_8 : mOk M_98.1 M_98.2.1 M_98.2.2.1 M_98.2.2.2 8 (o_cgt 15) := ok_cgt dX10_region_8 (by decide)
theorem k_98_11 : mOk M_98.1 M_98.2.1 M_98.2.2.1 M_98.2.2.2 11 (oS 1 (s_push (.int 1))) := ok_iconst dX10_region_11 (by decide)
theorem k_98_12 : mOk M_98.1 M_98.2.1 M_98.2.2.1 M_98.2.2.2 12 (o_goto 16) := ok_goto dX10_region_12 (by decide)
theorem k_98_15 : mOk M_98.1 M_98.2.1 M_98.2.2.1 M_98.2.2.2 15 (oS 1 (s_push (.int 0))) := ok_iconst dX10_region_15 (by decide)
theorem k_98_16 : mOk M_98.1 M_98.2.1 M_98.2.2.1 M_98.2.2.2 16 (o_is 6 2) := ok_istore dX10_region_16
theorem k_98_18 : mOk M_98.1 M_98.2.1 M_98.2.2.1 M_98.2.2.2 18 (o_il 6 2) := ok_iload dX10_region_18
theorem k_98_20 : mOk M_98.1 M_98.2.1 M_98.2.2.1 M_98.2.2.2 20 (o_zeq 48) := ok_zeq dX10_region_20 (by decide)
theorem k_98_23 : mOk M_98.1 M_98.2.1 M_98.2.2.1 M_98.2.2.2 23 (o_il 1 1) := ok_iload_n dX10_region_23 rfl
theorem k_98_24 : mOk M_98.1 M_98.2.1 M_98.2.2.1 M_98.2.2.2 24 (o_il 2 1) := ok_iload_n dX10_region_24 rfl
theorem k_98_28 : mOk M_98.1 M_98.2.1 M_98.2.2.1 M_98.2.2.2 28 (o_zeq 48) := ok_zeq dX10_region_28 (by decide)
theorem k_98_31 : mOk M_98.1 M_98.2.1 M_98.2.2.1 M_98.2.2.2 31 (o_il 3 1) := ok_iload_n dX10_region_31 rfl
theorem k_98_32 : mOk M_98.1 M_98.2.1 M_98.2.2.1 M_98.2.2.2 32 (o_il 4 2) := ok_iload dX10_region_32
theorem k_98_37 : mOk M_98.1 M_98.2.1 M_98.2.2.1 M_98.2.2.2 37 (o_zeq 48) := ok_zeq dX10_region_37 (by decide)
theorem k_98_40 : mOk M_98.1 M_98.2.1 M_98.2.2.1 M_98.2.2.2 40 (o_il 5 2) := ok_iload dX10_region_40
theorem k_98_45 : mOk M_98.1 M_98.2.1 M_98.2.2.1 M_98.2.2.2 45 (o_zne 58) := ok_zne dX10_region_45 (by decide)
theorem k_98_58 : mOk M_98.1 M_98.2.1 M_98.2.2.1 M_98.2.2.2 58 (o_al 0 1) := ok_aload_n dX10_region_58 rfl
theorem k_98_59 : mOk M_98.1 M_98.2.1 M_98.2.2.1 M_98.2.2.2 59 (o_gP 10 6) := ok_gP dX10_region_59 f_RX10_44 rfl
theorem k_98_62 : mOk M_98.1 M_98.2.1 M_98.2.2.1 M_98.2.2.2 62 (o_il 1 1) := ok_iload_n dX10_region_62 rfl
theorem k_98_63 : mOk M_98.1 M_98.2.1 M_98.2.2.1 M_98.2.2.2 63 (o_il 2 1) := ok_iload_n dX10_region_63 rfl
theorem k_98_64 : mOk M_98.1 M_98.2.1 M_98.2.2.1 M_98.2.2.2 64 (o_il 3 1) := ok_iload_n dX10_region_64 rfl
theorem k_98_65 : mOk M_98.1 M_98.2.1 M_98.2.2.1 M_98.2.2.2 65 (o_il 4 2) := ok_iload dX10_region_65
theorem k_98_67 : mOk M_98.1 M_98.2.1 M_98.2.2.1 M_98.2.2.2 67 (o_il 5 2) := ok_iload dX10_region_67
theorem k_98_72 : mOk M_98.1 M_98.2.1 M_98.2.2.1 M_98.2.2.2 72 (o_al 0 1) := ok_aload_n dX10_region_72 rfl
theorem k_98_73 : mOk M_98.1 M_98.2.1 M_98.2.2.1 M_98.2.2.2 73 (oS 1 (s_push (.int 1))) := ok_iconst dX10_region_73 (by decide)
theorem k_98_74 : mOk M_98.1 M_98.2.1 M_98.2.2.1 M_98.2.2.2 74 (o_pZ 10 7) := ok_pZ dX10_region_74 (mFw_of f_RX10_161_c (Or.inl rfl)) rfl
theorem k_98_77 : mOk M_98.1 M_98.2.1 M_98.2.2.1 M_98.2.2.2 77 (o_al 0 1) := ok_aload_n dX10_region_77 rfl
theorem k_98_78 : mOk M_98.1 M_98.2.1 M_98.2.2.1 M_98.2.2.2 78 (oS 1 (s_push (.int 0))) := ok_iconst dX10_region_78 (by decide)
theorem k_98_79 : mOk M_98.1 M_98.2.1 M_98.2.2.1 M_98.2.2.2 79 (o_pZ 10 13) := ok_pZ dX10_region_79 (mFw_of f_RX10_165_c (Or.inl rfl)) rfl
set_option maxRecDepth 20000 in
set_option maxHeartbeats 4000000 in
theorem tk_98 (l : Launch) (H9 : mThr l) (H10 : mSpl l) (pc : Nat) (q : mEnt) (h : tb_98 pc = some q) : EE l 98 pc q := nd h (fun h => nd h (fun h => nd h (fun h => nd h (fun h => nd h (fun h => lf (P := EE l 98) h k_98_0) (fun h => lf (P := EE l 98) h k_98_1)) (fun h => nd h (fun h => lf (P := EE l 98) h k_98_2) (fun h => lf (P := EE l 98) h k_98_5))) (fun h => nd h (fun h => nd h (fun h => lf (P := EE l 98) h k_98_6) (fun h => lf (P := EE l 98) h k_98_8)) (fun h => nd h (fun h => lf (P := EE l 98) h k_98_11) (fun h => nd h (fun h => lf (P := EE l 98) h k_98_12) (fun h => lf (P := EE l 98) h k_98_15))))) (fun h => nd h (fun h => nd h (fun h => nd h (fun h => lf (P := EE l 98) h k_98_16) (fun h => lf (P := EE l 98) h k_98_18)) (fun h => nd h (fun h => lf (P := EE l 98) h k_98_20) (fun h => nd h (fun h => lf (P := EE l 98) h k_98_23) (fun h => lf (P := EE l 98) h k_98_24)))) (fun h => nd h (fun h => nd h (fun h => lf (P := EE l 98) h (EE_ca (by decide) (⟨m_471, m_70, ⟨by decide, by decide⟩, by decide +kernel, ⟨by decide, by decide⟩, 149, 2, by decide +kernel, Or.inl ⟨rfl, rfl, dX10_region_25, m_856, m_470⟩⟩) rfl)) (fun h => lf (P := EE l 98) h k_98_28)) (fun h => nd h (fun h => lf (P := EE l 98) h k_98_31) (fun h => nd h (fun h => lf (P := EE l 98) h k_98_32) (fun h => lf (P := EE l 98) h (EE_ca (by decide) (⟨m_471, m_70, ⟨by decide, by decide⟩, by decide +kernel, ⟨by decide, by decide⟩, 149, 2, by decide +kernel, Or.inl ⟨rfl, rfl, dX10_region_34, m_856, m_470⟩⟩) rfl))))))) (fun h => nd h (fun h => nd h (fun h => nd h (fun h => nd h (fun h => lf (P := EE l 98) h k_98_37) (fun h => lf (P := EE l 98) h k_98_40)) (fun h => nd h (fun h => lf (P := EE l 98) h (EE_ca (by decide) (⟨m_548, m_70, ⟨by decide, by decide⟩, by decide +kernel, ⟨by decide, by decide⟩, 152, 1, by decide +kernel, Or.inl ⟨rfl, rfl, dX10_region_42, m_707, m_547⟩⟩) rfl)) (fun h => nd h (fun h => lf (P := EE l 98) h k_98_45) (fun h => lf (P := EE l 98) h (EE_th H9 (by decide)))))) (fun h => nd h (fun h => nd h (fun h => lf (P := EE l 98) h k_98_58) (fun h => lf (P := EE l 98) h k_98_59)) (fun h => nd h (fun h => lf (P := EE l 98) h k_98_62) (fun h => nd h (fun h => lf (P := EE l 98) h k_98_63) (fun h => lf (P := EE l 98) h k_98_64))))) (fun h => nd h (fun h => nd h (fun h => nd h (fun h => lf (P := EE l 98) h k_98_65) (fun h => lf (P := EE l 98) h k_98_67)) (fun h => nd h (fun h => lf (P := EE l 98) h (EE_ca (by decide) (⟨m_861, m_78, ⟨by decide, by decide⟩, by decide +kernel, ⟨by decide, by decide⟩, 157, 5, by decide +kernel, Or.inr (Or.inr (Or.inl ⟨rfl, rfl, dX10_region_69, m_858, m_859, _, rfl, by decide, m_860⟩))⟩) rfl)) (fun h => nd h (fun h => lf (P := EE l 98) h k_98_72) (fun h => lf (P := EE l 98) h k_98_73)))) (fun h => nd h (fun h => nd h (fun h => lf (P := EE l 98) h k_98_74) (fun h => lf (P := EE l 98) h k_98_77)) (fun h => nd h (fun h => lf (P := EE l 98) h k_98_78) (fun h => nd h (fun h => lf (P := EE l 98) h k_98_79) (fun h => lf (P := EE l 98) h (EE_re (Or.inr (Or.inr (Or.inr (Or.inr ⟨rfl, dX10_region_82, rfl⟩)))))))))))
theorem dX10_extract_0 : decode cX10_extract 0 = .ok (.aload_n 0, 1) := by decide +kernel
theorem dX10_extract_1 : decode cX10_extract 1 = .ok (.iload_n 1, 1) := by decide +kernel
theorem dX10_extract_2 : decode cX10_extract 2 = .ok (.invokevirtual 115, 3) := by decide +kernel
theorem dX10_extract_5 : decode cX10_extract 5 = .ok (.astore_n 2, 1) := by decide +kernel
theorem dX10_extract_6 : decode cX10_extract 6 = .ok (.aload_n 2, 1) := by decide +kernel
theorem dX10_extract_7 : decode cX10_extract 7 = .ok (.ifnonnull 13, 3) := by decide +kernel
theorem dX10_extract_10 : decode cX10_extract 10 = .ok (.new 123, 3) := by decide +kernel
theorem dX10_extract_13 : decode cX10_extract 13 = .ok (.dup, 1) := by decide +kernel
theorem dX10_extract_14 : decode cX10_extract 14 = .ok (.ldc 168, 2) := by decide +kernel
theorem dX10_extract_16 : decode cX10_extract 16 = .ok (.invokespecial 127, 3) := by decide +kernel
theorem dX10_extract_19 : decode cX10_extract 19 = .ok (.athrow, 1) := by decide +kernel
theorem dX10_extract_20 : decode cX10_extract 20 = .ok (.aload_n 0, 1) := by decide +kernel
theorem dX10_extract_21 : decode cX10_extract 21 = .ok (.getfield 161, 3) := by decide +kernel
theorem dX10_extract_24 : decode cX10_extract 24 = .ok (.ifCond .eq 23, 3) := by decide +kernel
theorem dX10_extract_27 : decode cX10_extract 27 = .ok (.aload_n 0, 1) := by decide +kernel
theorem dX10_extract_28 : decode cX10_extract 28 = .ok (.getfield 30, 3) := by decide +kernel
theorem dX10_extract_31 : decode cX10_extract 31 = .ok (.aload_n 0, 1) := by decide +kernel
theorem dX10_extract_32 : decode cX10_extract 32 = .ok (.getfield 55, 3) := by decide +kernel
theorem dX10_extract_35 : decode cX10_extract 35 = .ok (.aload_n 2, 1) := by decide +kernel
theorem dX10_extract_36 : decode cX10_extract 36 = .ok (.iload_n 1, 1) := by decide +kernel
theorem dX10_extract_37 : decode cX10_extract 37 = .ok (.aload_n 0, 1) := by decide +kernel
theorem dX10_extract_38 : decode cX10_extract 38 = .ok (.getfield 44, 3) := by decide +kernel
theorem dX10_extract_41 : decode cX10_extract 41 = .ok (.invokevirtual 170, 3) := by decide +kernel
theorem dX10_extract_44 : decode cX10_extract 44 = .ok (.ifCond .ne 13, 3) := by decide +kernel
theorem dX10_extract_47 : decode cX10_extract 47 = .ok (.new 98, 3) := by decide +kernel
theorem dX10_extract_50 : decode cX10_extract 50 = .ok (.dup, 1) := by decide +kernel
theorem dX10_extract_51 : decode cX10_extract 51 = .ok (.ldc 174, 2) := by decide +kernel
theorem dX10_extract_53 : decode cX10_extract 53 = .ok (.invokespecial 102, 3) := by decide +kernel
theorem dX10_extract_56 : decode cX10_extract 56 = .ok (.athrow, 1) := by decide +kernel
theorem dX10_extract_57 : decode cX10_extract 57 = .ok (.aload_n 0, 1) := by decide +kernel
theorem dX10_extract_58 : decode cX10_extract 58 = .ok (.getfield 51, 3) := by decide +kernel
theorem dX10_extract_61 : decode cX10_extract 61 = .ok (.astore_n 3, 1) := by decide +kernel
theorem dX10_extract_62 : decode cX10_extract 62 = .ok (.aload_n 0, 1) := by decide +kernel
theorem dX10_extract_63 : decode cX10_extract 63 = .ok (.aload_n 0, 1) := by decide +kernel
theorem dX10_extract_64 : decode cX10_extract 64 = .ok (.getfield 55, 3) := by decide +kernel
theorem dX10_extract_67 : decode cX10_extract 67 = .ok (.putfield 51, 3) := by decide +kernel
theorem dX10_extract_70 : decode cX10_extract 70 = .ok (.aload_n 0, 1) := by decide +kernel
theorem dX10_extract_71 : decode cX10_extract 71 = .ok (.aload_n 3, 1) := by decide +kernel
theorem dX10_extract_72 : decode cX10_extract 72 = .ok (.putfield 55, 3) := by decide +kernel
theorem dX10_extract_75 : decode cX10_extract 75 = .ok (.aload_n 0, 1) := by decide +kernel
theorem dX10_extract_76 : decode cX10_extract 76 = .ok (.iconst 1, 1) := by decide +kernel
theorem dX10_extract_77 : decode cX10_extract 77 = .ok (.putfield 176, 3) := by decide +kernel
theorem dX10_extract_80 : decode cX10_extract 80 = .ok (.aload_n 0, 1) := by decide +kernel
theorem dX10_extract_81 : decode cX10_extract 81 = .ok (.getfield 51, 3) := by decide +kernel
theorem dX10_extract_84 : decode cX10_extract 84 = .ok (.getfield 179, 3) := by decide +kernel
theorem dX10_extract_87 : decode cX10_extract 87 = .ok (.ireturn, 1) := by decide +kernel
def tb_99 (pc : Nat) : Option mEnt := bif Nat.ble pc 41 then (bif Nat.ble pc 21 then (bif Nat.ble pc 5 then (bif Nat.ble pc 1 then (bif Nat.ble pc 0 then (bif Nat.beq pc 0 then some (.inl (o_al 0 1)) else none) else (bif Nat.beq pc 1 then some (.inl (o_il 1 1)) else none)) else (bif Nat.ble pc 2 then (bif Nat.beq pc 2 then some (.inr (3, 108, 2, 10)) else none) else (bif Nat.beq pc 5 then some (.inl (o_as 2 1)) else none))) else (bif Nat.ble pc 7 then (bif Nat.ble pc 6 then (bif Nat.beq pc 6 then some (.inl (o_al 2 1)) else none) else (bif Nat.beq pc 7 then some (.inl (o_nnull 20)) else none)) else (bif Nat.ble pc 10 then (bif Nat.beq pc 10 then some (.inr (9, 0, 6, 2)) else none) else (bif Nat.ble pc 20 then (bif Nat.beq pc 20 then some (.inl (o_al 0 1)) else none) else (bif Nat.beq pc 21 then some (.inl (o_gI 10 7)) else none))))) else (bif Nat.ble pc 32 then (bif Nat.ble pc 27 then (bif Nat.ble pc 24 then (bif Nat.beq pc 24 then some (.inl (o_zeq 47)) else none) else (bif Nat.beq pc 27 then some (.inl (o_al 0 1)) else none)) else (bif Nat.ble pc 28 then (bif Nat.beq pc 28 then some (.inl (o_gP 10 4)) else none) else (bif Nat.ble pc 31 then (bif Nat.beq pc 31 then some (.inl (o_al 0 1)) else none) else (bif Nat.beq pc 32 then some (.inl (o_gP 10 9)) else none)))) else (bif Nat.ble pc 36 then (bif Nat.ble pc 35 then (bif Nat.beq pc 35 then some (.inl (o_al 2 1)) else none) else (bif Nat.beq pc 36 then some (.inl (o_il 1 1)) else none)) else (bif Nat.ble pc 37 then (bif Nat.beq pc 37 then some (.inl (o_al 0 1)) else none) else (bif Nat.ble pc 38 then (bif Nat.beq pc 38 then some (.inl (o_gP 10 6)) else none) else (bif Nat.beq pc 41 then some (.inr (3, 54, 5, 5)) else none)))))) else (bif Nat.ble pc 67 then (bif Nat.ble pc 58 then (bif Nat.ble pc 47 then (bif Nat.ble pc 44 then (bif Nat.beq pc 44 then some (.inl (o_zne 57)) else none) else (bif Nat.beq pc 47 then some (.inr (9, 0, 6, 1)) else none)) else (bif Nat.ble pc 57 then (bif Nat.beq pc 57 then some (.inl (o_al 0 1)) else none) else (bif Nat.beq pc 58 then some (.inl (o_gP 10 8)) else none))) else (bif Nat.ble pc 62 then (bif Nat.ble pc 61 then (bif Nat.beq pc 61 then some (.inl (o_as 3 1)) else none) else (bif Nat.beq pc 62 then some (.inl (o_al 0 1)) else none)) else (bif Nat.ble pc 63 then (bif Nat.beq pc 63 then some (.inl (o_al 0 1)) else none) else (bif Nat.ble pc 64 then (bif Nat.beq pc 64 then some (.inl (o_gP 10 9)) else none) else (bif Nat.beq pc 67 then some (.inl (o_pP 10 8)) else none))))) else (bif Nat.ble pc 76 then (bif Nat.ble pc 71 then (bif Nat.ble pc 70 then (bif Nat.beq pc 70 then some (.inl (o_al 0 1)) else none) else (bif Nat.beq pc 71 then some (.inl (o_al 3 1)) else none)) else (bif Nat.ble pc 72 then (bif Nat.beq pc 72 then some (.inl (o_pP 10 9)) else none) else (bif Nat.ble pc 75 then (bif Nat.beq pc 75 then some (.inl (o_al 0 1)) else none) else (bif Nat.beq pc 76 then some (.inl (oS 1 (s_push (.int 1)))) else none)))) else (bif Nat.ble pc 80 then (bif Nat.ble pc 77 then (bif Nat.beq pc 77 then some (.inl (o_pZ 10 10)) else none) else (bif Nat.beq pc 80 then some (.inl (o_al 0 1)) else none)) else (bif Nat.ble pc 81 then (bif Nat.beq pc 81 then some (.inl (o_gP 10 8)) else none) else (bif Nat.ble pc 84 then (bif Nat.beq pc 84 then some (.inl (o_gI 4 3)) else none) else (bif Nat.beq pc 87 then some (.inr (0, 0, 0, 0)) else none))))))
theorem k_99_0 : mOk M_99.1 M_99.2.1 M_99.2.2.1 M_99.2.2.2 0 (o_al 0 1) := ok_aload_n dX10_extract_0 rfl
theorem k_99_1 : mOk M_99.1 M_99.2.1 M_99.2.2.1 M_99.2.2.2 1 (o_il 1 1) := ok_iload_n dX10_extract_1 rfl
theorem k_99_5 : mOk M_99.1 M_99.2.1 M_99.2.2.1 M_99.2.2.2 5 (o_as 2 1) := ok_astore_n dX10_extract_5 rfl
theorem k_99_6 : mOk M_99.1 M_99.2.1 M_99.2.2.1 M_99.2.2.2 6 (o_al 2 1) := ok_aload_n dX10_extract_6 rfl
theorem k_99_7 : mOk M_99.1 M_99.2.1 M_99.2.2.1 M_99.2.2.2 7 (o_nnull 20) := ok_ifnonnull dX10_extract_7 (by decide)
theorem k_99_20 : mOk M_99.1 M_99.2.1 M_99.2.2.1 M_99.2.2.2 20 (o_al 0 1) := ok_aload_n dX10_extract_20 rfl
theorem k_99_21 : mOk M_99.1 M_99.2.1 M_99.2.2.1 M_99.2.2.2 21 (o_gI 10 7) := ok_gI dX10_extract_21 f_RX10_161 (Or.inr rfl)
theorem k_99_24 : mOk M_99.1 M_99.2.1 M_99.2.2.1 M_99.2.2.2 24 (o_zeq 47) := ok_zeq dX10_extract_24 (by decide)
theorem k_99_27 : mOk M_99.1 M_99.2.1 M_99.2.2.1 M_99.2.2.2 27 (o_al 0 1) := ok_aload_n dX10_extract_27 rfl
theorem k_99_28 : mOk M_99.1 M_99.2.1 M_99.2.2.1 M_99.2.2.2 28 (o_gP 10 4) := ok_gP dX10_extract_28 f_RX10_30 rfl
theorem k_99_31 : mOk M_99.1 M_99.2.1 M_99.2.2.1 M_99.2.2.2 31 (o_al 0 1) := ok_aload_n dX10_extract_31 rfl
theorem k_99_32 : mOk M_99.1 M_99.2.1 M_99.2.2.1 M_99.2.2.2 32 (o_gP 10 9) := ok_gP dX10_extract_32 f_RX10_55 rfl
theorem k_99_35 : mOk M_99.1 M_99.2.1 M_99.2.2.1 M_99.2.2.2 35 (o_al 2 1) := ok_aload_n dX10_extract_35 rfl
theorem k_99_36 : mOk M_99.1 M_99.2.1 M_99.2.2.1 M_99.2.2.2 36 (o_il 1 1) := ok_iload_n dX10_extract_36 rfl
theorem k_99_37 : mOk M_99.1 M_99.2.1 M_99.2.2.1 M_99.2.2.2 37 (o_al 0 1) := ok_aload_n dX10_extract_37 rfl
theorem k_99_38 : mOk M_99.1 M_99.2.1 M_99.2.2.1 M_99.2.2.2 38 (o_gP 10 6) := ok_gP dX10_extract_38 f_RX10_44 rfl
theorem k_99_44 : mOk M_99.1 M_99.2.1 M_99.2.2.1 M_99.2.2.2 44 (o_zne 57) := ok_zne dX10_extract_44 (by decide)
theorem k_99_57 : mOk M_99.1 M_99.2.1 M_99.2.2.1 M_99.2.2.2 57 (o_al 0 1) := ok_aload_n dX10_extract_57 rfl
theorem k_99_58 : mOk M_99.1 M_99.2.1 M_99.2.2.1 M_99.2.2.2 58 (o_gP 10 8) := ok_gP dX10_extract_58 f_RX10_51 rfl
theorem k_99_61 : mOk M_99.1 M_99.2.1 M_99.2.2.1 M_99.2.2.2 61 (o_as 3 1) := ok_astore_n dX10_extract_61 rfl
theorem k_99_62 : mOk M_99.1 M_99.2.1 M_99.2.2.1 M_99.2.2.2 62 (o_al 0 1) := ok_aload_n dX10_extract_62 rfl
theorem k_99_63 : mOk M_99.1 M_99.2.1 M_99.2.2.1 M_99.2.2.2 63 (o_al 0 1) := ok_aload_n dX10_extract_63 rfl
theorem k_99_64 : mOk M_99.1 M_99.2.1 M_99.2.2.1 M_99.2.2.2 64 (o_gP 10 9) := ok_gP dX10_extract_64 f_RX10_55 rfl
theorem k_99_67 : mOk M_99.1 M_99.2.1 M_99.2.2.1 M_99.2.2.2 67 (o_pP 10 8) := ok_pP dX10_extract_67 (mFw_of f_RX10_51_c (Or.inl rfl)) rfl
theorem k_99_70 : mOk M_99.1 M_99.2.1 M_99.2.2.1 M_99.2.2.2 70 (o_al 0 1) := ok_aload_n dX10_extract_70 rfl
theorem k_99_71 : mOk M_99.1 M_99.2.1 M_99.2.2.1 M_99.2.2.2 71 (o_al 3 1) := ok_aload_n dX10_extract_71 rfl
theorem k_99_72 : mOk M_99.1 M_99.2.1 M_99.2.2.1 M_99.2.2.2 72 (o_pP 10 9) := ok_pP dX10_extract_72 (mFw_of f_RX10_55_c (Or.inl rfl)) rfl
theorem k_99_75 : mOk M_99.1 M_99.2.1 M_99.2.2.1 M_99.2.2.2 75 (o_al 0 1) := ok_aload_n dX10_extract_75 rfl
theorem k_99_76 : mOk M_99.1 M_99.2.1 M_99.2.2.1 M_99.2.2.2 76 (oS 1 (s_push (.int 1))) := ok_iconst dX10_extract_76 (by decide)
theorem k_99_77 : mOk M_99.1 M_99.2.1 M_99.2.2.1 M_99.2.2.2 77 (o_pZ 10 10) := ok_pZ dX10_extract_77 (mFw_of f_RX10_176_c (Or.inl rfl)) rfl
theorem k_99_80 : mOk M_99.1 M_99.2.1 M_99.2.2.1 M_99.2.2.2 80 (o_al 0 1) := ok_aload_n dX10_extract_80 rfl
theorem k_99_81 : mOk M_99.1 M_99.2.1 M_99.2.2.1 M_99.2.2.2 81 (o_gP 10 8) := ok_gP dX10_extract_81 f_RX10_51 rfl
theorem k_99_84 : mOk M_99.1 M_99.2.1 M_99.2.2.1 M_99.2.2.2 84 (o_gI 4 3) := ok_gI dX10_extract_84 f_RX10_179 (Or.inl rfl)
set_option maxRecDepth 20000 in
set_option maxHeartbeats 4000000 in
theorem tk_99 (l : Launch) (H9 : mThr l) (H10 : mSpl l) (pc : Nat) (q : mEnt) (h : tb_99 pc = some q) : EE l 99 pc q := nd h (fun h => nd h (fun h => nd h (fun h => nd h (fun h => nd h (fun h => lf (P := EE l 99) h k_99_0) (fun h => lf (P := EE l 99) h k_99_1)) (fun h => nd h (fun h => lf (P := EE l 99) h (EE_ca (by decide) (⟨m_703, m_70, ⟨by decide, by decide⟩, by decide +kernel, ⟨by decide, by decide⟩, 115, 1, by decide +kernel, Or.inr (Or.inr (Or.inl ⟨rfl, rfl, dX10_extract_2, m_700, m_702, _, rfl, by decide, m_11⟩))⟩) rfl)) (fun h => lf (P := EE l 99) h k_99_5))) (fun h => nd h (fun h => nd h (fun h => lf (P := EE l 99) h k_99_6) (fun h => lf (P := EE l 99) h k_99_7)) (fun h => nd h (fun h => lf (P := EE l 99) h (EE_th H9 (by decide))) (fun h => nd h (fun h => lf (P := EE l 99) h k_99_20) (fun h => lf (P := EE l 99) h k_99_21))))) (fun h => nd h (fun h => nd h (fun h => nd h (fun h => lf (P := EE l 99) h k_99_24) (fun h => lf (P := EE l 99) h k_99_27)) (fun h => nd h (fun h => lf (P := EE l 99) h k_99_28) (fun h => nd h (fun h => lf (P := EE l 99) h k_99_31) (fun h => lf (P := EE l 99) h k_99_32)))) (fun h => nd h (fun h => nd h (fun h => lf (P := EE l 99) h k_99_35) (fun h => lf (P := EE l 99) h k_99_36)) (fun h => nd h (fun h => lf (P := EE l 99) h k_99_37) (fun h => nd h (fun h => lf (P := EE l 99) h k_99_38) (fun h => lf (P := EE l 99) h (EE_ca (by decide) (⟨m_873, m_73, ⟨by decide, by decide⟩, by decide +kernel, ⟨by decide, by decide⟩, 170, 4, by decide +kernel, Or.inr (Or.inr (Or.inl ⟨rfl, rfl, dX10_extract_41, m_870, m_871, _, rfl, by decide, m_872⟩))⟩) rfl))))))) (fun h => nd h (fun h => nd h (fun h => nd h (fun h => nd h (fun h => lf (P := EE l 99) h k_99_44) (fun h => lf (P := EE l 99) h (EE_th H9 (by decide)))) (fun h => nd h (fun h => lf (P := EE l 99) h k_99_57) (fun h => lf (P := EE l 99) h k_99_58))) (fun h => nd h (fun h => nd h (fun h => lf (P := EE l 99) h k_99_61) (fun h => lf (P := EE l 99) h k_99_62)) (fun h => nd h (fun h => lf (P := EE l 99) h k_99_63) (fun h => nd h (fun h => lf (P := EE l 99) h k_99_64) (fun h => lf (P := EE l 99) h k_99_67))))) (fun h => nd h (fun h => nd h (fun h => nd h (fun h => lf (P := EE l 99) h k_99_70) (fun h => lf (P := EE l 99) h k_99_71)) (fun h => nd h (fun h => lf (P := EE l 99) h k_99_72) (fun h => nd h (fun h => lf (P := EE l 99) h k_99_75) (fun h => lf (P := EE l 99) h k_99_76)))) (fun h => nd h (fun h => nd h (fun h => lf (P := EE l 99) h k_99_77) (fun h => lf (P := EE l 99) h k_99_80)) (fun h => nd h (fun h => lf (P := EE l 99) h k_99_81) (fun h => nd h (fun h => lf (P := EE l 99) h k_99_84) (fun h => lf (P := EE l 99) h (EE_re (Or.inl ⟨rfl, dX10_extract_87, rfl⟩))))))))
theorem dX10_packed_0 : decode cX10_packed 0 = .ok (.aload_n 0, 1) := by decide +kernel
theorem dX10_packed_1 : decode cX10_packed 1 = .ok (.getfield 176, 3) := by decide +kernel
theorem dX10_packed_4 : decode cX10_packed 4 = .ok (.ifCond .eq 18, 3) := by decide +kernel
theorem dX10_packed_7 : decode cX10_packed 7 = .ok (.iload_n 1, 1) := by decide +kernel
theorem dX10_packed_8 : decode cX10_packed 8 = .ok (.ifCond .lt 14, 3) := by decide +kernel
theorem dX10_packed_11 : decode cX10_packed 11 = .ok (.iload_n 1, 1) := by decide +kernel
theorem dX10_packed_12 : decode cX10_packed 12 = .ok (.aload_n 0, 1) := by decide +kernel
theorem dX10_packed_13 : decode cX10_packed 13 = .ok (.getfield 51, 3) := by decide +kernel
theorem dX10_packed_16 : decode cX10_packed 16 = .ok (.getfield 179, 3) := by decide +kernel
theorem dX10_packed_19 : decode cX10_packed 19 = .ok (.if_icmp .lt 5, 3) := by decide +kernel
theorem dX10_packed_22 : decode cX10_packed 22 = .ok (.iconst (-1), 1) := by decide +kernel
theorem dX10_packed_23 : decode cX10_packed 23 = .ok (.ireturn, 1) := by decide +kernel
theorem dX10_packed_24 : decode cX10_packed 24 = .ok (.iload_n 2, 1) := by decide +kernel
theorem dX10_packed_25 : decode cX10_packed 25 = .ok (.tableswitch 85 0 4 #[35, 45, 55, 65, 75], 35) := by decide +kernel
theorem dX10_packed_60 : decode cX10_packed 60 = .ok (.aload_n 0, 1) := by decide +kernel
theorem dX10_packed_61 : decode cX10_packed 61 = .ok (.getfield 51, 3) := by decide +kernel
theorem dX10_packed_64 : decode cX10_packed 64 = .ok (.getfield 182, 3) := by decide +kernel
theorem dX10_packed_67 : decode cX10_packed 67 = .ok (.iload_n 1, 1) := by decide +kernel
theorem dX10_packed_68 : decode cX10_packed 68 = .ok (.iaload, 1) := by decide +kernel
theorem dX10_packed_69 : decode cX10_packed 69 = .ok (.ireturn, 1) := by decide +kernel
theorem dX10_packed_70 : decode cX10_packed 70 = .ok (.aload_n 0, 1) := by decide +kernel
theorem dX10_packed_71 : decode cX10_packed 71 = .ok (.getfield 51, 3) := by decide +kernel
theorem dX10_packed_74 : decode cX10_packed 74 = .ok (.getfield 186, 3) := by decide +kernel
theorem dX10_packed_77 : decode cX10_packed 77 = .ok (.iload_n 1, 1) := by decide +kernel
theorem dX10_packed_78 : decode cX10_packed 78 = .ok (.iaload, 1) := by decide +kernel
theorem dX10_packed_79 : decode cX10_packed 79 = .ok (.ireturn, 1) := by decide +kernel
theorem dX10_packed_80 : decode cX10_packed 80 = .ok (.aload_n 0, 1) := by decide +kernel
theorem dX10_packed_81 : decode cX10_packed 81 = .ok (.getfield 51, 3) := by decide +kernel
theorem dX10_packed_84 : decode cX10_packed 84 = .ok (.getfield 189, 3) := by decide +kernel
theorem dX10_packed_87 : decode cX10_packed 87 = .ok (.iload_n 1, 1) := by decide +kernel
theorem dX10_packed_88 : decode cX10_packed 88 = .ok (.iaload, 1) := by decide +kernel
theorem dX10_packed_89 : decode cX10_packed 89 = .ok (.ireturn, 1) := by decide +kernel
theorem dX10_packed_90 : decode cX10_packed 90 = .ok (.aload_n 0, 1) := by decide +kernel
theorem dX10_packed_91 : decode cX10_packed 91 = .ok (.getfield 51, 3) := by decide +kernel
theorem dX10_packed_94 : decode cX10_packed 94 = .ok (.getfield 192, 3) := by decide +kernel
theorem dX10_packed_97 : decode cX10_packed 97 = .ok (.iload_n 1, 1) := by decide +kernel
theorem dX10_packed_98 : decode cX10_packed 98 = .ok (.iaload, 1) := by decide +kernel
theorem dX10_packed_99 : decode cX10_packed 99 = .ok (.ireturn, 1) := by decide +kernel
theorem dX10_packed_100 : decode cX10_packed 100 = .ok (.aload_n 0, 1) := by decide +kernel
theorem dX10_packed_101 : decode cX10_packed 101 = .ok (.getfield 51, 3) := by decide +kernel
theorem dX10_packed_104 : decode cX10_packed 104 = .ok (.getfield 195, 3) := by decide +kernel
theorem dX10_packed_107 : decode cX10_packed 107 = .ok (.iload_n 1, 1) := by decide +kernel
theorem dX10_packed_108 : decode cX10_packed 108 = .ok (.iaload, 1) := by decide +kernel
theorem dX10_packed_109 : decode cX10_packed 109 = .ok (.ireturn, 1) := by decide +kernel
theorem dX10_packed_110 : decode cX10_packed 110 = .ok (.iconst (-1), 1) := by decide +kernel
theorem dX10_packed_111 : decode cX10_packed 111 = .ok (.ireturn, 1) := by decide +kernel
def tb_100 (pc : Nat) : Option mEnt := bif Nat.ble pc 74 then (bif Nat.ble pc 22 then (bif Nat.ble pc 8 then (bif Nat.ble pc 1 then (bif Nat.ble pc 0 then (bif Nat.beq pc 0 then some (.inl (o_al 0 1)) else none) else (bif Nat.beq pc 1 then some (.inl (o_gI 10 10)) else none)) else (bif Nat.ble pc 4 then (bif Nat.beq pc 4 then some (.inl (o_zeq 22)) else none) else (bif Nat.ble pc 7 then (bif Nat.beq pc 7 then some (.inl (o_il 1 1)) else none) else (bif Nat.beq pc 8 then some (.inl (o_zlt 22)) else none)))) else (bif Nat.ble pc 13 then (bif Nat.ble pc 11 then (bif Nat.beq pc 11 then some (.inl (o_il 1 1)) else none) else (bif Nat.ble pc 12 then (bif Nat.beq pc 12 then some (.inl (o_al 0 1)) else none) else (bif Nat.beq pc 13 then some (.inl (o_gP 10 8)) else none))) else (bif Nat.ble pc 16 then (bif Nat.beq pc 16 then some (.inl (o_gI 4 3)) else none) else (bif Nat.ble pc 19 then (bif Nat.beq pc 19 then some (.inl (o_clt 24)) else none) else (bif Nat.beq pc 22 then some (.inl (oS 1 (s_push (.int (-1))))) else none))))) else (bif Nat.ble pc 64 then (bif Nat.ble pc 25 then (bif Nat.ble pc 23 then (bif Nat.beq pc 23 then some (.inr (0, 0, 0, 0)) else none) else (bif Nat.ble pc 24 then (bif Nat.beq pc 24 then some (.inl (o_il 2 1)) else none) else (bif Nat.beq pc 25 then some (.inl (o_tsw 0 4 [60, 70, 80, 90, 100] 110)) else none))) else (bif Nat.ble pc 60 then (bif Nat.beq pc 60 then some (.inl (o_al 0 1)) else none) else (bif Nat.ble pc 61 then (bif Nat.beq pc 61 then some (.inl (o_gP 10 8)) else none) else (bif Nat.beq pc 64 then some (.inl (o_gP 4 7)) else none)))) else (bif Nat.ble pc 69 then (bif Nat.ble pc 67 then (bif Nat.beq pc 67 then some (.inl (o_il 1 1)) else none) else (bif Nat.ble pc 68 then (bif Nat.beq pc 68 then some (.inl (o_iald)) else none) else (bif Nat.beq pc 69 then some (.inr (0, 0, 0, 0)) else none))) else (bif Nat.ble pc 70 then (bif Nat.beq pc 70 then some (.inl (o_al 0 1)) else none) else (bif Nat.ble pc 71 then (bif Nat.beq pc 71 then some (.inl (o_gP 10 8)) else none) else (bif Nat.beq pc 74 then some (.inl (o_gP 4 8)) else none)))))) else (bif Nat.ble pc 91 then (bif Nat.ble pc 81 then (bif Nat.ble pc 78 then (bif Nat.ble pc 77 then (bif Nat.beq pc 77 then some (.inl (o_il 1 1)) else none) else (bif Nat.beq pc 78 then some (.inl (o_iald)) else none)) else (bif Nat.ble pc 79 then (bif Nat.beq pc 79 then some (.inr (0, 0, 0, 0)) else none) else (bif Nat.ble pc 80 then (bif Nat.beq pc 80 then some (.inl (o_al 0 1)) else none) else (bif Nat.beq pc 81 then some (.inl (o_gP 10 8)) else none)))) else (bif Nat.ble pc 88 then (bif Nat.ble pc 84 then (bif Nat.beq pc 84 then some (.inl (o_gP 4 9)) else none) else (bif Nat.ble pc 87 then (bif Nat.beq pc 87 then some (.inl (o_il 1 1)) else none) else (bif Nat.beq pc 88 then some (.inl (o_iald)) else none))) else (bif Nat.ble pc 89 then (bif Nat.beq pc 89 then some (.inr (0, 0, 0, 0)) else none) else (bif Nat.ble pc 90 then (bif Nat.beq pc 90 then some (.inl (o_al 0 1)) else none) else (bif Nat.beq pc 91 then some (.inl (o_gP 10 8)) else none))))) else (bif Nat.ble pc 101 then (bif Nat.ble pc 98 then (bif Nat.ble pc 94 then (bif Nat.beq pc 94 then some (.inl (o_gP 4 10)) else none) else (bif Nat.ble pc 97 then (bif Nat.beq pc 97 then some (.inl (o_il 1 1)) else none) else (bif Nat.beq pc 98 then some (.inl (o_iald)) else none))) else (bif Nat.ble pc 99 then (bif Nat.beq pc 99 then some (.inr (0, 0, 0, 0)) else none) else (bif Nat.ble pc 100 then (bif Nat.beq pc 100 then some (.inl (o_al 0 1)) else none) else (bif Nat.beq pc 101 then some (.inl (o_gP 10 8)) else none)))) else (bif Nat.ble pc 108 then (bif Nat.ble pc 104 then (bif Nat.beq pc 104 then some (.inl (o_gP 4 11)) else none) else (bif Nat.ble pc 107 then (bif Nat.beq pc 107 then some (.inl (o_il 1 1)) else none) else (bif Nat.beq pc 108 then some (.inl (o_iald)) else none))) else (bif Nat.ble pc 109 then (bif Nat.beq pc 109 then some (.inr (0, 0, 0, 0)) else none) else (bif Nat.ble pc 110 then (bif Nat.beq pc 110 then some (.inl (oS 1 (s_push (.int (-1))))) else none) else (bif Nat.beq pc 111 then some (.inr (0, 0, 0, 0)) else none))))))
theorem k_100_0 : mOk M_100.1 M_100.2.1 M_100.2.2.1 M_100.2.2.2 0 (o_al 0 1) := ok_aload_n dX10_packed_0 rfl
theorem k_100_1 : mOk M_100.1 M_100.2.1 M_100.2.2.1 M_100.2.2.2 1 (o_gI 10 10) := ok_gI dX10_packed_1 f_RX10_176 (Or.inr rfl)
theorem k_100_4 : mOk M_100.1 M_100.2.1 M_100.2.2.1 M_100.2.2.2 4 (o_zeq 22) := ok_zeq dX10_packed_4 (by decide)
theorem k_100_7 : mOk M_100.1 M_100.2.1 M_100.2.2.1 M_100.2.2.2 7 (o_il 1 1) := ok_iload_n dX10_packed_7 rfl
theorem k_100_8 : mOk M_100.1 M_100.2.1 M_100.2.2.1 M_100.2.2.2 8 (o_zlt 22) := ok_zlt dX10_packed_8 (by decide)
theorem k_100_11 : mOk M_100.1 M_100.2.1 M_100.2.2.1 M_100.2.2.2 11 (o_il 1 1) := ok_iload_n dX10_packed_11 rfl
theorem k_100_12 : mOk M_100.1 M_100.2.1 M_100.2.2.1 M_100.2.2.2 12 (o_al 0 1) := ok_aload_n dX10_packed_12 rfl
theorem k_100_13 : mOk M_100.1 M_100.2.1 M_100.2.2.1 M_100.2.2.2 13 (o_gP 10 8) := ok_gP dX10_packed_13 f_RX10_51 rfl
theorem k_100_16 : mOk M_100.1 M_100.2.1 M_100.2.2.1 M_100.2.2.2 16 (o_gI 4 3) := ok_gI dX10_packed_16 f_RX10_179 (Or.inl rfl)
theorem k_100_19 : mOk M_100.1 M_100.2.1 M_100.2.2.1 M_100.2.2.2 19 (o_clt 24) := ok_clt dX10_packed_19 (by decide)
theorem k_100_22 : mOk M_100.1 M_100.2.1 M_100.2.2.1 M_100.2.2.2 22 (oS 1 (s_push (.int (-1)))) := ok_iconst dX10_packed_22 (by decide)
theorem k_100_24 : mOk M_100.1 M_100.2.1 M_100.2.2.1 M_100.2.2.2 24 (o_il 2 1) := ok_iload_n dX10_packed_24 rfl
theorem k_100_25 : mOk M_100.1 M_100.2.1 M_100.2.2.1 M_100.2.2.2 25 (o_tsw 0 4 [60, 70, 80, 90, 100] 110) := ok_tsw dX10_packed_25 (by decide) (by decide) (by decide)
theorem k_100_60 : mOk M_100.1 M_100.2.1 M_100.2.2.1 M_100.2.2.2 60 (o_al 0 1) := ok_aload_n dX10_packed_60 rfl
theorem k_100_61 : mOk M_100.1 M_100.2.1 M_100.2.2.1 M_100.2.2.2 61 (o_gP 10 8) := ok_gP dX10_packed_61 f_RX10_51 rfl
theorem k_100_64 : mOk M_100.1 M_100.2.1 M_100.2.2.1 M_100.2.2.2 64 (o_gP 4 7) := ok_gP dX10_packed_64 f_RX10_182 rfl
theorem k_100_67 : mOk M_100.1 M_100.2.1 M_100.2.2.1 M_100.2.2.2 67 (o_il 1 1) := ok_iload_n dX10_packed_67 rfl
theorem k_100_68 : mOk M_100.1 M_100.2.1 M_100.2.2.1 M_100.2.2.2 68 (o_iald) := ok_iald dX10_packed_68
theorem k_100_70 : mOk M_100.1 M_100.2.1 M_100.2.2.1 M_100.2.2.2 70 (o_al 0 1) := ok_aload_n dX10_packed_70 rfl
theorem k_100_71 : mOk M_100.1 M_100.2.1 M_100.2.2.1 M_100.2.2.2 71 (o_gP 10 8) := ok_gP dX10_packed_71 f_RX10_51 rfl
theorem k_100_74 : mOk M_100.1 M_100.2.1 M_100.2.2.1 M_100.2.2.2 74 (o_gP 4 8) := ok_gP dX10_packed_74 f_RX10_186 rfl
theorem k_100_77 : mOk M_100.1 M_100.2.1 M_100.2.2.1 M_100.2.2.2 77 (o_il 1 1) := ok_iload_n dX10_packed_77 rfl
theorem k_100_78 : mOk M_100.1 M_100.2.1 M_100.2.2.1 M_100.2.2.2 78 (o_iald) := ok_iald dX10_packed_78
theorem k_100_80 : mOk M_100.1 M_100.2.1 M_100.2.2.1 M_100.2.2.2 80 (o_al 0 1) := ok_aload_n dX10_packed_80 rfl
theorem k_100_81 : mOk M_100.1 M_100.2.1 M_100.2.2.1 M_100.2.2.2 81 (o_gP 10 8) := ok_gP dX10_packed_81 f_RX10_51 rfl
theorem k_100_84 : mOk M_100.1 M_100.2.1 M_100.2.2.1 M_100.2.2.2 84 (o_gP 4 9) := ok_gP dX10_packed_84 f_RX10_189 rfl
theorem k_100_87 : mOk M_100.1 M_100.2.1 M_100.2.2.1 M_100.2.2.2 87 (o_il 1 1) := ok_iload_n dX10_packed_87 rfl
theorem k_100_88 : mOk M_100.1 M_100.2.1 M_100.2.2.1 M_100.2.2.2 88 (o_iald) := ok_iald dX10_packed_88
theorem k_100_90 : mOk M_100.1 M_100.2.1 M_100.2.2.1 M_100.2.2.2 90 (o_al 0 1) := ok_aload_n dX10_packed_90 rfl
theorem k_100_91 : mOk M_100.1 M_100.2.1 M_100.2.2.1 M_100.2.2.2 91 (o_gP 10 8) := ok_gP dX10_packed_91 f_RX10_51 rfl
theorem k_100_94 : mOk M_100.1 M_100.2.1 M_100.2.2.1 M_100.2.2.2 94 (o_gP 4 10) := ok_gP dX10_packed_94 f_RX10_192 rfl
theorem k_100_97 : mOk M_100.1 M_100.2.1 M_100.2.2.1 M_100.2.2.2 97 (o_il 1 1) := ok_iload_n dX10_packed_97 rfl
theorem k_100_98 : mOk M_100.1 M_100.2.1 M_100.2.2.1 M_100.2.2.2 98 (o_iald) := ok_iald dX10_packed_98
theorem k_100_100 : mOk M_100.1 M_100.2.1 M_100.2.2.1 M_100.2.2.2 100 (o_al 0 1) := ok_aload_n dX10_packed_100 rfl
theorem k_100_101 : mOk M_100.1 M_100.2.1 M_100.2.2.1 M_100.2.2.2 101 (o_gP 10 8) := ok_gP dX10_packed_101 f_RX10_51 rfl
theorem k_100_104 : mOk M_100.1 M_100.2.1 M_100.2.2.1 M_100.2.2.2 104 (o_gP 4 11) := ok_gP dX10_packed_104 f_RX10_195 rfl
theorem k_100_107 : mOk M_100.1 M_100.2.1 M_100.2.2.1 M_100.2.2.2 107 (o_il 1 1) := ok_iload_n dX10_packed_107 rfl
theorem k_100_108 : mOk M_100.1 M_100.2.1 M_100.2.2.1 M_100.2.2.2 108 (o_iald) := ok_iald dX10_packed_108
theorem k_100_110 : mOk M_100.1 M_100.2.1 M_100.2.2.1 M_100.2.2.2 110 (oS 1 (s_push (.int (-1)))) := ok_iconst dX10_packed_110 (by decide)
set_option maxRecDepth 20000 in
set_option maxHeartbeats 4000000 in
theorem tk_100 (l : Launch) (H9 : mThr l) (H10 : mSpl l) (pc : Nat) (q : mEnt) (h : tb_100 pc = some q) : EE l 100 pc q := nd h (fun h => nd h (fun h => nd h (fun h => nd h (fun h => nd h (fun h => lf (P := EE l 100) h k_100_0) (fun h => lf (P := EE l 100) h k_100_1)) (fun h => nd h (fun h => lf (P := EE l 100) h k_100_4) (fun h => nd h (fun h => lf (P := EE l 100) h k_100_7) (fun h => lf (P := EE l 100) h k_100_8)))) (fun h => nd h (fun h => nd h (fun h => lf (P := EE l 100) h k_100_11) (fun h => nd h (fun h => lf (P := EE l 100) h k_100_12) (fun h => lf (P := EE l 100) h k_100_13))) (fun h => nd h (fun h => lf (P := EE l 100) h k_100_16) (fun h => nd h (fun h => lf (P := EE l 100) h k_100_19) (fun h => lf (P := EE l 100) h k_100_22))))) (fun h => nd h (fun h => nd h (fun h => nd h (fun h => lf (P := EE l 100) h (EE_re (Or.inl ⟨rfl, dX10_packed_23, rfl⟩))) (fun h => nd h (fun h => lf (P := EE l 100) h k_100_24) (fun h => lf (P := EE l 100) h k_100_25))) (fun h => nd h (fun h => lf (P := EE l 100) h k_100_60) (fun h => nd h (fun h => lf (P := EE l 100) h k_100_61) (fun h => lf (P := EE l 100) h k_100_64)))) (fun h => nd h (fun h => nd h (fun h => lf (P := EE l 100) h k_100_67) (fun h => nd h (fun h => lf (P := EE l 100) h k_100_68) (fun h => lf (P := EE l 100) h (EE_re (Or.inl ⟨rfl, dX10_packed_69, rfl⟩))))) (fun h => nd h (fun h => lf (P := EE l 100) h k_100_70) (fun h => nd h (fun h => lf (P := EE l 100) h k_100_71) (fun h => lf (P := EE l 100) h k_100_74)))))) (fun h => nd h (fun h => nd h (fun h => nd h (fun h => nd h (fun h => lf (P := EE l 100) h k_100_77) (fun h => lf (P := EE l 100) h k_100_78)) (fun h => nd h (fun h => lf (P := EE l 100) h (EE_re (Or.inl ⟨rfl, dX10_packed_79, rfl⟩))) (fun h => nd h (fun h => lf (P := EE l 100) h k_100_80) (fun h => lf (P := EE l 100) h k_100_81)))) (fun h => nd h (fun h => nd h (fun h => lf (P := EE l 100) h k_100_84) (fun h => nd h (fun h => lf (P := EE l 100) h k_100_87) (fun h => lf (P := EE l 100) h k_100_88))) (fun h => nd h (fun h => lf (P := EE l 100) h (EE_re (Or.inl ⟨rfl, dX10_packed_89, rfl⟩))) (fun h => nd h (fun h => lf (P := EE l 100) h k_100_90) (fun h => lf (P := EE l 100) h k_100_91))))) (fun h => nd h (fun h => nd h (fun h => nd h (fun h => lf (P := EE l 100) h k_100_94) (fun h => nd h (fun h => lf (P := EE l 100) h k_100_97) (fun h => lf (P := EE l 100) h k_100_98))) (fun h => nd h (fun h => lf (P := EE l 100) h (EE_re (Or.inl ⟨rfl, dX10_packed_99, rfl⟩))) (fun h => nd h (fun h => lf (P := EE l 100) h k_100_100) (fun h => lf (P := EE l 100) h k_100_101)))) (fun h => nd h (fun h => nd h (fun h => lf (P := EE l 100) h k_100_104) (fun h => nd h (fun h => lf (P := EE l 100) h k_100_107) (fun h => lf (P := EE l 100) h k_100_108))) (fun h => nd h (fun h => lf (P := EE l 100) h (EE_re (Or.inl ⟨rfl, dX10_packed_109, rfl⟩))) (fun h => nd h (fun h => lf (P := EE l 100) h k_100_110) (fun h => lf (P := EE l 100) h (EE_re (Or.inl ⟨rfl, dX10_packed_111, rfl⟩))))))))
theorem dX10_take_0 : decode cX10_take 0 = .ok (.aload_n 0, 1) := by decide +kernel
theorem dX10_take_1 : decode cX10_take 1 = .ok (.getfield 37, 3) := by decide +kernel
theorem dX10_take_4 : decode cX10_take 4 = .ok (.iconst 0, 1) := by decide +kernel
theorem dX10_take_5 : decode cX10_take 5 = .ok (.putfield 142, 3) := by decide +kernel
theorem dX10_take_8 : decode cX10_take 8 = .ok (.aload_n 0, 1) := by decide +kernel
theorem dX10_take_9 : decode cX10_take 9 = .ok (.getfield 176, 3) := by decide +kernel
theorem dX10_take_12 : decode cX10_take 12 = .ok (.ifCond .eq 17, 3) := by decide +kernel
theorem dX10_take_15 : decode cX10_take 15 = .ok (.aload_n 0, 1) := by decide +kernel
theorem dX10_take_16 : decode cX10_take 16 = .ok (.getfield 51, 3) := by decide +kernel
theorem dX10_take_19 : decode cX10_take 19 = .ok (.iload_n 1, 1) := by decide +kernel
theorem dX10_take_20 : decode cX10_take 20 = .ok (.iload_n 2, 1) := by decide +kernel
theorem dX10_take_21 : decode cX10_take 21 = .ok (.iload_n 3, 1) := by decide +kernel
theorem dX10_take_22 : decode cX10_take 22 = .ok (.aload_n 0, 1) := by decide +kernel
theorem dX10_take_23 : decode cX10_take 23 = .ok (.getfield 37, 3) := by decide +kernel
theorem dX10_take_26 : decode cX10_take 26 = .ok (.invokevirtual 198, 3) := by decide +kernel
theorem dX10_take_29 : decode cX10_take 29 = .ok (.aload_n 0, 1) := by decide +kernel
theorem dX10_take_30 : decode cX10_take 30 = .ok (.getfield 37, 3) := by decide +kernel
theorem dX10_take_33 : decode cX10_take 33 = .ok (.getfield 142, 3) := by decide +kernel
theorem dX10_take_36 : decode cX10_take 36 = .ok (.ireturn, 1) := by decide +kernel
def tb_101 (pc : Nat) : Option mEnt := bif Nat.ble pc 16 then (bif Nat.ble pc 5 then (bif Nat.ble pc 1 then (bif Nat.ble pc 0 then (bif Nat.beq pc 0 then some (.inl (o_al 0 1)) else none) else (bif Nat.beq pc 1 then some (.inl (o_gP 10 5)) else none)) else (bif Nat.ble pc 4 then (bif Nat.beq pc 4 then some (.inl (oS 1 (s_push (.int 0)))) else none) else (bif Nat.beq pc 5 then some (.inl (o_pI 3 1)) else none))) else (bif Nat.ble pc 9 then (bif Nat.ble pc 8 then (bif Nat.beq pc 8 then some (.inl (o_al 0 1)) else none) else (bif Nat.beq pc 9 then some (.inl (o_gI 10 10)) else none)) else (bif Nat.ble pc 12 then (bif Nat.beq pc 12 then some (.inl (o_zeq 29)) else none) else (bif Nat.ble pc 15 then (bif Nat.beq pc 15 then some (.inl (o_al 0 1)) else none) else (bif Nat.beq pc 16 then some (.inl (o_gP 10 8)) else none))))) else (bif Nat.ble pc 23 then (bif Nat.ble pc 20 then (bif Nat.ble pc 19 then (bif Nat.beq pc 19 then some (.inl (o_il 1 1)) else none) else (bif Nat.beq pc 20 then some (.inl (o_il 2 1)) else none)) else (bif Nat.ble pc 21 then (bif Nat.beq pc 21 then some (.inl (o_il 3 1)) else none) else (bif Nat.ble pc 22 then (bif Nat.beq pc 22 then some (.inl (o_al 0 1)) else none) else (bif Nat.beq pc 23 then some (.inl (o_gP 10 5)) else none)))) else (bif Nat.ble pc 29 then (bif Nat.ble pc 26 then (bif Nat.beq pc 26 then some (.inr (3, 51, 5, 4)) else none) else (bif Nat.beq pc 29 then some (.inl (o_al 0 1)) else none)) else (bif Nat.ble pc 30 then (bif Nat.beq pc 30 then some (.inl (o_gP 10 5)) else none) else (bif Nat.ble pc 33 then (bif Nat.beq pc 33 then some (.inl (o_gI 3 1)) else none) else (bif Nat.beq pc 36 then some (.inr (0, 0, 0, 0)) else none)))))
theorem k_101_0 : mOk M_101.1 M_101.2.1 M_101.2.2.1 M_101.2.2.2 0 (o_al 0 1) := ok_aload_n dX10_take_0 rfl
theorem k_101_1 : mOk M_101.1 M_101.2.1 M_101.2.2.1 M_101.2.2.2 1 (o_gP 10 5) := ok_gP dX10_take_1 f_RX10_37 rfl
theorem k_101_4 : mOk M_101.1 M_101.2.1 M_101.2.2.1 M_101.2.2.2 4 (oS 1 (s_push (.int 0))) := ok_iconst dX10_take_4 (by decide)
theorem k_101_5 : mOk M_101.1 M_101.2.1 M_101.2.2.1 M_101.2.2.2 5 (o_pI 3 1) := ok_pI dX10_take_5 (mFw_of f_RX10_142_c (Or.inl rfl)) rfl
theorem k_101_8 : mOk M_101.1 M_101.2.1 M_101.2.2.1 M_101.2.2.2 8 (o_al 0 1) := ok_aload_n dX10_take_8 rfl
theorem k_101_9 : mOk M_101.1 M_101.2.1 M_101.2.2.1 M_101.2.2.2 9 (o_gI 10 10) := ok_gI dX10_take_9 f_RX10_176 (Or.inr rfl)
theorem k_101_12 : mOk M_101.1 M_101.2.1 M_101.2.2.1 M_101.2.2.2 12 (o_zeq 29) := ok_zeq dX10_take_12 (by decide)
theorem k_101_15 : mOk M_101.1 M_101.2.1 M_101.2.2.1 M_101.2.2.2 15 (o_al 0 1) := ok_aload_n dX10_take_15 rfl
theorem k_101_16 : mOk M_101.1 M_101.2.1 M_101.2.2.1 M_101.2.2.2 16 (o_gP 10 8) := ok_gP dX10_take_16 f_RX10_51 rfl
theorem k_101_19 : mOk M_101.1 M_101.2.1 M_101.2.2.1 M_101.2.2.2 19 (o_il 1 1) := ok_iload_n dX10_take_19 rfl
theorem k_101_20 : mOk M_101.1 M_101.2.1 M_101.2.2.1 M_101.2.2.2 20 (o_il 2 1) := ok_iload_n dX10_take_20 rfl
theorem k_101_21 : mOk M_101.1 M_101.2.1 M_101.2.2.1 M_101.2.2.2 21 (o_il 3 1) := ok_iload_n dX10_take_21 rfl
theorem k_101_22 : mOk M_101.1 M_101.2.1 M_101.2.2.1 M_101.2.2.2 22 (o_al 0 1) := ok_aload_n dX10_take_22 rfl
theorem k_101_23 : mOk M_101.1 M_101.2.1 M_101.2.2.1 M_101.2.2.2 23 (o_gP 10 5) := ok_gP dX10_take_23 f_RX10_37 rfl
theorem k_101_29 : mOk M_101.1 M_101.2.1 M_101.2.2.1 M_101.2.2.2 29 (o_al 0 1) := ok_aload_n dX10_take_29 rfl
theorem k_101_30 : mOk M_101.1 M_101.2.1 M_101.2.2.1 M_101.2.2.2 30 (o_gP 10 5) := ok_gP dX10_take_30 f_RX10_37 rfl
theorem k_101_33 : mOk M_101.1 M_101.2.1 M_101.2.2.1 M_101.2.2.2 33 (o_gI 3 1) := ok_gI dX10_take_33 f_RX10_142 (Or.inl rfl)
set_option maxRecDepth 20000 in
set_option maxHeartbeats 4000000 in
theorem tk_101 (l : Launch) (H9 : mThr l) (H10 : mSpl l) (pc : Nat) (q : mEnt) (h : tb_101 pc = some q) : EE l 101 pc q := nd h (fun h => nd h (fun h => nd h (fun h => nd h (fun h => lf (P := EE l 101) h k_101_0) (fun h => lf (P := EE l 101) h k_101_1)) (fun h => nd h (fun h => lf (P := EE l 101) h k_101_4) (fun h => lf (P := EE l 101) h k_101_5))) (fun h => nd h (fun h => nd h (fun h => lf (P := EE l 101) h k_101_8) (fun h => lf (P := EE l 101) h k_101_9)) (fun h => nd h (fun h => lf (P := EE l 101) h k_101_12) (fun h => nd h (fun h => lf (P := EE l 101) h k_101_15) (fun h => lf (P := EE l 101) h k_101_16))))) (fun h => nd h (fun h => nd h (fun h => nd h (fun h => lf (P := EE l 101) h k_101_19) (fun h => lf (P := EE l 101) h k_101_20)) (fun h => nd h (fun h => lf (P := EE l 101) h k_101_21) (fun h => nd h (fun h => lf (P := EE l 101) h k_101_22) (fun h => lf (P := EE l 101) h k_101_23)))) (fun h => nd h (fun h => nd h (fun h => lf (P := EE l 101) h (EE_ca (by decide) (⟨m_522, m_79, ⟨by decide, by decide⟩, by decide +kernel, ⟨by decide, by decide⟩, 198, 4, by decide +kernel, Or.inr (Or.inr (Or.inl ⟨rfl, rfl, dX10_take_26, m_519, m_520, _, rfl, by decide, m_521⟩))⟩) rfl)) (fun h => lf (P := EE l 101) h k_101_29)) (fun h => nd h (fun h => lf (P := EE l 101) h k_101_30) (fun h => nd h (fun h => lf (P := EE l 101) h k_101_33) (fun h => lf (P := EE l 101) h (EE_re (Or.inl ⟨rfl, dX10_take_36, rfl⟩)))))))
theorem dX10_pack_0 : decode cX10_pack 0 = .ok (.aload_n 0, 1) := by decide +kernel
theorem dX10_pack_1 : decode cX10_pack 1 = .ok (.getfield 176, 3) := by decide +kernel
theorem dX10_pack_4 : decode cX10_pack 4 = .ok (.ifCond .ne 5, 3) := by decide +kernel
theorem dX10_pack_7 : decode cX10_pack 7 = .ok (.iconst (-1), 1) := by decide +kernel
theorem dX10_pack_8 : decode cX10_pack 8 = .ok (.ireturn, 1) := by decide +kernel
theorem dX10_pack_9 : decode cX10_pack 9 = .ok (.iload_n 1, 1) := by decide +kernel
theorem dX10_pack_10 : decode cX10_pack 10 = .ok (.tableswitch 77 0 4 #[34, 42, 50, 58, 66], 34) := by decide +kernel
theorem dX10_pack_44 : decode cX10_pack 44 = .ok (.aload_n 0, 1) := by decide +kernel
theorem dX10_pack_45 : decode cX10_pack 45 = .ok (.getfield 51, 3) := by decide +kernel
theorem dX10_pack_48 : decode cX10_pack 48 = .ok (.getfield 179, 3) := by decide +kernel
theorem dX10_pack_51 : decode cX10_pack 51 = .ok (.ireturn, 1) := by decide +kernel
theorem dX10_pack_52 : decode cX10_pack 52 = .ok (.aload_n 0, 1) := by decide +kernel
theorem dX10_pack_53 : decode cX10_pack 53 = .ok (.getfield 51, 3) := by decide +kernel
theorem dX10_pack_56 : decode cX10_pack 56 = .ok (.getfield 202, 3) := by decide +kernel
theorem dX10_pack_59 : decode cX10_pack 59 = .ok (.ireturn, 1) := by decide +kernel
theorem dX10_pack_60 : decode cX10_pack 60 = .ok (.aload_n 0, 1) := by decide +kernel
theorem dX10_pack_61 : decode cX10_pack 61 = .ok (.getfield 51, 3) := by decide +kernel
theorem dX10_pack_64 : decode cX10_pack 64 = .ok (.getfield 205, 3) := by decide +kernel
theorem dX10_pack_67 : decode cX10_pack 67 = .ok (.ireturn, 1) := by decide +kernel
theorem dX10_pack_68 : decode cX10_pack 68 = .ok (.aload_n 0, 1) := by decide +kernel
theorem dX10_pack_69 : decode cX10_pack 69 = .ok (.getfield 51, 3) := by decide +kernel
theorem dX10_pack_72 : decode cX10_pack 72 = .ok (.getfield 208, 3) := by decide +kernel
theorem dX10_pack_75 : decode cX10_pack 75 = .ok (.ireturn, 1) := by decide +kernel
theorem dX10_pack_76 : decode cX10_pack 76 = .ok (.aload_n 0, 1) := by decide +kernel
theorem dX10_pack_77 : decode cX10_pack 77 = .ok (.getfield 51, 3) := by decide +kernel
theorem dX10_pack_80 : decode cX10_pack 80 = .ok (.getfield 211, 3) := by decide +kernel
theorem dX10_pack_83 : decode cX10_pack 83 = .ok (.getfield 103, 3) := by decide +kernel
theorem dX10_pack_86 : decode cX10_pack 86 = .ok (.ireturn, 1) := by decide +kernel
theorem dX10_pack_87 : decode cX10_pack 87 = .ok (.iconst (-1), 1) := by decide +kernel
theorem dX10_pack_88 : decode cX10_pack 88 = .ok (.ireturn, 1) := by decide +kernel
def tb_102 (pc : Nat) : Option mEnt := bif Nat.ble pc 59 then (bif Nat.ble pc 10 then (bif Nat.ble pc 4 then (bif Nat.ble pc 0 then (bif Nat.beq pc 0 then some (.inl (o_al 0 1)) else none) else (bif Nat.ble pc 1 then (bif Nat.beq pc 1 then some (.inl (o_gI 10 10)) else none) else (bif Nat.beq pc 4 then some (.inl (o_zne 9)) else none))) else (bif Nat.ble pc 8 then (bif Nat.ble pc 7 then (bif Nat.beq pc 7 then some (.inl (oS 1 (s_push (.int (-1))))) else none) else (bif Nat.beq pc 8 then some (.inr (0, 0, 0, 0)) else none)) else (bif Nat.ble pc 9 then (bif Nat.beq pc 9 then some (.inl (o_il 1 1)) else none) else (bif Nat.beq pc 10 then some (.inl (o_tsw 0 4 [44, 52, 60, 68, 76] 87)) else none)))) else (bif Nat.ble pc 51 then (bif Nat.ble pc 45 then (bif Nat.ble pc 44 then (bif Nat.beq pc 44 then some (.inl (o_al 0 1)) else none) else (bif Nat.beq pc 45 then some (.inl (o_gP 10 8)) else none)) else (bif Nat.ble pc 48 then (bif Nat.beq pc 48 then some (.inl (o_gI 4 3)) else none) else (bif Nat.beq pc 51 then some (.inr (0, 0, 0, 0)) else none))) else (bif Nat.ble pc 53 then (bif Nat.ble pc 52 then (bif Nat.beq pc 52 then some (.inl (o_al 0 1)) else none) else (bif Nat.beq pc 53 then some (.inl (o_gP 10 8)) else none)) else (bif Nat.ble pc 56 then (bif Nat.beq pc 56 then some (.inl (o_gI 4 4)) else none) else (bif Nat.beq pc 59 then some (.inr (0, 0, 0, 0)) else none))))) else (bif Nat.ble pc 72 then (bif Nat.ble pc 64 then (bif Nat.ble pc 60 then (bif Nat.beq pc 60 then some (.inl (o_al 0 1)) else none) else (bif Nat.ble pc 61 then (bif Nat.beq pc 61 then some (.inl (o_gP 10 8)) else none) else (bif Nat.beq pc 64 then some (.inl (o_gI 4 5)) else none))) else (bif Nat.ble pc 68 then (bif Nat.ble pc 67 then (bif Nat.beq pc 67 then some (.inr (0, 0, 0, 0)) else none) else (bif Nat.beq pc 68 then some (.inl (o_al 0 1)) else none)) else (bif Nat.ble pc 69 then (bif Nat.beq pc 69 then some (.inl (o_gP 10 8)) else none) else (bif Nat.beq pc 72 then some (.inl (o_gI 4 0)) else none)))) else (bif Nat.ble pc 80 then (bif Nat.ble pc 76 then (bif Nat.ble pc 75 then (bif Nat.beq pc 75 then some (.inr (0, 0, 0, 0)) else none) else (bif Nat.beq pc 76 then some (.inl (o_al 0 1)) else none)) else (bif Nat.ble pc 77 then (bif Nat.beq pc 77 then some (.inl (o_gP 10 8)) else none) else (bif Nat.beq pc 80 then some (.inl (o_gP 4 2)) else none))) else (bif Nat.ble pc 86 then (bif Nat.ble pc 83 then (bif Nat.beq pc 83 then some (.inl (o_gI 1 1)) else none) else (bif Nat.beq pc 86 then some (.inr (0, 0, 0, 0)) else none)) else (bif Nat.ble pc 87 then (bif Nat.beq pc 87 then some (.inl (oS 1 (s_push (.int (-1))))) else none) else (bif Nat.beq pc 88 then some (.inr (0, 0, 0, 0)) else none)))))
theorem k_102_0 : mOk M_102.1 M_102.2.1 M_102.2.2.1 M_102.2.2.2 0 (o_al 0 1) := ok_aload_n dX10_pack_0 rfl
theorem k_102_1 : mOk M_102.1 M_102.2.1 M_102.2.2.1 M_102.2.2.2 1 (o_gI 10 10) := ok_gI dX10_pack_1 f_RX10_176 (Or.inr rfl)
theorem k_102_4 : mOk M_102.1 M_102.2.1 M_102.2.2.1 M_102.2.2.2 4 (o_zne 9) := ok_zne dX10_pack_4 (by decide)
theorem k_102_7 : mOk M_102.1 M_102.2.1 M_102.2.2.1 M_102.2.2.2 7 (oS 1 (s_push (.int (-1)))) := ok_iconst dX10_pack_7 (by decide)
theorem k_102_9 : mOk M_102.1 M_102.2.1 M_102.2.2.1 M_102.2.2.2 9 (o_il 1 1) := ok_iload_n dX10_pack_9 rfl
theorem k_102_10 : mOk M_102.1 M_102.2.1 M_102.2.2.1 M_102.2.2.2 10 (o_tsw 0 4 [44, 52, 60, 68, 76] 87) := ok_tsw dX10_pack_10 (by decide) (by decide) (by decide)
theorem k_102_44 : mOk M_102.1 M_102.2.1 M_102.2.2.1 M_102.2.2.2 44 (o_al 0 1) := ok_aload_n dX10_pack_44 rfl
theorem k_102_45 : mOk M_102.1 M_102.2.1 M_102.2.2.1 M_102.2.2.2 45 (o_gP 10 8) := ok_gP dX10_pack_45 f_RX10_51 rfl
theorem k_102_48 : mOk M_102.1 M_102.2.1 M_102.2.2.1 M_102.2.2.2 48 (o_gI 4 3) := ok_gI dX10_pack_48 f_RX10_179 (Or.inl rfl)
theorem k_102_52 : mOk M_102.1 M_102.2.1 M_102.2.2.1 M_102.2.2.2 52 (o_al 0 1) := ok_aload_n dX10_pack_52 rfl
theorem k_102_53 : mOk M_102.1 M_102.2.1 M_102.2.2.1 M_102.2.2.2 53 (o_gP 10 8) := ok_gP dX10_pack_53 f_RX10_51 rfl
theorem k_102_56 : mOk M_102.1 M_102.2.1 M_102.2.2.1 M_102.2.2.2 56 (o_gI 4 4) := ok_gI dX10_pack_56 f_RX10_202 (Or.inl rfl)
theorem k_102_60 : mOk M_102.1 M_102.2.1 M_102.2.2.1 M_102.2.2.2 60 (o_al 0 1) := ok_aload_n dX10_pack_60 rfl
theorem k_102_61 : mOk M_102.1 M_102.2.1 M_102.2.2.1 M_102.2.2.2 61 (o_gP 10 8) := ok_gP dX10_pack_61 f_RX10_51 rfl
theorem k_102_64 : mOk M_102.1 M_102.2.1 M_102.2.2.1 M_102.2.2.2 64 (o_gI 4 5) := ok_gI dX10_pack_64 f_RX10_205 (Or.inl rfl)
theorem k_102_68 : mOk M_102.1 M_102.2.1 M_102.2.2.1 M_102.2.2.2 68 (o_al 0 1) := ok_aload_n dX10_pack_68 rfl
theorem k_102_69 : mOk M_102.1 M_102.2.1 M_102.2.2.1 M_102.2.2.2 69 (o_gP 10 8) := ok_gP dX10_pack_69 f_RX10_51 rfl
theorem k_102_72 : mOk M_102.1 M_102.2.1 M_102.2.2.1 M_102.2.2.2 72 (o_gI 4 0) := ok_gI dX10_pack_72 f_RX10_208 (Or.inl rfl)
theorem k_102_76 : mOk M_102.1 M_102.2.1 M_102.2.2.1 M_102.2.2.2 76 (o_al 0 1) := ok_aload_n dX10_pack_76 rfl
theorem k_102_77 : mOk M_102.1 M_102.2.1 M_102.2.2.1 M_102.2.2.2 77 (o_gP 10 8) := ok_gP dX10_pack_77 f_RX10_51 rfl
theorem k_102_80 : mOk M_102.1 M_102.2.1 M_102.2.2.1 M_102.2.2.2 80 (o_gP 4 2) := ok_gP dX10_pack_80 f_RX10_211 rfl
theorem k_102_83 : mOk M_102.1 M_102.2.1 M_102.2.2.1 M_102.2.2.2 83 (o_gI 1 1) := ok_gI dX10_pack_83 f_RX10_103 (Or.inl rfl)
theorem k_102_87 : mOk M_102.1 M_102.2.1 M_102.2.2.1 M_102.2.2.2 87 (oS 1 (s_push (.int (-1)))) := ok_iconst dX10_pack_87 (by decide)
set_option maxRecDepth 20000 in
set_option maxHeartbeats 4000000 in
theorem tk_102 (l : Launch) (H9 : mThr l) (H10 : mSpl l) (pc : Nat) (q : mEnt) (h : tb_102 pc = some q) : EE l 102 pc q := nd h (fun h => nd h (fun h => nd h (fun h => nd h (fun h => lf (P := EE l 102) h k_102_0) (fun h => nd h (fun h => lf (P := EE l 102) h k_102_1) (fun h => lf (P := EE l 102) h k_102_4))) (fun h => nd h (fun h => nd h (fun h => lf (P := EE l 102) h k_102_7) (fun h => lf (P := EE l 102) h (EE_re (Or.inl ⟨rfl, dX10_pack_8, rfl⟩)))) (fun h => nd h (fun h => lf (P := EE l 102) h k_102_9) (fun h => lf (P := EE l 102) h k_102_10)))) (fun h => nd h (fun h => nd h (fun h => nd h (fun h => lf (P := EE l 102) h k_102_44) (fun h => lf (P := EE l 102) h k_102_45)) (fun h => nd h (fun h => lf (P := EE l 102) h k_102_48) (fun h => lf (P := EE l 102) h (EE_re (Or.inl ⟨rfl, dX10_pack_51, rfl⟩))))) (fun h => nd h (fun h => nd h (fun h => lf (P := EE l 102) h k_102_52) (fun h => lf (P := EE l 102) h k_102_53)) (fun h => nd h (fun h => lf (P := EE l 102) h k_102_56) (fun h => lf (P := EE l 102) h (EE_re (Or.inl ⟨rfl, dX10_pack_59, rfl⟩))))))) (fun h => nd h (fun h => nd h (fun h => nd h (fun h => lf (P := EE l 102) h k_102_60) (fun h => nd h (fun h => lf (P := EE l 102) h k_102_61) (fun h => lf (P := EE l 102) h k_102_64))) (fun h => nd h (fun h => nd h (fun h => lf (P := EE l 102) h (EE_re (Or.inl ⟨rfl, dX10_pack_67, rfl⟩))) (fun h => lf (P := EE l 102) h k_102_68)) (fun h => nd h (fun h => lf (P := EE l 102) h k_102_69) (fun h => lf (P := EE l 102) h k_102_72)))) (fun h => nd h (fun h => nd h (fun h => nd h (fun h => lf (P := EE l 102) h (EE_re (Or.inl ⟨rfl, dX10_pack_75, rfl⟩))) (fun h => lf (P := EE l 102) h k_102_76)) (fun h => nd h (fun h => lf (P := EE l 102) h k_102_77) (fun h => lf (P := EE l 102) h k_102_80))) (fun h => nd h (fun h => nd h (fun h => lf (P := EE l 102) h k_102_83) (fun h => lf (P := EE l 102) h (EE_re (Or.inl ⟨rfl, dX10_pack_86, rfl⟩)))) (fun h => nd h (fun h => lf (P := EE l 102) h k_102_87) (fun h => lf (P := EE l 102) h (EE_re (Or.inl ⟨rfl, dX10_pack_88, rfl⟩)))))))
theorem dX10_difference_0 : decode cX10_difference 0 = .ok (.aload_n 0, 1) := by decide +kernel
theorem dX10_difference_1 : decode cX10_difference 1 = .ok (.iload_n 1, 1) := by decide +kernel
theorem dX10_difference_2 : decode cX10_difference 2 = .ok (.invokevirtual 115, 3) := by decide +kernel
theorem dX10_difference_5 : decode cX10_difference 5 = .ok (.astore_n 3, 1) := by decide +kernel
theorem dX10_difference_6 : decode cX10_difference 6 = .ok (.aload_n 0, 1) := by decide +kernel
theorem dX10_difference_7 : decode cX10_difference 7 = .ok (.iload_n 2, 1) := by decide +kernel
theorem dX10_difference_8 : decode cX10_difference 8 = .ok (.invokevirtual 115, 3) := by decide +kernel
theorem dX10_difference_11 : decode cX10_difference 11 = .ok (.astore 4, 2) := by decide +kernel
theorem dX10_difference_13 : decode cX10_difference 13 = .ok (.aload_n 3, 1) := by decide +kernel
theorem dX10_difference_14 : decode cX10_difference 14 = .ok (.ifnull 8, 3) := by decide +kernel
theorem dX10_difference_17 : decode cX10_difference 17 = .ok (.aload 4, 2) := by decide +kernel
theorem dX10_difference_19 : decode cX10_difference 19 = .ok (.ifnonnull 13, 3) := by decide +kernel
theorem dX10_difference_22 : decode cX10_difference 22 = .ok (.new 123, 3) := by decide +kernel
theorem dX10_difference_25 : decode cX10_difference 25 = .ok (.dup, 1) := by decide +kernel
theorem dX10_difference_26 : decode cX10_difference 26 = .ok (.ldc 168, 2) := by decide +kernel
theorem dX10_difference_28 : decode cX10_difference 28 = .ok (.invokespecial 127, 3) := by decide +kernel
theorem dX10_difference_31 : decode cX10_difference 31 = .ok (.athrow, 1) := by decide +kernel
theorem dX10_difference_32 : decode cX10_difference 32 = .ok (.aload_n 0, 1) := by decide +kernel
theorem dX10_difference_33 : decode cX10_difference 33 = .ok (.getfield 161, 3) := by decide +kernel
theorem dX10_difference_36 : decode cX10_difference 36 = .ok (.ifCond .eq 50, 3) := by decide +kernel
theorem dX10_difference_39 : decode cX10_difference 39 = .ok (.aload_n 0, 1) := by decide +kernel
theorem dX10_difference_40 : decode cX10_difference 40 = .ok (.getfield 30, 3) := by decide +kernel
theorem dX10_difference_43 : decode cX10_difference 43 = .ok (.aload_n 0, 1) := by decide +kernel
theorem dX10_difference_44 : decode cX10_difference 44 = .ok (.getfield 65, 3) := by decide +kernel
theorem dX10_difference_47 : decode cX10_difference 47 = .ok (.getfield 214, 3) := by decide +kernel
theorem dX10_difference_50 : decode cX10_difference 50 = .ok (.aload_n 3, 1) := by decide +kernel
theorem dX10_difference_51 : decode cX10_difference 51 = .ok (.iload_n 1, 1) := by decide +kernel
theorem dX10_difference_52 : decode cX10_difference 52 = .ok (.aload_n 0, 1) := by decide +kernel
theorem dX10_difference_53 : decode cX10_difference 53 = .ok (.getfield 44, 3) := by decide +kernel
theorem dX10_difference_56 : decode cX10_difference 56 = .ok (.invokevirtual 170, 3) := by decide +kernel
theorem dX10_difference_59 : decode cX10_difference 59 = .ok (.ifCond .eq 27, 3) := by decide +kernel
theorem dX10_difference_62 : decode cX10_difference 62 = .ok (.aload_n 0, 1) := by decide +kernel
theorem dX10_difference_63 : decode cX10_difference 63 = .ok (.getfield 30, 3) := by decide +kernel
theorem dX10_difference_66 : decode cX10_difference 66 = .ok (.aload_n 0, 1) := by decide +kernel
theorem dX10_difference_67 : decode cX10_difference 67 = .ok (.getfield 65, 3) := by decide +kernel
theorem dX10_difference_70 : decode cX10_difference 70 = .ok (.getfield 217, 3) := by decide +kernel
theorem dX10_difference_73 : decode cX10_difference 73 = .ok (.aload 4, 2) := by decide +kernel
theorem dX10_difference_75 : decode cX10_difference 75 = .ok (.iload_n 2, 1) := by decide +kernel
theorem dX10_difference_76 : decode cX10_difference 76 = .ok (.aload_n 0, 1) := by decide +kernel
theorem dX10_difference_77 : decode cX10_difference 77 = .ok (.getfield 44, 3) := by decide +kernel
theorem dX10_difference_80 : decode cX10_difference 80 = .ok (.invokevirtual 170, 3) := by decide +kernel
theorem dX10_difference_83 : decode cX10_difference 83 = .ok (.ifCond .ne 13, 3) := by decide +kernel
theorem dX10_difference_86 : decode cX10_difference 86 = .ok (.new 98, 3) := by decide +kernel
theorem dX10_difference_89 : decode cX10_difference 89 = .ok (.dup, 1) := by decide +kernel
theorem dX10_difference_90 : decode cX10_difference 90 = .ok (.ldc 220, 2) := by decide +kernel
theorem dX10_difference_92 : decode cX10_difference 92 = .ok (.invokespecial 102, 3) := by decide +kernel
theorem dX10_difference_95 : decode cX10_difference 95 = .ok (.athrow, 1) := by decide +kernel
theorem dX10_difference_96 : decode cX10_difference 96 = .ok (.aload_n 0, 1) := by decide +kernel
theorem dX10_difference_97 : decode cX10_difference 97 = .ok (.getfield 65, 3) := by decide +kernel
theorem dX10_difference_100 : decode cX10_difference 100 = .ok (.invokevirtual 222, 3) := by decide +kernel
theorem dX10_difference_103 : decode cX10_difference 103 = .ok (.aload_n 0, 1) := by decide +kernel
theorem dX10_difference_104 : decode cX10_difference 104 = .ok (.getfield 61, 3) := by decide +kernel
theorem dX10_difference_107 : decode cX10_difference 107 = .ok (.astore 5, 2) := by decide +kernel
theorem dX10_difference_109 : decode cX10_difference 109 = .ok (.aload_n 0, 1) := by decide +kernel
theorem dX10_difference_110 : decode cX10_difference 110 = .ok (.aload_n 0, 1) := by decide +kernel
theorem dX10_difference_111 : decode cX10_difference 111 = .ok (.getfield 65, 3) := by decide +kernel
theorem dX10_difference_114 : decode cX10_difference 114 = .ok (.putfield 61, 3) := by decide +kernel
theorem dX10_difference_117 : decode cX10_difference 117 = .ok (.aload_n 0, 1) := by decide +kernel
theorem dX10_difference_118 : decode cX10_difference 118 = .ok (.aload 5, 2) := by decide +kernel
theorem dX10_difference_120 : decode cX10_difference 120 = .ok (.putfield 65, 3) := by decide +kernel
theorem dX10_difference_123 : decode cX10_difference 123 = .ok (.aload_n 0, 1) := by decide +kernel
theorem dX10_difference_124 : decode cX10_difference 124 = .ok (.iconst 1, 1) := by decide +kernel
theorem dX10_difference_125 : decode cX10_difference 125 = .ok (.putfield 165, 3) := by decide +kernel
theorem dX10_difference_128 : decode cX10_difference 128 = .ok (.aload_n 0, 1) := by decide +kernel
theorem dX10_difference_129 : decode cX10_difference 129 = .ok (.getfield 61, 3) := by decide +kernel
theorem dX10_difference_132 : decode cX10_difference 132 = .ok (.getfield 225, 3) := by decide +kernel
theorem dX10_difference_135 : decode cX10_difference 135 = .ok (.ireturn, 1) := by decide +kernel
def tb_103 (pc : Nat) : Option mEnt := bif Nat.ble pc 63 then (bif Nat.ble pc 32 then (bif Nat.ble pc 8 then (bif Nat.ble pc 2 then (bif Nat.ble pc 0 then (bif Nat.beq pc 0 then some (.inl (o_al 0 1)) else none) else (bif Nat.ble pc 1 then (bif Nat.beq pc 1 then some (.inl (o_il 1 1)) else none) else (bif Nat.beq pc 2 then some (.inr (3, 108, 2, 10)) else none))) else (bif Nat.ble pc 6 then (bif Nat.ble pc 5 then (bif Nat.beq pc 5 then some (.inl (o_as 3 1)) else none) else (bif Nat.beq pc 6 then some (.inl (o_al 0 1)) else none)) else (bif Nat.ble pc 7 then (bif Nat.beq pc 7 then some (.inl (o_il 2 1)) else none) else (bif Nat.beq pc 8 then some (.inr (3, 108, 2, 10)) else none)))) else (bif Nat.ble pc 14 then (bif Nat.ble pc 11 then (bif Nat.beq pc 11 then some (.inl (o_as 4 2)) else none) else (bif Nat.ble pc 13 then (bif Nat.beq pc 13 then some (.inl (o_al 3 1)) else none) else (bif Nat.beq pc 14 then some (.inl (o_null 22)) else none))) else (bif Nat.ble pc 19 then (bif Nat.ble pc 17 then (bif Nat.beq pc 17 then some (.inl (o_al 4 2)) else none) else (bif Nat.beq pc 19 then some (.inl (o_nnull 32)) else none)) else (bif Nat.ble pc 22 then (bif Nat.beq pc 22 then some (.inr (9, 0, 6, 2)) else none) else (bif Nat.beq pc 32 then some (.inl (o_al 0 1)) else none))))) else (bif Nat.ble pc 47 then (bif Nat.ble pc 39 then (bif Nat.ble pc 33 then (bif Nat.beq pc 33 then some (.inl (o_gI 10 7)) else none) else (bif Nat.ble pc 36 then (bif Nat.beq pc 36 then some (.inl (o_zeq 86)) else none) else (bif Nat.beq pc 39 then some (.inl (o_al 0 1)) else none))) else (bif Nat.ble pc 43 then (bif Nat.ble pc 40 then (bif Nat.beq pc 40 then some (.inl (o_gP 10 4)) else none) else (bif Nat.beq pc 43 then some (.inl (o_al 0 1)) else none)) else (bif Nat.ble pc 44 then (bif Nat.beq pc 44 then some (.inl (o_gP 10 12)) else none) else (bif Nat.beq pc 47 then some (.inl (o_gP 0 0)) else none)))) else (bif Nat.ble pc 53 then (bif Nat.ble pc 51 then (bif Nat.ble pc 50 then (bif Nat.beq pc 50 then some (.inl (o_al 3 1)) else none) else (bif Nat.beq pc 51 then some (.inl (o_il 1 1)) else none)) else (bif Nat.ble pc 52 then (bif Nat.beq pc 52 then some (.inl (o_al 0 1)) else none) else (bif Nat.beq pc 53 then some (.inl (o_gP 10 6)) else none))) else (bif Nat.ble pc 59 then (bif Nat.ble pc 56 then (bif Nat.beq pc 56 then some (.inr (3, 54, 5, 5)) else none) else (bif Nat.beq pc 59 then some (.inl (o_zeq 86)) else none)) else (bif Nat.ble pc 62 then (bif Nat.beq pc 62 then some (.inl (o_al 0 1)) else none) else (bif Nat.beq pc 63 then some (.inl (o_gP 10 4)) else none)))))) else (bif Nat.ble pc 104 then (bif Nat.ble pc 77 then (bif Nat.ble pc 70 then (bif Nat.ble pc 66 then (bif Nat.beq pc 66 then some (.inl (o_al 0 1)) else none) else (bif Nat.ble pc 67 then (bif Nat.beq pc 67 then some (.inl (o_gP 10 12)) else none) else (bif Nat.beq pc 70 then some (.inl (o_gP 0 1)) else none))) else (bif Nat.ble pc 75 then (bif Nat.ble pc 73 then (bif Nat.beq pc 73 then some (.inl (o_al 4 2)) else none) else (bif Nat.beq pc 75 then some (.inl (o_il 2 1)) else none)) else (bif Nat.ble pc 76 then (bif Nat.beq pc 76 then some (.inl (o_al 0 1)) else none) else (bif Nat.beq pc 77 then some (.inl (o_gP 10 6)) else none)))) else (bif Nat.ble pc 96 then (bif Nat.ble pc 83 then (bif Nat.ble pc 80 then (bif Nat.beq pc 80 then some (.inr (3, 54, 5, 5)) else none) else (bif Nat.beq pc 83 then some (.inl (o_zne 96)) else none)) else (bif Nat.ble pc 86 then (bif Nat.beq pc 86 then some (.inr (9, 0, 6, 1)) else none) else (bif Nat.beq pc 96 then some (.inl (o_al 0 1)) else none))) else (bif Nat.ble pc 100 then (bif Nat.ble pc 97 then (bif Nat.beq pc 97 then some (.inl (o_gP 10 12)) else none) else (bif Nat.beq pc 100 then some (.inr (3, 1, 1, 0)) else none)) else (bif Nat.ble pc 103 then (bif Nat.beq pc 103 then some (.inl (o_al 0 1)) else none) else (bif Nat.beq pc 104 then some (.inl (o_gP 10 11)) else none))))) else (bif Nat.ble pc 118 then (bif Nat.ble pc 110 then (bif Nat.ble pc 107 then (bif Nat.beq pc 107 then some (.inl (o_as 5 2)) else none) else (bif Nat.ble pc 109 then (bif Nat.beq pc 109 then some (.inl (o_al 0 1)) else none) else (bif Nat.beq pc 110 then some (.inl (o_al 0 1)) else none))) else (bif Nat.ble pc 114 then (bif Nat.ble pc 111 then (bif Nat.beq pc 111 then some (.inl (o_gP 10 12)) else none) else (bif Nat.beq pc 114 then some (.inl (o_pP 10 11)) else none)) else (bif Nat.ble pc 117 then (bif Nat.beq pc 117 then some (.inl (o_al 0 1)) else none) else (bif Nat.beq pc 118 then some (.inl (o_al 5 2)) else none)))) else (bif Nat.ble pc 125 then (bif Nat.ble pc 123 then (bif Nat.ble pc 120 then (bif Nat.beq pc 120 then some (.inl (o_pP 10 12)) else none) else (bif Nat.beq pc 123 then some (.inl (o_al 0 1)) else none)) else (bif Nat.ble pc 124 then (bif Nat.beq pc 124 then some (.inl (oS 1 (s_push (.int 1)))) else none) else (bif Nat.beq pc 125 then some (.inl (o_pZ 10 13)) else none))) else (bif Nat.ble pc 129 then (bif Nat.ble pc 128 then (bif Nat.beq pc 128 then some (.inl (o_al 0 1)) else none) else (bif Nat.beq pc 129 then some (.inl (o_gP 10 11)) else none)) else (bif Nat.ble pc 132 then (bif Nat.beq pc 132 then some (.inl (o_gI 0 2)) else none) else (bif Nat.beq pc 135 then some (.inr (0, 0, 0, 0)) else none))))))
theorem k_103_0 : mOk M_103.1 M_103.2.1 M_103.2.2.1 M_103.2.2.2 0 (o_al 0 1) := ok_aload_n dX10_difference_0 rfl
theorem k_103_1 : mOk M_103.1 M_103.2.1 M_103.2.2.1 M_103.2.2.2 1 (o_il 1 1) := ok_iload_n dX10_difference_1 rfl
theorem k_103_5 : mOk M_103.1 M_103.2.1 M_103.2.2.1 M_103.2.2.2 5 (o_as 3 1) := ok_astore_n dX10_difference_5 rfl
theorem k_103_6 : mOk M_103.1 M_103.2.1 M_103.2.2.1 M_103.2.2.2 6 (o_al 0 1) := ok_aload_n dX10_difference_6 rfl
theorem k_103_7 : mOk M_103.1 M_103.2.1 M_103.2.2.1 M_103.2.2.2 7 (o_il 2 1) := ok_iload_n dX10_difference_7 rfl
theorem k_103_11 : mOk M_103.1 M_103.2.1 M_103.2.2.1 M_103.2.2.2 11 (o_as 4 2) := ok_astore dX10_difference_11
theorem k_103_13 : mOk M_103.1 M_103.2.1 M_103.2.2.1 M_103.2.2.2 13 (o_al 3 1) := ok_aload_n dX10_difference_13 rfl
theorem k_103_14 : mOk M_103.1 M_103.2.1 M_103.2.2.1 M_103.2.2.2 14 (o_null 22) := ok_ifnull dX10_difference_14 (by decide)
theorem k_103_17 : mOk M_103.1 M_103.2.1 M_103.2.2.1 M_103.2.2.2 17 (o_al 4 2) := ok_aload dX10_difference_17
theorem k_103_19 : mOk M_103.1 M_103.2.1 M_103.2.2.1 M_103.2.2.2 19 (o_nnull 32) := ok_ifnonnull dX10_difference_19 (by decide)
theorem k_103_32 : mOk M_103.1 M_103.2.1 M_103.2.2.1 M_103.2.2.2 32 (o_al 0 1) := ok_aload_n dX10_difference_32 rfl
theorem k_103_33 : mOk M_103.1 M_103.2.1 M_103.2.2.1 M_103.2.2.2 33 (o_gI 10 7) := ok_gI dX10_difference_33 f_RX10_161 (Or.inr rfl)
theorem k_103_36 : mOk M_103.1 M_103.2.1 M_103.2.2.1 M_103.2.2.2 36 (o_zeq 86) := ok_zeq dX10_difference_36 (by decide)
theorem k_103_39 : mOk M_103.1 M_103.2.1 M_103.2.2.1 M_103.2.2.2 39 (o_al 0 1) := ok_aload_n dX10_difference_39 rfl
theorem k_103_40 : mOk M_103.1 M_103.2.1 M_103.2.2.1 M_103.2.2.2 40 (o_gP 10 4) := ok_gP dX10_difference_40 f_RX10_30 rfl
theorem k_103_43 : mOk M_103.1 M_103.2.1 M_103.2.2.1 M_103.2.2.2 43 (o_al 0 1) := ok_aload_n dX10_difference_43 rfl
theorem k_103_44 : mOk M_103.1 M_103.2.1 M_103.2.2.1 M_103.2.2.2 44 (o_gP 10 12) := ok_gP dX10_difference_44 f_RX10_65 rfl
theorem k_103_47 : mOk M_103.1 M_103.2.1 M_103.2.2.1 M_103.2.2.2 47 (o_gP 0 0) := ok_gP dX10_difference_47 f_RX10_214 rfl
theorem k_103_50 : mOk M_103.1 M_103.2.1 M_103.2.2.1 M_103.2.2.2 50 (o_al 3 1) := ok_aload_n dX10_difference_50 rfl
theorem k_103_51 : mOk M_103.1 M_103.2.1 M_103.2.2.1 M_103.2.2.2 51 (o_il 1 1) := ok_iload_n dX10_difference_51 rfl
theorem k_103_52 : mOk M_103.1 M_103.2.1 M_103.2.2.1 M_103.2.2.2 52 (o_al 0 1) := ok_aload_n dX10_difference_52 rfl
theorem k_103_53 : mOk M_103.1 M_103.2.1 M_103.2.2.1 M_103.2.2.2 53 (o_gP 10 6) := ok_gP dX10_difference_53 f_RX10_44 rfl
theorem k_103_59 : mOk M_103.1 M_103.2.1 M_103.2.2.1 M_103.2.2.2 59 (o_zeq 86) := ok_zeq dX10_difference_59 (by decide)
theorem k_103_62 : mOk M_103.1 M_103.2.1 M_103.2.2.1 M_103.2.2.2 62 (o_al 0 1) := ok_aload_n dX10_difference_62 rfl
theorem k_103_63 : mOk M_103.1 M_103.2.1 M_103.2.2.1 M_103.2.2.2 63 (o_gP 10 4) := ok_gP dX10_difference_63 f_RX10_30 rfl
theorem k_103_66 : mOk M_103.1 M_103.2.1 M_103.2.2.1 M_103.2.2.2 66 (o_al 0 1) := ok_aload_n dX10_difference_66 rfl
theorem k_103_67 : mOk M_103.1 M_103.2.1 M_103.2.2.1 M_103.2.2.2 67 (o_gP 10 12) := ok_gP dX10_difference_67 f_RX10_65 rfl
theorem k_103_70 : mOk M_103.1 M_103.2.1 M_103.2.2.1 M_103.2.2.2 70 (o_gP 0 1) := ok_gP dX10_difference_70 f_RX10_217 rfl
theorem k_103_73 : mOk M_103.1 M_103.2.1 M_103.2.2.1 M_103.2.2.2 73 (o_al 4 2) := ok_aload dX10_difference_73
theorem k_103_75 : mOk M_103.1 M_103.2.1 M_103.2.2.1 M_103.2.2.2 75 (o_il 2 1) := ok_iload_n dX10_difference_75 rfl
theorem k_103_76 : mOk M_103.1 M_103.2.1 M_103.2.2.1 M_103.2.2.2 76 (o_al 0 1) := ok_aload_n dX10_difference_76 rfl
theorem k_103_77 : mOk M_103.1 M_103.2.1 M_103.2.2.1 M_103.2.2.2 77 (o_gP 10 6) := ok_gP dX10_difference_77 f_RX10_44 rfl
theorem k_103_83 : mOk M_103.1 M_103.2.1 M_103.2.2.1 M_103.2.2.2 83 (o_zne 96) := ok_zne dX10_difference_83 (by decide)
theorem k_103_96 : mOk M_103.1 M_103.2.1 M_103.2.2.1 M_103.2.2.2 96 (o_al 0 1) := ok_aload_n dX10_difference_96 rfl
theorem k_103_97 : mOk M_103.1 M_103.2.1 M_103.2.2.1 M_103.2.2.2 97 (o_gP 10 12) := ok_gP dX10_difference_97 f_RX10_65 rfl
theorem k_103_103 : mOk M_103.1 M_103.2.1 M_103.2.2.1 M_103.2.2.2 103 (o_al 0 1) := ok_aload_n dX10_difference_103 rfl
theorem k_103_104 : mOk M_103.1 M_103.2.1 M_103.2.2.1 M_103.2.2.2 104 (o_gP 10 11) := ok_gP dX10_difference_104 f_RX10_61 rfl
theorem k_103_107 : mOk M_103.1 M_103.2.1 M_103.2.2.1 M_103.2.2.2 107 (o_as 5 2) := ok_astore dX10_difference_107
theorem k_103_109 : mOk M_103.1 M_103.2.1 M_103.2.2.1 M_103.2.2.2 109 (o_al 0 1) := ok_aload_n dX10_difference_109 rfl
theorem k_103_110 : mOk M_103.1 M_103.2.1 M_103.2.2.1 M_103.2.2.2 110 (o_al 0 1) := ok_aload_n dX10_difference_110 rfl
theorem k_103_111 : mOk M_103.1 M_103.2.1 M_103.2.2.1 M_103.2.2.2 111 (o_gP 10 12) := ok_gP dX10_difference_111 f_RX10_65 rfl
theorem k_103_114 : mOk M_103.1 M_103.2.1 M_103.2.2.1 M_103.2.2.2 114 (o_pP 10 11) := ok_pP dX10_difference_114 (mFw_of f_RX10_61_c (Or.inl rfl)) rfl
theorem k_103_117 : mOk M_103.1 M_103.2.1 M_103.2.2.1 M_103.2.2.2 117 (o_al 0 1) := ok_aload_n dX10_difference_117 rfl
theorem k_103_118 : mOk M_103.1 M_103.2.1 M_103.2.2.1 M_103.2.2.2 118 (o_al 5 2) := ok_aload dX10_difference_118
theorem k_103_120 : mOk M_103.1 M_103.2.1 M_103.2.2.1 M_103.2.2.2 120 (o_pP 10 12) := ok_pP dX10_difference_120 (mFw_of f_RX10_65_c (Or.inl rfl)) rfl
theorem k_103_123 : mOk M_103.1 M_103.2.1 M_103.2.2.1 M_103.2.2.2 123 (o_al 0 1) := ok_aload_n dX10_difference_123 rfl
theorem k_103_124 : mOk M_103.1 M_103.2.1 M_103.2.2.1 M_103.2.2.2 124 (oS 1 (s_push (.int 1))) := ok_iconst dX10_difference_124 (by decide)
theorem k_103_125 : mOk M_103.1 M_103.2.1 M_103.2.2.1 M_103.2.2.2 125 (o_pZ 10 13) := ok_pZ dX10_difference_125 (mFw_of f_RX10_165_c (Or.inl rfl)) rfl
theorem k_103_128 : mOk M_103.1 M_103.2.1 M_103.2.2.1 M_103.2.2.2 128 (o_al 0 1) := ok_aload_n dX10_difference_128 rfl
theorem k_103_129 : mOk M_103.1 M_103.2.1 M_103.2.2.1 M_103.2.2.2 129 (o_gP 10 11) := ok_gP dX10_difference_129 f_RX10_61 rfl
theorem k_103_132 : mOk M_103.1 M_103.2.1 M_103.2.2.1 M_103.2.2.2 132 (o_gI 0 2) := ok_gI dX10_difference_132 f_RX10_225 (Or.inl rfl)
set_option maxRecDepth 20000 in
set_option maxHeartbeats 4000000 in
theorem tk_103 (l : Launch) (H9 : mThr l) (H10 : mSpl l) (pc : Nat) (q : mEnt) (h : tb_103 pc = some q) : EE l 103 pc q := nd h (fun h => nd h (fun h => nd h (fun h => nd h (fun h => nd h (fun h => lf (P := EE l 103) h k_103_0) (fun h => nd h (fun h => lf (P := EE l 103) h k_103_1) (fun h => lf (P := EE l 103) h (EE_ca (by decide) (⟨m_703, m_70, ⟨by decide, by decide⟩, by decide +kernel, ⟨by decide, by decide⟩, 115, 1, by decide +kernel, Or.inr (Or.inr (Or.inl ⟨rfl, rfl, dX10_difference_2, m_700, m_702, _, rfl, by decide, m_11⟩))⟩) rfl)))) (fun h => nd h (fun h => nd h (fun h => lf (P := EE l 103) h k_103_5) (fun h => lf (P := EE l 103) h k_103_6)) (fun h => nd h (fun h => lf (P := EE l 103) h k_103_7) (fun h => lf (P := EE l 103) h (EE_ca (by decide) (⟨m_703, m_70, ⟨by decide, by decide⟩, by decide +kernel, ⟨by decide, by decide⟩, 115, 1, by decide +kernel, Or.inr (Or.inr (Or.inl ⟨rfl, rfl, dX10_difference_8, m_700, m_702, _, rfl, by decide, m_11⟩))⟩) rfl))))) (fun h => nd h (fun h => nd h (fun h => lf (P := EE l 103) h k_103_11) (fun h => nd h (fun h => lf (P := EE l 103) h k_103_13) (fun h => lf (P := EE l 103) h k_103_14))) (fun h => nd h (fun h => nd h (fun h => lf (P := EE l 103) h k_103_17) (fun h => lf (P := EE l 103) h k_103_19)) (fun h => nd h (fun h => lf (P := EE l 103) h (EE_th H9 (by decide))) (fun h => lf (P := EE l 103) h k_103_32))))) (fun h => nd h (fun h => nd h (fun h => nd h (fun h => lf (P := EE l 103) h k_103_33) (fun h => nd h (fun h => lf (P := EE l 103) h k_103_36) (fun h => lf (P := EE l 103) h k_103_39))) (fun h => nd h (fun h => nd h (fun h => lf (P := EE l 103) h k_103_40) (fun h => lf (P := EE l 103) h k_103_43)) (fun h => nd h (fun h => lf (P := EE l 103) h k_103_44) (fun h => lf (P := EE l 103) h k_103_47)))) (fun h => nd h (fun h => nd h (fun h => nd h (fun h => lf (P := EE l 103) h k_103_50) (fun h => lf (P := EE l 103) h k_103_51)) (fun h => nd h (fun h => lf (P := EE l 103) h k_103_52) (fun h => lf (P := EE l 103) h k_103_53))) (fun h => nd h (fun h => nd h (fun h => lf (P := EE l 103) h (EE_ca (by decide) (⟨m_873, m_73, ⟨by decide, by decide⟩, by decide +kernel, ⟨by decide, by decide⟩, 170, 4, by decide +kernel, Or.inr (Or.inr (Or.inl ⟨rfl, rfl, dX10_difference_56, m_870, m_871, _, rfl, by decide, m_872⟩))⟩) rfl)) (fun h => lf (P := EE l 103) h k_103_59)) (fun h => nd h (fun h => lf (P := EE l 103) h k_103_62) (fun h => lf (P := EE l 103) h k_103_63)))))) (fun h => nd h (fun h => nd h (fun h => nd h (fun h => nd h (fun h => lf (P := EE l 103) h k_103_66) (fun h => nd h (fun h => lf (P := EE l 103) h k_103_67) (fun h => lf (P := EE l 103) h k_103_70))) (fun h => nd h (fun h => nd h (fun h => lf (P := EE l 103) h k_103_73) (fun h => lf (P := EE l 103) h k_103_75)) (fun h => nd h (fun h => lf (P := EE l 103) h k_103_76) (fun h => lf (P := EE l 103) h k_103_77)))) (fun h => nd h (fun h => nd h (fun h => nd h (fun h => lf (P := EE l 103) h (EE_ca (by decide) (⟨m_873, m_73, ⟨by decide, by decide⟩, by decide +kernel, ⟨by decide, by decide⟩, 170, 4, by decide +kernel, Or.inr (Or.inr (Or.inl ⟨rfl, rfl, dX10_difference_80, m_870, m_871, _, rfl, by decide, m_872⟩))⟩) rfl)) (fun h => lf (P := EE l 103) h k_103_83)) (fun h => nd h (fun h => lf (P := EE l 103) h (EE_th H9 (by decide))) (fun h => lf (P := EE l 103) h k_103_96))) (fun h => nd h (fun h => nd h (fun h => lf (P := EE l 103) h k_103_97) (fun h => lf (P := EE l 103) h (EE_ca (by decide) (⟨m_936, m_80, ⟨by decide, by decide⟩, by decide +kernel, ⟨by decide, by decide⟩, 222, 0, by decide +kernel, Or.inr (Or.inr (Or.inl ⟨rfl, rfl, dX10_difference_100, m_933, m_934, _, rfl, by decide, m_935⟩))⟩) rfl))) (fun h => nd h (fun h => lf (P := EE l 103) h k_103_103) (fun h => lf (P := EE l 103) h k_103_104))))) (fun h => nd h (fun h => nd h (fun h => nd h (fun h => lf (P := EE l 103) h k_103_107) (fun h => nd h (fun h => lf (P := EE l 103) h k_103_109) (fun h => lf (P := EE l 103) h k_103_110))) (fun h => nd h (fun h => nd h (fun h => lf (P := EE l 103) h k_103_111) (fun h => lf (P := EE l 103) h k_103_114)) (fun h => nd h (fun h => lf (P := EE l 103) h k_103_117) (fun h => lf (P := EE l 103) h k_103_118)))) (fun h => nd h (fun h => nd h (fun h => nd h (fun h => lf (P := EE l 103) h k_103_120) (fun h => lf (P := EE l 103) h k_103_123)) (fun h => nd h (fun h => lf (P := EE l 103) h k_103_124) (fun h => lf (P := EE l 103) h k_103_125))) (fun h => nd h (fun h => nd h (fun h => lf (P := EE l 103) h k_103_128) (fun h => lf (P := EE l 103) h k_103_129)) (fun h => nd h (fun h => lf (P := EE l 103) h k_103_132) (fun h => lf (P := EE l 103) h (EE_re (Or.inl ⟨rfl, dX10_difference_135, rfl⟩))))))))
theorem dX10_differs_0 : decode cX10_differs 0 = .ok (.aload_n 0, 1) := by decide +kernel
theorem dX10_differs_1 : decode cX10_differs 1 = .ok (.getfield 165, 3) := by decide +kernel
theorem dX10_differs_4 : decode cX10_differs 4 = .ok (.ifCond .eq 18, 3) := by decide +kernel
theorem dX10_differs_7 : decode cX10_differs 7 = .ok (.iload_n 1, 1) := by decide +kernel
theorem dX10_differs_8 : decode cX10_differs 8 = .ok (.ifCond .lt 14, 3) := by decide +kernel
theorem dX10_differs_11 : decode cX10_differs 11 = .ok (.iload_n 1, 1) := by decide +kernel
theorem dX10_differs_12 : decode cX10_differs 12 = .ok (.aload_n 0, 1) := by decide +kernel
theorem dX10_differs_13 : decode cX10_differs 13 = .ok (.getfield 61, 3) := by decide +kernel
theorem dX10_differs_16 : decode cX10_differs 16 = .ok (.getfield 225, 3) := by decide +kernel
theorem dX10_differs_19 : decode cX10_differs 19 = .ok (.if_icmp .lt 5, 3) := by decide +kernel
theorem dX10_differs_22 : decode cX10_differs 22 = .ok (.iconst (-1), 1) := by decide +kernel
theorem dX10_differs_23 : decode cX10_differs 23 = .ok (.ireturn, 1) := by decide +kernel
theorem dX10_differs_24 : decode cX10_differs 24 = .ok (.iload_n 2, 1) := by decide +kernel
theorem dX10_differs_25 : decode cX10_differs 25 = .ok (.tableswitch 85 0 4 #[35, 45, 55, 65, 75], 35) := by decide +kernel
theorem dX10_differs_60 : decode cX10_differs 60 = .ok (.aload_n 0, 1) := by decide +kernel
theorem dX10_differs_61 : decode cX10_differs 61 = .ok (.getfield 61, 3) := by decide +kernel
theorem dX10_differs_64 : decode cX10_differs 64 = .ok (.getfield 226, 3) := by decide +kernel
theorem dX10_differs_67 : decode cX10_differs 67 = .ok (.iload_n 1, 1) := by decide +kernel
theorem dX10_differs_68 : decode cX10_differs 68 = .ok (.iaload, 1) := by decide +kernel
theorem dX10_differs_69 : decode cX10_differs 69 = .ok (.ireturn, 1) := by decide +kernel
theorem dX10_differs_70 : decode cX10_differs 70 = .ok (.aload_n 0, 1) := by decide +kernel
theorem dX10_differs_71 : decode cX10_differs 71 = .ok (.getfield 61, 3) := by decide +kernel
theorem dX10_differs_74 : decode cX10_differs 74 = .ok (.getfield 229, 3) := by decide +kernel
theorem dX10_differs_77 : decode cX10_differs 77 = .ok (.iload_n 1, 1) := by decide +kernel
theorem dX10_differs_78 : decode cX10_differs 78 = .ok (.iaload, 1) := by decide +kernel
theorem dX10_differs_79 : decode cX10_differs 79 = .ok (.ireturn, 1) := by decide +kernel
theorem dX10_differs_80 : decode cX10_differs 80 = .ok (.aload_n 0, 1) := by decide +kernel
theorem dX10_differs_81 : decode cX10_differs 81 = .ok (.getfield 61, 3) := by decide +kernel
theorem dX10_differs_84 : decode cX10_differs 84 = .ok (.getfield 230, 3) := by decide +kernel
theorem dX10_differs_87 : decode cX10_differs 87 = .ok (.iload_n 1, 1) := by decide +kernel
theorem dX10_differs_88 : decode cX10_differs 88 = .ok (.iaload, 1) := by decide +kernel
theorem dX10_differs_89 : decode cX10_differs 89 = .ok (.ireturn, 1) := by decide +kernel
theorem dX10_differs_90 : decode cX10_differs 90 = .ok (.aload_n 0, 1) := by decide +kernel
theorem dX10_differs_91 : decode cX10_differs 91 = .ok (.getfield 61, 3) := by decide +kernel
theorem dX10_differs_94 : decode cX10_differs 94 = .ok (.getfield 231, 3) := by decide +kernel
theorem dX10_differs_97 : decode cX10_differs 97 = .ok (.iload_n 1, 1) := by decide +kernel
theorem dX10_differs_98 : decode cX10_differs 98 = .ok (.iaload, 1) := by decide +kernel
theorem dX10_differs_99 : decode cX10_differs 99 = .ok (.ireturn, 1) := by decide +kernel
theorem dX10_differs_100 : decode cX10_differs 100 = .ok (.aload_n 0, 1) := by decide +kernel
theorem dX10_differs_101 : decode cX10_differs 101 = .ok (.getfield 61, 3) := by decide +kernel
theorem dX10_differs_104 : decode cX10_differs 104 = .ok (.getfield 232, 3) := by decide +kernel
theorem dX10_differs_107 : decode cX10_differs 107 = .ok (.iload_n 1, 1) := by decide +kernel
theorem dX10_differs_108 : decode cX10_differs 108 = .ok (.iaload, 1) := by decide +kernel
theorem dX10_differs_109 : decode cX10_differs 109 = .ok (.ireturn, 1) := by decide +kernel
theorem dX10_differs_110 : decode cX10_differs 110 = .ok (.iconst (-1), 1) := by decide +kernel
theorem dX10_differs_111 : decode cX10_differs 111 = .ok (.ireturn, 1) := by decide +kernel
def tb_104 (pc : Nat) : Option mEnt := bif Nat.ble pc 74 then (bif Nat.ble pc 22 then (bif Nat.ble pc 8 then (bif Nat.ble pc 1 then (bif Nat.ble pc 0 then (bif Nat.beq pc 0 then some (.inl (o_al 0 1)) else none) else (bif Nat.beq pc 1 then some (.inl (o_gI 10 13)) else none)) else (bif Nat.ble pc 4 then (bif Nat.beq pc 4 then some (.inl (o_zeq 22)) else none) else (bif Nat.ble pc 7 then (bif Nat.beq pc 7 then some (.inl (o_il 1 1)) else none) else (bif Nat.beq pc 8 then some (.inl (o_zlt 22)) else none)))) else (bif Nat.ble pc 13 then (bif Nat.ble pc 11 then (bif Nat.beq pc 11 then some (.inl (o_il 1 1)) else none) else (bif Nat.ble pc 12 then (bif Nat.beq pc 12 then some (.inl (o_al 0 1)) else none) else (bif Nat.beq pc 13 then some (.inl (o_gP 10 11)) else none))) else (bif Nat.ble pc 16 then (bif Nat.beq pc 16 then some (.inl (o_gI 0 2)) else none) else (bif Nat.ble pc 19 then (bif Nat.beq pc 19 then some (.inl (o_clt 24)) else none) else (bif Nat.beq pc 22 then some (.inl (oS 1 (s_push (.int (-1))))) else none))))) else (bif Nat.ble pc 64 then (bif Nat.ble pc 25 then (bif Nat.ble pc 23 then (bif Nat.beq pc 23 then some (.inr (0, 0, 0, 0)) else none) else (bif Nat.ble pc 24 then (bif Nat.beq pc 24 then some (.inl (o_il 2 1)) else none) else (bif Nat.beq pc 25 then some (.inl (o_tsw 0 4 [60, 70, 80, 90, 100] 110)) else none))) else (bif Nat.ble pc 60 then (bif Nat.beq pc 60 then some (.inl (o_al 0 1)) else none) else (bif Nat.ble pc 61 then (bif Nat.beq pc 61 then some (.inl (o_gP 10 11)) else none) else (bif Nat.beq pc 64 then some (.inl (o_gP 0 3)) else none)))) else (bif Nat.ble pc 69 then (bif Nat.ble pc 67 then (bif Nat.beq pc 67 then some (.inl (o_il 1 1)) else none) else (bif Nat.ble pc 68 then (bif Nat.beq pc 68 then some (.inl (o_iald)) else none) else (bif Nat.beq pc 69 then some (.inr (0, 0, 0, 0)) else none))) else (bif Nat.ble pc 70 then (bif Nat.beq pc 70 then some (.inl (o_al 0 1)) else none) else (bif Nat.ble pc 71 then (bif Nat.beq pc 71 then some (.inl (o_gP 10 11)) else none) else (bif Nat.beq pc 74 then some (.inl (o_gP 0 4)) else none)))))) else (bif Nat.ble pc 91 then (bif Nat.ble pc 81 then (bif Nat.ble pc 78 then (bif Nat.ble pc 77 then (bif Nat.beq pc 77 then some (.inl (o_il 1 1)) else none) else (bif Nat.beq pc 78 then some (.inl (o_iald)) else none)) else (bif Nat.ble pc 79 then (bif Nat.beq pc 79 then some (.inr (0, 0, 0, 0)) else none) else (bif Nat.ble pc 80 then (bif Nat.beq pc 80 then some (.inl (o_al 0 1)) else none) else (bif Nat.beq pc 81 then some (.inl (o_gP 10 11)) else none)))) else (bif Nat.ble pc 88 then (bif Nat.ble pc 84 then (bif Nat.beq pc 84 then some (.inl (o_gP 0 5)) else none) else (bif Nat.ble pc 87 then (bif Nat.beq pc 87 then some (.inl (o_il 1 1)) else none) else (bif Nat.beq pc 88 then some (.inl (o_iald)) else none))) else (bif Nat.ble pc 89 then (bif Nat.beq pc 89 then some (.inr (0, 0, 0, 0)) else none) else (bif Nat.ble pc 90 then (bif Nat.beq pc 90 then some (.inl (o_al 0 1)) else none) else (bif Nat.beq pc 91 then some (.inl (o_gP 10 11)) else none))))) else (bif Nat.ble pc 101 then (bif Nat.ble pc 98 then (bif Nat.ble pc 94 then (bif Nat.beq pc 94 then some (.inl (o_gP 0 6)) else none) else (bif Nat.ble pc 97 then (bif Nat.beq pc 97 then some (.inl (o_il 1 1)) else none) else (bif Nat.beq pc 98 then some (.inl (o_iald)) else none))) else (bif Nat.ble pc 99 then (bif Nat.beq pc 99 then some (.inr (0, 0, 0, 0)) else none) else (bif Nat.ble pc 100 then (bif Nat.beq pc 100 then some (.inl (o_al 0 1)) else none) else (bif Nat.beq pc 101 then some (.inl (o_gP 10 11)) else none)))) else (bif Nat.ble pc 108 then (bif Nat.ble pc 104 then (bif Nat.beq pc 104 then some (.inl (o_gP 0 7)) else none) else (bif Nat.ble pc 107 then (bif Nat.beq pc 107 then some (.inl (o_il 1 1)) else none) else (bif Nat.beq pc 108 then some (.inl (o_iald)) else none))) else (bif Nat.ble pc 109 then (bif Nat.beq pc 109 then some (.inr (0, 0, 0, 0)) else none) else (bif Nat.ble pc 110 then (bif Nat.beq pc 110 then some (.inl (oS 1 (s_push (.int (-1))))) else none) else (bif Nat.beq pc 111 then some (.inr (0, 0, 0, 0)) else none))))))
theorem k_104_0 : mOk M_104.1 M_104.2.1 M_104.2.2.1 M_104.2.2.2 0 (o_al 0 1) := ok_aload_n dX10_differs_0 rfl
theorem k_104_1 : mOk M_104.1 M_104.2.1 M_104.2.2.1 M_104.2.2.2 1 (o_gI 10 13) := ok_gI dX10_differs_1 f_RX10_165 (Or.inr rfl)
theorem k_104_4 : mOk M_104.1 M_104.2.1 M_104.2.2.1 M_104.2.2.2 4 (o_zeq 22) := ok_zeq dX10_differs_4 (by decide)
theorem k_104_7 : mOk M_104.1 M_104.2.1 M_104.2.2.1 M_104.2.2.2 7 (o_il 1 1) := ok_iload_n dX10_differs_7 rfl
theorem k_104_8 : mOk M_104.1 M_104.2.1 M_104.2.2.1 M_104.2.2.2 8 (o_zlt 22) := ok_zlt dX10_differs_8 (by decide)
theorem k_104_11 : mOk M_104.1 M_104.2.1 M_104.2.2.1 M_104.2.2.2 11 (o_il 1 1) := ok_iload_n dX10_differs_11 rfl
theorem k_104_12 : mOk M_104.1 M_104.2.1 M_104.2.2.1 M_104.2.2.2 12 (o_al 0 1) := ok_aload_n dX10_differs_12 rfl
theorem k_104_13 : mOk M_104.1 M_104.2.1 M_104.2.2.1 M_104.2.2.2 13 (o_gP 10 11) := ok_gP dX10_differs_13 f_RX10_61 rfl
theorem k_104_16 : mOk M_104.1 M_104.2.1 M_104.2.2.1 M_104.2.2.2 16 (o_gI 0 2) := ok_gI dX10_differs_16 f_RX10_225 (Or.inl rfl)
theorem k_104_19 : mOk M_104.1 M_104.2.1 M_104.2.2.1 M_104.2.2.2 19 (o_clt 24) := ok_clt dX10_differs_19 (by decide)
theorem k_104_22 : mOk M_104.1 M_104.2.1 M_104.2.2.1 M_104.2.2.2 22 (oS 1 (s_push (.int (-1)))) := ok_iconst dX10_differs_22 (by decide)
theorem k_104_24 : mOk M_104.1 M_104.2.1 M_104.2.2.1 M_104.2.2.2 24 (o_il 2 1) := ok_iload_n dX10_differs_24 rfl
theorem k_104_25 : mOk M_104.1 M_104.2.1 M_104.2.2.1 M_104.2.2.2 25 (o_tsw 0 4 [60, 70, 80, 90, 100] 110) := ok_tsw dX10_differs_25 (by decide) (by decide) (by decide)
theorem k_104_60 : mOk M_104.1 M_104.2.1 M_104.2.2.1 M_104.2.2.2 60 (o_al 0 1) := ok_aload_n dX10_differs_60 rfl
theorem k_104_61 : mOk M_104.1 M_104.2.1 M_104.2.2.1 M_104.2.2.2 61 (o_gP 10 11) := ok_gP dX10_differs_61 f_RX10_61 rfl
theorem k_104_64 : mOk M_104.1 M_104.2.1 M_104.2.2.1 M_104.2.2.2 64 (o_gP 0 3) := ok_gP dX10_differs_64 f_RX10_226 rfl
theorem k_104_67 : mOk M_104.1 M_104.2.1 M_104.2.2.1 M_104.2.2.2 67 (o_il 1 1) := ok_iload_n dX10_differs_67 rfl
theorem k_104_68 : mOk M_104.1 M_104.2.1 M_104.2.2.1 M_104.2.2.2 68 (o_iald) := ok_iald dX10_differs_68
theorem k_104_70 : mOk M_104.1 M_104.2.1 M_104.2.2.1 M_104.2.2.2 70 (o_al 0 1) := ok_aload_n dX10_differs_70 rfl
theorem k_104_71 : mOk M_104.1 M_104.2.1 M_104.2.2.1 M_104.2.2.2 71 (o_gP 10 11) := ok_gP dX10_differs_71 f_RX10_61 rfl
theorem k_104_74 : mOk M_104.1 M_104.2.1 M_104.2.2.1 M_104.2.2.2 74 (o_gP 0 4) := ok_gP dX10_differs_74 f_RX10_229 rfl
theorem k_104_77 : mOk M_104.1 M_104.2.1 M_104.2.2.1 M_104.2.2.2 77 (o_il 1 1) := ok_iload_n dX10_differs_77 rfl
theorem k_104_78 : mOk M_104.1 M_104.2.1 M_104.2.2.1 M_104.2.2.2 78 (o_iald) := ok_iald dX10_differs_78
theorem k_104_80 : mOk M_104.1 M_104.2.1 M_104.2.2.1 M_104.2.2.2 80 (o_al 0 1) := ok_aload_n dX10_differs_80 rfl
theorem k_104_81 : mOk M_104.1 M_104.2.1 M_104.2.2.1 M_104.2.2.2 81 (o_gP 10 11) := ok_gP dX10_differs_81 f_RX10_61 rfl
theorem k_104_84 : mOk M_104.1 M_104.2.1 M_104.2.2.1 M_104.2.2.2 84 (o_gP 0 5) := ok_gP dX10_differs_84 f_RX10_230 rfl
theorem k_104_87 : mOk M_104.1 M_104.2.1 M_104.2.2.1 M_104.2.2.2 87 (o_il 1 1) := ok_iload_n dX10_differs_87 rfl
theorem k_104_88 : mOk M_104.1 M_104.2.1 M_104.2.2.1 M_104.2.2.2 88 (o_iald) := ok_iald dX10_differs_88
theorem k_104_90 : mOk M_104.1 M_104.2.1 M_104.2.2.1 M_104.2.2.2 90 (o_al 0 1) := ok_aload_n dX10_differs_90 rfl
theorem k_104_91 : mOk M_104.1 M_104.2.1 M_104.2.2.1 M_104.2.2.2 91 (o_gP 10 11) := ok_gP dX10_differs_91 f_RX10_61 rfl
theorem k_104_94 : mOk M_104.1 M_104.2.1 M_104.2.2.1 M_104.2.2.2 94 (o_gP 0 6) := ok_gP dX10_differs_94 f_RX10_231 rfl
theorem k_104_97 : mOk M_104.1 M_104.2.1 M_104.2.2.1 M_104.2.2.2 97 (o_il 1 1) := ok_iload_n dX10_differs_97 rfl
theorem k_104_98 : mOk M_104.1 M_104.2.1 M_104.2.2.1 M_104.2.2.2 98 (o_iald) := ok_iald dX10_differs_98
theorem k_104_100 : mOk M_104.1 M_104.2.1 M_104.2.2.1 M_104.2.2.2 100 (o_al 0 1) := ok_aload_n dX10_differs_100 rfl
theorem k_104_101 : mOk M_104.1 M_104.2.1 M_104.2.2.1 M_104.2.2.2 101 (o_gP 10 11) := ok_gP dX10_differs_101 f_RX10_61 rfl
theorem k_104_104 : mOk M_104.1 M_104.2.1 M_104.2.2.1 M_104.2.2.2 104 (o_gP 0 7) := ok_gP dX10_differs_104 f_RX10_232 rfl
theorem k_104_107 : mOk M_104.1 M_104.2.1 M_104.2.2.1 M_104.2.2.2 107 (o_il 1 1) := ok_iload_n dX10_differs_107 rfl
theorem k_104_108 : mOk M_104.1 M_104.2.1 M_104.2.2.1 M_104.2.2.2 108 (o_iald) := ok_iald dX10_differs_108
theorem k_104_110 : mOk M_104.1 M_104.2.1 M_104.2.2.1 M_104.2.2.2 110 (oS 1 (s_push (.int (-1)))) := ok_iconst dX10_differs_110 (by decide)
set_option maxRecDepth 20000 in
set_option maxHeartbeats 4000000 in
theorem tk_104 (l : Launch) (H9 : mThr l) (H10 : mSpl l) (pc : Nat) (q : mEnt) (h : tb_104 pc = some q) : EE l 104 pc q := nd h (fun h => nd h (fun h => nd h (fun h => nd h (fun h => nd h (fun h => lf (P := EE l 104) h k_104_0) (fun h => lf (P := EE l 104) h k_104_1)) (fun h => nd h (fun h => lf (P := EE l 104) h k_104_4) (fun h => nd h (fun h => lf (P := EE l 104) h k_104_7) (fun h => lf (P := EE l 104) h k_104_8)))) (fun h => nd h (fun h => nd h (fun h => lf (P := EE l 104) h k_104_11) (fun h => nd h (fun h => lf (P := EE l 104) h k_104_12) (fun h => lf (P := EE l 104) h k_104_13))) (fun h => nd h (fun h => lf (P := EE l 104) h k_104_16) (fun h => nd h (fun h => lf (P := EE l 104) h k_104_19) (fun h => lf (P := EE l 104) h k_104_22))))) (fun h => nd h (fun h => nd h (fun h => nd h (fun h => lf (P := EE l 104) h (EE_re (Or.inl ⟨rfl, dX10_differs_23, rfl⟩))) (fun h => nd h (fun h => lf (P := EE l 104) h k_104_24) (fun h => lf (P := EE l 104) h k_104_25))) (fun h => nd h (fun h => lf (P := EE l 104) h k_104_60) (fun h => nd h (fun h => lf (P := EE l 104) h k_104_61) (fun h => lf (P := EE l 104) h k_104_64)))) (fun h => nd h (fun h => nd h (fun h => lf (P := EE l 104) h k_104_67) (fun h => nd h (fun h => lf (P := EE l 104) h k_104_68) (fun h => lf (P := EE l 104) h (EE_re (Or.inl ⟨rfl, dX10_differs_69, rfl⟩))))) (fun h => nd h (fun h => lf (P := EE l 104) h k_104_70) (fun h => nd h (fun h => lf (P := EE l 104) h k_104_71) (fun h => lf (P := EE l 104) h k_104_74)))))) (fun h => nd h (fun h => nd h (fun h => nd h (fun h => nd h (fun h => lf (P := EE l 104) h k_104_77) (fun h => lf (P := EE l 104) h k_104_78)) (fun h => nd h (fun h => lf (P := EE l 104) h (EE_re (Or.inl ⟨rfl, dX10_differs_79, rfl⟩))) (fun h => nd h (fun h => lf (P := EE l 104) h k_104_80) (fun h => lf (P := EE l 104) h k_104_81)))) (fun h => nd h (fun h => nd h (fun h => lf (P := EE l 104) h k_104_84) (fun h => nd h (fun h => lf (P := EE l 104) h k_104_87) (fun h => lf (P := EE l 104) h k_104_88))) (fun h => nd h (fun h => lf (P := EE l 104) h (EE_re (Or.inl ⟨rfl, dX10_differs_89, rfl⟩))) (fun h => nd h (fun h => lf (P := EE l 104) h k_104_90) (fun h => lf (P := EE l 104) h k_104_91))))) (fun h => nd h (fun h => nd h (fun h => nd h (fun h => lf (P := EE l 104) h k_104_94) (fun h => nd h (fun h => lf (P := EE l 104) h k_104_97) (fun h => lf (P := EE l 104) h k_104_98))) (fun h => nd h (fun h => lf (P := EE l 104) h (EE_re (Or.inl ⟨rfl, dX10_differs_99, rfl⟩))) (fun h => nd h (fun h => lf (P := EE l 104) h k_104_100) (fun h => lf (P := EE l 104) h k_104_101)))) (fun h => nd h (fun h => nd h (fun h => lf (P := EE l 104) h k_104_104) (fun h => nd h (fun h => lf (P := EE l 104) h k_104_107) (fun h => lf (P := EE l 104) h k_104_108))) (fun h => nd h (fun h => lf (P := EE l 104) h (EE_re (Or.inl ⟨rfl, dX10_differs_109, rfl⟩))) (fun h => nd h (fun h => lf (P := EE l 104) h k_104_110) (fun h => lf (P := EE l 104) h (EE_re (Or.inl ⟨rfl, dX10_differs_111, rfl⟩))))))))
theorem dX10_apply_0 : decode cX10_apply 0 = .ok (.aload_n 0, 1) := by decide +kernel
theorem dX10_apply_1 : decode cX10_apply 1 = .ok (.getfield 176, 3) := by decide +kernel
theorem dX10_apply_4 : decode cX10_apply 4 = .ok (.ifCond .eq 27, 3) := by decide +kernel
theorem dX10_apply_7 : decode cX10_apply 7 = .ok (.aload_n 0, 1) := by decide +kernel
theorem dX10_apply_8 : decode cX10_apply 8 = .ok (.getfield 165, 3) := by decide +kernel
theorem dX10_apply_11 : decode cX10_apply 11 = .ok (.ifCond .eq 20, 3) := by decide +kernel
theorem dX10_apply_14 : decode cX10_apply 14 = .ok (.aload_n 0, 1) := by decide +kernel
theorem dX10_apply_15 : decode cX10_apply 15 = .ok (.getfield 51, 3) := by decide +kernel
theorem dX10_apply_18 : decode cX10_apply 18 = .ok (.aload_n 0, 1) := by decide +kernel
theorem dX10_apply_19 : decode cX10_apply 19 = .ok (.getfield 61, 3) := by decide +kernel
theorem dX10_apply_22 : decode cX10_apply 22 = .ok (.getfield 214, 3) := by decide +kernel
theorem dX10_apply_25 : decode cX10_apply 25 = .ok (.invokevirtual 233, 3) := by decide +kernel
theorem dX10_apply_28 : decode cX10_apply 28 = .ok (.ifCond .ne 13, 3) := by decide +kernel
theorem dX10_apply_31 : decode cX10_apply 31 = .ok (.new 98, 3) := by decide +kernel
theorem dX10_apply_34 : decode cX10_apply 34 = .ok (.dup, 1) := by decide +kernel
theorem dX10_apply_35 : decode cX10_apply 35 = .ok (.ldc 237, 2) := by decide +kernel
theorem dX10_apply_37 : decode cX10_apply 37 = .ok (.invokespecial 102, 3) := by decide +kernel
theorem dX10_apply_40 : decode cX10_apply 40 = .ok (.athrow, 1) := by decide +kernel
theorem dX10_apply_41 : decode cX10_apply 41 = .ok (.aload_n 0, 1) := by decide +kernel
theorem dX10_apply_42 : decode cX10_apply 42 = .ok (.getfield 51, 3) := by decide +kernel
theorem dX10_apply_45 : decode cX10_apply 45 = .ok (.aload_n 0, 1) := by decide +kernel
theorem dX10_apply_46 : decode cX10_apply 46 = .ok (.getfield 61, 3) := by decide +kernel
theorem dX10_apply_49 : decode cX10_apply 49 = .ok (.getfield 217, 3) := by decide +kernel
theorem dX10_apply_52 : decode cX10_apply 52 = .ok (.invokevirtual 239, 3) := by decide +kernel
theorem dX10_apply_55 : decode cX10_apply 55 = .ok (.aload_n 0, 1) := by decide +kernel
theorem dX10_apply_56 : decode cX10_apply 56 = .ok (.getfield 51, 3) := by decide +kernel
theorem dX10_apply_59 : decode cX10_apply 59 = .ok (.getfield 179, 3) := by decide +kernel
theorem dX10_apply_62 : decode cX10_apply 62 = .ok (.ireturn, 1) := by decide +kernel
def tb_105 (pc : Nat) : Option mEnt := bif Nat.ble pc 25 then (bif Nat.ble pc 11 then (bif Nat.ble pc 4 then (bif Nat.ble pc 0 then (bif Nat.beq pc 0 then some (.inl (o_al 0 1)) else none) else (bif Nat.ble pc 1 then (bif Nat.beq pc 1 then some (.inl (o_gI 10 10)) else none) else (bif Nat.beq pc 4 then some (.inl (o_zeq 31)) else none))) else (bif Nat.ble pc 7 then (bif Nat.beq pc 7 then some (.inl (o_al 0 1)) else none) else (bif Nat.ble pc 8 then (bif Nat.beq pc 8 then some (.inl (o_gI 10 13)) else none) else (bif Nat.beq pc 11 then some (.inl (o_zeq 31)) else none)))) else (bif Nat.ble pc 18 then (bif Nat.ble pc 14 then (bif Nat.beq pc 14 then some (.inl (o_al 0 1)) else none) else (bif Nat.ble pc 15 then (bif Nat.beq pc 15 then some (.inl (o_gP 10 8)) else none) else (bif Nat.beq pc 18 then some (.inl (o_al 0 1)) else none))) else (bif Nat.ble pc 19 then (bif Nat.beq pc 19 then some (.inl (o_gP 10 11)) else none) else (bif Nat.ble pc 22 then (bif Nat.beq pc 22 then some (.inl (o_gP 0 0)) else none) else (bif Nat.beq pc 25 then some (.inr (3, 50, 2, 4)) else none))))) else (bif Nat.ble pc 46 then (bif Nat.ble pc 41 then (bif Nat.ble pc 28 then (bif Nat.beq pc 28 then some (.inl (o_zne 41)) else none) else (bif Nat.ble pc 31 then (bif Nat.beq pc 31 then some (.inr (9, 0, 6, 1)) else none) else (bif Nat.beq pc 41 then some (.inl (o_al 0 1)) else none))) else (bif Nat.ble pc 42 then (bif Nat.beq pc 42 then some (.inl (o_gP 10 8)) else none) else (bif Nat.ble pc 45 then (bif Nat.beq pc 45 then some (.inl (o_al 0 1)) else none) else (bif Nat.beq pc 46 then some (.inl (o_gP 10 11)) else none)))) else (bif Nat.ble pc 55 then (bif Nat.ble pc 49 then (bif Nat.beq pc 49 then some (.inl (o_gP 0 1)) else none) else (bif Nat.ble pc 52 then (bif Nat.beq pc 52 then some (.inr (3, 52, 2, 4)) else none) else (bif Nat.beq pc 55 then some (.inl (o_al 0 1)) else none))) else (bif Nat.ble pc 56 then (bif Nat.beq pc 56 then some (.inl (o_gP 10 8)) else none) else (bif Nat.ble pc 59 then (bif Nat.beq pc 59 then some (.inl (o_gI 4 3)) else none) else (bif Nat.beq pc 62 then some (.inr (0, 0, 0, 0)) else none)))))
theorem k_105_0 : mOk M_105.1 M_105.2.1 M_105.2.2.1 M_105.2.2.2 0 (o_al 0 1) := ok_aload_n dX10_apply_0 rfl
theorem k_105_1 : mOk M_105.1 M_105.2.1 M_105.2.2.1 M_105.2.2.2 1 (o_gI 10 10) := ok_gI dX10_apply_1 f_RX10_176 (Or.inr rfl)
theorem k_105_4 : mOk M_105.1 M_105.2.1 M_105.2.2.1 M_105.2.2.2 4 (o_zeq 31) := ok_zeq dX10_apply_4 (by decide)
theorem k_105_7 : mOk M_105.1 M_105.2.1 M_105.2.2.1 M_105.2.2.2 7 (o_al 0 1) := ok_aload_n dX10_apply_7 rfl
theorem k_105_8 : mOk M_105.1 M_105.2.1 M_105.2.2.1 M_105.2.2.2 8 (o_gI 10 13) := ok_gI dX10_apply_8 f_RX10_165 (Or.inr rfl)
theorem k_105_11 : mOk M_105.1 M_105.2.1 M_105.2.2.1 M_105.2.2.2 11 (o_zeq 31) := ok_zeq dX10_apply_11 (by decide)
theorem k_105_14 : mOk M_105.1 M_105.2.1 M_105.2.2.1 M_105.2.2.2 14 (o_al 0 1) := ok_aload_n dX10_apply_14 rfl
theorem k_105_15 : mOk M_105.1 M_105.2.1 M_105.2.2.1 M_105.2.2.2 15 (o_gP 10 8) := ok_gP dX10_apply_15 f_RX10_51 rfl
theorem k_105_18 : mOk M_105.1 M_105.2.1 M_105.2.2.1 M_105.2.2.2 18 (o_al 0 1) := ok_aload_n dX10_apply_18 rfl
theorem k_105_19 : mOk M_105.1 M_105.2.1 M_105.2.2.1 M_105.2.2.2 19 (o_gP 10 11) := ok_gP dX10_apply_19 f_RX10_61 rfl
theorem k_105_22 : mOk M_105.1 M_105.2.1 M_105.2.2.1 M_105.2.2.2 22 (o_gP 0 0) := ok_gP dX10_apply_22 f_RX10_214 rfl
theorem k_105_28 : mOk M_105.1 M_105.2.1 M_105.2.2.1 M_105.2.2.2 28 (o_zne 41) := ok_zne dX10_apply_28 (by decide)
theorem k_105_41 : mOk M_105.1 M_105.2.1 M_105.2.2.1 M_105.2.2.2 41 (o_al 0 1) := ok_aload_n dX10_apply_41 rfl
theorem k_105_42 : mOk M_105.1 M_105.2.1 M_105.2.2.1 M_105.2.2.2 42 (o_gP 10 8) := ok_gP dX10_apply_42 f_RX10_51 rfl
theorem k_105_45 : mOk M_105.1 M_105.2.1 M_105.2.2.1 M_105.2.2.2 45 (o_al 0 1) := ok_aload_n dX10_apply_45 rfl
theorem k_105_46 : mOk M_105.1 M_105.2.1 M_105.2.2.1 M_105.2.2.2 46 (o_gP 10 11) := ok_gP dX10_apply_46 f_RX10_61 rfl
theorem k_105_49 : mOk M_105.1 M_105.2.1 M_105.2.2.1 M_105.2.2.2 49 (o_gP 0 1) := ok_gP dX10_apply_49 f_RX10_217 rfl
theorem k_105_55 : mOk M_105.1 M_105.2.1 M_105.2.2.1 M_105.2.2.2 55 (o_al 0 1) := ok_aload_n dX10_apply_55 rfl
theorem k_105_56 : mOk M_105.1 M_105.2.1 M_105.2.2.1 M_105.2.2.2 56 (o_gP 10 8) := ok_gP dX10_apply_56 f_RX10_51 rfl
theorem k_105_59 : mOk M_105.1 M_105.2.1 M_105.2.2.1 M_105.2.2.2 59 (o_gI 4 3) := ok_gI dX10_apply_59 f_RX10_179 (Or.inl rfl)
set_option maxRecDepth 20000 in
set_option maxHeartbeats 4000000 in
theorem tk_105 (l : Launch) (H9 : mThr l) (H10 : mSpl l) (pc : Nat) (q : mEnt) (h : tb_105 pc = some q) : EE l 105 pc q := nd h (fun h => nd h (fun h => nd h (fun h => nd h (fun h => lf (P := EE l 105) h k_105_0) (fun h => nd h (fun h => lf (P := EE l 105) h k_105_1) (fun h => lf (P := EE l 105) h k_105_4))) (fun h => nd h (fun h => lf (P := EE l 105) h k_105_7) (fun h => nd h (fun h => lf (P := EE l 105) h k_105_8) (fun h => lf (P := EE l 105) h k_105_11)))) (fun h => nd h (fun h => nd h (fun h => lf (P := EE l 105) h k_105_14) (fun h => nd h (fun h => lf (P := EE l 105) h k_105_15) (fun h => lf (P := EE l 105) h k_105_18))) (fun h => nd h (fun h => lf (P := EE l 105) h k_105_19) (fun h => nd h (fun h => lf (P := EE l 105) h k_105_22) (fun h => lf (P := EE l 105) h (EE_ca (by decide) (⟨m_959, m_79, ⟨by decide, by decide⟩, by decide +kernel, ⟨by decide, by decide⟩, 233, 1, by decide +kernel, Or.inr (Or.inr (Or.inl ⟨rfl, rfl, dX10_apply_25, m_956, m_957, _, rfl, by decide, m_958⟩))⟩) rfl)))))) (fun h => nd h (fun h => nd h (fun h => nd h (fun h => lf (P := EE l 105) h k_105_28) (fun h => nd h (fun h => lf (P := EE l 105) h (EE_th H9 (by decide))) (fun h => lf (P := EE l 105) h k_105_41))) (fun h => nd h (fun h => lf (P := EE l 105) h k_105_42) (fun h => nd h (fun h => lf (P := EE l 105) h k_105_45) (fun h => lf (P := EE l 105) h k_105_46)))) (fun h => nd h (fun h => nd h (fun h => lf (P := EE l 105) h k_105_49) (fun h => nd h (fun h => lf (P := EE l 105) h (EE_ca (by decide) (⟨m_969, m_79, ⟨by decide, by decide⟩, by decide +kernel, ⟨by decide, by decide⟩, 239, 1, by decide +kernel, Or.inr (Or.inr (Or.inl ⟨rfl, rfl, dX10_apply_52, m_966, m_967, _, rfl, by decide, m_968⟩))⟩) rfl)) (fun h => lf (P := EE l 105) h k_105_55))) (fun h => nd h (fun h => lf (P := EE l 105) h k_105_56) (fun h => nd h (fun h => lf (P := EE l 105) h k_105_59) (fun h => lf (P := EE l 105) h (EE_re (Or.inl ⟨rfl, dX10_apply_62, rfl⟩)))))))
theorem dX10_lookUp_0 : decode cX10_lookUp 0 = .ok (.aload_n 0, 1) := by decide +kernel
theorem dX10_lookUp_1 : decode cX10_lookUp 1 = .ok (.getfield 176, 3) := by decide +kernel
theorem dX10_lookUp_4 : decode cX10_lookUp 4 = .ok (.ifCond .eq 18, 3) := by decide +kernel
theorem dX10_lookUp_7 : decode cX10_lookUp 7 = .ok (.aload_n 0, 1) := by decide +kernel
theorem dX10_lookUp_8 : decode cX10_lookUp 8 = .ok (.getfield 51, 3) := by decide +kernel
theorem dX10_lookUp_11 : decode cX10_lookUp 11 = .ok (.getfield 211, 3) := by decide +kernel
theorem dX10_lookUp_14 : decode cX10_lookUp 14 = .ok (.lload_n 1, 1) := by decide +kernel
theorem dX10_lookUp_15 : decode cX10_lookUp 15 = .ok (.iload_n 3, 1) := by decide +kernel
theorem dX10_lookUp_16 : decode cX10_lookUp 16 = .ok (.invokevirtual 242, 3) := by decide +kernel
theorem dX10_lookUp_19 : decode cX10_lookUp 19 = .ok (.goto 4, 3) := by decide +kernel
theorem dX10_lookUp_22 : decode cX10_lookUp 22 = .ok (.iconst (-1), 1) := by decide +kernel
theorem dX10_lookUp_23 : decode cX10_lookUp 23 = .ok (.istore 4, 2) := by decide +kernel
theorem dX10_lookUp_25 : decode cX10_lookUp 25 = .ok (.iload 4, 2) := by decide +kernel
theorem dX10_lookUp_27 : decode cX10_lookUp 27 = .ok (.iconst (-1), 1) := by decide +kernel
theorem dX10_lookUp_28 : decode cX10_lookUp 28 = .ok (.if_icmp .ne 13, 3) := by decide +kernel
theorem dX10_lookUp_31 : decode cX10_lookUp 31 = .ok (.new 246, 3) := by decide +kernel
theorem dX10_lookUp_34 : decode cX10_lookUp 34 = .ok (.dup, 1) := by decide +kernel
theorem dX10_lookUp_35 : decode cX10_lookUp 35 = .ok (.ldc 248, 2) := by decide +kernel
theorem dX10_lookUp_37 : decode cX10_lookUp 37 = .ok (.invokespecial 250, 3) := by decide +kernel
theorem dX10_lookUp_40 : decode cX10_lookUp 40 = .ok (.athrow, 1) := by decide +kernel
theorem dX10_lookUp_41 : decode cX10_lookUp 41 = .ok (.iload 4, 2) := by decide +kernel
theorem dX10_lookUp_43 : decode cX10_lookUp 43 = .ok (.ireturn, 1) := by decide +kernel
def tb_106 (pc : Nat) : Option mEnt := bif Nat.ble pc 16 then (bif Nat.ble pc 7 then (bif Nat.ble pc 1 then (bif Nat.ble pc 0 then (bif Nat.beq pc 0 then some (.inl (o_al 0 1)) else none) else (bif Nat.beq pc 1 then some (.inl (o_gI 10 10)) else none)) else (bif Nat.ble pc 4 then (bif Nat.beq pc 4 then some (.inl (o_zeq 22)) else none) else (bif Nat.beq pc 7 then some (.inl (o_al 0 1)) else none))) else (bif Nat.ble pc 11 then (bif Nat.ble pc 8 then (bif Nat.beq pc 8 then some (.inl (o_gP 10 8)) else none) else (bif Nat.beq pc 11 then some (.inl (o_gP 4 2)) else none)) else (bif Nat.ble pc 14 then (bif Nat.beq pc 14 then some (.inl (o_ll 1 1)) else none) else (bif Nat.ble pc 15 then (bif Nat.beq pc 15 then some (.inl (o_il 3 1)) else none) else (bif Nat.beq pc 16 then some (.inr (3, 10, 3, 1)) else none))))) else (bif Nat.ble pc 25 then (bif Nat.ble pc 22 then (bif Nat.ble pc 19 then (bif Nat.beq pc 19 then some (.inl (o_goto 23)) else none) else (bif Nat.beq pc 22 then some (.inl (oS 1 (s_push (.int (-1))))) else none)) else (bif Nat.ble pc 23 then (bif Nat.beq pc 23 then some (.inl (o_is 4 2)) else none) else (bif Nat.beq pc 25 then some (.inl (o_il 4 2)) else none))) else (bif Nat.ble pc 28 then (bif Nat.ble pc 27 then (bif Nat.beq pc 27 then some (.inl (oS 1 (s_push (.int (-1))))) else none) else (bif Nat.beq pc 28 then some (.inl (o_cne 41)) else none)) else (bif Nat.ble pc 31 then (bif Nat.beq pc 31 then some (.inr (9, 0, 6, 3)) else none) else (bif Nat.ble pc 41 then (bif Nat.beq pc 41 then some (.inl (o_il 4 2)) else none) else (bif Nat.beq pc 43 then some (.inr (0, 0, 0, 0)) else none)))))
theorem k_106_0 : mOk M_106.1 M_106.2.1 M_106.2.2.1 M_106.2.2.2 0 (o_al 0 1) := ok_aload_n dX10_lookUp_0 rfl
theorem k_106_1 : mOk M_106.1 M_106.2.1 M_106.2.2.1 M_106.2.2.2 1 (o_gI 10 10) := ok_gI dX10_lookUp_1 f_RX10_176 (Or.inr rfl)
theorem k_106_4 : mOk M_106.1 M_106.2.1 M_106.2.2.1 M_106.2.2.2 4 (o_zeq 22) := ok_zeq dX10_lookUp_4 (by decide)
theorem k_106_7 : mOk M_106.1 M_106.2.1 M_106.2.2.1 M_106.2.2.2 7 (o_al 0 1) := ok_aload_n dX10_lookUp_7 rfl
theorem k_106_8 : mOk M_106.1 M_106.2.1 M_106.2.2.1 M_106.2.2.2 8 (o_gP 10 8) := ok_gP dX10_lookUp_8 f_RX10_51 rfl
theorem k_106_11 : mOk M_106.1 M_106.2.1 M_106.2.2.1 M_106.2.2.2 11 (o_gP 4 2) := ok_gP dX10_lookUp_11 f_RX10_211 rfl
theorem k_106_14 : mOk M_106.1 M_106.2.1 M_106.2.2.1 M_106.2.2.2 14 (o_ll 1 1) := ok_lload_n dX10_lookUp_14 rfl
theorem k_106_15 : mOk M_106.1 M_106.2.1 M_106.2.2.1 M_106.2.2.2 15 (o_il 3 1) := ok_iload_n dX10_lookUp_15 rfl
theorem k_106_19 : mOk M_106.1 M_106.2.1 M_106.2.2.1 M_106.2.2.2 19 (o_goto 23) := ok_goto dX10_lookUp_19 (by decide)
theorem k_106_22 : mOk M_106.1 M_106.2.1 M_106.2.2.1 M_106.2.2.2 22 (oS 1 (s_push (.int (-1)))) := ok_iconst dX10_lookUp_22 (by decide)
theorem k_106_23 : mOk M_106.1 M_106.2.1 M_106.2.2.1 M_106.2.2.2 23 (o_is 4 2) := ok_istore dX10_lookUp_23
theorem k_106_25 : mOk M_106.1 M_106.2.1 M_106.2.2.1 M_106.2.2.2 25 (o_il 4 2) := ok_iload dX10_lookUp_25
theorem k_106_27 : mOk M_106.1 M_106.2.1 M_106.2.2.1 M_106.2.2.2 27 (oS 1 (s_push (.int (-1)))) := ok_iconst dX10_lookUp_27 (by decide)
theorem k_106_28 : mOk M_106.1 M_106.2.1 M_106.2.2.1 M_106.2.2.2 28 (o_cne 41) := ok_cne dX10_lookUp_28 (by decide)
theorem k_106_41 : mOk M_106.1 M_106.2.1 M_106.2.2.1 M_106.2.2.2 41 (o_il 4 2) := ok_iload dX10_lookUp_41
set_option maxRecDepth 20000 in
set_option maxHeartbeats 4000000 in
theorem tk_106 (l : Launch) (H9 : mThr l) (H10 : mSpl l) (pc : Nat) (q : mEnt) (h : tb_106 pc = some q) : EE l 106 pc q := nd h (fun h => nd h (fun h => nd h (fun h => nd h (fun h => lf (P := EE l 106) h k_106_0) (fun h => lf (P := EE l 106) h k_106_1)) (fun h => nd h (fun h => lf (P := EE l 106) h k_106_4) (fun h => lf (P := EE l 106) h k_106_7))) (fun h => nd h (fun h => nd h (fun h => lf (P := EE l 106) h k_106_8) (fun h => lf (P := EE l 106) h k_106_11)) (fun h => nd h (fun h => lf (P := EE l 106) h k_106_14) (fun h => nd h (fun h => lf (P := EE l 106) h k_106_15) (fun h => lf (P := EE l 106) h (EE_ca (by decide) (⟨m_983, m_72, ⟨by decide, by decide⟩, by decide +kernel, ⟨by decide, by decide⟩, 242, 2, by decide +kernel, Or.inr (Or.inr (Or.inl ⟨rfl, rfl, dX10_lookUp_16, m_980, m_981, _, rfl, by decide, m_982⟩))⟩) rfl)))))) (fun h => nd h (fun h => nd h (fun h => nd h (fun h => lf (P := EE l 106) h k_106_19) (fun h => lf (P := EE l 106) h k_106_22)) (fun h => nd h (fun h => lf (P := EE l 106) h k_106_23) (fun h => lf (P := EE l 106) h k_106_25))) (fun h => nd h (fun h => nd h (fun h => lf (P := EE l 106) h k_106_27) (fun h => lf (P := EE l 106) h k_106_28)) (fun h => nd h (fun h => lf (P := EE l 106) h (EE_th H9 (by decide))) (fun h => nd h (fun h => lf (P := EE l 106) h k_106_41) (fun h => lf (P := EE l 106) h (EE_re (Or.inl ⟨rfl, dX10_lookUp_43, rfl⟩)))))))
theorem dX10_near_0 : decode cX10_near 0 = .ok (.aload_n 0, 1) := by decide +kernel
theorem dX10_near_1 : decode cX10_near 1 = .ok (.getfield 176, 3) := by decide +kernel
theorem dX10_near_4 : decode cX10_near 4 = .ok (.ifCond .eq 21, 3) := by decide +kernel
theorem dX10_near_7 : decode cX10_near 7 = .ok (.aload_n 0, 1) := by decide +kernel
theorem dX10_near_8 : decode cX10_near 8 = .ok (.getfield 51, 3) := by decide +kernel
theorem dX10_near_11 : decode cX10_near 11 = .ok (.getfield 211, 3) := by decide +kernel
theorem dX10_near_14 : decode cX10_near 14 = .ok (.iload_n 1, 1) := by decide +kernel
theorem dX10_near_15 : decode cX10_near 15 = .ok (.iload_n 2, 1) := by decide +kernel
theorem dX10_near_16 : decode cX10_near 16 = .ok (.iload_n 3, 1) := by decide +kernel
theorem dX10_near_17 : decode cX10_near 17 = .ok (.iload 4, 2) := by decide +kernel
theorem dX10_near_19 : decode cX10_near 19 = .ok (.invokevirtual 251, 3) := by decide +kernel
theorem dX10_near_22 : decode cX10_near 22 = .ok (.goto 4, 3) := by decide +kernel
theorem dX10_near_25 : decode cX10_near 25 = .ok (.iconst (-1), 1) := by decide +kernel
theorem dX10_near_26 : decode cX10_near 26 = .ok (.istore 5, 2) := by decide +kernel
theorem dX10_near_28 : decode cX10_near 28 = .ok (.iload 5, 2) := by decide +kernel
theorem dX10_near_30 : decode cX10_near 30 = .ok (.iconst (-1), 1) := by decide +kernel
theorem dX10_near_31 : decode cX10_near 31 = .ok (.if_icmp .ne 13, 3) := by decide +kernel
theorem dX10_near_34 : decode cX10_near 34 = .ok (.new 246, 3) := by decide +kernel
theorem dX10_near_37 : decode cX10_near 37 = .ok (.dup, 1) := by decide +kernel
theorem dX10_near_38 : decode cX10_near 38 = .ok (.ldc 255, 2) := by decide +kernel
theorem dX10_near_40 : decode cX10_near 40 = .ok (.invokespecial 250, 3) := by decide +kernel
theorem dX10_near_43 : decode cX10_near 43 = .ok (.athrow, 1) := by decide +kernel
theorem dX10_near_44 : decode cX10_near 44 = .ok (.iload 5, 2) := by decide +kernel
theorem dX10_near_46 : decode cX10_near 46 = .ok (.ireturn, 1) := by decide +kernel
def tb_107 (pc : Nat) : Option mEnt := bif Nat.ble pc 17 then (bif Nat.ble pc 8 then (bif Nat.ble pc 1 then (bif Nat.ble pc 0 then (bif Nat.beq pc 0 then some (.inl (o_al 0 1)) else none) else (bif Nat.beq pc 1 then some (.inl (o_gI 10 10)) else none)) else (bif Nat.ble pc 4 then (bif Nat.beq pc 4 then some (.inl (o_zeq 25)) else none) else (bif Nat.ble pc 7 then (bif Nat.beq pc 7 then some (.inl (o_al 0 1)) else none) else (bif Nat.beq pc 8 then some (.inl (o_gP 10 8)) else none)))) else (bif Nat.ble pc 14 then (bif Nat.ble pc 11 then (bif Nat.beq pc 11 then some (.inl (o_gP 4 2)) else none) else (bif Nat.beq pc 14 then some (.inl (o_il 1 1)) else none)) else (bif Nat.ble pc 15 then (bif Nat.beq pc 15 then some (.inl (o_il 2 1)) else none) else (bif Nat.ble pc 16 then (bif Nat.beq pc 16 then some (.inl (o_il 3 1)) else none) else (bif Nat.beq pc 17 then some (.inl (o_il 4 2)) else none))))) else (bif Nat.ble pc 28 then (bif Nat.ble pc 22 then (bif Nat.ble pc 19 then (bif Nat.beq pc 19 then some (.inr (3, 12, 5, 1)) else none) else (bif Nat.beq pc 22 then some (.inl (o_goto 26)) else none)) else (bif Nat.ble pc 25 then (bif Nat.beq pc 25 then some (.inl (oS 1 (s_push (.int (-1))))) else none) else (bif Nat.ble pc 26 then (bif Nat.beq pc 26 then some (.inl (o_is 5 2)) else none) else (bif Nat.beq pc 28 then some (.inl (o_il 5 2)) else none)))) else (bif Nat.ble pc 31 then (bif Nat.ble pc 30 then (bif Nat.beq pc 30 then some (.inl (oS 1 (s_push (.int (-1))))) else none) else (bif Nat.beq pc 31 then some (.inl (o_cne 44)) else none)) else (bif Nat.ble pc 34 then (bif Nat.beq pc 34 then some (.inr (9, 0, 6, 3)) else none) else (bif Nat.ble pc 44 then (bif Nat.beq pc 44 then some (.inl (o_il 5 2)) else none) else (bif Nat.beq pc 46 then some (.inr (0, 0, 0, 0)) else none)))))
theorem k_107_0 : mOk M_107.1 M_107.2.1 M_107.2.2.1 M_107.2.2.2 0 (o_al 0 1) := ok_aload_n dX10_near_0 rfl
theorem k_107_1 : mOk M_107.1 M_107.2.1 M_107.2.2.1 M_107.2.2.2 1 (o_gI 10 10) := ok_gI dX10_near_1 f_RX10_176 (Or.inr rfl)
theorem k_107_4 : mOk M_107.1 M_107.2.1 M_107.2.2.1 M_107.2.2.2 4 (o_zeq 25) := ok_zeq dX10_near_4 (by decide)
theorem k_107_7 : mOk M_107.1 M_107.2.1 M_107.2.2.1 M_107.2.2.2 7 (o_al 0 1) := ok_aload_n dX10_near_7 rfl
theorem k_107_8 : mOk M_107.1 M_107.2.1 M_107.2.2.1 M_107.2.2.2 8 (o_gP 10 8) := ok_gP dX10_near_8 f_RX10_51 rfl
theorem k_107_11 : mOk M_107.1 M_107.2.1 M_107.2.2.1 M_107.2.2.2 11 (o_gP 4 2) := ok_gP dX10_near_11 f_RX10_211 rfl
theorem k_107_14 : mOk M_107.1 M_107.2.1 M_107.2.2.1 M_107.2.2.2 14 (o_il 1 1) := ok_iload_n dX10_near_14 rfl
theorem k_107_15 : mOk M_107.1 M_107.2.1 M_107.2.2.1 M_107.2.2.2 15 (o_il 2 1) := ok_iload_n dX10_near_15 rfl
theorem k_107_16 : mOk M_107.1 M_107.2.1 M_107.2.2.1 M_107.2.2.2 16 (o_il 3 1) := ok_iload_n dX10_near_16 rfl
theorem k_107_17 : mOk M_107.1 M_107.2.1 M_107.2.2.1 M_107.2.2.2 17 (o_il 4 2) := ok_iload dX10_near_17
theorem k_107_22 : mOk M_107.1 M_107.2.1 M_107.2.2.1 M_107.2.2.2 22 (o_goto 26) := ok_goto dX10_near_22 (by decide)
theorem k_107_25 : mOk M_107.1 M_107.2.1 M_107.2.2.1 M_107.2.2.2 25 (oS 1 (s_push (.int (-1)))) := ok_iconst dX10_near_25 (by decide)
theorem k_107_26 : mOk M_107.1 M_107.2.1 M_107.2.2.1 M_107.2.2.2 26 (o_is 5 2) := ok_istore dX10_near_26
theorem k_107_28 : mOk M_107.1 M_107.2.1 M_107.2.2.1 M_107.2.2.2 28 (o_il 5 2) := ok_iload dX10_near_28
theorem k_107_30 : mOk M_107.1 M_107.2.1 M_107.2.2.1 M_107.2.2.2 30 (oS 1 (s_push (.int (-1)))) := ok_iconst dX10_near_30 (by decide)
theorem k_107_31 : mOk M_107.1 M_107.2.1 M_107.2.2.1 M_107.2.2.2 31 (o_cne 44) := ok_cne dX10_near_31 (by decide)
theorem k_107_44 : mOk M_107.1 M_107.2.1 M_107.2.2.1 M_107.2.2.2 44 (o_il 5 2) := ok_iload dX10_near_44
set_option maxRecDepth 20000 in
set_option maxHeartbeats 4000000 in
theorem tk_107 (l : Launch) (H9 : mThr l) (H10 : mSpl l) (pc : Nat) (q : mEnt) (h : tb_107 pc = some q) : EE l 107 pc q := nd h (fun h => nd h (fun h => nd h (fun h => nd h (fun h => lf (P := EE l 107) h k_107_0) (fun h => lf (P := EE l 107) h k_107_1)) (fun h => nd h (fun h => lf (P := EE l 107) h k_107_4) (fun h => nd h (fun h => lf (P := EE l 107) h k_107_7) (fun h => lf (P := EE l 107) h k_107_8)))) (fun h => nd h (fun h => nd h (fun h => lf (P := EE l 107) h k_107_11) (fun h => lf (P := EE l 107) h k_107_14)) (fun h => nd h (fun h => lf (P := EE l 107) h k_107_15) (fun h => nd h (fun h => lf (P := EE l 107) h k_107_16) (fun h => lf (P := EE l 107) h k_107_17))))) (fun h => nd h (fun h => nd h (fun h => nd h (fun h => lf (P := EE l 107) h (EE_ca (by decide) (⟨m_1029, m_72, ⟨by decide, by decide⟩, by decide +kernel, ⟨by decide, by decide⟩, 251, 4, by decide +kernel, Or.inr (Or.inr (Or.inl ⟨rfl, rfl, dX10_near_19, m_1026, m_1027, _, rfl, by decide, m_1028⟩))⟩) rfl)) (fun h => lf (P := EE l 107) h k_107_22)) (fun h => nd h (fun h => lf (P := EE l 107) h k_107_25) (fun h => nd h (fun h => lf (P := EE l 107) h k_107_26) (fun h => lf (P := EE l 107) h k_107_28)))) (fun h => nd h (fun h => nd h (fun h => lf (P := EE l 107) h k_107_30) (fun h => lf (P := EE l 107) h k_107_31)) (fun h => nd h (fun h => lf (P := EE l 107) h (EE_th H9 (by decide))) (fun h => nd h (fun h => lf (P := EE l 107) h k_107_44) (fun h => lf (P := EE l 107) h (EE_re (Or.inl ⟨rfl, dX10_near_46, rfl⟩)))))))
theorem dX10_editionAt_0 : decode cX10_editionAt 0 = .ok (.iload_n 1, 1) := by decide +kernel
theorem dX10_editionAt_1 : decode cX10_editionAt 1 = .ok (.ifCond .ne 8, 3) := by decide +kernel
theorem dX10_editionAt_4 : decode cX10_editionAt 4 = .ok (.aload_n 0, 1) := by decide +kernel
theorem dX10_editionAt_5 : decode cX10_editionAt 5 = .ok (.getfield 19, 3) := by decide +kernel
theorem dX10_editionAt_8 : decode cX10_editionAt 8 = .ok (.areturn, 1) := by decide +kernel
theorem dX10_editionAt_9 : decode cX10_editionAt 9 = .ok (.iload_n 1, 1) := by decide +kernel
theorem dX10_editionAt_10 : decode cX10_editionAt 10 = .ok (.ifCond .le 25, 3) := by decide +kernel
theorem dX10_editionAt_13 : decode cX10_editionAt 13 = .ok (.iload_n 1, 1) := by decide +kernel
theorem dX10_editionAt_14 : decode cX10_editionAt 14 = .ok (.aload_n 0, 1) := by decide +kernel
theorem dX10_editionAt_15 : decode cX10_editionAt 15 = .ok (.getfield 108, 3) := by decide +kernel
theorem dX10_editionAt_18 : decode cX10_editionAt 18 = .ok (.if_icmp .gt 17, 3) := by decide +kernel
theorem dX10_editionAt_21 : decode cX10_editionAt 21 = .ok (.iload_n 1, 1) := by decide +kernel
theorem dX10_editionAt_22 : decode cX10_editionAt 22 = .ok (.aload_n 0, 1) := by decide +kernel
theorem dX10_editionAt_23 : decode cX10_editionAt 23 = .ok (.getfield 108, 3) := by decide +kernel
theorem dX10_editionAt_26 : decode cX10_editionAt 26 = .ok (.iconst 2, 1) := by decide +kernel
theorem dX10_editionAt_27 : decode cX10_editionAt 27 = .ok (.isub, 1) := by decide +kernel
theorem dX10_editionAt_28 : decode cX10_editionAt 28 = .ok (.if_icmp .le 7, 3) := by decide +kernel
theorem dX10_editionAt_31 : decode cX10_editionAt 31 = .ok (.iconst 1, 1) := by decide +kernel
theorem dX10_editionAt_32 : decode cX10_editionAt 32 = .ok (.goto 4, 3) := by decide +kernel
theorem dX10_editionAt_35 : decode cX10_editionAt 35 = .ok (.iconst 0, 1) := by decide +kernel
theorem dX10_editionAt_36 : decode cX10_editionAt 36 = .ok (.istore_n 2, 1) := by decide +kernel
theorem dX10_editionAt_37 : decode cX10_editionAt 37 = .ok (.iload_n 2, 1) := by decide +kernel
theorem dX10_editionAt_38 : decode cX10_editionAt 38 = .ok (.ifCond .eq 14, 3) := by decide +kernel
theorem dX10_editionAt_41 : decode cX10_editionAt 41 = .ok (.aload_n 0, 1) := by decide +kernel
theorem dX10_editionAt_42 : decode cX10_editionAt 42 = .ok (.getfield 23, 3) := by decide +kernel
theorem dX10_editionAt_45 : decode cX10_editionAt 45 = .ok (.iload_n 1, 1) := by decide +kernel
theorem dX10_editionAt_46 : decode cX10_editionAt 46 = .ok (.iconst 2, 1) := by decide +kernel
theorem dX10_editionAt_47 : decode cX10_editionAt 47 = .ok (.irem, 1) := by decide +kernel
theorem dX10_editionAt_48 : decode cX10_editionAt 48 = .ok (.aaload, 1) := by decide +kernel
theorem dX10_editionAt_49 : decode cX10_editionAt 49 = .ok (.goto 4, 3) := by decide +kernel
theorem dX10_editionAt_52 : decode cX10_editionAt 52 = .ok (.aconst_null, 1) := by decide +kernel
theorem dX10_editionAt_53 : decode cX10_editionAt 53 = .ok (.areturn, 1) := by decide +kernel
def tb_108 (pc : Nat) : Option mEnt := bif Nat.ble pc 27 then (bif Nat.ble pc 13 then (bif Nat.ble pc 5 then (bif Nat.ble pc 1 then (bif Nat.ble pc 0 then (bif Nat.beq pc 0 then some (.inl (o_il 1 1)) else none) else (bif Nat.beq pc 1 then some (.inl (o_zne 9)) else none)) else (bif Nat.ble pc 4 then (bif Nat.beq pc 4 then some (.inl (o_al 0 1)) else none) else (bif Nat.beq pc 5 then some (.inl (o_gP 10 1)) else none))) else (bif Nat.ble pc 9 then (bif Nat.ble pc 8 then (bif Nat.beq pc 8 then some (.inr (0, 0, 0, 2)) else none) else (bif Nat.beq pc 9 then some (.inl (o_il 1 1)) else none)) else (bif Nat.ble pc 10 then (bif Nat.beq pc 10 then some (.inl (o_zle 35)) else none) else (bif Nat.beq pc 13 then some (.inl (o_il 1 1)) else none)))) else (bif Nat.ble pc 21 then (bif Nat.ble pc 15 then (bif Nat.ble pc 14 then (bif Nat.beq pc 14 then some (.inl (o_al 0 1)) else none) else (bif Nat.beq pc 15 then some (.inl (o_gI 10 3)) else none)) else (bif Nat.ble pc 18 then (bif Nat.beq pc 18 then some (.inl (o_cgt 35)) else none) else (bif Nat.beq pc 21 then some (.inl (o_il 1 1)) else none))) else (bif Nat.ble pc 23 then (bif Nat.ble pc 22 then (bif Nat.beq pc 22 then some (.inl (o_al 0 1)) else none) else (bif Nat.beq pc 23 then some (.inl (o_gI 10 3)) else none)) else (bif Nat.ble pc 26 then (bif Nat.beq pc 26 then some (.inl (oS 1 (s_push (.int 2)))) else none) else (bif Nat.beq pc 27 then some (.inl (oS 1 (s_ii (fun a b => a - b)))) else none))))) else (bif Nat.ble pc 41 then (bif Nat.ble pc 35 then (bif Nat.ble pc 31 then (bif Nat.ble pc 28 then (bif Nat.beq pc 28 then some (.inl (o_cle 35)) else none) else (bif Nat.beq pc 31 then some (.inl (oS 1 (s_push (.int 1)))) else none)) else (bif Nat.ble pc 32 then (bif Nat.beq pc 32 then some (.inl (o_goto 36)) else none) else (bif Nat.beq pc 35 then some (.inl (oS 1 (s_push (.int 0)))) else none))) else (bif Nat.ble pc 37 then (bif Nat.ble pc 36 then (bif Nat.beq pc 36 then some (.inl (o_is 2 1)) else none) else (bif Nat.beq pc 37 then some (.inl (o_il 2 1)) else none)) else (bif Nat.ble pc 38 then (bif Nat.beq pc 38 then some (.inl (o_zeq 52)) else none) else (bif Nat.beq pc 41 then some (.inl (o_al 0 1)) else none)))) else (bif Nat.ble pc 47 then (bif Nat.ble pc 45 then (bif Nat.ble pc 42 then (bif Nat.beq pc 42 then some (.inl (o_gP 10 2)) else none) else (bif Nat.beq pc 45 then some (.inl (o_il 1 1)) else none)) else (bif Nat.ble pc 46 then (bif Nat.beq pc 46 then some (.inl (oS 1 (s_push (.int 2)))) else none) else (bif Nat.beq pc 47 then some (.inl (oS 1 (s_iiz (fun a b => a - a / b * b)))) else none))) else (bif Nat.ble pc 49 then (bif Nat.ble pc 48 then (bif Nat.beq pc 48 then some (.inl (o_aald)) else none) else (bif Nat.beq pc 49 then some (.inl (o_goto 53)) else none)) else (bif Nat.ble pc 52 then (bif Nat.beq pc 52 then some (.inl (oS 1 (s_push .null))) else none) else (bif Nat.beq pc 53 then some (.inr (0, 0, 0, 2)) else none)))))
theorem k_108_0 : mOk M_108.1 M_108.2.1 M_108.2.2.1 M_108.2.2.2 0 (o_il 1 1) := ok_iload_n dX10_editionAt_0 rfl
theorem k_108_1 : mOk M_108.1 M_108.2.1 M_108.2.2.1 M_108.2.2.2 1 (o_zne 9) := ok_zne dX10_editionAt_1 (by decide)
theorem k_108_4 : mOk M_108.1 M_108.2.1 M_108.2.2.1 M_108.2.2.2 4 (o_al 0 1) := ok_aload_n dX10_editionAt_4 rfl
theorem k_108_5 : mOk M_108.1 M_108.2.1 M_108.2.2.1 M_108.2.2.2 5 (o_gP 10 1) := ok_gP dX10_editionAt_5 f_RX10_19 rfl
theorem k_108_9 : mOk M_108.1 M_108.2.1 M_108.2.2.1 M_108.2.2.2 9 (o_il 1 1) := ok_iload_n dX10_editionAt_9 rfl
theorem k_108_10 : mOk M_108.1 M_108.2.1 M_108.2.2.1 M_108.2.2.2 10 (o_zle 35) := ok_zle dX10_editionAt_10 (by decide)
theorem k_108_13 : mOk M_108.1 M_108.2.1 M_108.2.2.1 M_108.2.2.2 13 (o_il 1 1) := ok_iload_n dX10_editionAt_13 rfl
theorem k_108_14 : mOk M_108.1 M_108.2.1 M_108.2.2.1 M_108.2.2.2 14 (o_al 0 1) := ok_aload_n dX10_editionAt_14 rfl
theorem k_108_15 : mOk M_108.1 M_108.2.1 M_108.2.2.1 M_108.2.2.2 15 (o_gI 10 3) := ok_gI dX10_editionAt_15 f_RX10_108 (Or.inl rfl)
theorem k_108_18 : mOk M_108.1 M_108.2.1 M_108.2.2.1 M_108.2.2.2 18 (o_cgt 35) := ok_cgt dX10_editionAt_18 (by decide)
theorem k_108_21 : mOk M_108.1 M_108.2.1 M_108.2.2.1 M_108.2.2.2 21 (o_il 1 1) := ok_iload_n dX10_editionAt_21 rfl
theorem k_108_22 : mOk M_108.1 M_108.2.1 M_108.2.2.1 M_108.2.2.2 22 (o_al 0 1) := ok_aload_n dX10_editionAt_22 rfl
theorem k_108_23 : mOk M_108.1 M_108.2.1 M_108.2.2.1 M_108.2.2.2 23 (o_gI 10 3) := ok_gI dX10_editionAt_23 f_RX10_108 (Or.inl rfl)
theorem k_108_26 : mOk M_108.1 M_108.2.1 M_108.2.2.1 M_108.2.2.2 26 (oS 1 (s_push (.int 2))) := ok_iconst dX10_editionAt_26 (by decide)
theorem k_108_27 : mOk M_108.1 M_108.2.1 M_108.2.2.1 M_108.2.2.2 27 (oS 1 (s_ii (fun a b => a - b))) := ok_isub dX10_editionAt_27
theorem k_108_28 : mOk M_108.1 M_108.2.1 M_108.2.2.1 M_108.2.2.2 28 (o_cle 35) := ok_cle dX10_editionAt_28 (by decide)
theorem k_108_31 : mOk M_108.1 M_108.2.1 M_108.2.2.1 M_108.2.2.2 31 (oS 1 (s_push (.int 1))) := ok_iconst dX10_editionAt_31 (by decide)
theorem k_108_32 : mOk M_108.1 M_108.2.1 M_108.2.2.1 M_108.2.2.2 32 (o_goto 36) := ok_goto dX10_editionAt_32 (by decide)
theorem k_108_35 : mOk M_108.1 M_108.2.1 M_108.2.2.1 M_108.2.2.2 35 (oS 1 (s_push (.int 0))) := ok_iconst dX10_editionAt_35 (by decide)
theorem k_108_36 : mOk M_108.1 M_108.2.1 M_108.2.2.1 M_108.2.2.2 36 (o_is 2 1) := ok_istore_n dX10_editionAt_36 rfl
theorem k_108_37 : mOk M_108.1 M_108.2.1 M_108.2.2.1 M_108.2.2.2 37 (o_il 2 1) := ok_iload_n dX10_editionAt_37 rfl
theorem k_108_38 : mOk M_108.1 M_108.2.1 M_108.2.2.1 M_108.2.2.2 38 (o_zeq 52) := ok_zeq dX10_editionAt_38 (by decide)
theorem k_108_41 : mOk M_108.1 M_108.2.1 M_108.2.2.1 M_108.2.2.2 41 (o_al 0 1) := ok_aload_n dX10_editionAt_41 rfl
theorem k_108_42 : mOk M_108.1 M_108.2.1 M_108.2.2.1 M_108.2.2.2 42 (o_gP 10 2) := ok_gP dX10_editionAt_42 f_RX10_23 rfl
theorem k_108_45 : mOk M_108.1 M_108.2.1 M_108.2.2.1 M_108.2.2.2 45 (o_il 1 1) := ok_iload_n dX10_editionAt_45 rfl
theorem k_108_46 : mOk M_108.1 M_108.2.1 M_108.2.2.1 M_108.2.2.2 46 (oS 1 (s_push (.int 2))) := ok_iconst dX10_editionAt_46 (by decide)
theorem k_108_47 : mOk M_108.1 M_108.2.1 M_108.2.2.1 M_108.2.2.2 47 (oS 1 (s_iiz (fun a b => a - a / b * b))) := ok_irem dX10_editionAt_47
theorem k_108_48 : mOk M_108.1 M_108.2.1 M_108.2.2.1 M_108.2.2.2 48 (o_aald) := ok_aald dX10_editionAt_48
theorem k_108_49 : mOk M_108.1 M_108.2.1 M_108.2.2.1 M_108.2.2.2 49 (o_goto 53) := ok_goto dX10_editionAt_49 (by decide)
theorem k_108_52 : mOk M_108.1 M_108.2.1 M_108.2.2.1 M_108.2.2.2 52 (oS 1 (s_push .null)) := ok_null dX10_editionAt_52
set_option maxRecDepth 20000 in
set_option maxHeartbeats 4000000 in
theorem tk_108 (l : Launch) (H9 : mThr l) (H10 : mSpl l) (pc : Nat) (q : mEnt) (h : tb_108 pc = some q) : EE l 108 pc q := nd h (fun h => nd h (fun h => nd h (fun h => nd h (fun h => nd h (fun h => lf (P := EE l 108) h k_108_0) (fun h => lf (P := EE l 108) h k_108_1)) (fun h => nd h (fun h => lf (P := EE l 108) h k_108_4) (fun h => lf (P := EE l 108) h k_108_5))) (fun h => nd h (fun h => nd h (fun h => lf (P := EE l 108) h (EE_re (Or.inr (Or.inr (Or.inr (Or.inl ⟨rfl, dX10_editionAt_8, _, rfl⟩)))))) (fun h => lf (P := EE l 108) h k_108_9)) (fun h => nd h (fun h => lf (P := EE l 108) h k_108_10) (fun h => lf (P := EE l 108) h k_108_13)))) (fun h => nd h (fun h => nd h (fun h => nd h (fun h => lf (P := EE l 108) h k_108_14) (fun h => lf (P := EE l 108) h k_108_15)) (fun h => nd h (fun h => lf (P := EE l 108) h k_108_18) (fun h => lf (P := EE l 108) h k_108_21))) (fun h => nd h (fun h => nd h (fun h => lf (P := EE l 108) h k_108_22) (fun h => lf (P := EE l 108) h k_108_23)) (fun h => nd h (fun h => lf (P := EE l 108) h k_108_26) (fun h => lf (P := EE l 108) h k_108_27))))) (fun h => nd h (fun h => nd h (fun h => nd h (fun h => nd h (fun h => lf (P := EE l 108) h k_108_28) (fun h => lf (P := EE l 108) h k_108_31)) (fun h => nd h (fun h => lf (P := EE l 108) h k_108_32) (fun h => lf (P := EE l 108) h k_108_35))) (fun h => nd h (fun h => nd h (fun h => lf (P := EE l 108) h k_108_36) (fun h => lf (P := EE l 108) h k_108_37)) (fun h => nd h (fun h => lf (P := EE l 108) h k_108_38) (fun h => lf (P := EE l 108) h k_108_41)))) (fun h => nd h (fun h => nd h (fun h => nd h (fun h => lf (P := EE l 108) h k_108_42) (fun h => lf (P := EE l 108) h k_108_45)) (fun h => nd h (fun h => lf (P := EE l 108) h k_108_46) (fun h => lf (P := EE l 108) h k_108_47))) (fun h => nd h (fun h => nd h (fun h => lf (P := EE l 108) h k_108_48) (fun h => lf (P := EE l 108) h k_108_49)) (fun h => nd h (fun h => lf (P := EE l 108) h k_108_52) (fun h => lf (P := EE l 108) h (EE_re (Or.inr (Or.inr (Or.inr (Or.inl ⟨rfl, dX10_editionAt_53, _, rfl⟩))))))))))
theorem dX10_isOfWorld_0 : decode cX10_isOfWorld 0 = .ok (.iload_n 0, 1) := by decide +kernel
theorem dX10_isOfWorld_1 : decode cX10_isOfWorld 1 = .ok (.ifCond .lt 25, 3) := by decide +kernel
theorem dX10_isOfWorld_4 : decode cX10_isOfWorld 4 = .ok (.iload_n 0, 1) := by decide +kernel
theorem dX10_isOfWorld_5 : decode cX10_isOfWorld 5 = .ok (.sipush 4096, 3) := by decide +kernel
theorem dX10_isOfWorld_8 : decode cX10_isOfWorld 8 = .ok (.if_icmp .ge 18, 3) := by decide +kernel
theorem dX10_isOfWorld_11 : decode cX10_isOfWorld 11 = .ok (.iload_n 1, 1) := by decide +kernel
theorem dX10_isOfWorld_12 : decode cX10_isOfWorld 12 = .ok (.ifCond .lt 14, 3) := by decide +kernel
theorem dX10_isOfWorld_15 : decode cX10_isOfWorld 15 = .ok (.iload_n 1, 1) := by decide +kernel
theorem dX10_isOfWorld_16 : decode cX10_isOfWorld 16 = .ok (.sipush 4096, 3) := by decide +kernel
theorem dX10_isOfWorld_19 : decode cX10_isOfWorld 19 = .ok (.if_icmp .ge 7, 3) := by decide +kernel
theorem dX10_isOfWorld_22 : decode cX10_isOfWorld 22 = .ok (.iconst 1, 1) := by decide +kernel
theorem dX10_isOfWorld_23 : decode cX10_isOfWorld 23 = .ok (.goto 4, 3) := by decide +kernel
theorem dX10_isOfWorld_26 : decode cX10_isOfWorld 26 = .ok (.iconst 0, 1) := by decide +kernel
theorem dX10_isOfWorld_27 : decode cX10_isOfWorld 27 = .ok (.ireturn, 1) := by decide +kernel
def tb_109 (pc : Nat) : Option mEnt := bif Nat.ble pc 12 then (bif Nat.ble pc 4 then (bif Nat.ble pc 0 then (bif Nat.beq pc 0 then some (.inl (o_il 0 1)) else none) else (bif Nat.ble pc 1 then (bif Nat.beq pc 1 then some (.inl (o_zlt 26)) else none) else (bif Nat.beq pc 4 then some (.inl (o_il 0 1)) else none))) else (bif Nat.ble pc 8 then (bif Nat.ble pc 5 then (bif Nat.beq pc 5 then some (.inl (oS 3 (s_push (.int 4096)))) else none) else (bif Nat.beq pc 8 then some (.inl (o_cge 26)) else none)) else (bif Nat.ble pc 11 then (bif Nat.beq pc 11 then some (.inl (o_il 1 1)) else none) else (bif Nat.beq pc 12 then some (.inl (o_zlt 26)) else none)))) else (bif Nat.ble pc 19 then (bif Nat.ble pc 15 then (bif Nat.beq pc 15 then some (.inl (o_il 1 1)) else none) else (bif Nat.ble pc 16 then (bif Nat.beq pc 16 then some (.inl (oS 3 (s_push (.int 4096)))) else none) else (bif Nat.beq pc 19 then some (.inl (o_cge 26)) else none))) else (bif Nat.ble pc 23 then (bif Nat.ble pc 22 then (bif Nat.beq pc 22 then some (.inl (oS 1 (s_push (.int 1)))) else none) else (bif Nat.beq pc 23 then some (.inl (o_goto 27)) else none)) else (bif Nat.ble pc 26 then (bif Nat.beq pc 26 then some (.inl (oS 1 (s_push (.int 0)))) else none) else (bif Nat.beq pc 27 then some (.inr (0, 0, 0, 4)) else none))))
theorem k_109_0 : mOk M_109.1 M_109.2.1 M_109.2.2.1 M_109.2.2.2 0 (o_il 0 1) := ok_iload_n dX10_isOfWorld_0 rfl
theorem k_109_1 : mOk M_109.1 M_109.2.1 M_109.2.2.1 M_109.2.2.2 1 (o_zlt 26) := ok_zlt dX10_isOfWorld_1 (by decide)
theorem k_109_4 : mOk M_109.1 M_109.2.1 M_109.2.2.1 M_109.2.2.2 4 (o_il 0 1) := ok_iload_n dX10_isOfWorld_4 rfl
theorem k_109_5 : mOk M_109.1 M_109.2.1 M_109.2.2.1 M_109.2.2.2 5 (oS 3 (s_push (.int 4096))) := ok_sipush dX10_isOfWorld_5 (by decide)
theorem k_109_8 : mOk M_109.1 M_109.2.1 M_109.2.2.1 M_109.2.2.2 8 (o_cge 26) := ok_cge dX10_isOfWorld_8 (by decide)
theorem k_109_11 : mOk M_109.1 M_109.2.1 M_109.2.2.1 M_109.2.2.2 11 (o_il 1 1) := ok_iload_n dX10_isOfWorld_11 rfl
theorem k_109_12 : mOk M_109.1 M_109.2.1 M_109.2.2.1 M_109.2.2.2 12 (o_zlt 26) := ok_zlt dX10_isOfWorld_12 (by decide)
theorem k_109_15 : mOk M_109.1 M_109.2.1 M_109.2.2.1 M_109.2.2.2 15 (o_il 1 1) := ok_iload_n dX10_isOfWorld_15 rfl
theorem k_109_16 : mOk M_109.1 M_109.2.1 M_109.2.2.1 M_109.2.2.2 16 (oS 3 (s_push (.int 4096))) := ok_sipush dX10_isOfWorld_16 (by decide)
theorem k_109_19 : mOk M_109.1 M_109.2.1 M_109.2.2.1 M_109.2.2.2 19 (o_cge 26) := ok_cge dX10_isOfWorld_19 (by decide)
theorem k_109_22 : mOk M_109.1 M_109.2.1 M_109.2.2.1 M_109.2.2.2 22 (oS 1 (s_push (.int 1))) := ok_iconst dX10_isOfWorld_22 (by decide)
theorem k_109_23 : mOk M_109.1 M_109.2.1 M_109.2.2.1 M_109.2.2.2 23 (o_goto 27) := ok_goto dX10_isOfWorld_23 (by decide)
theorem k_109_26 : mOk M_109.1 M_109.2.1 M_109.2.2.1 M_109.2.2.2 26 (oS 1 (s_push (.int 0))) := ok_iconst dX10_isOfWorld_26 (by decide)
set_option maxRecDepth 20000 in
set_option maxHeartbeats 4000000 in
theorem tk_109 (l : Launch) (H9 : mThr l) (H10 : mSpl l) (pc : Nat) (q : mEnt) (h : tb_109 pc = some q) : EE l 109 pc q := nd h (fun h => nd h (fun h => nd h (fun h => lf (P := EE l 109) h k_109_0) (fun h => nd h (fun h => lf (P := EE l 109) h k_109_1) (fun h => lf (P := EE l 109) h k_109_4))) (fun h => nd h (fun h => nd h (fun h => lf (P := EE l 109) h k_109_5) (fun h => lf (P := EE l 109) h k_109_8)) (fun h => nd h (fun h => lf (P := EE l 109) h k_109_11) (fun h => lf (P := EE l 109) h k_109_12)))) (fun h => nd h (fun h => nd h (fun h => lf (P := EE l 109) h k_109_15) (fun h => nd h (fun h => lf (P := EE l 109) h k_109_16) (fun h => lf (P := EE l 109) h k_109_19))) (fun h => nd h (fun h => nd h (fun h => lf (P := EE l 109) h k_109_22) (fun h => lf (P := EE l 109) h k_109_23)) (fun h => nd h (fun h => lf (P := EE l 109) h k_109_26) (fun h => lf (P := EE l 109) h (EE_re (Or.inr (Or.inl ⟨rfl, dX10_isOfWorld_27, rfl⟩)))))))
theorem dX10_isZoom_0 : decode cX10_isZoom 0 = .ok (.iload_n 0, 1) := by decide +kernel
theorem dX10_isZoom_1 : decode cX10_isZoom 1 = .ok (.ifCond .lt 12, 3) := by decide +kernel
theorem dX10_isZoom_4 : decode cX10_isZoom 4 = .ok (.iload_n 0, 1) := by decide +kernel
theorem dX10_isZoom_5 : decode cX10_isZoom 5 = .ok (.iconst 4, 1) := by decide +kernel
theorem dX10_isZoom_6 : decode cX10_isZoom 6 = .ok (.if_icmp .gt 7, 3) := by decide +kernel
theorem dX10_isZoom_9 : decode cX10_isZoom 9 = .ok (.iconst 1, 1) := by decide +kernel
theorem dX10_isZoom_10 : decode cX10_isZoom 10 = .ok (.goto 4, 3) := by decide +kernel
theorem dX10_isZoom_13 : decode cX10_isZoom 13 = .ok (.iconst 0, 1) := by decide +kernel
theorem dX10_isZoom_14 : decode cX10_isZoom 14 = .ok (.ireturn, 1) := by decide +kernel
def tb_110 (pc : Nat) : Option mEnt := bif Nat.ble pc 5 then (bif Nat.ble pc 1 then (bif Nat.ble pc 0 then (bif Nat.beq pc 0 then some (.inl (o_il 0 1)) else none) else (bif Nat.beq pc 1 then some (.inl (o_zlt 13)) else none)) else (bif Nat.ble pc 4 then (bif Nat.beq pc 4 then some (.inl (o_il 0 1)) else none) else (bif Nat.beq pc 5 then some (.inl (oS 1 (s_push (.int 4)))) else none))) else (bif Nat.ble pc 9 then (bif Nat.ble pc 6 then (bif Nat.beq pc 6 then some (.inl (o_cgt 13)) else none) else (bif Nat.beq pc 9 then some (.inl (oS 1 (s_push (.int 1)))) else none)) else (bif Nat.ble pc 10 then (bif Nat.beq pc 10 then some (.inl (o_goto 14)) else none) else (bif Nat.ble pc 13 then (bif Nat.beq pc 13 then some (.inl (oS 1 (s_push (.int 0)))) else none) else (bif Nat.beq pc 14 then some (.inr (0, 0, 0, 4)) else none))))
theorem k_110_0 : mOk M_110.1 M_110.2.1 M_110.2.2.1 M_110.2.2.2 0 (o_il 0 1) := ok_iload_n dX10_isZoom_0 rfl
theorem k_110_1 : mOk M_110.1 M_110.2.1 M_110.2.2.1 M_110.2.2.2 1 (o_zlt 13) := ok_zlt dX10_isZoom_1 (by decide)
theorem k_110_4 : mOk M_110.1 M_110.2.1 M_110.2.2.1 M_110.2.2.2 4 (o_il 0 1) := ok_iload_n dX10_isZoom_4 rfl
theorem k_110_5 : mOk M_110.1 M_110.2.1 M_110.2.2.1 M_110.2.2.2 5 (oS 1 (s_push (.int 4))) := ok_iconst dX10_isZoom_5 (by decide)
theorem k_110_6 : mOk M_110.1 M_110.2.1 M_110.2.2.1 M_110.2.2.2 6 (o_cgt 13) := ok_cgt dX10_isZoom_6 (by decide)
theorem k_110_9 : mOk M_110.1 M_110.2.1 M_110.2.2.1 M_110.2.2.2 9 (oS 1 (s_push (.int 1))) := ok_iconst dX10_isZoom_9 (by decide)
theorem k_110_10 : mOk M_110.1 M_110.2.1 M_110.2.2.1 M_110.2.2.2 10 (o_goto 14) := ok_goto dX10_isZoom_10 (by decide)
theorem k_110_13 : mOk M_110.1 M_110.2.1 M_110.2.2.1 M_110.2.2.2 13 (oS 1 (s_push (.int 0))) := ok_iconst dX10_isZoom_13 (by decide)
set_option maxRecDepth 20000 in
set_option maxHeartbeats 4000000 in
theorem tk_110 (l : Launch) (H9 : mThr l) (H10 : mSpl l) (pc : Nat) (q : mEnt) (h : tb_110 pc = some q) : EE l 110 pc q := nd h (fun h => nd h (fun h => nd h (fun h => lf (P := EE l 110) h k_110_0) (fun h => lf (P := EE l 110) h k_110_1)) (fun h => nd h (fun h => lf (P := EE l 110) h k_110_4) (fun h => lf (P := EE l 110) h k_110_5))) (fun h => nd h (fun h => nd h (fun h => lf (P := EE l 110) h k_110_6) (fun h => lf (P := EE l 110) h k_110_9)) (fun h => nd h (fun h => lf (P := EE l 110) h k_110_10) (fun h => nd h (fun h => lf (P := EE l 110) h k_110_13) (fun h => lf (P := EE l 110) h (EE_re (Or.inr (Or.inl ⟨rfl, dX10_isZoom_14, rfl⟩)))))))
theorem dX10_isTile_0 : decode cX10_isTile 0 = .ok (.iload_n 0, 1) := by decide +kernel
theorem dX10_isTile_1 : decode cX10_isTile 1 = .ok (.invokestatic 152, 3) := by decide +kernel
theorem dX10_isTile_4 : decode cX10_isTile 4 = .ok (.ifCond .eq 29, 3) := by decide +kernel
theorem dX10_isTile_7 : decode cX10_isTile 7 = .ok (.iload_n 1, 1) := by decide +kernel
theorem dX10_isTile_8 : decode cX10_isTile 8 = .ok (.ifCond .lt 25, 3) := by decide +kernel
theorem dX10_isTile_11 : decode cX10_isTile 11 = .ok (.iload_n 1, 1) := by decide +kernel
theorem dX10_isTile_12 : decode cX10_isTile 12 = .ok (.iconst 1, 1) := by decide +kernel
theorem dX10_isTile_13 : decode cX10_isTile 13 = .ok (.iload_n 0, 1) := by decide +kernel
theorem dX10_isTile_14 : decode cX10_isTile 14 = .ok (.ishl, 1) := by decide +kernel
theorem dX10_isTile_15 : decode cX10_isTile 15 = .ok (.if_icmp .ge 18, 3) := by decide +kernel
theorem dX10_isTile_18 : decode cX10_isTile 18 = .ok (.iload_n 2, 1) := by decide +kernel
theorem dX10_isTile_19 : decode cX10_isTile 19 = .ok (.ifCond .lt 14, 3) := by decide +kernel
theorem dX10_isTile_22 : decode cX10_isTile 22 = .ok (.iload_n 2, 1) := by decide +kernel
theorem dX10_isTile_23 : decode cX10_isTile 23 = .ok (.iconst 1, 1) := by decide +kernel
theorem dX10_isTile_24 : decode cX10_isTile 24 = .ok (.iload_n 0, 1) := by decide +kernel
theorem dX10_isTile_25 : decode cX10_isTile 25 = .ok (.ishl, 1) := by decide +kernel
theorem dX10_isTile_26 : decode cX10_isTile 26 = .ok (.if_icmp .ge 7, 3) := by decide +kernel
theorem dX10_isTile_29 : decode cX10_isTile 29 = .ok (.iconst 1, 1) := by decide +kernel
theorem dX10_isTile_30 : decode cX10_isTile 30 = .ok (.goto 4, 3) := by decide +kernel
theorem dX10_isTile_33 : decode cX10_isTile 33 = .ok (.iconst 0, 1) := by decide +kernel
theorem dX10_isTile_34 : decode cX10_isTile 34 = .ok (.ireturn, 1) := by decide +kernel
def tb_111 (pc : Nat) : Option mEnt := bif Nat.ble pc 15 then (bif Nat.ble pc 8 then (bif Nat.ble pc 1 then (bif Nat.ble pc 0 then (bif Nat.beq pc 0 then some (.inl (o_il 0 1)) else none) else (bif Nat.beq pc 1 then some (.inr (2, 110, 1, 0)) else none)) else (bif Nat.ble pc 4 then (bif Nat.beq pc 4 then some (.inl (o_zeq 33)) else none) else (bif Nat.ble pc 7 then (bif Nat.beq pc 7 then some (.inl (o_il 1 1)) else none) else (bif Nat.beq pc 8 then some (.inl (o_zlt 33)) else none)))) else (bif Nat.ble pc 12 then (bif Nat.ble pc 11 then (bif Nat.beq pc 11 then some (.inl (o_il 1 1)) else none) else (bif Nat.beq pc 12 then some (.inl (oS 1 (s_push (.int 1)))) else none)) else (bif Nat.ble pc 13 then (bif Nat.beq pc 13 then some (.inl (o_il 0 1)) else none) else (bif Nat.ble pc 14 then (bif Nat.beq pc 14 then some (.inl (oS 1 (s_ii (fun a b => a <<< (b &&& 31))))) else none) else (bif Nat.beq pc 15 then some (.inl (o_cge 33)) else none))))) else (bif Nat.ble pc 24 then (bif Nat.ble pc 19 then (bif Nat.ble pc 18 then (bif Nat.beq pc 18 then some (.inl (o_il 2 1)) else none) else (bif Nat.beq pc 19 then some (.inl (o_zlt 33)) else none)) else (bif Nat.ble pc 22 then (bif Nat.beq pc 22 then some (.inl (o_il 2 1)) else none) else (bif Nat.ble pc 23 then (bif Nat.beq pc 23 then some (.inl (oS 1 (s_push (.int 1)))) else none) else (bif Nat.beq pc 24 then some (.inl (o_il 0 1)) else none)))) else (bif Nat.ble pc 29 then (bif Nat.ble pc 25 then (bif Nat.beq pc 25 then some (.inl (oS 1 (s_ii (fun a b => a <<< (b &&& 31))))) else none) else (bif Nat.ble pc 26 then (bif Nat.beq pc 26 then some (.inl (o_cge 33)) else none) else (bif Nat.beq pc 29 then some (.inl (oS 1 (s_push (.int 1)))) else none))) else (bif Nat.ble pc 30 then (bif Nat.beq pc 30 then some (.inl (o_goto 34)) else none) else (bif Nat.ble pc 33 then (bif Nat.beq pc 33 then some (.inl (oS 1 (s_push (.int 0)))) else none) else (bif Nat.beq pc 34 then some (.inr (0, 0, 0, 4)) else none)))))
theorem k_111_0 : mOk M_111.1 M_111.2.1 M_111.2.2.1 M_111.2.2.2 0 (o_il 0 1) := ok_iload_n dX10_isTile_0 rfl
theorem k_111_4 : mOk M_111.1 M_111.2.1 M_111.2.2.1 M_111.2.2.2 4 (o_zeq 33) := ok_zeq dX10_isTile_4 (by decide)
theorem k_111_7 : mOk M_111.1 M_111.2.1 M_111.2.2.1 M_111.2.2.2 7 (o_il 1 1) := ok_iload_n dX10_isTile_7 rfl
theorem k_111_8 : mOk M_111.1 M_111.2.1 M_111.2.2.1 M_111.2.2.2 8 (o_zlt 33) := ok_zlt dX10_isTile_8 (by decide)
theorem k_111_11 : mOk M_111.1 M_111.2.1 M_111.2.2.1 M_111.2.2.2 11 (o_il 1 1) := ok_iload_n dX10_isTile_11 rfl
theorem k_111_12 : mOk M_111.1 M_111.2.1 M_111.2.2.1 M_111.2.2.2 12 (oS 1 (s_push (.int 1))) := ok_iconst dX10_isTile_12 (by decide)
theorem k_111_13 : mOk M_111.1 M_111.2.1 M_111.2.2.1 M_111.2.2.2 13 (o_il 0 1) := ok_iload_n dX10_isTile_13 rfl
theorem k_111_14 : mOk M_111.1 M_111.2.1 M_111.2.2.1 M_111.2.2.2 14 (oS 1 (s_ii (fun a b => a <<< (b &&& 31)))) := ok_ishl dX10_isTile_14
theorem k_111_15 : mOk M_111.1 M_111.2.1 M_111.2.2.1 M_111.2.2.2 15 (o_cge 33) := ok_cge dX10_isTile_15 (by decide)
theorem k_111_18 : mOk M_111.1 M_111.2.1 M_111.2.2.1 M_111.2.2.2 18 (o_il 2 1) := ok_iload_n dX10_isTile_18 rfl
theorem k_111_19 : mOk M_111.1 M_111.2.1 M_111.2.2.1 M_111.2.2.2 19 (o_zlt 33) := ok_zlt dX10_isTile_19 (by decide)
theorem k_111_22 : mOk M_111.1 M_111.2.1 M_111.2.2.1 M_111.2.2.2 22 (o_il 2 1) := ok_iload_n dX10_isTile_22 rfl
theorem k_111_23 : mOk M_111.1 M_111.2.1 M_111.2.2.1 M_111.2.2.2 23 (oS 1 (s_push (.int 1))) := ok_iconst dX10_isTile_23 (by decide)
theorem k_111_24 : mOk M_111.1 M_111.2.1 M_111.2.2.1 M_111.2.2.2 24 (o_il 0 1) := ok_iload_n dX10_isTile_24 rfl
theorem k_111_25 : mOk M_111.1 M_111.2.1 M_111.2.2.1 M_111.2.2.2 25 (oS 1 (s_ii (fun a b => a <<< (b &&& 31)))) := ok_ishl dX10_isTile_25
theorem k_111_26 : mOk M_111.1 M_111.2.1 M_111.2.2.1 M_111.2.2.2 26 (o_cge 33) := ok_cge dX10_isTile_26 (by decide)
theorem k_111_29 : mOk M_111.1 M_111.2.1 M_111.2.2.1 M_111.2.2.2 29 (oS 1 (s_push (.int 1))) := ok_iconst dX10_isTile_29 (by decide)
theorem k_111_30 : mOk M_111.1 M_111.2.1 M_111.2.2.1 M_111.2.2.2 30 (o_goto 34) := ok_goto dX10_isTile_30 (by decide)
theorem k_111_33 : mOk M_111.1 M_111.2.1 M_111.2.2.1 M_111.2.2.2 33 (oS 1 (s_push (.int 0))) := ok_iconst dX10_isTile_33 (by decide)
set_option maxRecDepth 20000 in
set_option maxHeartbeats 4000000 in
theorem tk_111 (l : Launch) (H9 : mThr l) (H10 : mSpl l) (pc : Nat) (q : mEnt) (h : tb_111 pc = some q) : EE l 111 pc q := nd h (fun h => nd h (fun h => nd h (fun h => nd h (fun h => lf (P := EE l 111) h k_111_0) (fun h => lf (P := EE l 111) h (EE_ca (by decide) (⟨m_548, m_70, ⟨by decide, by decide⟩, by decide +kernel, ⟨by decide, by decide⟩, 152, 1, by decide +kernel, Or.inl ⟨rfl, rfl, dX10_isTile_1, m_707, m_547⟩⟩) rfl))) (fun h => nd h (fun h => lf (P := EE l 111) h k_111_4) (fun h => nd h (fun h => lf (P := EE l 111) h k_111_7) (fun h => lf (P := EE l 111) h k_111_8)))) (fun h => nd h (fun h => nd h (fun h => lf (P := EE l 111) h k_111_11) (fun h => lf (P := EE l 111) h k_111_12)) (fun h => nd h (fun h => lf (P := EE l 111) h k_111_13) (fun h => nd h (fun h => lf (P := EE l 111) h k_111_14) (fun h => lf (P := EE l 111) h k_111_15))))) (fun h => nd h (fun h => nd h (fun h => nd h (fun h => lf (P := EE l 111) h k_111_18) (fun h => lf (P := EE l 111) h k_111_19)) (fun h => nd h (fun h => lf (P := EE l 111) h k_111_22) (fun h => nd h (fun h => lf (P := EE l 111) h k_111_23) (fun h => lf (P := EE l 111) h k_111_24)))) (fun h => nd h (fun h => nd h (fun h => lf (P := EE l 111) h k_111_25) (fun h => nd h (fun h => lf (P := EE l 111) h k_111_26) (fun h => lf (P := EE l 111) h k_111_29))) (fun h => nd h (fun h => lf (P := EE l 111) h k_111_30) (fun h => nd h (fun h => lf (P := EE l 111) h k_111_33) (fun h => lf (P := EE l 111) h (EE_re (Or.inr (Or.inl ⟨rfl, dX10_isTile_34, rfl⟩))))))))
theorem dX10_turn_0 : decode cX10_turn 0 = .ok (.iload_n 2, 1) := by decide +kernel
theorem dX10_turn_1 : decode cX10_turn 1 = .ok (.iload_n 0, 1) := by decide +kernel
theorem dX10_turn_2 : decode cX10_turn 2 = .ok (.isub, 1) := by decide +kernel
theorem dX10_turn_3 : decode cX10_turn 3 = .ok (.iload 5, 2) := by decide +kernel
theorem dX10_turn_5 : decode cX10_turn 5 = .ok (.iload_n 1, 1) := by decide +kernel
theorem dX10_turn_6 : decode cX10_turn 6 = .ok (.isub, 1) := by decide +kernel
theorem dX10_turn_7 : decode cX10_turn 7 = .ok (.imul, 1) := by decide +kernel
theorem dX10_turn_8 : decode cX10_turn 8 = .ok (.iload_n 3, 1) := by decide +kernel
theorem dX10_turn_9 : decode cX10_turn 9 = .ok (.iload_n 1, 1) := by decide +kernel
theorem dX10_turn_10 : decode cX10_turn 10 = .ok (.isub, 1) := by decide +kernel
theorem dX10_turn_11 : decode cX10_turn 11 = .ok (.iload 4, 2) := by decide +kernel
theorem dX10_turn_13 : decode cX10_turn 13 = .ok (.iload_n 0, 1) := by decide +kernel
theorem dX10_turn_14 : decode cX10_turn 14 = .ok (.isub, 1) := by decide +kernel
theorem dX10_turn_15 : decode cX10_turn 15 = .ok (.imul, 1) := by decide +kernel
theorem dX10_turn_16 : decode cX10_turn 16 = .ok (.isub, 1) := by decide +kernel
theorem dX10_turn_17 : decode cX10_turn 17 = .ok (.ireturn, 1) := by decide +kernel
def tb_112 (pc : Nat) : Option mEnt := bif Nat.ble pc 8 then (bif Nat.ble pc 3 then (bif Nat.ble pc 1 then (bif Nat.ble pc 0 then (bif Nat.beq pc 0 then some (.inl (o_il 2 1)) else none) else (bif Nat.beq pc 1 then some (.inl (o_il 0 1)) else none)) else (bif Nat.ble pc 2 then (bif Nat.beq pc 2 then some (.inl (oS 1 (s_ii (fun a b => a - b)))) else none) else (bif Nat.beq pc 3 then some (.inl (o_il 5 2)) else none))) else (bif Nat.ble pc 6 then (bif Nat.ble pc 5 then (bif Nat.beq pc 5 then some (.inl (o_il 1 1)) else none) else (bif Nat.beq pc 6 then some (.inl (oS 1 (s_ii (fun a b => a - b)))) else none)) else (bif Nat.ble pc 7 then (bif Nat.beq pc 7 then some (.inl (oS 1 (s_ii (fun a b => a * b)))) else none) else (bif Nat.beq pc 8 then some (.inl (o_il 3 1)) else none)))) else (bif Nat.ble pc 13 then (bif Nat.ble pc 10 then (bif Nat.ble pc 9 then (bif Nat.beq pc 9 then some (.inl (o_il 1 1)) else none) else (bif Nat.beq pc 10 then some (.inl (oS 1 (s_ii (fun a b => a - b)))) else none)) else (bif Nat.ble pc 11 then (bif Nat.beq pc 11 then some (.inl (o_il 4 2)) else none) else (bif Nat.beq pc 13 then some (.inl (o_il 0 1)) else none))) else (bif Nat.ble pc 15 then (bif Nat.ble pc 14 then (bif Nat.beq pc 14 then some (.inl (oS 1 (s_ii (fun a b => a - b)))) else none) else (bif Nat.beq pc 15 then some (.inl (oS 1 (s_ii (fun a b => a * b)))) else none)) else (bif Nat.ble pc 16 then (bif Nat.beq pc 16 then some (.inl (oS 1 (s_ii (fun a b => a - b)))) else none) else (bif Nat.beq pc 17 then some (.inr (0, 0, 0, 0)) else none))))
theorem k_112_0 : mOk M_112.1 M_112.2.1 M_112.2.2.1 M_112.2.2.2 0 (o_il 2 1) := ok_iload_n dX10_turn_0 rfl
theorem k_112_1 : mOk M_112.1 M_112.2.1 M_112.2.2.1 M_112.2.2.2 1 (o_il 0 1) := ok_iload_n dX10_turn_1 rfl
theorem k_112_2 : mOk M_112.1 M_112.2.1 M_112.2.2.1 M_112.2.2.2 2 (oS 1 (s_ii (fun a b => a - b))) := ok_isub dX10_turn_2
theorem k_112_3 : mOk M_112.1 M_112.2.1 M_112.2.2.1 M_112.2.2.2 3 (o_il 5 2) := ok_iload dX10_turn_3
theorem k_112_5 : mOk M_112.1 M_112.2.1 M_112.2.2.1 M_112.2.2.2 5 (o_il 1 1) := ok_iload_n dX10_turn_5 rfl
theorem k_112_6 : mOk M_112.1 M_112.2.1 M_112.2.2.1 M_112.2.2.2 6 (oS 1 (s_ii (fun a b => a - b))) := ok_isub dX10_turn_6
theorem k_112_7 : mOk M_112.1 M_112.2.1 M_112.2.2.1 M_112.2.2.2 7 (oS 1 (s_ii (fun a b => a * b))) := ok_imul dX10_turn_7
theorem k_112_8 : mOk M_112.1 M_112.2.1 M_112.2.2.1 M_112.2.2.2 8 (o_il 3 1) := ok_iload_n dX10_turn_8 rfl
theorem k_112_9 : mOk M_112.1 M_112.2.1 M_112.2.2.1 M_112.2.2.2 9 (o_il 1 1) := ok_iload_n dX10_turn_9 rfl
theorem k_112_10 : mOk M_112.1 M_112.2.1 M_112.2.2.1 M_112.2.2.2 10 (oS 1 (s_ii (fun a b => a - b))) := ok_isub dX10_turn_10
theorem k_112_11 : mOk M_112.1 M_112.2.1 M_112.2.2.1 M_112.2.2.2 11 (o_il 4 2) := ok_iload dX10_turn_11
theorem k_112_13 : mOk M_112.1 M_112.2.1 M_112.2.2.1 M_112.2.2.2 13 (o_il 0 1) := ok_iload_n dX10_turn_13 rfl
theorem k_112_14 : mOk M_112.1 M_112.2.1 M_112.2.2.1 M_112.2.2.2 14 (oS 1 (s_ii (fun a b => a - b))) := ok_isub dX10_turn_14
theorem k_112_15 : mOk M_112.1 M_112.2.1 M_112.2.2.1 M_112.2.2.2 15 (oS 1 (s_ii (fun a b => a * b))) := ok_imul dX10_turn_15
theorem k_112_16 : mOk M_112.1 M_112.2.1 M_112.2.2.1 M_112.2.2.2 16 (oS 1 (s_ii (fun a b => a - b))) := ok_isub dX10_turn_16
set_option maxRecDepth 20000 in
set_option maxHeartbeats 4000000 in
theorem tk_112 (l : Launch) (H9 : mThr l) (H10 : mSpl l) (pc : Nat) (q : mEnt) (h : tb_112 pc = some q) : EE l 112 pc q := nd h (fun h => nd h (fun h => nd h (fun h => nd h (fun h => lf (P := EE l 112) h k_112_0) (fun h => lf (P := EE l 112) h k_112_1)) (fun h => nd h (fun h => lf (P := EE l 112) h k_112_2) (fun h => lf (P := EE l 112) h k_112_3))) (fun h => nd h (fun h => nd h (fun h => lf (P := EE l 112) h k_112_5) (fun h => lf (P := EE l 112) h k_112_6)) (fun h => nd h (fun h => lf (P := EE l 112) h k_112_7) (fun h => lf (P := EE l 112) h k_112_8)))) (fun h => nd h (fun h => nd h (fun h => nd h (fun h => lf (P := EE l 112) h k_112_9) (fun h => lf (P := EE l 112) h k_112_10)) (fun h => nd h (fun h => lf (P := EE l 112) h k_112_11) (fun h => lf (P := EE l 112) h k_112_13))) (fun h => nd h (fun h => nd h (fun h => lf (P := EE l 112) h k_112_14) (fun h => lf (P := EE l 112) h k_112_15)) (fun h => nd h (fun h => lf (P := EE l 112) h k_112_16) (fun h => lf (P := EE l 112) h (EE_re (Or.inl ⟨rfl, dX10_turn_17, rfl⟩))))))
