/-! tables of X5 (written by a program) -/
theorem dX5_init_0 : decode cX5_init 0 = .ok (.aload_n 0, 1) := by decide +kernel
theorem dX5_init_1 : decode cX5_init 1 = .ok (.invokespecial 3, 3) := by decide +kernel
theorem dX5_init_4 : decode cX5_init 4 = .ok (.aload_n 0, 1) := by decide +kernel
theorem dX5_init_5 : decode cX5_init 5 = .ok (.new 9, 3) := by decide +kernel
theorem dX5_init_8 : decode cX5_init 8 = .ok (.dup, 1) := by decide +kernel
theorem dX5_init_9 : decode cX5_init 9 = .ok (.invokespecial 11, 3) := by decide +kernel
theorem dX5_init_12 : decode cX5_init 12 = .ok (.putfield 12, 3) := by decide +kernel
theorem dX5_init_15 : decode cX5_init 15 = .ok (.aload_n 0, 1) := by decide +kernel
theorem dX5_init_16 : decode cX5_init 16 = .ok (.new 18, 3) := by decide +kernel
theorem dX5_init_19 : decode cX5_init 19 = .ok (.dup, 1) := by decide +kernel
theorem dX5_init_20 : decode cX5_init 20 = .ok (.invokespecial 20, 3) := by decide +kernel
theorem dX5_init_23 : decode cX5_init 23 = .ok (.putfield 21, 3) := by decide +kernel
theorem dX5_init_26 : decode cX5_init 26 = .ok (.return_, 1) := by decide +kernel
def tb_53 (pc : Nat) : Option mEnt := bif Nat.ble pc 9 then (bif Nat.ble pc 4 then (bif Nat.ble pc 0 then (bif Nat.beq pc 0 then some (.inl (o_al 0 1)) else none) else (bif Nat.ble pc 1 then (bif Nat.beq pc 1 then some (.inr (5, 0, 0, 0)) else none) else (bif Nat.beq pc 4 then some (.inl (o_al 0 1)) else none))) else (bif Nat.ble pc 5 then (bif Nat.beq pc 5 then some (.inl (o_new 9)) else none) else (bif Nat.ble pc 8 then (bif Nat.beq pc 8 then some (.inl (oS 1 s_dup)) else none) else (bif Nat.beq pc 9 then some (.inr (4, 81, 1, 9)) else none)))) else (bif Nat.ble pc 16 then (bif Nat.ble pc 12 then (bif Nat.beq pc 12 then some (.inl (o_pP 5 0)) else none) else (bif Nat.ble pc 15 then (bif Nat.beq pc 15 then some (.inl (o_al 0 1)) else none) else (bif Nat.beq pc 16 then some (.inl (o_new 3)) else none))) else (bif Nat.ble pc 20 then (bif Nat.ble pc 19 then (bif Nat.beq pc 19 then some (.inl (oS 1 s_dup)) else none) else (bif Nat.beq pc 20 then some (.inr (7, 39, 1, 3)) else none)) else (bif Nat.ble pc 23 then (bif Nat.beq pc 23 then some (.inl (o_pP 5 1)) else none) else (bif Nat.beq pc 26 then some (.inr (0, 0, 0, 3)) else none))))
theorem k_53_0 : mOk M_53.1 M_53.2.1 M_53.2.2.1 M_53.2.2.2 0 (o_al 0 1) := ok_aload_n dX5_init_0 rfl
theorem k_53_4 : mOk M_53.1 M_53.2.1 M_53.2.2.1 M_53.2.2.2 4 (o_al 0 1) := ok_aload_n dX5_init_4 rfl
theorem k_53_5 : mOk M_53.1 M_53.2.1 M_53.2.2.1 M_53.2.2.2 5 (o_new 9) := ok_new dX5_init_5 cl_9 rfl m_172 m_173 m_74
theorem k_53_8 : mOk M_53.1 M_53.2.1 M_53.2.2.1 M_53.2.2.2 8 (oS 1 s_dup) := ok_dup dX5_init_8
theorem k_53_12 : mOk M_53.1 M_53.2.1 M_53.2.2.1 M_53.2.2.2 12 (o_pP 5 0) := ok_pP dX5_init_12 (mFw_of f_RX5_12_c (Or.inr ⟨rfl, rfl, rfl⟩)) rfl
theorem k_53_15 : mOk M_53.1 M_53.2.1 M_53.2.2.1 M_53.2.2.2 15 (o_al 0 1) := ok_aload_n dX5_init_15 rfl
theorem k_53_16 : mOk M_53.1 M_53.2.1 M_53.2.2.1 M_53.2.2.2 16 (o_new 3) := ok_new dX5_init_16 cl_3 rfl m_255 m_256 m_77
theorem k_53_19 : mOk M_53.1 M_53.2.1 M_53.2.2.1 M_53.2.2.2 19 (oS 1 s_dup) := ok_dup dX5_init_19
theorem k_53_23 : mOk M_53.1 M_53.2.1 M_53.2.2.1 M_53.2.2.2 23 (o_pP 5 1) := ok_pP dX5_init_23 (mFw_of f_RX5_21_c (Or.inr ⟨rfl, rfl, rfl⟩)) rfl
set_option maxRecDepth 20000 in
set_option maxHeartbeats 4000000 in
theorem tk_53 (l : Launch) (H9 : mThr l) (H10 : mSpl l) (pc : Nat) (q : mEnt) (h : tb_53 pc = some q) : EE l 53 pc q := nd h (fun h => nd h (fun h => nd h (fun h => lf (P := EE l 53) h k_53_0) (fun h => nd h (fun h => lf (P := EE l 53) h (EE_ob (⟨3, dX5_init_1, m_171, m_97, m_98, by decide, by decide⟩))) (fun h => lf (P := EE l 53) h k_53_4))) (fun h => nd h (fun h => lf (P := EE l 53) h k_53_5) (fun h => nd h (fun h => lf (P := EE l 53) h k_53_8) (fun h => lf (P := EE l 53) h (EE_ca (by decide) (⟨m_176, m_74, ⟨by decide, by decide⟩, by decide +kernel, ⟨by decide, by decide⟩, 11, 0, by decide +kernel, Or.inr (Or.inr (Or.inr (Or.inl ⟨rfl, rfl, dX5_init_9, m_174, m_175, rfl, rfl⟩)))⟩) rfl))))) (fun h => nd h (fun h => nd h (fun h => lf (P := EE l 53) h k_53_12) (fun h => nd h (fun h => lf (P := EE l 53) h k_53_15) (fun h => lf (P := EE l 53) h k_53_16))) (fun h => nd h (fun h => nd h (fun h => lf (P := EE l 53) h k_53_19) (fun h => lf (P := EE l 53) h (EE_ca (by decide) (⟨m_259, m_77, ⟨by decide, by decide⟩, by decide +kernel, ⟨by decide, by decide⟩, 20, 0, by decide +kernel, Or.inr (Or.inr (Or.inr (Or.inr ⟨rfl, rfl, dX5_init_20, ⟨"AtlasDesk", m_257⟩, m_258, rfl, rfl⟩)))⟩) rfl))) (fun h => nd h (fun h => lf (P := EE l 53) h k_53_23) (fun h => lf (P := EE l 53) h (EE_re (Or.inr (Or.inr (Or.inr (Or.inr ⟨rfl, dX5_init_26, rfl⟩)))))))))
theorem dX5_fill_0 : decode cX5_fill 0 = .ok (.aload_n 1, 1) := by decide +kernel
theorem dX5_fill_1 : decode cX5_fill 1 = .ok (.iload_n 3, 1) := by decide +kernel
theorem dX5_fill_2 : decode cX5_fill 2 = .ok (.aload 4, 2) := by decide +kernel
theorem dX5_fill_4 : decode cX5_fill 4 = .ok (.invokevirtual 25, 3) := by decide +kernel
theorem dX5_fill_7 : decode cX5_fill 7 = .ok (.iconst 1, 1) := by decide +kernel
theorem dX5_fill_8 : decode cX5_fill 8 = .ok (.istore 5, 2) := by decide +kernel
theorem dX5_fill_10 : decode cX5_fill 10 = .ok (.iconst 0, 1) := by decide +kernel
theorem dX5_fill_11 : decode cX5_fill 11 = .ok (.istore 6, 2) := by decide +kernel
theorem dX5_fill_13 : decode cX5_fill 13 = .ok (.iconst 0, 1) := by decide +kernel
theorem dX5_fill_14 : decode cX5_fill 14 = .ok (.istore 7, 2) := by decide +kernel
theorem dX5_fill_16 : decode cX5_fill 16 = .ok (.iload 7, 2) := by decide +kernel
theorem dX5_fill_18 : decode cX5_fill 18 = .ok (.aload 4, 2) := by decide +kernel
theorem dX5_fill_20 : decode cX5_fill 20 = .ok (.getfield 31, 3) := by decide +kernel
theorem dX5_fill_23 : decode cX5_fill 23 = .ok (.if_icmp .gt 128, 3) := by decide +kernel
theorem dX5_fill_26 : decode cX5_fill 26 = .ok (.aload_n 0, 1) := by decide +kernel
theorem dX5_fill_27 : decode cX5_fill 27 = .ok (.getfield 12, 3) := by decide +kernel
theorem dX5_fill_30 : decode cX5_fill 30 = .ok (.aload_n 2, 1) := by decide +kernel
theorem dX5_fill_31 : decode cX5_fill 31 = .ok (.iload 7, 2) := by decide +kernel
theorem dX5_fill_33 : decode cX5_fill 33 = .ok (.invokevirtual 37, 3) := by decide +kernel
theorem dX5_fill_36 : decode cX5_fill 36 = .ok (.iconst 0, 1) := by decide +kernel
theorem dX5_fill_37 : decode cX5_fill 37 = .ok (.istore 8, 2) := by decide +kernel
theorem dX5_fill_39 : decode cX5_fill 39 = .ok (.iload 8, 2) := by decide +kernel
theorem dX5_fill_41 : decode cX5_fill 41 = .ok (.iconst 1, 1) := by decide +kernel
theorem dX5_fill_42 : decode cX5_fill 42 = .ok (.iconst 2, 1) := by decide +kernel
theorem dX5_fill_43 : decode cX5_fill 43 = .ok (.iload 7, 2) := by decide +kernel
theorem dX5_fill_45 : decode cX5_fill 45 = .ok (.imul, 1) := by decide +kernel
theorem dX5_fill_46 : decode cX5_fill 46 = .ok (.ishl, 1) := by decide +kernel
theorem dX5_fill_47 : decode cX5_fill 47 = .ok (.if_icmp .ge 98, 3) := by decide +kernel
theorem dX5_fill_50 : decode cX5_fill 50 = .ok (.iload 5, 2) := by decide +kernel
theorem dX5_fill_52 : decode cX5_fill 52 = .ok (.ifCond .eq 93, 3) := by decide +kernel
theorem dX5_fill_55 : decode cX5_fill 55 = .ok (.iload 8, 2) := by decide +kernel
theorem dX5_fill_57 : decode cX5_fill 57 = .ok (.invokestatic 41, 3) := by decide +kernel
theorem dX5_fill_60 : decode cX5_fill 60 = .ok (.istore 9, 2) := by decide +kernel
theorem dX5_fill_62 : decode cX5_fill 62 = .ok (.iload 8, 2) := by decide +kernel
theorem dX5_fill_64 : decode cX5_fill 64 = .ok (.iconst 1, 1) := by decide +kernel
theorem dX5_fill_65 : decode cX5_fill 65 = .ok (.ishr, 1) := by decide +kernel
theorem dX5_fill_66 : decode cX5_fill 66 = .ok (.invokestatic 41, 3) := by decide +kernel
theorem dX5_fill_69 : decode cX5_fill 69 = .ok (.istore 10, 2) := by decide +kernel
theorem dX5_fill_71 : decode cX5_fill 71 = .ok (.aload 4, 2) := by decide +kernel
theorem dX5_fill_73 : decode cX5_fill 73 = .ok (.iload 7, 2) := by decide +kernel
theorem dX5_fill_75 : decode cX5_fill 75 = .ok (.iload 9, 2) := by decide +kernel
theorem dX5_fill_77 : decode cX5_fill 77 = .ok (.iload 10, 2) := by decide +kernel
theorem dX5_fill_79 : decode cX5_fill 79 = .ok (.invokevirtual 45, 3) := by decide +kernel
theorem dX5_fill_82 : decode cX5_fill 82 = .ok (.ifCond .eq 54, 3) := by decide +kernel
theorem dX5_fill_85 : decode cX5_fill 85 = .ok (.aload_n 0, 1) := by decide +kernel
theorem dX5_fill_86 : decode cX5_fill 86 = .ok (.getfield 12, 3) := by decide +kernel
theorem dX5_fill_89 : decode cX5_fill 89 = .ok (.iload 9, 2) := by decide +kernel
theorem dX5_fill_91 : decode cX5_fill 91 = .ok (.iload 10, 2) := by decide +kernel
theorem dX5_fill_93 : decode cX5_fill 93 = .ok (.aload_n 0, 1) := by decide +kernel
theorem dX5_fill_94 : decode cX5_fill 94 = .ok (.getfield 21, 3) := by decide +kernel
theorem dX5_fill_97 : decode cX5_fill 97 = .ok (.invokevirtual 49, 3) := by decide +kernel
theorem dX5_fill_100 : decode cX5_fill 100 = .ok (.aload_n 0, 1) := by decide +kernel
theorem dX5_fill_101 : decode cX5_fill 101 = .ok (.getfield 21, 3) := by decide +kernel
theorem dX5_fill_104 : decode cX5_fill 104 = .ok (.getfield 53, 3) := by decide +kernel
theorem dX5_fill_107 : decode cX5_fill 107 = .ok (.ifCond .eq 22, 3) := by decide +kernel
theorem dX5_fill_110 : decode cX5_fill 110 = .ok (.aload_n 1, 1) := by decide +kernel
theorem dX5_fill_111 : decode cX5_fill 111 = .ok (.iload 6, 2) := by decide +kernel
theorem dX5_fill_113 : decode cX5_fill 113 = .ok (.iload 7, 2) := by decide +kernel
theorem dX5_fill_115 : decode cX5_fill 115 = .ok (.iload 9, 2) := by decide +kernel
theorem dX5_fill_117 : decode cX5_fill 117 = .ok (.iload 10, 2) := by decide +kernel
theorem dX5_fill_119 : decode cX5_fill 119 = .ok (.aload_n 0, 1) := by decide +kernel
theorem dX5_fill_120 : decode cX5_fill 120 = .ok (.getfield 21, 3) := by decide +kernel
theorem dX5_fill_123 : decode cX5_fill 123 = .ok (.invokevirtual 56, 3) := by decide +kernel
theorem dX5_fill_126 : decode cX5_fill 126 = .ok (.ifCond .eq 7, 3) := by decide +kernel
theorem dX5_fill_129 : decode cX5_fill 129 = .ok (.iconst 1, 1) := by decide +kernel
theorem dX5_fill_130 : decode cX5_fill 130 = .ok (.goto 4, 3) := by decide +kernel
theorem dX5_fill_133 : decode cX5_fill 133 = .ok (.iconst 0, 1) := by decide +kernel
theorem dX5_fill_134 : decode cX5_fill 134 = .ok (.istore 5, 2) := by decide +kernel
theorem dX5_fill_136 : decode cX5_fill 136 = .ok (.iinc 6 1, 3) := by decide +kernel
theorem dX5_fill_139 : decode cX5_fill 139 = .ok (.iinc 8 1, 3) := by decide +kernel
theorem dX5_fill_142 : decode cX5_fill 142 = .ok (.goto (-103), 3) := by decide +kernel
theorem dX5_fill_145 : decode cX5_fill 145 = .ok (.iinc 7 1, 3) := by decide +kernel
theorem dX5_fill_148 : decode cX5_fill 148 = .ok (.goto (-132), 3) := by decide +kernel
theorem dX5_fill_151 : decode cX5_fill 151 = .ok (.aload_n 1, 1) := by decide +kernel
theorem dX5_fill_152 : decode cX5_fill 152 = .ok (.getfield 60, 3) := by decide +kernel
theorem dX5_fill_155 : decode cX5_fill 155 = .ok (.aload_n 2, 1) := by decide +kernel
theorem dX5_fill_156 : decode cX5_fill 156 = .ok (.aload 4, 2) := by decide +kernel
theorem dX5_fill_158 : decode cX5_fill 158 = .ok (.invokevirtual 64, 3) := by decide +kernel
theorem dX5_fill_161 : decode cX5_fill 161 = .ok (.iload 5, 2) := by decide +kernel
theorem dX5_fill_163 : decode cX5_fill 163 = .ok (.ireturn, 1) := by decide +kernel
def tb_54 (pc : Nat) : Option mEnt := bif Nat.ble pc 73 then (bif Nat.ble pc 36 then (bif Nat.ble pc 14 then (bif Nat.ble pc 7 then (bif Nat.ble pc 1 then (bif Nat.ble pc 0 then (bif Nat.beq pc 0 then some (.inl (o_al 1 1)) else none) else (bif Nat.beq pc 1 then some (.inl (o_il 3 1)) else none)) else (bif Nat.ble pc 2 then (bif Nat.beq pc 2 then some (.inl (o_al 4 2)) else none) else (bif Nat.ble pc 4 then (bif Nat.beq pc 4 then some (.inr (3, 44, 3, 4)) else none) else (bif Nat.beq pc 7 then some (.inl (oS 1 (s_push (.int 1)))) else none)))) else (bif Nat.ble pc 10 then (bif Nat.ble pc 8 then (bif Nat.beq pc 8 then some (.inl (o_is 5 2)) else none) else (bif Nat.beq pc 10 then some (.inl (oS 1 (s_push (.int 0)))) else none)) else (bif Nat.ble pc 11 then (bif Nat.beq pc 11 then some (.inl (o_is 6 2)) else none) else (bif Nat.ble pc 13 then (bif Nat.beq pc 13 then some (.inl (oS 1 (s_push (.int 0)))) else none) else (bif Nat.beq pc 14 then some (.inl (o_is 7 2)) else none))))) else (bif Nat.ble pc 26 then (bif Nat.ble pc 18 then (bif Nat.ble pc 16 then (bif Nat.beq pc 16 then some (.inl (o_il 7 2)) else none) else (bif Nat.beq pc 18 then some (.inl (o_al 4 2)) else none)) else (bif Nat.ble pc 20 then (bif Nat.beq pc 20 then some (.inl (o_gI 7 4)) else none) else (bif Nat.ble pc 23 then (bif Nat.beq pc 23 then some (.inl (o_cgt 151)) else none) else (bif Nat.beq pc 26 then some (.inl (o_al 0 1)) else none)))) else (bif Nat.ble pc 30 then (bif Nat.ble pc 27 then (bif Nat.beq pc 27 then some (.inl (o_gP 5 0)) else none) else (bif Nat.beq pc 30 then some (.inl (o_al 2 1)) else none)) else (bif Nat.ble pc 31 then (bif Nat.beq pc 31 then some (.inl (o_il 7 2)) else none) else (bif Nat.ble pc 33 then (bif Nat.beq pc 33 then some (.inr (3, 82, 3, 9)) else none) else (bif Nat.beq pc 36 then some (.inl (oS 1 (s_push (.int 0)))) else none)))))) else (bif Nat.ble pc 52 then (bif Nat.ble pc 43 then (bif Nat.ble pc 39 then (bif Nat.ble pc 37 then (bif Nat.beq pc 37 then some (.inl (o_is 8 2)) else none) else (bif Nat.beq pc 39 then some (.inl (o_il 8 2)) else none)) else (bif Nat.ble pc 41 then (bif Nat.beq pc 41 then some (.inl (oS 1 (s_push (.int 1)))) else none) else (bif Nat.ble pc 42 then (bif Nat.beq pc 42 then some (.inl (oS 1 (s_push (.int 2)))) else none) else (bif Nat.beq pc 43 then some (.inl (o_il 7 2)) else none)))) else (bif Nat.ble pc 46 then (bif Nat.ble pc 45 then (bif Nat.beq pc 45 then some (.inl (oS 1 (s_ii (fun a b => a * b)))) else none) else (bif Nat.beq pc 46 then some (.inl (oS 1 (s_ii (fun a b => a <<< (b &&& 31))))) else none)) else (bif Nat.ble pc 47 then (bif Nat.beq pc 47 then some (.inl (o_cge 145)) else none) else (bif Nat.ble pc 50 then (bif Nat.beq pc 50 then some (.inl (o_il 5 2)) else none) else (bif Nat.beq pc 52 then some (.inl (o_zeq 145)) else none))))) else (bif Nat.ble pc 64 then (bif Nat.ble pc 57 then (bif Nat.ble pc 55 then (bif Nat.beq pc 55 then some (.inl (o_il 8 2)) else none) else (bif Nat.beq pc 57 then some (.inr (2, 55, 1, 0)) else none)) else (bif Nat.ble pc 60 then (bif Nat.beq pc 60 then some (.inl (o_is 9 2)) else none) else (bif Nat.ble pc 62 then (bif Nat.beq pc 62 then some (.inl (o_il 8 2)) else none) else (bif Nat.beq pc 64 then some (.inl (oS 1 (s_push (.int 1)))) else none)))) else (bif Nat.ble pc 66 then (bif Nat.ble pc 65 then (bif Nat.beq pc 65 then some (.inl (oS 1 (s_ii (fun a b => a >>> (b &&& 31))))) else none) else (bif Nat.beq pc 66 then some (.inr (2, 55, 1, 0)) else none)) else (bif Nat.ble pc 69 then (bif Nat.beq pc 69 then some (.inl (o_is 10 2)) else none) else (bif Nat.ble pc 71 then (bif Nat.beq pc 71 then some (.inl (o_al 4 2)) else none) else (bif Nat.beq pc 73 then some (.inl (o_il 7 2)) else none))))))) else (bif Nat.ble pc 117 then (bif Nat.ble pc 94 then (bif Nat.ble pc 85 then (bif Nat.ble pc 77 then (bif Nat.ble pc 75 then (bif Nat.beq pc 75 then some (.inl (o_il 9 2)) else none) else (bif Nat.beq pc 77 then some (.inl (o_il 10 2)) else none)) else (bif Nat.ble pc 79 then (bif Nat.beq pc 79 then some (.inr (3, 74, 4, 7)) else none) else (bif Nat.ble pc 82 then (bif Nat.beq pc 82 then some (.inl (o_zeq 136)) else none) else (bif Nat.beq pc 85 then some (.inl (o_al 0 1)) else none)))) else (bif Nat.ble pc 89 then (bif Nat.ble pc 86 then (bif Nat.beq pc 86 then some (.inl (o_gP 5 0)) else none) else (bif Nat.beq pc 89 then some (.inl (o_il 9 2)) else none)) else (bif Nat.ble pc 91 then (bif Nat.beq pc 91 then some (.inl (o_il 10 2)) else none) else (bif Nat.ble pc 93 then (bif Nat.beq pc 93 then some (.inl (o_al 0 1)) else none) else (bif Nat.beq pc 94 then some (.inl (o_gP 5 1)) else none))))) else (bif Nat.ble pc 107 then (bif Nat.ble pc 100 then (bif Nat.ble pc 97 then (bif Nat.beq pc 97 then some (.inr (3, 88, 4, 9)) else none) else (bif Nat.beq pc 100 then some (.inl (o_al 0 1)) else none)) else (bif Nat.ble pc 101 then (bif Nat.beq pc 101 then some (.inl (o_gP 5 1)) else none) else (bif Nat.ble pc 104 then (bif Nat.beq pc 104 then some (.inl (o_gI 3 1)) else none) else (bif Nat.beq pc 107 then some (.inl (o_zeq 129)) else none)))) else (bif Nat.ble pc 111 then (bif Nat.ble pc 110 then (bif Nat.beq pc 110 then some (.inl (o_al 1 1)) else none) else (bif Nat.beq pc 111 then some (.inl (o_il 6 2)) else none)) else (bif Nat.ble pc 113 then (bif Nat.beq pc 113 then some (.inl (o_il 7 2)) else none) else (bif Nat.ble pc 115 then (bif Nat.beq pc 115 then some (.inl (o_il 9 2)) else none) else (bif Nat.beq pc 117 then some (.inl (o_il 10 2)) else none)))))) else (bif Nat.ble pc 139 then (bif Nat.ble pc 129 then (bif Nat.ble pc 120 then (bif Nat.ble pc 119 then (bif Nat.beq pc 119 then some (.inl (o_al 0 1)) else none) else (bif Nat.beq pc 120 then some (.inl (o_gP 5 1)) else none)) else (bif Nat.ble pc 123 then (bif Nat.beq pc 123 then some (.inr (3, 45, 6, 4)) else none) else (bif Nat.ble pc 126 then (bif Nat.beq pc 126 then some (.inl (o_zeq 133)) else none) else (bif Nat.beq pc 129 then some (.inl (oS 1 (s_push (.int 1)))) else none)))) else (bif Nat.ble pc 133 then (bif Nat.ble pc 130 then (bif Nat.beq pc 130 then some (.inl (o_goto 134)) else none) else (bif Nat.beq pc 133 then some (.inl (oS 1 (s_push (.int 0)))) else none)) else (bif Nat.ble pc 134 then (bif Nat.beq pc 134 then some (.inl (o_is 5 2)) else none) else (bif Nat.ble pc 136 then (bif Nat.beq pc 136 then some (.inl (o_inc 6 1)) else none) else (bif Nat.beq pc 139 then some (.inl (o_inc 8 1)) else none))))) else (bif Nat.ble pc 152 then (bif Nat.ble pc 145 then (bif Nat.ble pc 142 then (bif Nat.beq pc 142 then some (.inl (o_goto 39)) else none) else (bif Nat.beq pc 145 then some (.inl (o_inc 7 1)) else none)) else (bif Nat.ble pc 148 then (bif Nat.beq pc 148 then some (.inl (o_goto 16)) else none) else (bif Nat.ble pc 151 then (bif Nat.beq pc 151 then some (.inl (o_al 1 1)) else none) else (bif Nat.beq pc 152 then some (.inl (o_gP 4 2)) else none)))) else (bif Nat.ble pc 156 then (bif Nat.ble pc 155 then (bif Nat.beq pc 155 then some (.inl (o_al 2 1)) else none) else (bif Nat.beq pc 156 then some (.inl (o_al 4 2)) else none)) else (bif Nat.ble pc 158 then (bif Nat.beq pc 158 then some (.inr (3, 9, 3, 1)) else none) else (bif Nat.ble pc 161 then (bif Nat.beq pc 161 then some (.inl (o_il 5 2)) else none) else (bif Nat.beq pc 163 then some (.inr (0, 0, 0, 4)) else none)))))))
theorem k_54_0 : mOk M_54.1 M_54.2.1 M_54.2.2.1 M_54.2.2.2 0 (o_al 1 1) := ok_aload_n dX5_fill_0 rfl
theorem k_54_1 : mOk M_54.1 M_54.2.1 M_54.2.2.1 M_54.2.2.2 1 (o_il 3 1) := ok_iload_n dX5_fill_1 rfl
theorem k_54_2 : mOk M_54.1 M_54.2.1 M_54.2.2.1 M_54.2.2.2 2 (o_al 4 2) := ok_aload dX5_fill_2
theorem k_54_7 : mOk M_54.1 M_54.2.1 M_54.2.2.1 M_54.2.2.2 7 (oS 1 (s_push (.int 1))) := ok_iconst dX5_fill_7 (by decide)
theorem k_54_8 : mOk M_54.1 M_54.2.1 M_54.2.2.1 M_54.2.2.2 8 (o_is 5 2) := ok_istore dX5_fill_8
theorem k_54_10 : mOk M_54.1 M_54.2.1 M_54.2.2.1 M_54.2.2.2 10 (oS 1 (s_push (.int 0))) := ok_iconst dX5_fill_10 (by decide)
theorem k_54_11 : mOk M_54.1 M_54.2.1 M_54.2.2.1 M_54.2.2.2 11 (o_is 6 2) := ok_istore dX5_fill_11
theorem k_54_13 : mOk M_54.1 M_54.2.1 M_54.2.2.1 M_54.2.2.2 13 (oS 1 (s_push (.int 0))) := ok_iconst dX5_fill_13 (by decide)
theorem k_54_14 : mOk M_54.1 M_54.2.1 M_54.2.2.1 M_54.2.2.2 14 (o_is 7 2) := ok_istore dX5_fill_14
theorem k_54_16 : mOk M_54.1 M_54.2.1 M_54.2.2.1 M_54.2.2.2 16 (o_il 7 2) := ok_iload dX5_fill_16
theorem k_54_18 : mOk M_54.1 M_54.2.1 M_54.2.2.1 M_54.2.2.2 18 (o_al 4 2) := ok_aload dX5_fill_18
theorem k_54_20 : mOk M_54.1 M_54.2.1 M_54.2.2.1 M_54.2.2.2 20 (o_gI 7 4) := ok_gI dX5_fill_20 f_RX5_31 (Or.inl rfl)
theorem k_54_23 : mOk M_54.1 M_54.2.1 M_54.2.2.1 M_54.2.2.2 23 (o_cgt 151) := ok_cgt dX5_fill_23 (by decide)
theorem k_54_26 : mOk M_54.1 M_54.2.1 M_54.2.2.1 M_54.2.2.2 26 (o_al 0 1) := ok_aload_n dX5_fill_26 rfl
theorem k_54_27 : mOk M_54.1 M_54.2.1 M_54.2.2.1 M_54.2.2.2 27 (o_gP 5 0) := ok_gP dX5_fill_27 f_RX5_12 rfl
theorem k_54_30 : mOk M_54.1 M_54.2.1 M_54.2.2.1 M_54.2.2.2 30 (o_al 2 1) := ok_aload_n dX5_fill_30 rfl
theorem k_54_31 : mOk M_54.1 M_54.2.1 M_54.2.2.1 M_54.2.2.2 31 (o_il 7 2) := ok_iload dX5_fill_31
theorem k_54_36 : mOk M_54.1 M_54.2.1 M_54.2.2.1 M_54.2.2.2 36 (oS 1 (s_push (.int 0))) := ok_iconst dX5_fill_36 (by decide)
theorem k_54_37 : mOk M_54.1 M_54.2.1 M_54.2.2.1 M_54.2.2.2 37 (o_is 8 2) := ok_istore dX5_fill_37
theorem k_54_39 : mOk M_54.1 M_54.2.1 M_54.2.2.1 M_54.2.2.2 39 (o_il 8 2) := ok_iload dX5_fill_39
theorem k_54_41 : mOk M_54.1 M_54.2.1 M_54.2.2.1 M_54.2.2.2 41 (oS 1 (s_push (.int 1))) := ok_iconst dX5_fill_41 (by decide)
theorem k_54_42 : mOk M_54.1 M_54.2.1 M_54.2.2.1 M_54.2.2.2 42 (oS 1 (s_push (.int 2))) := ok_iconst dX5_fill_42 (by decide)
theorem k_54_43 : mOk M_54.1 M_54.2.1 M_54.2.2.1 M_54.2.2.2 43 (o_il 7 2) := ok_iload dX5_fill_43
theorem k_54_45 : mOk M_54.1 M_54.2.1 M_54.2.2.1 M_54.2.2.2 45 (oS 1 (s_ii (fun a b => a * b))) := ok_imul dX5_fill_45
theorem k_54_46 : mOk M_54.1 M_54.2.1 M_54.2.2.1 M_54.2.2.2 46 (oS 1 (s_ii (fun a b => a <<< (b &&& 31)))) := ok_ishl dX5_fill_46
theorem k_54_47 : mOk M_54.1 M_54.2.1 M_54.2.2.1 M_54.2.2.2 47 (o_cge 145) := ok_cge dX5_fill_47 (by decide)
theorem k_54_50 : mOk M_54.1 M_54.2.1 M_54.2.2.1 M_54.2.2.2 50 (o_il 5 2) := ok_iload dX5_fill_50
theorem k_54_52 : mOk M_54.1 M_54.2.1 M_54.2.2.1 M_54.2.2.2 52 (o_zeq 145) := ok_zeq dX5_fill_52 (by decide)
theorem k_54_55 : mOk M_54.1 M_54.2.1 M_54.2.2.1 M_54.2.2.2 55 (o_il 8 2) := ok_iload dX5_fill_55
theorem k_54_60 : mOk M_54.1 M_54.2.1 M_54.2.2.1 M_54.2.2.2 60 (o_is 9 2) := ok_istore dX5_fill_60
theorem k_54_62 : mOk M_54.1 M_54.2.1 M_54.2.2.1 M_54.2.2.2 62 (o_il 8 2) := ok_iload dX5_fill_62
theorem k_54_64 : mOk M_54.1 M_54.2.1 M_54.2.2.1 M_54.2.2.2 64 (oS 1 (s_push (.int 1))) := ok_iconst dX5_fill_64 (by decide)
theorem k_54_65 : mOk M_54.1 M_54.2.1 M_54.2.2.1 M_54.2.2.2 65 (oS 1 (s_ii (fun a b => a >>> (b &&& 31)))) := ok_ishr dX5_fill_65
theorem k_54_69 : mOk M_54.1 M_54.2.1 M_54.2.2.1 M_54.2.2.2 69 (o_is 10 2) := ok_istore dX5_fill_69
theorem k_54_71 : mOk M_54.1 M_54.2.1 M_54.2.2.1 M_54.2.2.2 71 (o_al 4 2) := ok_aload dX5_fill_71
theorem k_54_73 : mOk M_54.1 M_54.2.1 M_54.2.2.1 M_54.2.2.2 73 (o_il 7 2) := ok_iload dX5_fill_73
theorem k_54_75 : mOk M_54.1 M_54.2.1 M_54.2.2.1 M_54.2.2.2 75 (o_il 9 2) := ok_iload dX5_fill_75
theorem k_54_77 : mOk M_54.1 M_54.2.1 M_54.2.2.1 M_54.2.2.2 77 (o_il 10 2) := ok_iload dX5_fill_77
theorem k_54_82 : mOk M_54.1 M_54.2.1 M_54.2.2.1 M_54.2.2.2 82 (o_zeq 136) := ok_zeq dX5_fill_82 (by decide)
theorem k_54_85 : mOk M_54.1 M_54.2.1 M_54.2.2.1 M_54.2.2.2 85 (o_al 0 1) := ok_aload_n dX5_fill_85 rfl
theorem k_54_86 : mOk M_54.1 M_54.2.1 M_54.2.2.1 M_54.2.2.2 86 (o_gP 5 0) := ok_gP dX5_fill_86 f_RX5_12 rfl
theorem k_54_89 : mOk M_54.1 M_54.2.1 M_54.2.2.1 M_54.2.2.2 89 (o_il 9 2) := ok_iload dX5_fill_89
theorem k_54_91 : mOk M_54.1 M_54.2.1 M_54.2.2.1 M_54.2.2.2 91 (o_il 10 2) := ok_iload dX5_fill_91
theorem k_54_93 : mOk M_54.1 M_54.2.1 M_54.2.2.1 M_54.2.2.2 93 (o_al 0 1) := ok_aload_n dX5_fill_93 rfl
theorem k_54_94 : mOk M_54.1 M_54.2.1 M_54.2.2.1 M_54.2.2.2 94 (o_gP 5 1) := ok_gP dX5_fill_94 f_RX5_21 rfl
theorem k_54_100 : mOk M_54.1 M_54.2.1 M_54.2.2.1 M_54.2.2.2 100 (o_al 0 1) := ok_aload_n dX5_fill_100 rfl
theorem k_54_101 : mOk M_54.1 M_54.2.1 M_54.2.2.1 M_54.2.2.2 101 (o_gP 5 1) := ok_gP dX5_fill_101 f_RX5_21 rfl
theorem k_54_104 : mOk M_54.1 M_54.2.1 M_54.2.2.1 M_54.2.2.2 104 (o_gI 3 1) := ok_gI dX5_fill_104 f_RX5_53 (Or.inl rfl)
theorem k_54_107 : mOk M_54.1 M_54.2.1 M_54.2.2.1 M_54.2.2.2 107 (o_zeq 129) := ok_zeq dX5_fill_107 (by decide)
theorem k_54_110 : mOk M_54.1 M_54.2.1 M_54.2.2.1 M_54.2.2.2 110 (o_al 1 1) := ok_aload_n dX5_fill_110 rfl
theorem k_54_111 : mOk M_54.1 M_54.2.1 M_54.2.2.1 M_54.2.2.2 111 (o_il 6 2) := ok_iload dX5_fill_111
theorem k_54_113 : mOk M_54.1 M_54.2.1 M_54.2.2.1 M_54.2.2.2 113 (o_il 7 2) := ok_iload dX5_fill_113
theorem k_54_115 : mOk M_54.1 M_54.2.1 M_54.2.2.1 M_54.2.2.2 115 (o_il 9 2) := ok_iload dX5_fill_115
theorem k_54_117 : mOk M_54.1 M_54.2.1 M_54.2.2.1 M_54.2.2.2 117 (o_il 10 2) := ok_iload dX5_fill_117
theorem k_54_119 : mOk M_54.1 M_54.2.1 M_54.2.2.1 M_54.2.2.2 119 (o_al 0 1) := ok_aload_n dX5_fill_119 rfl
theorem k_54_120 : mOk M_54.1 M_54.2.1 M_54.2.2.1 M_54.2.2.2 120 (o_gP 5 1) := ok_gP dX5_fill_120 f_RX5_21 rfl
theorem k_54_126 : mOk M_54.1 M_54.2.1 M_54.2.2.1 M_54.2.2.2 126 (o_zeq 133) := ok_zeq dX5_fill_126 (by decide)
theorem k_54_129 : mOk M_54.1 M_54.2.1 M_54.2.2.1 M_54.2.2.2 129 (oS 1 (s_push (.int 1))) := ok_iconst dX5_fill_129 (by decide)
theorem k_54_130 : mOk M_54.1 M_54.2.1 M_54.2.2.1 M_54.2.2.2 130 (o_goto 134) := ok_goto dX5_fill_130 (by decide)
theorem k_54_133 : mOk M_54.1 M_54.2.1 M_54.2.2.1 M_54.2.2.2 133 (oS 1 (s_push (.int 0))) := ok_iconst dX5_fill_133 (by decide)
theorem k_54_134 : mOk M_54.1 M_54.2.1 M_54.2.2.1 M_54.2.2.2 134 (o_is 5 2) := ok_istore dX5_fill_134
theorem k_54_136 : mOk M_54.1 M_54.2.1 M_54.2.2.1 M_54.2.2.2 136 (o_inc 6 1) := ok_iinc dX5_fill_136 (by decide)
theorem k_54_139 : mOk M_54.1 M_54.2.1 M_54.2.2.1 M_54.2.2.2 139 (o_inc 8 1) := ok_iinc dX5_fill_139 (by decide)
theorem k_54_142 : mOk M_54.1 M_54.2.1 M_54.2.2.1 M_54.2.2.2 142 (o_goto 39) := ok_goto dX5_fill_142 (by decide)
theorem k_54_145 : mOk M_54.1 M_54.2.1 M_54.2.2.1 M_54.2.2.2 145 (o_inc 7 1) := ok_iinc dX5_fill_145 (by decide)
theorem k_54_148 : mOk M_54.1 M_54.2.1 M_54.2.2.1 M_54.2.2.2 148 (o_goto 16) := ok_goto dX5_fill_148 (by decide)
theorem k_54_151 : mOk M_54.1 M_54.2.1 M_54.2.2.1 M_54.2.2.2 151 (o_al 1 1) := ok_aload_n dX5_fill_151 rfl
theorem k_54_152 : mOk M_54.1 M_54.2.1 M_54.2.2.1 M_54.2.2.2 152 (o_gP 4 2) := ok_gP dX5_fill_152 f_RX5_60 rfl
theorem k_54_155 : mOk M_54.1 M_54.2.1 M_54.2.2.1 M_54.2.2.2 155 (o_al 2 1) := ok_aload_n dX5_fill_155 rfl
theorem k_54_156 : mOk M_54.1 M_54.2.1 M_54.2.2.1 M_54.2.2.2 156 (o_al 4 2) := ok_aload dX5_fill_156
theorem k_54_161 : mOk M_54.1 M_54.2.1 M_54.2.2.1 M_54.2.2.2 161 (o_il 5 2) := ok_iload dX5_fill_161
set_option maxRecDepth 20000 in
set_option maxHeartbeats 4000000 in
theorem tk_54 (l : Launch) (H9 : mThr l) (H10 : mSpl l) (pc : Nat) (q : mEnt) (h : tb_54 pc = some q) : EE l 54 pc q := nd h (fun h => nd h (fun h => nd h (fun h => nd h (fun h => nd h (fun h => nd h (fun h => lf (P := EE l 54) h k_54_0) (fun h => lf (P := EE l 54) h k_54_1)) (fun h => nd h (fun h => lf (P := EE l 54) h k_54_2) (fun h => nd h (fun h => lf (P := EE l 54) h (EE_ca (by decide) (⟨m_877, m_79, ⟨by decide, by decide⟩, by decide +kernel, ⟨by decide, by decide⟩, 25, 2, by decide +kernel, Or.inr (Or.inr (Or.inl ⟨rfl, rfl, dX5_fill_4, m_874, m_875, _, rfl, by decide, m_876⟩))⟩) rfl)) (fun h => lf (P := EE l 54) h k_54_7)))) (fun h => nd h (fun h => nd h (fun h => lf (P := EE l 54) h k_54_8) (fun h => lf (P := EE l 54) h k_54_10)) (fun h => nd h (fun h => lf (P := EE l 54) h k_54_11) (fun h => nd h (fun h => lf (P := EE l 54) h k_54_13) (fun h => lf (P := EE l 54) h k_54_14))))) (fun h => nd h (fun h => nd h (fun h => nd h (fun h => lf (P := EE l 54) h k_54_16) (fun h => lf (P := EE l 54) h k_54_18)) (fun h => nd h (fun h => lf (P := EE l 54) h k_54_20) (fun h => nd h (fun h => lf (P := EE l 54) h k_54_23) (fun h => lf (P := EE l 54) h k_54_26)))) (fun h => nd h (fun h => nd h (fun h => lf (P := EE l 54) h k_54_27) (fun h => lf (P := EE l 54) h k_54_30)) (fun h => nd h (fun h => lf (P := EE l 54) h k_54_31) (fun h => nd h (fun h => lf (P := EE l 54) h (EE_ca (by decide) (⟨m_727, m_74, ⟨by decide, by decide⟩, by decide +kernel, ⟨by decide, by decide⟩, 37, 2, by decide +kernel, Or.inr (Or.inr (Or.inl ⟨rfl, rfl, dX5_fill_33, m_883, m_725, _, rfl, by decide, m_726⟩))⟩) rfl)) (fun h => lf (P := EE l 54) h k_54_36)))))) (fun h => nd h (fun h => nd h (fun h => nd h (fun h => nd h (fun h => lf (P := EE l 54) h k_54_37) (fun h => lf (P := EE l 54) h k_54_39)) (fun h => nd h (fun h => lf (P := EE l 54) h k_54_41) (fun h => nd h (fun h => lf (P := EE l 54) h k_54_42) (fun h => lf (P := EE l 54) h k_54_43)))) (fun h => nd h (fun h => nd h (fun h => lf (P := EE l 54) h k_54_45) (fun h => lf (P := EE l 54) h k_54_46)) (fun h => nd h (fun h => lf (P := EE l 54) h k_54_47) (fun h => nd h (fun h => lf (P := EE l 54) h k_54_50) (fun h => lf (P := EE l 54) h k_54_52))))) (fun h => nd h (fun h => nd h (fun h => nd h (fun h => lf (P := EE l 54) h k_54_55) (fun h => lf (P := EE l 54) h (EE_ca (by decide) (⟨m_886, m_73, ⟨by decide, by decide⟩, by decide +kernel, ⟨by decide, by decide⟩, 41, 1, by decide +kernel, Or.inl ⟨rfl, rfl, dX5_fill_57, m_884, m_885⟩⟩) rfl))) (fun h => nd h (fun h => lf (P := EE l 54) h k_54_60) (fun h => nd h (fun h => lf (P := EE l 54) h k_54_62) (fun h => lf (P := EE l 54) h k_54_64)))) (fun h => nd h (fun h => nd h (fun h => lf (P := EE l 54) h k_54_65) (fun h => lf (P := EE l 54) h (EE_ca (by decide) (⟨m_886, m_73, ⟨by decide, by decide⟩, by decide +kernel, ⟨by decide, by decide⟩, 41, 1, by decide +kernel, Or.inl ⟨rfl, rfl, dX5_fill_66, m_884, m_885⟩⟩) rfl))) (fun h => nd h (fun h => lf (P := EE l 54) h k_54_69) (fun h => nd h (fun h => lf (P := EE l 54) h k_54_71) (fun h => lf (P := EE l 54) h k_54_73))))))) (fun h => nd h (fun h => nd h (fun h => nd h (fun h => nd h (fun h => nd h (fun h => lf (P := EE l 54) h k_54_75) (fun h => lf (P := EE l 54) h k_54_77)) (fun h => nd h (fun h => lf (P := EE l 54) h (EE_ca (by decide) (⟨m_890, m_78, ⟨by decide, by decide⟩, by decide +kernel, ⟨by decide, by decide⟩, 45, 3, by decide +kernel, Or.inr (Or.inr (Or.inl ⟨rfl, rfl, dX5_fill_79, m_887, m_888, _, rfl, by decide, m_889⟩))⟩) rfl)) (fun h => nd h (fun h => lf (P := EE l 54) h k_54_82) (fun h => lf (P := EE l 54) h k_54_85)))) (fun h => nd h (fun h => nd h (fun h => lf (P := EE l 54) h k_54_86) (fun h => lf (P := EE l 54) h k_54_89)) (fun h => nd h (fun h => lf (P := EE l 54) h k_54_91) (fun h => nd h (fun h => lf (P := EE l 54) h k_54_93) (fun h => lf (P := EE l 54) h k_54_94))))) (fun h => nd h (fun h => nd h (fun h => nd h (fun h => lf (P := EE l 54) h (EE_ca (by decide) (⟨m_786, m_74, ⟨by decide, by decide⟩, by decide +kernel, ⟨by decide, by decide⟩, 49, 3, by decide +kernel, Or.inr (Or.inr (Or.inl ⟨rfl, rfl, dX5_fill_97, m_891, m_784, _, rfl, by decide, m_785⟩))⟩) rfl)) (fun h => lf (P := EE l 54) h k_54_100)) (fun h => nd h (fun h => lf (P := EE l 54) h k_54_101) (fun h => nd h (fun h => lf (P := EE l 54) h k_54_104) (fun h => lf (P := EE l 54) h k_54_107)))) (fun h => nd h (fun h => nd h (fun h => lf (P := EE l 54) h k_54_110) (fun h => lf (P := EE l 54) h k_54_111)) (fun h => nd h (fun h => lf (P := EE l 54) h k_54_113) (fun h => nd h (fun h => lf (P := EE l 54) h k_54_115) (fun h => lf (P := EE l 54) h k_54_117)))))) (fun h => nd h (fun h => nd h (fun h => nd h (fun h => nd h (fun h => lf (P := EE l 54) h k_54_119) (fun h => lf (P := EE l 54) h k_54_120)) (fun h => nd h (fun h => lf (P := EE l 54) h (EE_ca (by decide) (⟨m_895, m_79, ⟨by decide, by decide⟩, by decide +kernel, ⟨by decide, by decide⟩, 56, 5, by decide +kernel, Or.inr (Or.inr (Or.inl ⟨rfl, rfl, dX5_fill_123, m_892, m_893, _, rfl, by decide, m_894⟩))⟩) rfl)) (fun h => nd h (fun h => lf (P := EE l 54) h k_54_126) (fun h => lf (P := EE l 54) h k_54_129)))) (fun h => nd h (fun h => nd h (fun h => lf (P := EE l 54) h k_54_130) (fun h => lf (P := EE l 54) h k_54_133)) (fun h => nd h (fun h => lf (P := EE l 54) h k_54_134) (fun h => nd h (fun h => lf (P := EE l 54) h k_54_136) (fun h => lf (P := EE l 54) h k_54_139))))) (fun h => nd h (fun h => nd h (fun h => nd h (fun h => lf (P := EE l 54) h k_54_142) (fun h => lf (P := EE l 54) h k_54_145)) (fun h => nd h (fun h => lf (P := EE l 54) h k_54_148) (fun h => nd h (fun h => lf (P := EE l 54) h k_54_151) (fun h => lf (P := EE l 54) h k_54_152)))) (fun h => nd h (fun h => nd h (fun h => lf (P := EE l 54) h k_54_155) (fun h => lf (P := EE l 54) h k_54_156)) (fun h => nd h (fun h => lf (P := EE l 54) h (EE_ca (by decide) (⟨m_907, m_72, ⟨by decide, by decide⟩, by decide +kernel, ⟨by decide, by decide⟩, 64, 2, by decide +kernel, Or.inr (Or.inr (Or.inl ⟨rfl, rfl, dX5_fill_158, m_904, m_905, _, rfl, by decide, m_906⟩))⟩) rfl)) (fun h => nd h (fun h => lf (P := EE l 54) h k_54_161) (fun h => lf (P := EE l 54) h (EE_re (Or.inr (Or.inl ⟨rfl, dX5_fill_163, rfl⟩))))))))))
theorem dX5_everySecondBit_0 : decode cX5_everySecondBit 0 = .ok (.iconst 0, 1) := by decide +kernel
theorem dX5_everySecondBit_1 : decode cX5_everySecondBit 1 = .ok (.istore_n 1, 1) := by decide +kernel
theorem dX5_everySecondBit_2 : decode cX5_everySecondBit 2 = .ok (.iconst 0, 1) := by decide +kernel
theorem dX5_everySecondBit_3 : decode cX5_everySecondBit 3 = .ok (.istore_n 2, 1) := by decide +kernel
theorem dX5_everySecondBit_4 : decode cX5_everySecondBit 4 = .ok (.iload_n 2, 1) := by decide +kernel
theorem dX5_everySecondBit_5 : decode cX5_everySecondBit 5 = .ok (.iconst 4, 1) := by decide +kernel
theorem dX5_everySecondBit_6 : decode cX5_everySecondBit 6 = .ok (.if_icmp .ge 21, 3) := by decide +kernel
theorem dX5_everySecondBit_9 : decode cX5_everySecondBit 9 = .ok (.iload_n 1, 1) := by decide +kernel
theorem dX5_everySecondBit_10 : decode cX5_everySecondBit 10 = .ok (.iload_n 0, 1) := by decide +kernel
theorem dX5_everySecondBit_11 : decode cX5_everySecondBit 11 = .ok (.iconst 2, 1) := by decide +kernel
theorem dX5_everySecondBit_12 : decode cX5_everySecondBit 12 = .ok (.iload_n 2, 1) := by decide +kernel
theorem dX5_everySecondBit_13 : decode cX5_everySecondBit 13 = .ok (.imul, 1) := by decide +kernel
theorem dX5_everySecondBit_14 : decode cX5_everySecondBit 14 = .ok (.ishr, 1) := by decide +kernel
theorem dX5_everySecondBit_15 : decode cX5_everySecondBit 15 = .ok (.iconst 1, 1) := by decide +kernel
theorem dX5_everySecondBit_16 : decode cX5_everySecondBit 16 = .ok (.iand, 1) := by decide +kernel
theorem dX5_everySecondBit_17 : decode cX5_everySecondBit 17 = .ok (.iload_n 2, 1) := by decide +kernel
theorem dX5_everySecondBit_18 : decode cX5_everySecondBit 18 = .ok (.ishl, 1) := by decide +kernel
theorem dX5_everySecondBit_19 : decode cX5_everySecondBit 19 = .ok (.ior, 1) := by decide +kernel
theorem dX5_everySecondBit_20 : decode cX5_everySecondBit 20 = .ok (.istore_n 1, 1) := by decide +kernel
theorem dX5_everySecondBit_21 : decode cX5_everySecondBit 21 = .ok (.iinc 2 1, 3) := by decide +kernel
theorem dX5_everySecondBit_24 : decode cX5_everySecondBit 24 = .ok (.goto (-20), 3) := by decide +kernel
theorem dX5_everySecondBit_27 : decode cX5_everySecondBit 27 = .ok (.iload_n 1, 1) := by decide +kernel
theorem dX5_everySecondBit_28 : decode cX5_everySecondBit 28 = .ok (.ireturn, 1) := by decide +kernel
def tb_55 (pc : Nat) : Option mEnt := bif Nat.ble pc 12 then (bif Nat.ble pc 4 then (bif Nat.ble pc 1 then (bif Nat.ble pc 0 then (bif Nat.beq pc 0 then some (.inl (oS 1 (s_push (.int 0)))) else none) else (bif Nat.beq pc 1 then some (.inl (o_is 1 1)) else none)) else (bif Nat.ble pc 2 then (bif Nat.beq pc 2 then some (.inl (oS 1 (s_push (.int 0)))) else none) else (bif Nat.ble pc 3 then (bif Nat.beq pc 3 then some (.inl (o_is 2 1)) else none) else (bif Nat.beq pc 4 then some (.inl (o_il 2 1)) else none)))) else (bif Nat.ble pc 9 then (bif Nat.ble pc 5 then (bif Nat.beq pc 5 then some (.inl (oS 1 (s_push (.int 4)))) else none) else (bif Nat.ble pc 6 then (bif Nat.beq pc 6 then some (.inl (o_cge 27)) else none) else (bif Nat.beq pc 9 then some (.inl (o_il 1 1)) else none))) else (bif Nat.ble pc 10 then (bif Nat.beq pc 10 then some (.inl (o_il 0 1)) else none) else (bif Nat.ble pc 11 then (bif Nat.beq pc 11 then some (.inl (oS 1 (s_push (.int 2)))) else none) else (bif Nat.beq pc 12 then some (.inl (o_il 2 1)) else none))))) else (bif Nat.ble pc 18 then (bif Nat.ble pc 15 then (bif Nat.ble pc 13 then (bif Nat.beq pc 13 then some (.inl (oS 1 (s_ii (fun a b => a * b)))) else none) else (bif Nat.ble pc 14 then (bif Nat.beq pc 14 then some (.inl (oS 1 (s_ii (fun a b => a >>> (b &&& 31))))) else none) else (bif Nat.beq pc 15 then some (.inl (oS 1 (s_push (.int 1)))) else none))) else (bif Nat.ble pc 16 then (bif Nat.beq pc 16 then some (.inl (oS 1 (s_ii (fun a b => a &&& b)))) else none) else (bif Nat.ble pc 17 then (bif Nat.beq pc 17 then some (.inl (o_il 2 1)) else none) else (bif Nat.beq pc 18 then some (.inl (oS 1 (s_ii (fun a b => a <<< (b &&& 31))))) else none)))) else (bif Nat.ble pc 21 then (bif Nat.ble pc 19 then (bif Nat.beq pc 19 then some (.inl (oS 1 (s_ii (fun a b => a ||| b)))) else none) else (bif Nat.ble pc 20 then (bif Nat.beq pc 20 then some (.inl (o_is 1 1)) else none) else (bif Nat.beq pc 21 then some (.inl (o_inc 2 1)) else none))) else (bif Nat.ble pc 24 then (bif Nat.beq pc 24 then some (.inl (o_goto 4)) else none) else (bif Nat.ble pc 27 then (bif Nat.beq pc 27 then some (.inl (o_il 1 1)) else none) else (bif Nat.beq pc 28 then some (.inr (0, 0, 0, 0)) else none)))))
theorem k_55_0 : mOk M_55.1 M_55.2.1 M_55.2.2.1 M_55.2.2.2 0 (oS 1 (s_push (.int 0))) := ok_iconst dX5_everySecondBit_0 (by decide)
theorem k_55_1 : mOk M_55.1 M_55.2.1 M_55.2.2.1 M_55.2.2.2 1 (o_is 1 1) := ok_istore_n dX5_everySecondBit_1 rfl
theorem k_55_2 : mOk M_55.1 M_55.2.1 M_55.2.2.1 M_55.2.2.2 2 (oS 1 (s_push (.int 0))) := ok_iconst dX5_everySecondBit_2 (by decide)
theorem k_55_3 : mOk M_55.1 M_55.2.1 M_55.2.2.1 M_55.2.2.2 3 (o_is 2 1) := ok_istore_n dX5_everySecondBit_3 rfl
theorem k_55_4 : mOk M_55.1 M_55.2.1 M_55.2.2.1 M_55.2.2.2 4 (o_il 2 1) := ok_iload_n dX5_everySecondBit_4 rfl
theorem k_55_5 : mOk M_55.1 M_55.2.1 M_55.2.2.1 M_55.2.2.2 5 (oS 1 (s_push (.int 4))) := ok_iconst dX5_everySecondBit_5 (by decide)
theorem k_55_6 : mOk M_55.1 M_55.2.1 M_55.2.2.1 M_55.2.2.2 6 (o_cge 27) := ok_cge dX5_everySecondBit_6 (by decide)
theorem k_55_9 : mOk M_55.1 M_55.2.1 M_55.2.2.1 M_55.2.2.2 9 (o_il 1 1) := ok_iload_n dX5_everySecondBit_9 rfl
theorem k_55_10 : mOk M_55.1 M_55.2.1 M_55.2.2.1 M_55.2.2.2 10 (o_il 0 1) := ok_iload_n dX5_everySecondBit_10 rfl
theorem k_55_11 : mOk M_55.1 M_55.2.1 M_55.2.2.1 M_55.2.2.2 11 (oS 1 (s_push (.int 2))) := ok_iconst dX5_everySecondBit_11 (by decide)
theorem k_55_12 : mOk M_55.1 M_55.2.1 M_55.2.2.1 M_55.2.2.2 12 (o_il 2 1) := ok_iload_n dX5_everySecondBit_12 rfl
theorem k_55_13 : mOk M_55.1 M_55.2.1 M_55.2.2.1 M_55.2.2.2 13 (oS 1 (s_ii (fun a b => a * b))) := ok_imul dX5_everySecondBit_13
theorem k_55_14 : mOk M_55.1 M_55.2.1 M_55.2.2.1 M_55.2.2.2 14 (oS 1 (s_ii (fun a b => a >>> (b &&& 31)))) := ok_ishr dX5_everySecondBit_14
theorem k_55_15 : mOk M_55.1 M_55.2.1 M_55.2.2.1 M_55.2.2.2 15 (oS 1 (s_push (.int 1))) := ok_iconst dX5_everySecondBit_15 (by decide)
theorem k_55_16 : mOk M_55.1 M_55.2.1 M_55.2.2.1 M_55.2.2.2 16 (oS 1 (s_ii (fun a b => a &&& b))) := ok_iand dX5_everySecondBit_16
theorem k_55_17 : mOk M_55.1 M_55.2.1 M_55.2.2.1 M_55.2.2.2 17 (o_il 2 1) := ok_iload_n dX5_everySecondBit_17 rfl
theorem k_55_18 : mOk M_55.1 M_55.2.1 M_55.2.2.1 M_55.2.2.2 18 (oS 1 (s_ii (fun a b => a <<< (b &&& 31)))) := ok_ishl dX5_everySecondBit_18
theorem k_55_19 : mOk M_55.1 M_55.2.1 M_55.2.2.1 M_55.2.2.2 19 (oS 1 (s_ii (fun a b => a ||| b))) := ok_ior dX5_everySecondBit_19
theorem k_55_20 : mOk M_55.1 M_55.2.1 M_55.2.2.1 M_55.2.2.2 20 (o_is 1 1) := ok_istore_n dX5_everySecondBit_20 rfl
theorem k_55_21 : mOk M_55.1 M_55.2.1 M_55.2.2.1 M_55.2.2.2 21 (o_inc 2 1) := ok_iinc dX5_everySecondBit_21 (by decide)
theorem k_55_24 : mOk M_55.1 M_55.2.1 M_55.2.2.1 M_55.2.2.2 24 (o_goto 4) := ok_goto dX5_everySecondBit_24 (by decide)
theorem k_55_27 : mOk M_55.1 M_55.2.1 M_55.2.2.1 M_55.2.2.2 27 (o_il 1 1) := ok_iload_n dX5_everySecondBit_27 rfl
set_option maxRecDepth 20000 in
set_option maxHeartbeats 4000000 in
theorem tk_55 (l : Launch) (H9 : mThr l) (H10 : mSpl l) (pc : Nat) (q : mEnt) (h : tb_55 pc = some q) : EE l 55 pc q := nd h (fun h => nd h (fun h => nd h (fun h => nd h (fun h => lf (P := EE l 55) h k_55_0) (fun h => lf (P := EE l 55) h k_55_1)) (fun h => nd h (fun h => lf (P := EE l 55) h k_55_2) (fun h => nd h (fun h => lf (P := EE l 55) h k_55_3) (fun h => lf (P := EE l 55) h k_55_4)))) (fun h => nd h (fun h => nd h (fun h => lf (P := EE l 55) h k_55_5) (fun h => nd h (fun h => lf (P := EE l 55) h k_55_6) (fun h => lf (P := EE l 55) h k_55_9))) (fun h => nd h (fun h => lf (P := EE l 55) h k_55_10) (fun h => nd h (fun h => lf (P := EE l 55) h k_55_11) (fun h => lf (P := EE l 55) h k_55_12))))) (fun h => nd h (fun h => nd h (fun h => nd h (fun h => lf (P := EE l 55) h k_55_13) (fun h => nd h (fun h => lf (P := EE l 55) h k_55_14) (fun h => lf (P := EE l 55) h k_55_15))) (fun h => nd h (fun h => lf (P := EE l 55) h k_55_16) (fun h => nd h (fun h => lf (P := EE l 55) h k_55_17) (fun h => lf (P := EE l 55) h k_55_18)))) (fun h => nd h (fun h => nd h (fun h => lf (P := EE l 55) h k_55_19) (fun h => nd h (fun h => lf (P := EE l 55) h k_55_20) (fun h => lf (P := EE l 55) h k_55_21))) (fun h => nd h (fun h => lf (P := EE l 55) h k_55_24) (fun h => nd h (fun h => lf (P := EE l 55) h k_55_27) (fun h => lf (P := EE l 55) h (EE_re (Or.inl ⟨rfl, dX5_everySecondBit_28, rfl⟩)))))))
