/-! tables of X0 (written by a program) -/
theorem dX0_init_0 : decode cX0_init 0 = .ok (.aload_n 0, 1) := by decide +kernel
theorem dX0_init_1 : decode cX0_init 1 = .ok (.invokespecial 3, 3) := by decide +kernel
theorem dX0_init_4 : decode cX0_init 4 = .ok (.aload_n 0, 1) := by decide +kernel
theorem dX0_init_5 : decode cX0_init 5 = .ok (.new 9, 3) := by decide +kernel
theorem dX0_init_8 : decode cX0_init 8 = .ok (.dup, 1) := by decide +kernel
theorem dX0_init_9 : decode cX0_init 9 = .ok (.invokespecial 11, 3) := by decide +kernel
theorem dX0_init_12 : decode cX0_init 12 = .ok (.putfield 12, 3) := by decide +kernel
theorem dX0_init_15 : decode cX0_init 15 = .ok (.aload_n 0, 1) := by decide +kernel
theorem dX0_init_16 : decode cX0_init 16 = .ok (.new 9, 3) := by decide +kernel
theorem dX0_init_19 : decode cX0_init 19 = .ok (.dup, 1) := by decide +kernel
theorem dX0_init_20 : decode cX0_init 20 = .ok (.invokespecial 11, 3) := by decide +kernel
theorem dX0_init_23 : decode cX0_init 23 = .ok (.putfield 18, 3) := by decide +kernel
theorem dX0_init_26 : decode cX0_init 26 = .ok (.aload_n 0, 1) := by decide +kernel
theorem dX0_init_27 : decode cX0_init 27 = .ok (.sipush 200, 3) := by decide +kernel
theorem dX0_init_30 : decode cX0_init 30 = .ok (.newarray .int, 2) := by decide +kernel
theorem dX0_init_32 : decode cX0_init 32 = .ok (.putfield 21, 3) := by decide +kernel
theorem dX0_init_35 : decode cX0_init 35 = .ok (.aload_n 0, 1) := by decide +kernel
theorem dX0_init_36 : decode cX0_init 36 = .ok (.sipush 200, 3) := by decide +kernel
theorem dX0_init_39 : decode cX0_init 39 = .ok (.newarray .int, 2) := by decide +kernel
theorem dX0_init_41 : decode cX0_init 41 = .ok (.putfield 25, 3) := by decide +kernel
theorem dX0_init_44 : decode cX0_init 44 = .ok (.aload_n 0, 1) := by decide +kernel
theorem dX0_init_45 : decode cX0_init 45 = .ok (.sipush 200, 3) := by decide +kernel
theorem dX0_init_48 : decode cX0_init 48 = .ok (.newarray .int, 2) := by decide +kernel
theorem dX0_init_50 : decode cX0_init 50 = .ok (.putfield 28, 3) := by decide +kernel
theorem dX0_init_53 : decode cX0_init 53 = .ok (.aload_n 0, 1) := by decide +kernel
theorem dX0_init_54 : decode cX0_init 54 = .ok (.sipush 200, 3) := by decide +kernel
theorem dX0_init_57 : decode cX0_init 57 = .ok (.newarray .int, 2) := by decide +kernel
theorem dX0_init_59 : decode cX0_init 59 = .ok (.putfield 31, 3) := by decide +kernel
theorem dX0_init_62 : decode cX0_init 62 = .ok (.aload_n 0, 1) := by decide +kernel
theorem dX0_init_63 : decode cX0_init 63 = .ok (.sipush 200, 3) := by decide +kernel
theorem dX0_init_66 : decode cX0_init 66 = .ok (.newarray .int, 2) := by decide +kernel
theorem dX0_init_68 : decode cX0_init 68 = .ok (.putfield 34, 3) := by decide +kernel
theorem dX0_init_71 : decode cX0_init 71 = .ok (.return_, 1) := by decide +kernel
def tb_0 (pc : Nat) : Option mEnt := bif Nat.ble pc 32 then (bif Nat.ble pc 15 then (bif Nat.ble pc 5 then (bif Nat.ble pc 1 then (bif Nat.ble pc 0 then (bif Nat.beq pc 0 then some (.inl (o_al 0 1)) else none) else (bif Nat.beq pc 1 then some (.inr (5, 0, 0, 0)) else none)) else (bif Nat.ble pc 4 then (bif Nat.beq pc 4 then some (.inl (o_al 0 1)) else none) else (bif Nat.beq pc 5 then some (.inl (o_new 4)) else none))) else (bif Nat.ble pc 9 then (bif Nat.ble pc 8 then (bif Nat.beq pc 8 then some (.inl (oS 1 s_dup)) else none) else (bif Nat.beq pc 9 then some (.inr (7, 43, 1, 4)) else none)) else (bif Nat.ble pc 12 then (bif Nat.beq pc 12 then some (.inl (o_pP 0 0)) else none) else (bif Nat.beq pc 15 then some (.inl (o_al 0 1)) else none)))) else (bif Nat.ble pc 23 then (bif Nat.ble pc 19 then (bif Nat.ble pc 16 then (bif Nat.beq pc 16 then some (.inl (o_new 4)) else none) else (bif Nat.beq pc 19 then some (.inl (oS 1 s_dup)) else none)) else (bif Nat.ble pc 20 then (bif Nat.beq pc 20 then some (.inr (7, 43, 1, 4)) else none) else (bif Nat.beq pc 23 then some (.inl (o_pP 0 1)) else none))) else (bif Nat.ble pc 27 then (bif Nat.ble pc 26 then (bif Nat.beq pc 26 then some (.inl (o_al 0 1)) else none) else (bif Nat.beq pc 27 then some (.inl (oS 3 (s_push (.int 200)))) else none)) else (bif Nat.ble pc 30 then (bif Nat.beq pc 30 then some (.inl (o_newa 1)) else none) else (bif Nat.beq pc 32 then some (.inl (o_pP 0 3)) else none))))) else (bif Nat.ble pc 50 then (bif Nat.ble pc 41 then (bif Nat.ble pc 36 then (bif Nat.ble pc 35 then (bif Nat.beq pc 35 then some (.inl (o_al 0 1)) else none) else (bif Nat.beq pc 36 then some (.inl (oS 3 (s_push (.int 200)))) else none)) else (bif Nat.ble pc 39 then (bif Nat.beq pc 39 then some (.inl (o_newa 1)) else none) else (bif Nat.beq pc 41 then some (.inl (o_pP 0 4)) else none))) else (bif Nat.ble pc 45 then (bif Nat.ble pc 44 then (bif Nat.beq pc 44 then some (.inl (o_al 0 1)) else none) else (bif Nat.beq pc 45 then some (.inl (oS 3 (s_push (.int 200)))) else none)) else (bif Nat.ble pc 48 then (bif Nat.beq pc 48 then some (.inl (o_newa 1)) else none) else (bif Nat.beq pc 50 then some (.inl (o_pP 0 5)) else none)))) else (bif Nat.ble pc 59 then (bif Nat.ble pc 54 then (bif Nat.ble pc 53 then (bif Nat.beq pc 53 then some (.inl (o_al 0 1)) else none) else (bif Nat.beq pc 54 then some (.inl (oS 3 (s_push (.int 200)))) else none)) else (bif Nat.ble pc 57 then (bif Nat.beq pc 57 then some (.inl (o_newa 1)) else none) else (bif Nat.beq pc 59 then some (.inl (o_pP 0 6)) else none))) else (bif Nat.ble pc 63 then (bif Nat.ble pc 62 then (bif Nat.beq pc 62 then some (.inl (o_al 0 1)) else none) else (bif Nat.beq pc 63 then some (.inl (oS 3 (s_push (.int 200)))) else none)) else (bif Nat.ble pc 66 then (bif Nat.beq pc 66 then some (.inl (o_newa 1)) else none) else (bif Nat.ble pc 68 then (bif Nat.beq pc 68 then some (.inl (o_pP 0 7)) else none) else (bif Nat.beq pc 71 then some (.inr (0, 0, 0, 3)) else none))))))
theorem k_0_0 : mOk M_0.1 M_0.2.1 M_0.2.2.1 M_0.2.2.2 0 (o_al 0 1) := ok_aload_n dX0_init_0 rfl
theorem k_0_4 : mOk M_0.1 M_0.2.1 M_0.2.2.1 M_0.2.2.2 4 (o_al 0 1) := ok_aload_n dX0_init_4 rfl
theorem k_0_5 : mOk M_0.1 M_0.2.1 M_0.2.2.1 M_0.2.2.2 5 (o_new 4) := ok_new dX0_init_5 cl_4 rfl m_383 m_310 m_79
theorem k_0_8 : mOk M_0.1 M_0.2.1 M_0.2.2.1 M_0.2.2.2 8 (oS 1 s_dup) := ok_dup dX0_init_8
theorem k_0_12 : mOk M_0.1 M_0.2.1 M_0.2.2.1 M_0.2.2.2 12 (o_pP 0 0) := ok_pP dX0_init_12 (mFw_of f_RX0_12_c (Or.inr ⟨rfl, rfl, rfl⟩)) rfl
theorem k_0_15 : mOk M_0.1 M_0.2.1 M_0.2.2.1 M_0.2.2.2 15 (o_al 0 1) := ok_aload_n dX0_init_15 rfl
theorem k_0_16 : mOk M_0.1 M_0.2.1 M_0.2.2.1 M_0.2.2.2 16 (o_new 4) := ok_new dX0_init_16 cl_4 rfl m_383 m_310 m_79
theorem k_0_19 : mOk M_0.1 M_0.2.1 M_0.2.2.1 M_0.2.2.2 19 (oS 1 s_dup) := ok_dup dX0_init_19
theorem k_0_23 : mOk M_0.1 M_0.2.1 M_0.2.2.1 M_0.2.2.2 23 (o_pP 0 1) := ok_pP dX0_init_23 (mFw_of f_RX0_18_c (Or.inr ⟨rfl, rfl, rfl⟩)) rfl
theorem k_0_26 : mOk M_0.1 M_0.2.1 M_0.2.2.1 M_0.2.2.2 26 (o_al 0 1) := ok_aload_n dX0_init_26 rfl
theorem k_0_27 : mOk M_0.1 M_0.2.1 M_0.2.2.1 M_0.2.2.2 27 (oS 3 (s_push (.int 200))) := ok_sipush dX0_init_27 (by decide)
theorem k_0_30 : mOk M_0.1 M_0.2.1 M_0.2.2.1 M_0.2.2.2 30 (o_newa 1) := ok_newa dX0_init_30 (by decide) m_145 (fun _ => rfl) (fun _ _ h => h) (by decide) rfl
theorem k_0_32 : mOk M_0.1 M_0.2.1 M_0.2.2.1 M_0.2.2.2 32 (o_pP 0 3) := ok_pP dX0_init_32 (mFw_of f_RX0_21_c (Or.inr ⟨rfl, rfl, rfl⟩)) rfl
theorem k_0_35 : mOk M_0.1 M_0.2.1 M_0.2.2.1 M_0.2.2.2 35 (o_al 0 1) := ok_aload_n dX0_init_35 rfl
theorem k_0_36 : mOk M_0.1 M_0.2.1 M_0.2.2.1 M_0.2.2.2 36 (oS 3 (s_push (.int 200))) := ok_sipush dX0_init_36 (by decide)
theorem k_0_39 : mOk M_0.1 M_0.2.1 M_0.2.2.1 M_0.2.2.2 39 (o_newa 1) := ok_newa dX0_init_39 (by decide) m_145 (fun _ => rfl) (fun _ _ h => h) (by decide) rfl
theorem k_0_41 : mOk M_0.1 M_0.2.1 M_0.2.2.1 M_0.2.2.2 41 (o_pP 0 4) := ok_pP dX0_init_41 (mFw_of f_RX0_25_c (Or.inr ⟨rfl, rfl, rfl⟩)) rfl
theorem k_0_44 : mOk M_0.1 M_0.2.1 M_0.2.2.1 M_0.2.2.2 44 (o_al 0 1) := ok_aload_n dX0_init_44 rfl
theorem k_0_45 : mOk M_0.1 M_0.2.1 M_0.2.2.1 M_0.2.2.2 45 (oS 3 (s_push (.int 200))) := ok_sipush dX0_init_45 (by decide)
theorem k_0_48 : mOk M_0.1 M_0.2.1 M_0.2.2.1 M_0.2.2.2 48 (o_newa 1) := ok_newa dX0_init_48 (by decide) m_145 (fun _ => rfl) (fun _ _ h => h) (by decide) rfl
theorem k_0_50 : mOk M_0.1 M_0.2.1 M_0.2.2.1 M_0.2.2.2 50 (o_pP 0 5) := ok_pP dX0_init_50 (mFw_of f_RX0_28_c (Or.inr ⟨rfl, rfl, rfl⟩)) rfl
theorem k_0_53 : mOk M_0.1 M_0.2.1 M_0.2.2.1 M_0.2.2.2 53 (o_al 0 1) := ok_aload_n dX0_init_53 rfl
theorem k_0_54 : mOk M_0.1 M_0.2.1 M_0.2.2.1 M_0.2.2.2 54 (oS 3 (s_push (.int 200))) := ok_sipush dX0_init_54 (by decide)
theorem k_0_57 : mOk M_0.1 M_0.2.1 M_0.2.2.1 M_0.2.2.2 57 (o_newa 1) := ok_newa dX0_init_57 (by decide) m_145 (fun _ => rfl) (fun _ _ h => h) (by decide) rfl
theorem k_0_59 : mOk M_0.1 M_0.2.1 M_0.2.2.1 M_0.2.2.2 59 (o_pP 0 6) := ok_pP dX0_init_59 (mFw_of f_RX0_31_c (Or.inr ⟨rfl, rfl, rfl⟩)) rfl
theorem k_0_62 : mOk M_0.1 M_0.2.1 M_0.2.2.1 M_0.2.2.2 62 (o_al 0 1) := ok_aload_n dX0_init_62 rfl
theorem k_0_63 : mOk M_0.1 M_0.2.1 M_0.2.2.1 M_0.2.2.2 63 (oS 3 (s_push (.int 200))) := ok_sipush dX0_init_63 (by decide)
theorem k_0_66 : mOk M_0.1 M_0.2.1 M_0.2.2.1 M_0.2.2.2 66 (o_newa 1) := ok_newa dX0_init_66 (by decide) m_145 (fun _ => rfl) (fun _ _ h => h) (by decide) rfl
theorem k_0_68 : mOk M_0.1 M_0.2.1 M_0.2.2.1 M_0.2.2.2 68 (o_pP 0 7) := ok_pP dX0_init_68 (mFw_of f_RX0_34_c (Or.inr ⟨rfl, rfl, rfl⟩)) rfl
set_option maxRecDepth 20000 in
set_option maxHeartbeats 4000000 in
theorem tk_0 (l : Launch) (H9 : mThr l) (H10 : mSpl l) (pc : Nat) (q : mEnt) (h : tb_0 pc = some q) : EE l 0 pc q := nd h (fun h => nd h (fun h => nd h (fun h => nd h (fun h => nd h (fun h => lf (P := EE l 0) h k_0_0) (fun h => lf (P := EE l 0) h (EE_ob (⟨3, dX0_init_1, m_382, m_97, m_98, by decide, by decide⟩)))) (fun h => nd h (fun h => lf (P := EE l 0) h k_0_4) (fun h => lf (P := EE l 0) h k_0_5))) (fun h => nd h (fun h => nd h (fun h => lf (P := EE l 0) h k_0_8) (fun h => lf (P := EE l 0) h (EE_ca (by decide) (⟨m_313, m_79, ⟨by decide, by decide⟩, by decide +kernel, ⟨by decide, by decide⟩, 11, 0, by decide +kernel, Or.inr (Or.inr (Or.inr (Or.inr ⟨rfl, rfl, dX0_init_9, ⟨"AtlasDesk", m_384⟩, m_312, rfl, rfl⟩)))⟩) rfl))) (fun h => nd h (fun h => lf (P := EE l 0) h k_0_12) (fun h => lf (P := EE l 0) h k_0_15)))) (fun h => nd h (fun h => nd h (fun h => nd h (fun h => lf (P := EE l 0) h k_0_16) (fun h => lf (P := EE l 0) h k_0_19)) (fun h => nd h (fun h => lf (P := EE l 0) h (EE_ca (by decide) (⟨m_313, m_79, ⟨by decide, by decide⟩, by decide +kernel, ⟨by decide, by decide⟩, 11, 0, by decide +kernel, Or.inr (Or.inr (Or.inr (Or.inr ⟨rfl, rfl, dX0_init_20, ⟨"AtlasDesk", m_384⟩, m_312, rfl, rfl⟩)))⟩) rfl)) (fun h => lf (P := EE l 0) h k_0_23))) (fun h => nd h (fun h => nd h (fun h => lf (P := EE l 0) h k_0_26) (fun h => lf (P := EE l 0) h k_0_27)) (fun h => nd h (fun h => lf (P := EE l 0) h k_0_30) (fun h => lf (P := EE l 0) h k_0_32))))) (fun h => nd h (fun h => nd h (fun h => nd h (fun h => nd h (fun h => lf (P := EE l 0) h k_0_35) (fun h => lf (P := EE l 0) h k_0_36)) (fun h => nd h (fun h => lf (P := EE l 0) h k_0_39) (fun h => lf (P := EE l 0) h k_0_41))) (fun h => nd h (fun h => nd h (fun h => lf (P := EE l 0) h k_0_44) (fun h => lf (P := EE l 0) h k_0_45)) (fun h => nd h (fun h => lf (P := EE l 0) h k_0_48) (fun h => lf (P := EE l 0) h k_0_50)))) (fun h => nd h (fun h => nd h (fun h => nd h (fun h => lf (P := EE l 0) h k_0_53) (fun h => lf (P := EE l 0) h k_0_54)) (fun h => nd h (fun h => lf (P := EE l 0) h k_0_57) (fun h => lf (P := EE l 0) h k_0_59))) (fun h => nd h (fun h => nd h (fun h => lf (P := EE l 0) h k_0_62) (fun h => lf (P := EE l 0) h k_0_63)) (fun h => nd h (fun h => lf (P := EE l 0) h k_0_66) (fun h => nd h (fun h => lf (P := EE l 0) h k_0_68) (fun h => lf (P := EE l 0) h (EE_re (Or.inr (Or.inr (Or.inr (Or.inr ⟨rfl, dX0_init_71, rfl⟩)))))))))))
theorem dX0_compare_0 : decode cX0_compare 0 = .ok (.aload_n 0, 1) := by decide +kernel
theorem dX0_compare_1 : decode cX0_compare 1 = .ok (.iconst 0, 1) := by decide +kernel
theorem dX0_compare_2 : decode cX0_compare 2 = .ok (.putfield 37, 3) := by decide +kernel
theorem dX0_compare_5 : decode cX0_compare 5 = .ok (.iconst 0, 1) := by decide +kernel
theorem dX0_compare_6 : decode cX0_compare 6 = .ok (.istore_n 1, 1) := by decide +kernel
theorem dX0_compare_7 : decode cX0_compare 7 = .ok (.iconst 0, 1) := by decide +kernel
theorem dX0_compare_8 : decode cX0_compare 8 = .ok (.istore_n 2, 1) := by decide +kernel
theorem dX0_compare_9 : decode cX0_compare 9 = .ok (.iconst 0, 1) := by decide +kernel
theorem dX0_compare_10 : decode cX0_compare 10 = .ok (.istore_n 3, 1) := by decide +kernel
theorem dX0_compare_11 : decode cX0_compare 11 = .ok (.iload_n 3, 1) := by decide +kernel
theorem dX0_compare_12 : decode cX0_compare 12 = .ok (.sipush 341, 3) := by decide +kernel
theorem dX0_compare_15 : decode cX0_compare 15 = .ok (.if_icmp .ge 158, 3) := by decide +kernel
theorem dX0_compare_18 : decode cX0_compare 18 = .ok (.aload_n 0, 1) := by decide +kernel
theorem dX0_compare_19 : decode cX0_compare 19 = .ok (.getfield 12, 3) := by decide +kernel
theorem dX0_compare_22 : decode cX0_compare 22 = .ok (.iload_n 1, 1) := by decide +kernel
theorem dX0_compare_23 : decode cX0_compare 23 = .ok (.iload_n 3, 1) := by decide +kernel
theorem dX0_compare_24 : decode cX0_compare 24 = .ok (.invokevirtual 41, 3) := by decide +kernel
theorem dX0_compare_27 : decode cX0_compare 27 = .ok (.istore 4, 2) := by decide +kernel
theorem dX0_compare_29 : decode cX0_compare 29 = .ok (.aload_n 0, 1) := by decide +kernel
theorem dX0_compare_30 : decode cX0_compare 30 = .ok (.getfield 18, 3) := by decide +kernel
theorem dX0_compare_33 : decode cX0_compare 33 = .ok (.iload_n 2, 1) := by decide +kernel
theorem dX0_compare_34 : decode cX0_compare 34 = .ok (.iload_n 3, 1) := by decide +kernel
theorem dX0_compare_35 : decode cX0_compare 35 = .ok (.invokevirtual 41, 3) := by decide +kernel
theorem dX0_compare_38 : decode cX0_compare 38 = .ok (.istore 5, 2) := by decide +kernel
theorem dX0_compare_40 : decode cX0_compare 40 = .ok (.iload 4, 2) := by decide +kernel
theorem dX0_compare_42 : decode cX0_compare 42 = .ok (.ifCond .eq 46, 3) := by decide +kernel
theorem dX0_compare_45 : decode cX0_compare 45 = .ok (.iload 5, 2) := by decide +kernel
theorem dX0_compare_47 : decode cX0_compare 47 = .ok (.ifCond .eq 41, 3) := by decide +kernel
theorem dX0_compare_50 : decode cX0_compare 50 = .ok (.aload_n 0, 1) := by decide +kernel
theorem dX0_compare_51 : decode cX0_compare 51 = .ok (.getfield 12, 3) := by decide +kernel
theorem dX0_compare_54 : decode cX0_compare 54 = .ok (.iload_n 1, 1) := by decide +kernel
theorem dX0_compare_55 : decode cX0_compare 55 = .ok (.aload_n 0, 1) := by decide +kernel
theorem dX0_compare_56 : decode cX0_compare 56 = .ok (.getfield 18, 3) := by decide +kernel
theorem dX0_compare_59 : decode cX0_compare 59 = .ok (.iload_n 2, 1) := by decide +kernel
theorem dX0_compare_60 : decode cX0_compare 60 = .ok (.invokevirtual 45, 3) := by decide +kernel
theorem dX0_compare_63 : decode cX0_compare 63 = .ok (.ifCond .ne 25, 3) := by decide +kernel
theorem dX0_compare_66 : decode cX0_compare 66 = .ok (.aload_n 0, 1) := by decide +kernel
theorem dX0_compare_67 : decode cX0_compare 67 = .ok (.iconst 2, 1) := by decide +kernel
theorem dX0_compare_68 : decode cX0_compare 68 = .ok (.aload_n 0, 1) := by decide +kernel
theorem dX0_compare_69 : decode cX0_compare 69 = .ok (.getfield 18, 3) := by decide +kernel
theorem dX0_compare_72 : decode cX0_compare 72 = .ok (.iload_n 2, 1) := by decide +kernel
theorem dX0_compare_73 : decode cX0_compare 73 = .ok (.aload_n 0, 1) := by decide +kernel
theorem dX0_compare_74 : decode cX0_compare 74 = .ok (.getfield 18, 3) := by decide +kernel
theorem dX0_compare_77 : decode cX0_compare 77 = .ok (.getfield 49, 3) := by decide +kernel
theorem dX0_compare_80 : decode cX0_compare 80 = .ok (.iload_n 2, 1) := by decide +kernel
theorem dX0_compare_81 : decode cX0_compare 81 = .ok (.iaload, 1) := by decide +kernel
theorem dX0_compare_82 : decode cX0_compare 82 = .ok (.invokevirtual 50, 3) := by decide +kernel
theorem dX0_compare_85 : decode cX0_compare 85 = .ok (.goto 56, 3) := by decide +kernel
theorem dX0_compare_88 : decode cX0_compare 88 = .ok (.iload 4, 2) := by decide +kernel
theorem dX0_compare_90 : decode cX0_compare 90 = .ok (.ifCond .eq 22, 3) := by decide +kernel
theorem dX0_compare_93 : decode cX0_compare 93 = .ok (.iload 5, 2) := by decide +kernel
theorem dX0_compare_95 : decode cX0_compare 95 = .ok (.ifCond .ne 17, 3) := by decide +kernel
theorem dX0_compare_98 : decode cX0_compare 98 = .ok (.aload_n 0, 1) := by decide +kernel
theorem dX0_compare_99 : decode cX0_compare 99 = .ok (.iconst 0, 1) := by decide +kernel
theorem dX0_compare_100 : decode cX0_compare 100 = .ok (.aload_n 0, 1) := by decide +kernel
theorem dX0_compare_101 : decode cX0_compare 101 = .ok (.getfield 12, 3) := by decide +kernel
theorem dX0_compare_104 : decode cX0_compare 104 = .ok (.iload_n 1, 1) := by decide +kernel
theorem dX0_compare_105 : decode cX0_compare 105 = .ok (.iconst 0, 1) := by decide +kernel
theorem dX0_compare_106 : decode cX0_compare 106 = .ok (.invokevirtual 50, 3) := by decide +kernel
theorem dX0_compare_109 : decode cX0_compare 109 = .ok (.goto 32, 3) := by decide +kernel
theorem dX0_compare_112 : decode cX0_compare 112 = .ok (.iload 5, 2) := by decide +kernel
theorem dX0_compare_114 : decode cX0_compare 114 = .ok (.ifCond .eq 27, 3) := by decide +kernel
theorem dX0_compare_117 : decode cX0_compare 117 = .ok (.iload 4, 2) := by decide +kernel
theorem dX0_compare_119 : decode cX0_compare 119 = .ok (.ifCond .ne 22, 3) := by decide +kernel
theorem dX0_compare_122 : decode cX0_compare 122 = .ok (.aload_n 0, 1) := by decide +kernel
theorem dX0_compare_123 : decode cX0_compare 123 = .ok (.iconst 1, 1) := by decide +kernel
theorem dX0_compare_124 : decode cX0_compare 124 = .ok (.aload_n 0, 1) := by decide +kernel
theorem dX0_compare_125 : decode cX0_compare 125 = .ok (.getfield 18, 3) := by decide +kernel
theorem dX0_compare_128 : decode cX0_compare 128 = .ok (.iload_n 2, 1) := by decide +kernel
theorem dX0_compare_129 : decode cX0_compare 129 = .ok (.aload_n 0, 1) := by decide +kernel
theorem dX0_compare_130 : decode cX0_compare 130 = .ok (.getfield 18, 3) := by decide +kernel
theorem dX0_compare_133 : decode cX0_compare 133 = .ok (.getfield 49, 3) := by decide +kernel
theorem dX0_compare_136 : decode cX0_compare 136 = .ok (.iload_n 2, 1) := by decide +kernel
theorem dX0_compare_137 : decode cX0_compare 137 = .ok (.iaload, 1) := by decide +kernel
theorem dX0_compare_138 : decode cX0_compare 138 = .ok (.invokevirtual 50, 3) := by decide +kernel
theorem dX0_compare_141 : decode cX0_compare 141 = .ok (.iload_n 1, 1) := by decide +kernel
theorem dX0_compare_142 : decode cX0_compare 142 = .ok (.iload 4, 2) := by decide +kernel
theorem dX0_compare_144 : decode cX0_compare 144 = .ok (.ifCond .eq 7, 3) := by decide +kernel
theorem dX0_compare_147 : decode cX0_compare 147 = .ok (.iconst 1, 1) := by decide +kernel
theorem dX0_compare_148 : decode cX0_compare 148 = .ok (.goto 4, 3) := by decide +kernel
theorem dX0_compare_151 : decode cX0_compare 151 = .ok (.iconst 0, 1) := by decide +kernel
theorem dX0_compare_152 : decode cX0_compare 152 = .ok (.iadd, 1) := by decide +kernel
theorem dX0_compare_153 : decode cX0_compare 153 = .ok (.istore_n 1, 1) := by decide +kernel
theorem dX0_compare_154 : decode cX0_compare 154 = .ok (.iload_n 2, 1) := by decide +kernel
theorem dX0_compare_155 : decode cX0_compare 155 = .ok (.iload 5, 2) := by decide +kernel
theorem dX0_compare_157 : decode cX0_compare 157 = .ok (.ifCond .eq 7, 3) := by decide +kernel
theorem dX0_compare_160 : decode cX0_compare 160 = .ok (.iconst 1, 1) := by decide +kernel
theorem dX0_compare_161 : decode cX0_compare 161 = .ok (.goto 4, 3) := by decide +kernel
theorem dX0_compare_164 : decode cX0_compare 164 = .ok (.iconst 0, 1) := by decide +kernel
theorem dX0_compare_165 : decode cX0_compare 165 = .ok (.iadd, 1) := by decide +kernel
theorem dX0_compare_166 : decode cX0_compare 166 = .ok (.istore_n 2, 1) := by decide +kernel
theorem dX0_compare_167 : decode cX0_compare 167 = .ok (.iinc 3 1, 3) := by decide +kernel
theorem dX0_compare_170 : decode cX0_compare 170 = .ok (.goto (-159), 3) := by decide +kernel
theorem dX0_compare_173 : decode cX0_compare 173 = .ok (.return_, 1) := by decide +kernel
def tb_1 (pc : Nat) : Option mEnt := bif Nat.ble pc 82 then (bif Nat.ble pc 35 then (bif Nat.ble pc 12 then (bif Nat.ble pc 6 then (bif Nat.ble pc 1 then (bif Nat.ble pc 0 then (bif Nat.beq pc 0 then some (.inl (o_al 0 1)) else none) else (bif Nat.beq pc 1 then some (.inl (oS 1 (s_push (.int 0)))) else none)) else (bif Nat.ble pc 2 then (bif Nat.beq pc 2 then some (.inl (o_pI 0 2)) else none) else (bif Nat.ble pc 5 then (bif Nat.beq pc 5 then some (.inl (oS 1 (s_push (.int 0)))) else none) else (bif Nat.beq pc 6 then some (.inl (o_is 1 1)) else none)))) else (bif Nat.ble pc 9 then (bif Nat.ble pc 7 then (bif Nat.beq pc 7 then some (.inl (oS 1 (s_push (.int 0)))) else none) else (bif Nat.ble pc 8 then (bif Nat.beq pc 8 then some (.inl (o_is 2 1)) else none) else (bif Nat.beq pc 9 then some (.inl (oS 1 (s_push (.int 0)))) else none))) else (bif Nat.ble pc 10 then (bif Nat.beq pc 10 then some (.inl (o_is 3 1)) else none) else (bif Nat.ble pc 11 then (bif Nat.beq pc 11 then some (.inl (o_il 3 1)) else none) else (bif Nat.beq pc 12 then some (.inl (oS 3 (s_push (.int 341)))) else none))))) else (bif Nat.ble pc 24 then (bif Nat.ble pc 19 then (bif Nat.ble pc 15 then (bif Nat.beq pc 15 then some (.inl (o_cge 173)) else none) else (bif Nat.ble pc 18 then (bif Nat.beq pc 18 then some (.inl (o_al 0 1)) else none) else (bif Nat.beq pc 19 then some (.inl (o_gP 0 0)) else none))) else (bif Nat.ble pc 22 then (bif Nat.beq pc 22 then some (.inl (o_il 1 1)) else none) else (bif Nat.ble pc 23 then (bif Nat.beq pc 23 then some (.inl (o_il 3 1)) else none) else (bif Nat.beq pc 24 then some (.inr (3, 49, 3, 4)) else none)))) else (bif Nat.ble pc 30 then (bif Nat.ble pc 27 then (bif Nat.beq pc 27 then some (.inl (o_is 4 2)) else none) else (bif Nat.ble pc 29 then (bif Nat.beq pc 29 then some (.inl (o_al 0 1)) else none) else (bif Nat.beq pc 30 then some (.inl (o_gP 0 1)) else none))) else (bif Nat.ble pc 33 then (bif Nat.beq pc 33 then some (.inl (o_il 2 1)) else none) else (bif Nat.ble pc 34 then (bif Nat.beq pc 34 then some (.inl (o_il 3 1)) else none) else (bif Nat.beq pc 35 then some (.inr (3, 49, 3, 4)) else none)))))) else (bif Nat.ble pc 60 then (bif Nat.ble pc 50 then (bif Nat.ble pc 42 then (bif Nat.ble pc 38 then (bif Nat.beq pc 38 then some (.inl (o_is 5 2)) else none) else (bif Nat.ble pc 40 then (bif Nat.beq pc 40 then some (.inl (o_il 4 2)) else none) else (bif Nat.beq pc 42 then some (.inl (o_zeq 88)) else none))) else (bif Nat.ble pc 45 then (bif Nat.beq pc 45 then some (.inl (o_il 5 2)) else none) else (bif Nat.ble pc 47 then (bif Nat.beq pc 47 then some (.inl (o_zeq 88)) else none) else (bif Nat.beq pc 50 then some (.inl (o_al 0 1)) else none)))) else (bif Nat.ble pc 55 then (bif Nat.ble pc 51 then (bif Nat.beq pc 51 then some (.inl (o_gP 0 0)) else none) else (bif Nat.ble pc 54 then (bif Nat.beq pc 54 then some (.inl (o_il 1 1)) else none) else (bif Nat.beq pc 55 then some (.inl (o_al 0 1)) else none))) else (bif Nat.ble pc 56 then (bif Nat.beq pc 56 then some (.inl (o_gP 0 1)) else none) else (bif Nat.ble pc 59 then (bif Nat.beq pc 59 then some (.inl (o_il 2 1)) else none) else (bif Nat.beq pc 60 then some (.inr (3, 48, 4, 4)) else none))))) else (bif Nat.ble pc 72 then (bif Nat.ble pc 67 then (bif Nat.ble pc 63 then (bif Nat.beq pc 63 then some (.inl (o_zne 88)) else none) else (bif Nat.ble pc 66 then (bif Nat.beq pc 66 then some (.inl (o_al 0 1)) else none) else (bif Nat.beq pc 67 then some (.inl (oS 1 (s_push (.int 2)))) else none))) else (bif Nat.ble pc 68 then (bif Nat.beq pc 68 then some (.inl (o_al 0 1)) else none) else (bif Nat.ble pc 69 then (bif Nat.beq pc 69 then some (.inl (o_gP 0 1)) else none) else (bif Nat.beq pc 72 then some (.inl (o_il 2 1)) else none)))) else (bif Nat.ble pc 77 then (bif Nat.ble pc 73 then (bif Nat.beq pc 73 then some (.inl (o_al 0 1)) else none) else (bif Nat.ble pc 74 then (bif Nat.beq pc 74 then some (.inl (o_gP 0 1)) else none) else (bif Nat.beq pc 77 then some (.inl (o_gP 4 10)) else none))) else (bif Nat.ble pc 80 then (bif Nat.beq pc 80 then some (.inl (o_il 2 1)) else none) else (bif Nat.ble pc 81 then (bif Nat.beq pc 81 then some (.inl (o_iald)) else none) else (bif Nat.beq pc 82 then some (.inr (3, 2, 5, 0)) else none))))))) else (bif Nat.ble pc 129 then (bif Nat.ble pc 105 then (bif Nat.ble pc 95 then (bif Nat.ble pc 88 then (bif Nat.ble pc 85 then (bif Nat.beq pc 85 then some (.inl (o_goto 141)) else none) else (bif Nat.beq pc 88 then some (.inl (o_il 4 2)) else none)) else (bif Nat.ble pc 90 then (bif Nat.beq pc 90 then some (.inl (o_zeq 112)) else none) else (bif Nat.ble pc 93 then (bif Nat.beq pc 93 then some (.inl (o_il 5 2)) else none) else (bif Nat.beq pc 95 then some (.inl (o_zne 112)) else none)))) else (bif Nat.ble pc 100 then (bif Nat.ble pc 98 then (bif Nat.beq pc 98 then some (.inl (o_al 0 1)) else none) else (bif Nat.ble pc 99 then (bif Nat.beq pc 99 then some (.inl (oS 1 (s_push (.int 0)))) else none) else (bif Nat.beq pc 100 then some (.inl (o_al 0 1)) else none))) else (bif Nat.ble pc 101 then (bif Nat.beq pc 101 then some (.inl (o_gP 0 0)) else none) else (bif Nat.ble pc 104 then (bif Nat.beq pc 104 then some (.inl (o_il 1 1)) else none) else (bif Nat.beq pc 105 then some (.inl (oS 1 (s_push (.int 0)))) else none))))) else (bif Nat.ble pc 119 then (bif Nat.ble pc 112 then (bif Nat.ble pc 106 then (bif Nat.beq pc 106 then some (.inr (3, 2, 5, 0)) else none) else (bif Nat.ble pc 109 then (bif Nat.beq pc 109 then some (.inl (o_goto 141)) else none) else (bif Nat.beq pc 112 then some (.inl (o_il 5 2)) else none))) else (bif Nat.ble pc 114 then (bif Nat.beq pc 114 then some (.inl (o_zeq 141)) else none) else (bif Nat.ble pc 117 then (bif Nat.beq pc 117 then some (.inl (o_il 4 2)) else none) else (bif Nat.beq pc 119 then some (.inl (o_zne 141)) else none)))) else (bif Nat.ble pc 124 then (bif Nat.ble pc 122 then (bif Nat.beq pc 122 then some (.inl (o_al 0 1)) else none) else (bif Nat.ble pc 123 then (bif Nat.beq pc 123 then some (.inl (oS 1 (s_push (.int 1)))) else none) else (bif Nat.beq pc 124 then some (.inl (o_al 0 1)) else none))) else (bif Nat.ble pc 125 then (bif Nat.beq pc 125 then some (.inl (o_gP 0 1)) else none) else (bif Nat.ble pc 128 then (bif Nat.beq pc 128 then some (.inl (o_il 2 1)) else none) else (bif Nat.beq pc 129 then some (.inl (o_al 0 1)) else none)))))) else (bif Nat.ble pc 152 then (bif Nat.ble pc 141 then (bif Nat.ble pc 136 then (bif Nat.ble pc 130 then (bif Nat.beq pc 130 then some (.inl (o_gP 0 1)) else none) else (bif Nat.ble pc 133 then (bif Nat.beq pc 133 then some (.inl (o_gP 4 10)) else none) else (bif Nat.beq pc 136 then some (.inl (o_il 2 1)) else none))) else (bif Nat.ble pc 137 then (bif Nat.beq pc 137 then some (.inl (o_iald)) else none) else (bif Nat.ble pc 138 then (bif Nat.beq pc 138 then some (.inr (3, 2, 5, 0)) else none) else (bif Nat.beq pc 141 then some (.inl (o_il 1 1)) else none)))) else (bif Nat.ble pc 147 then (bif Nat.ble pc 142 then (bif Nat.beq pc 142 then some (.inl (o_il 4 2)) else none) else (bif Nat.ble pc 144 then (bif Nat.beq pc 144 then some (.inl (o_zeq 151)) else none) else (bif Nat.beq pc 147 then some (.inl (oS 1 (s_push (.int 1)))) else none))) else (bif Nat.ble pc 148 then (bif Nat.beq pc 148 then some (.inl (o_goto 152)) else none) else (bif Nat.ble pc 151 then (bif Nat.beq pc 151 then some (.inl (oS 1 (s_push (.int 0)))) else none) else (bif Nat.beq pc 152 then some (.inl (oS 1 (s_ii (fun a b => a + b)))) else none))))) else (bif Nat.ble pc 161 then (bif Nat.ble pc 155 then (bif Nat.ble pc 153 then (bif Nat.beq pc 153 then some (.inl (o_is 1 1)) else none) else (bif Nat.ble pc 154 then (bif Nat.beq pc 154 then some (.inl (o_il 2 1)) else none) else (bif Nat.beq pc 155 then some (.inl (o_il 5 2)) else none))) else (bif Nat.ble pc 157 then (bif Nat.beq pc 157 then some (.inl (o_zeq 164)) else none) else (bif Nat.ble pc 160 then (bif Nat.beq pc 160 then some (.inl (oS 1 (s_push (.int 1)))) else none) else (bif Nat.beq pc 161 then some (.inl (o_goto 165)) else none)))) else (bif Nat.ble pc 166 then (bif Nat.ble pc 164 then (bif Nat.beq pc 164 then some (.inl (oS 1 (s_push (.int 0)))) else none) else (bif Nat.ble pc 165 then (bif Nat.beq pc 165 then some (.inl (oS 1 (s_ii (fun a b => a + b)))) else none) else (bif Nat.beq pc 166 then some (.inl (o_is 2 1)) else none))) else (bif Nat.ble pc 167 then (bif Nat.beq pc 167 then some (.inl (o_inc 3 1)) else none) else (bif Nat.ble pc 170 then (bif Nat.beq pc 170 then some (.inl (o_goto 11)) else none) else (bif Nat.beq pc 173 then some (.inr (0, 0, 0, 3)) else none)))))))
theorem k_1_0 : mOk M_1.1 M_1.2.1 M_1.2.2.1 M_1.2.2.2 0 (o_al 0 1) := ok_aload_n dX0_compare_0 rfl
theorem k_1_1 : mOk M_1.1 M_1.2.1 M_1.2.2.1 M_1.2.2.2 1 (oS 1 (s_push (.int 0))) := ok_iconst dX0_compare_1 (by decide)
theorem k_1_2 : mOk M_1.1 M_1.2.1 M_1.2.2.1 M_1.2.2.2 2 (o_pI 0 2) := ok_pI dX0_compare_2 (mFw_of f_RX0_37_c (Or.inl rfl)) rfl
theorem k_1_5 : mOk M_1.1 M_1.2.1 M_1.2.2.1 M_1.2.2.2 5 (oS 1 (s_push (.int 0))) := ok_iconst dX0_compare_5 (by decide)
theorem k_1_6 : mOk M_1.1 M_1.2.1 M_1.2.2.1 M_1.2.2.2 6 (o_is 1 1) := ok_istore_n dX0_compare_6 rfl
theorem k_1_7 : mOk M_1.1 M_1.2.1 M_1.2.2.1 M_1.2.2.2 7 (oS 1 (s_push (.int 0))) := ok_iconst dX0_compare_7 (by decide)
theorem k_1_8 : mOk M_1.1 M_1.2.1 M_1.2.2.1 M_1.2.2.2 8 (o_is 2 1) := ok_istore_n dX0_compare_8 rfl
theorem k_1_9 : mOk M_1.1 M_1.2.1 M_1.2.2.1 M_1.2.2.2 9 (oS 1 (s_push (.int 0))) := ok_iconst dX0_compare_9 (by decide)
theorem k_1_10 : mOk M_1.1 M_1.2.1 M_1.2.2.1 M_1.2.2.2 10 (o_is 3 1) := ok_istore_n dX0_compare_10 rfl
theorem k_1_11 : mOk M_1.1 M_1.2.1 M_1.2.2.1 M_1.2.2.2 11 (o_il 3 1) := ok_iload_n dX0_compare_11 rfl
theorem k_1_12 : mOk M_1.1 M_1.2.1 M_1.2.2.1 M_1.2.2.2 12 (oS 3 (s_push (.int 341))) := ok_sipush dX0_compare_12 (by decide)
theorem k_1_15 : mOk M_1.1 M_1.2.1 M_1.2.2.1 M_1.2.2.2 15 (o_cge 173) := ok_cge dX0_compare_15 (by decide)
theorem k_1_18 : mOk M_1.1 M_1.2.1 M_1.2.2.1 M_1.2.2.2 18 (o_al 0 1) := ok_aload_n dX0_compare_18 rfl
theorem k_1_19 : mOk M_1.1 M_1.2.1 M_1.2.2.1 M_1.2.2.2 19 (o_gP 0 0) := ok_gP dX0_compare_19 f_RX0_12 rfl
theorem k_1_22 : mOk M_1.1 M_1.2.1 M_1.2.2.1 M_1.2.2.2 22 (o_il 1 1) := ok_iload_n dX0_compare_22 rfl
theorem k_1_23 : mOk M_1.1 M_1.2.1 M_1.2.2.1 M_1.2.2.2 23 (o_il 3 1) := ok_iload_n dX0_compare_23 rfl
theorem k_1_27 : mOk M_1.1 M_1.2.1 M_1.2.2.1 M_1.2.2.2 27 (o_is 4 2) := ok_istore dX0_compare_27
theorem k_1_29 : mOk M_1.1 M_1.2.1 M_1.2.2.1 M_1.2.2.2 29 (o_al 0 1) := ok_aload_n dX0_compare_29 rfl
theorem k_1_30 : mOk M_1.1 M_1.2.1 M_1.2.2.1 M_1.2.2.2 30 (o_gP 0 1) := ok_gP dX0_compare_30 f_RX0_18 rfl
theorem k_1_33 : mOk M_1.1 M_1.2.1 M_1.2.2.1 M_1.2.2.2 33 (o_il 2 1) := ok_iload_n dX0_compare_33 rfl
theorem k_1_34 : mOk M_1.1 M_1.2.1 M_1.2.2.1 M_1.2.2.2 34 (o_il 3 1) := ok_iload_n dX0_compare_34 rfl
theorem k_1_38 : mOk M_1.1 M_1.2.1 M_1.2.2.1 M_1.2.2.2 38 (o_is 5 2) := ok_istore dX0_compare_38
theorem k_1_40 : mOk M_1.1 M_1.2.1 M_1.2.2.1 M_1.2.2.2 40 (o_il 4 2) := ok_iload dX0_compare_40
theorem k_1_42 : mOk M_1.1 M_1.2.1 M_1.2.2.1 M_1.2.2.2 42 (o_zeq 88) := ok_zeq dX0_compare_42 (by decide)
theorem k_1_45 : mOk M_1.1 M_1.2.1 M_1.2.2.1 M_1.2.2.2 45 (o_il 5 2) := ok_iload dX0_compare_45
theorem k_1_47 : mOk M_1.1 M_1.2.1 M_1.2.2.1 M_1.2.2.2 47 (o_zeq 88) := ok_zeq dX0_compare_47 (by decide)
theorem k_1_50 : mOk M_1.1 M_1.2.1 M_1.2.2.1 M_1.2.2.2 50 (o_al 0 1) := ok_aload_n dX0_compare_50 rfl
theorem k_1_51 : mOk M_1.1 M_1.2.1 M_1.2.2.1 M_1.2.2.2 51 (o_gP 0 0) := ok_gP dX0_compare_51 f_RX0_12 rfl
theorem k_1_54 : mOk M_1.1 M_1.2.1 M_1.2.2.1 M_1.2.2.2 54 (o_il 1 1) := ok_iload_n dX0_compare_54 rfl
theorem k_1_55 : mOk M_1.1 M_1.2.1 M_1.2.2.1 M_1.2.2.2 55 (o_al 0 1) := ok_aload_n dX0_compare_55 rfl
theorem k_1_56 : mOk M_1.1 M_1.2.1 M_1.2.2.1 M_1.2.2.2 56 (o_gP 0 1) := ok_gP dX0_compare_56 f_RX0_18 rfl
theorem k_1_59 : mOk M_1.1 M_1.2.1 M_1.2.2.1 M_1.2.2.2 59 (o_il 2 1) := ok_iload_n dX0_compare_59 rfl
theorem k_1_63 : mOk M_1.1 M_1.2.1 M_1.2.2.1 M_1.2.2.2 63 (o_zne 88) := ok_zne dX0_compare_63 (by decide)
theorem k_1_66 : mOk M_1.1 M_1.2.1 M_1.2.2.1 M_1.2.2.2 66 (o_al 0 1) := ok_aload_n dX0_compare_66 rfl
theorem k_1_67 : mOk M_1.1 M_1.2.1 M_1.2.2.1 M_1.2.2.2 67 (oS 1 (s_push (.int 2))) := ok_iconst dX0_compare_67 (by decide)
theorem k_1_68 : mOk M_1.1 M_1.2.1 M_1.2.2.1 M_1.2.2.2 68 (o_al 0 1) := ok_aload_n dX0_compare_68 rfl
theorem k_1_69 : mOk M_1.1 M_1.2.1 M_1.2.2.1 M_1.2.2.2 69 (o_gP 0 1) := ok_gP dX0_compare_69 f_RX0_18 rfl
theorem k_1_72 : mOk M_1.1 M_1.2.1 M_1.2.2.1 M_1.2.2.2 72 (o_il 2 1) := ok_iload_n dX0_compare_72 rfl
theorem k_1_73 : mOk M_1.1 M_1.2.1 M_1.2.2.1 M_1.2.2.2 73 (o_al 0 1) := ok_aload_n dX0_compare_73 rfl
theorem k_1_74 : mOk M_1.1 M_1.2.1 M_1.2.2.1 M_1.2.2.2 74 (o_gP 0 1) := ok_gP dX0_compare_74 f_RX0_18 rfl
theorem k_1_77 : mOk M_1.1 M_1.2.1 M_1.2.2.1 M_1.2.2.2 77 (o_gP 4 10) := ok_gP dX0_compare_77 f_RX0_49 rfl
theorem k_1_80 : mOk M_1.1 M_1.2.1 M_1.2.2.1 M_1.2.2.2 80 (o_il 2 1) := ok_iload_n dX0_compare_80 rfl
theorem k_1_81 : mOk M_1.1 M_1.2.1 M_1.2.2.1 M_1.2.2.2 81 (o_iald) := ok_iald dX0_compare_81
theorem k_1_85 : mOk M_1.1 M_1.2.1 M_1.2.2.1 M_1.2.2.2 85 (o_goto 141) := ok_goto dX0_compare_85 (by decide)
theorem k_1_88 : mOk M_1.1 M_1.2.1 M_1.2.2.1 M_1.2.2.2 88 (o_il 4 2) := ok_iload dX0_compare_88
theorem k_1_90 : mOk M_1.1 M_1.2.1 M_1.2.2.1 M_1.2.2.2 90 (o_zeq 112) := ok_zeq dX0_compare_90 (by decide)
theorem k_1_93 : mOk M_1.1 M_1.2.1 M_1.2.2.1 M_1.2.2.2 93 (o_il 5 2) := ok_iload dX0_compare_93
theorem k_1_95 : mOk M_1.1 M_1.2.1 M_1.2.2.1 M_1.2.2.2 95 (o_zne 112) := ok_zne dX0_compare_95 (by decide)
theorem k_1_98 : mOk M_1.1 M_1.2.1 M_1.2.2.1 M_1.2.2.2 98 (o_al 0 1) := ok_aload_n dX0_compare_98 rfl
theorem k_1_99 : mOk M_1.1 M_1.2.1 M_1.2.2.1 M_1.2.2.2 99 (oS 1 (s_push (.int 0))) := ok_iconst dX0_compare_99 (by decide)
theorem k_1_100 : mOk M_1.1 M_1.2.1 M_1.2.2.1 M_1.2.2.2 100 (o_al 0 1) := ok_aload_n dX0_compare_100 rfl
theorem k_1_101 : mOk M_1.1 M_1.2.1 M_1.2.2.1 M_1.2.2.2 101 (o_gP 0 0) := ok_gP dX0_compare_101 f_RX0_12 rfl
theorem k_1_104 : mOk M_1.1 M_1.2.1 M_1.2.2.1 M_1.2.2.2 104 (o_il 1 1) := ok_iload_n dX0_compare_104 rfl
theorem k_1_105 : mOk M_1.1 M_1.2.1 M_1.2.2.1 M_1.2.2.2 105 (oS 1 (s_push (.int 0))) := ok_iconst dX0_compare_105 (by decide)
theorem k_1_109 : mOk M_1.1 M_1.2.1 M_1.2.2.1 M_1.2.2.2 109 (o_goto 141) := ok_goto dX0_compare_109 (by decide)
theorem k_1_112 : mOk M_1.1 M_1.2.1 M_1.2.2.1 M_1.2.2.2 112 (o_il 5 2) := ok_iload dX0_compare_112
theorem k_1_114 : mOk M_1.1 M_1.2.1 M_1.2.2.1 M_1.2.2.2 114 (o_zeq 141) := ok_zeq dX0_compare_114 (by decide)
theorem k_1_117 : mOk M_1.1 M_1.2.1 M_1.2.2.1 M_1.2.2.2 117 (o_il 4 2) := ok_iload dX0_compare_117
theorem k_1_119 : mOk M_1.1 M_1.2.1 M_1.2.2.1 M_1.2.2.2 119 (o_zne 141) := ok_zne dX0_compare_119 (by decide)
theorem k_1_122 : mOk M_1.1 M_1.2.1 M_1.2.2.1 M_1.2.2.2 122 (o_al 0 1) := ok_aload_n dX0_compare_122 rfl
theorem k_1_123 : mOk M_1.1 M_1.2.1 M_1.2.2.1 M_1.2.2.2 123 (oS 1 (s_push (.int 1))) := ok_iconst dX0_compare_123 (by decide)
theorem k_1_124 : mOk M_1.1 M_1.2.1 M_1.2.2.1 M_1.2.2.2 124 (o_al 0 1) := ok_aload_n dX0_compare_124 rfl
theorem k_1_125 : mOk M_1.1 M_1.2.1 M_1.2.2.1 M_1.2.2.2 125 (o_gP 0 1) := ok_gP dX0_compare_125 f_RX0_18 rfl
theorem k_1_128 : mOk M_1.1 M_1.2.1 M_1.2.2.1 M_1.2.2.2 128 (o_il 2 1) := ok_iload_n dX0_compare_128 rfl
theorem k_1_129 : mOk M_1.1 M_1.2.1 M_1.2.2.1 M_1.2.2.2 129 (o_al 0 1) := ok_aload_n dX0_compare_129 rfl
theorem k_1_130 : mOk M_1.1 M_1.2.1 M_1.2.2.1 M_1.2.2.2 130 (o_gP 0 1) := ok_gP dX0_compare_130 f_RX0_18 rfl
theorem k_1_133 : mOk M_1.1 M_1.2.1 M_1.2.2.1 M_1.2.2.2 133 (o_gP 4 10) := ok_gP dX0_compare_133 f_RX0_49 rfl
theorem k_1_136 : mOk M_1.1 M_1.2.1 M_1.2.2.1 M_1.2.2.2 136 (o_il 2 1) := ok_iload_n dX0_compare_136 rfl
theorem k_1_137 : mOk M_1.1 M_1.2.1 M_1.2.2.1 M_1.2.2.2 137 (o_iald) := ok_iald dX0_compare_137
theorem k_1_141 : mOk M_1.1 M_1.2.1 M_1.2.2.1 M_1.2.2.2 141 (o_il 1 1) := ok_iload_n dX0_compare_141 rfl
theorem k_1_142 : mOk M_1.1 M_1.2.1 M_1.2.2.1 M_1.2.2.2 142 (o_il 4 2) := ok_iload dX0_compare_142
theorem k_1_144 : mOk M_1.1 M_1.2.1 M_1.2.2.1 M_1.2.2.2 144 (o_zeq 151) := ok_zeq dX0_compare_144 (by decide)
theorem k_1_147 : mOk M_1.1 M_1.2.1 M_1.2.2.1 M_1.2.2.2 147 (oS 1 (s_push (.int 1))) := ok_iconst dX0_compare_147 (by decide)
theorem k_1_148 : mOk M_1.1 M_1.2.1 M_1.2.2.1 M_1.2.2.2 148 (o_goto 152) := ok_goto dX0_compare_148 (by decide)
theorem k_1_151 : mOk M_1.1 M_1.2.1 M_1.2.2.1 M_1.2.2.2 151 (oS 1 (s_push (.int 0))) := ok_iconst dX0_compare_151 (by decide)
theorem k_1_152 : mOk M_1.1 M_1.2.1 M_1.2.2.1 M_1.2.2.2 152 (oS 1 (s_ii (fun a b => a + b))) := ok_iadd dX0_compare_152
theorem k_1_153 : mOk M_1.1 M_1.2.1 M_1.2.2.1 M_1.2.2.2 153 (o_is 1 1) := ok_istore_n dX0_compare_153 rfl
theorem k_1_154 : mOk M_1.1 M_1.2.1 M_1.2.2.1 M_1.2.2.2 154 (o_il 2 1) := ok_iload_n dX0_compare_154 rfl
theorem k_1_155 : mOk M_1.1 M_1.2.1 M_1.2.2.1 M_1.2.2.2 155 (o_il 5 2) := ok_iload dX0_compare_155
theorem k_1_157 : mOk M_1.1 M_1.2.1 M_1.2.2.1 M_1.2.2.2 157 (o_zeq 164) := ok_zeq dX0_compare_157 (by decide)
theorem k_1_160 : mOk M_1.1 M_1.2.1 M_1.2.2.1 M_1.2.2.2 160 (oS 1 (s_push (.int 1))) := ok_iconst dX0_compare_160 (by decide)
theorem k_1_161 : mOk M_1.1 M_1.2.1 M_1.2.2.1 M_1.2.2.2 161 (o_goto 165) := ok_goto dX0_compare_161 (by decide)
theorem k_1_164 : mOk M_1.1 M_1.2.1 M_1.2.2.1 M_1.2.2.2 164 (oS 1 (s_push (.int 0))) := ok_iconst dX0_compare_164 (by decide)
theorem k_1_165 : mOk M_1.1 M_1.2.1 M_1.2.2.1 M_1.2.2.2 165 (oS 1 (s_ii (fun a b => a + b))) := ok_iadd dX0_compare_165
theorem k_1_166 : mOk M_1.1 M_1.2.1 M_1.2.2.1 M_1.2.2.2 166 (o_is 2 1) := ok_istore_n dX0_compare_166 rfl
theorem k_1_167 : mOk M_1.1 M_1.2.1 M_1.2.2.1 M_1.2.2.2 167 (o_inc 3 1) := ok_iinc dX0_compare_167 (by decide)
theorem k_1_170 : mOk M_1.1 M_1.2.1 M_1.2.2.1 M_1.2.2.2 170 (o_goto 11) := ok_goto dX0_compare_170 (by decide)
set_option maxRecDepth 20000 in
set_option maxHeartbeats 4000000 in
theorem tk_1 (l : Launch) (H9 : mThr l) (H10 : mSpl l) (pc : Nat) (q : mEnt) (h : tb_1 pc = some q) : EE l 1 pc q := nd h (fun h => nd h (fun h => nd h (fun h => nd h (fun h => nd h (fun h => nd h (fun h => lf (P := EE l 1) h k_1_0) (fun h => lf (P := EE l 1) h k_1_1)) (fun h => nd h (fun h => lf (P := EE l 1) h k_1_2) (fun h => nd h (fun h => lf (P := EE l 1) h k_1_5) (fun h => lf (P := EE l 1) h k_1_6)))) (fun h => nd h (fun h => nd h (fun h => lf (P := EE l 1) h k_1_7) (fun h => nd h (fun h => lf (P := EE l 1) h k_1_8) (fun h => lf (P := EE l 1) h k_1_9))) (fun h => nd h (fun h => lf (P := EE l 1) h k_1_10) (fun h => nd h (fun h => lf (P := EE l 1) h k_1_11) (fun h => lf (P := EE l 1) h k_1_12))))) (fun h => nd h (fun h => nd h (fun h => nd h (fun h => lf (P := EE l 1) h k_1_15) (fun h => nd h (fun h => lf (P := EE l 1) h k_1_18) (fun h => lf (P := EE l 1) h k_1_19))) (fun h => nd h (fun h => lf (P := EE l 1) h k_1_22) (fun h => nd h (fun h => lf (P := EE l 1) h k_1_23) (fun h => lf (P := EE l 1) h (EE_ca (by decide) (⟨m_940, m_79, ⟨by decide, by decide⟩, by decide +kernel, ⟨by decide, by decide⟩, 41, 2, by decide +kernel, Or.inr (Or.inr (Or.inl ⟨rfl, rfl, dX0_compare_24, m_937, m_938, _, rfl, by decide, m_939⟩))⟩) rfl))))) (fun h => nd h (fun h => nd h (fun h => lf (P := EE l 1) h k_1_27) (fun h => nd h (fun h => lf (P := EE l 1) h k_1_29) (fun h => lf (P := EE l 1) h k_1_30))) (fun h => nd h (fun h => lf (P := EE l 1) h k_1_33) (fun h => nd h (fun h => lf (P := EE l 1) h k_1_34) (fun h => lf (P := EE l 1) h (EE_ca (by decide) (⟨m_940, m_79, ⟨by decide, by decide⟩, by decide +kernel, ⟨by decide, by decide⟩, 41, 2, by decide +kernel, Or.inr (Or.inr (Or.inl ⟨rfl, rfl, dX0_compare_35, m_937, m_938, _, rfl, by decide, m_939⟩))⟩) rfl))))))) (fun h => nd h (fun h => nd h (fun h => nd h (fun h => nd h (fun h => lf (P := EE l 1) h k_1_38) (fun h => nd h (fun h => lf (P := EE l 1) h k_1_40) (fun h => lf (P := EE l 1) h k_1_42))) (fun h => nd h (fun h => lf (P := EE l 1) h k_1_45) (fun h => nd h (fun h => lf (P := EE l 1) h k_1_47) (fun h => lf (P := EE l 1) h k_1_50)))) (fun h => nd h (fun h => nd h (fun h => lf (P := EE l 1) h k_1_51) (fun h => nd h (fun h => lf (P := EE l 1) h k_1_54) (fun h => lf (P := EE l 1) h k_1_55))) (fun h => nd h (fun h => lf (P := EE l 1) h k_1_56) (fun h => nd h (fun h => lf (P := EE l 1) h k_1_59) (fun h => lf (P := EE l 1) h (EE_ca (by decide) (⟨m_944, m_79, ⟨by decide, by decide⟩, by decide +kernel, ⟨by decide, by decide⟩, 45, 3, by decide +kernel, Or.inr (Or.inr (Or.inl ⟨rfl, rfl, dX0_compare_60, m_941, m_942, _, rfl, by decide, m_943⟩))⟩) rfl)))))) (fun h => nd h (fun h => nd h (fun h => nd h (fun h => lf (P := EE l 1) h k_1_63) (fun h => nd h (fun h => lf (P := EE l 1) h k_1_66) (fun h => lf (P := EE l 1) h k_1_67))) (fun h => nd h (fun h => lf (P := EE l 1) h k_1_68) (fun h => nd h (fun h => lf (P := EE l 1) h k_1_69) (fun h => lf (P := EE l 1) h k_1_72)))) (fun h => nd h (fun h => nd h (fun h => lf (P := EE l 1) h k_1_73) (fun h => nd h (fun h => lf (P := EE l 1) h k_1_74) (fun h => lf (P := EE l 1) h k_1_77))) (fun h => nd h (fun h => lf (P := EE l 1) h k_1_80) (fun h => nd h (fun h => lf (P := EE l 1) h k_1_81) (fun h => lf (P := EE l 1) h (EE_ca (by decide) (⟨m_948, m_80, ⟨by decide, by decide⟩, by decide +kernel, ⟨by decide, by decide⟩, 50, 4, by decide +kernel, Or.inr (Or.inr (Or.inl ⟨rfl, rfl, dX0_compare_82, m_945, m_947, _, rfl, by decide, m_24⟩))⟩) rfl)))))))) (fun h => nd h (fun h => nd h (fun h => nd h (fun h => nd h (fun h => nd h (fun h => lf (P := EE l 1) h k_1_85) (fun h => lf (P := EE l 1) h k_1_88)) (fun h => nd h (fun h => lf (P := EE l 1) h k_1_90) (fun h => nd h (fun h => lf (P := EE l 1) h k_1_93) (fun h => lf (P := EE l 1) h k_1_95)))) (fun h => nd h (fun h => nd h (fun h => lf (P := EE l 1) h k_1_98) (fun h => nd h (fun h => lf (P := EE l 1) h k_1_99) (fun h => lf (P := EE l 1) h k_1_100))) (fun h => nd h (fun h => lf (P := EE l 1) h k_1_101) (fun h => nd h (fun h => lf (P := EE l 1) h k_1_104) (fun h => lf (P := EE l 1) h k_1_105))))) (fun h => nd h (fun h => nd h (fun h => nd h (fun h => lf (P := EE l 1) h (EE_ca (by decide) (⟨m_948, m_80, ⟨by decide, by decide⟩, by decide +kernel, ⟨by decide, by decide⟩, 50, 4, by decide +kernel, Or.inr (Or.inr (Or.inl ⟨rfl, rfl, dX0_compare_106, m_945, m_947, _, rfl, by decide, m_24⟩))⟩) rfl)) (fun h => nd h (fun h => lf (P := EE l 1) h k_1_109) (fun h => lf (P := EE l 1) h k_1_112))) (fun h => nd h (fun h => lf (P := EE l 1) h k_1_114) (fun h => nd h (fun h => lf (P := EE l 1) h k_1_117) (fun h => lf (P := EE l 1) h k_1_119)))) (fun h => nd h (fun h => nd h (fun h => lf (P := EE l 1) h k_1_122) (fun h => nd h (fun h => lf (P := EE l 1) h k_1_123) (fun h => lf (P := EE l 1) h k_1_124))) (fun h => nd h (fun h => lf (P := EE l 1) h k_1_125) (fun h => nd h (fun h => lf (P := EE l 1) h k_1_128) (fun h => lf (P := EE l 1) h k_1_129)))))) (fun h => nd h (fun h => nd h (fun h => nd h (fun h => nd h (fun h => lf (P := EE l 1) h k_1_130) (fun h => nd h (fun h => lf (P := EE l 1) h k_1_133) (fun h => lf (P := EE l 1) h k_1_136))) (fun h => nd h (fun h => lf (P := EE l 1) h k_1_137) (fun h => nd h (fun h => lf (P := EE l 1) h (EE_ca (by decide) (⟨m_948, m_80, ⟨by decide, by decide⟩, by decide +kernel, ⟨by decide, by decide⟩, 50, 4, by decide +kernel, Or.inr (Or.inr (Or.inl ⟨rfl, rfl, dX0_compare_138, m_945, m_947, _, rfl, by decide, m_24⟩))⟩) rfl)) (fun h => lf (P := EE l 1) h k_1_141)))) (fun h => nd h (fun h => nd h (fun h => lf (P := EE l 1) h k_1_142) (fun h => nd h (fun h => lf (P := EE l 1) h k_1_144) (fun h => lf (P := EE l 1) h k_1_147))) (fun h => nd h (fun h => lf (P := EE l 1) h k_1_148) (fun h => nd h (fun h => lf (P := EE l 1) h k_1_151) (fun h => lf (P := EE l 1) h k_1_152))))) (fun h => nd h (fun h => nd h (fun h => nd h (fun h => lf (P := EE l 1) h k_1_153) (fun h => nd h (fun h => lf (P := EE l 1) h k_1_154) (fun h => lf (P := EE l 1) h k_1_155))) (fun h => nd h (fun h => lf (P := EE l 1) h k_1_157) (fun h => nd h (fun h => lf (P := EE l 1) h k_1_160) (fun h => lf (P := EE l 1) h k_1_161)))) (fun h => nd h (fun h => nd h (fun h => lf (P := EE l 1) h k_1_164) (fun h => nd h (fun h => lf (P := EE l 1) h k_1_165) (fun h => lf (P := EE l 1) h k_1_166))) (fun h => nd h (fun h => lf (P := EE l 1) h k_1_167) (fun h => nd h (fun h => lf (P := EE l 1) h k_1_170) (fun h => lf (P := EE l 1) h (EE_re (Or.inr (Or.inr (Or.inr (Or.inr ⟨rfl, dX0_compare_173, rfl⟩))))))))))))
theorem dX0_tell_0 : decode cX0_tell 0 = .ok (.aload_n 0, 1) := by decide +kernel
theorem dX0_tell_1 : decode cX0_tell 1 = .ok (.getfield 37, 3) := by decide +kernel
theorem dX0_tell_4 : decode cX0_tell 4 = .ok (.aload_n 0, 1) := by decide +kernel
theorem dX0_tell_5 : decode cX0_tell 5 = .ok (.getfield 21, 3) := by decide +kernel
theorem dX0_tell_8 : decode cX0_tell 8 = .ok (.arraylength, 1) := by decide +kernel
theorem dX0_tell_9 : decode cX0_tell 9 = .ok (.if_icmp .ge 79, 3) := by decide +kernel
theorem dX0_tell_12 : decode cX0_tell 12 = .ok (.aload_n 0, 1) := by decide +kernel
theorem dX0_tell_13 : decode cX0_tell 13 = .ok (.getfield 21, 3) := by decide +kernel
theorem dX0_tell_16 : decode cX0_tell 16 = .ok (.aload_n 0, 1) := by decide +kernel
theorem dX0_tell_17 : decode cX0_tell 17 = .ok (.getfield 37, 3) := by decide +kernel
theorem dX0_tell_20 : decode cX0_tell 20 = .ok (.iload_n 1, 1) := by decide +kernel
theorem dX0_tell_21 : decode cX0_tell 21 = .ok (.iastore, 1) := by decide +kernel
theorem dX0_tell_22 : decode cX0_tell 22 = .ok (.aload_n 0, 1) := by decide +kernel
theorem dX0_tell_23 : decode cX0_tell 23 = .ok (.getfield 25, 3) := by decide +kernel
theorem dX0_tell_26 : decode cX0_tell 26 = .ok (.aload_n 0, 1) := by decide +kernel
theorem dX0_tell_27 : decode cX0_tell 27 = .ok (.getfield 37, 3) := by decide +kernel
theorem dX0_tell_30 : decode cX0_tell 30 = .ok (.aload_n 2, 1) := by decide +kernel
theorem dX0_tell_31 : decode cX0_tell 31 = .ok (.getfield 54, 3) := by decide +kernel
theorem dX0_tell_34 : decode cX0_tell 34 = .ok (.iload_n 3, 1) := by decide +kernel
theorem dX0_tell_35 : decode cX0_tell 35 = .ok (.iaload, 1) := by decide +kernel
theorem dX0_tell_36 : decode cX0_tell 36 = .ok (.iastore, 1) := by decide +kernel
theorem dX0_tell_37 : decode cX0_tell 37 = .ok (.aload_n 0, 1) := by decide +kernel
theorem dX0_tell_38 : decode cX0_tell 38 = .ok (.getfield 28, 3) := by decide +kernel
theorem dX0_tell_41 : decode cX0_tell 41 = .ok (.aload_n 0, 1) := by decide +kernel
theorem dX0_tell_42 : decode cX0_tell 42 = .ok (.getfield 37, 3) := by decide +kernel
theorem dX0_tell_45 : decode cX0_tell 45 = .ok (.aload_n 2, 1) := by decide +kernel
theorem dX0_tell_46 : decode cX0_tell 46 = .ok (.getfield 55, 3) := by decide +kernel
theorem dX0_tell_49 : decode cX0_tell 49 = .ok (.iload_n 3, 1) := by decide +kernel
theorem dX0_tell_50 : decode cX0_tell 50 = .ok (.iaload, 1) := by decide +kernel
theorem dX0_tell_51 : decode cX0_tell 51 = .ok (.iastore, 1) := by decide +kernel
theorem dX0_tell_52 : decode cX0_tell 52 = .ok (.aload_n 0, 1) := by decide +kernel
theorem dX0_tell_53 : decode cX0_tell 53 = .ok (.getfield 31, 3) := by decide +kernel
theorem dX0_tell_56 : decode cX0_tell 56 = .ok (.aload_n 0, 1) := by decide +kernel
theorem dX0_tell_57 : decode cX0_tell 57 = .ok (.getfield 37, 3) := by decide +kernel
theorem dX0_tell_60 : decode cX0_tell 60 = .ok (.aload_n 2, 1) := by decide +kernel
theorem dX0_tell_61 : decode cX0_tell 61 = .ok (.getfield 56, 3) := by decide +kernel
theorem dX0_tell_64 : decode cX0_tell 64 = .ok (.iload_n 3, 1) := by decide +kernel
theorem dX0_tell_65 : decode cX0_tell 65 = .ok (.iaload, 1) := by decide +kernel
theorem dX0_tell_66 : decode cX0_tell 66 = .ok (.iastore, 1) := by decide +kernel
theorem dX0_tell_67 : decode cX0_tell 67 = .ok (.aload_n 0, 1) := by decide +kernel
theorem dX0_tell_68 : decode cX0_tell 68 = .ok (.getfield 34, 3) := by decide +kernel
theorem dX0_tell_71 : decode cX0_tell 71 = .ok (.aload_n 0, 1) := by decide +kernel
theorem dX0_tell_72 : decode cX0_tell 72 = .ok (.getfield 37, 3) := by decide +kernel
theorem dX0_tell_75 : decode cX0_tell 75 = .ok (.iload 4, 2) := by decide +kernel
theorem dX0_tell_77 : decode cX0_tell 77 = .ok (.iastore, 1) := by decide +kernel
theorem dX0_tell_78 : decode cX0_tell 78 = .ok (.aload_n 0, 1) := by decide +kernel
theorem dX0_tell_79 : decode cX0_tell 79 = .ok (.dup, 1) := by decide +kernel
theorem dX0_tell_80 : decode cX0_tell 80 = .ok (.getfield 37, 3) := by decide +kernel
theorem dX0_tell_83 : decode cX0_tell 83 = .ok (.iconst 1, 1) := by decide +kernel
theorem dX0_tell_84 : decode cX0_tell 84 = .ok (.iadd, 1) := by decide +kernel
theorem dX0_tell_85 : decode cX0_tell 85 = .ok (.putfield 37, 3) := by decide +kernel
theorem dX0_tell_88 : decode cX0_tell 88 = .ok (.return_, 1) := by decide +kernel
def tb_2 (pc : Nat) : Option mEnt := bif Nat.ble pc 45 then (bif Nat.ble pc 22 then (bif Nat.ble pc 9 then (bif Nat.ble pc 4 then (bif Nat.ble pc 0 then (bif Nat.beq pc 0 then some (.inl (o_al 0 1)) else none) else (bif Nat.ble pc 1 then (bif Nat.beq pc 1 then some (.inl (o_gI 0 2)) else none) else (bif Nat.beq pc 4 then some (.inl (o_al 0 1)) else none))) else (bif Nat.ble pc 5 then (bif Nat.beq pc 5 then some (.inl (o_gP 0 3)) else none) else (bif Nat.ble pc 8 then (bif Nat.beq pc 8 then some (.inl (o_alen)) else none) else (bif Nat.beq pc 9 then some (.inl (o_cge 88)) else none)))) else (bif Nat.ble pc 16 then (bif Nat.ble pc 12 then (bif Nat.beq pc 12 then some (.inl (o_al 0 1)) else none) else (bif Nat.ble pc 13 then (bif Nat.beq pc 13 then some (.inl (o_gP 0 3)) else none) else (bif Nat.beq pc 16 then some (.inl (o_al 0 1)) else none))) else (bif Nat.ble pc 20 then (bif Nat.ble pc 17 then (bif Nat.beq pc 17 then some (.inl (o_gI 0 2)) else none) else (bif Nat.beq pc 20 then some (.inl (o_il 1 1)) else none)) else (bif Nat.ble pc 21 then (bif Nat.beq pc 21 then some (.inl (o_iast)) else none) else (bif Nat.beq pc 22 then some (.inl (o_al 0 1)) else none))))) else (bif Nat.ble pc 34 then (bif Nat.ble pc 27 then (bif Nat.ble pc 23 then (bif Nat.beq pc 23 then some (.inl (o_gP 0 4)) else none) else (bif Nat.ble pc 26 then (bif Nat.beq pc 26 then some (.inl (o_al 0 1)) else none) else (bif Nat.beq pc 27 then some (.inl (o_gI 0 2)) else none))) else (bif Nat.ble pc 30 then (bif Nat.beq pc 30 then some (.inl (o_al 2 1)) else none) else (bif Nat.ble pc 31 then (bif Nat.beq pc 31 then some (.inl (o_gP 4 7)) else none) else (bif Nat.beq pc 34 then some (.inl (o_il 3 1)) else none)))) else (bif Nat.ble pc 37 then (bif Nat.ble pc 35 then (bif Nat.beq pc 35 then some (.inl (o_iald)) else none) else (bif Nat.ble pc 36 then (bif Nat.beq pc 36 then some (.inl (o_iast)) else none) else (bif Nat.beq pc 37 then some (.inl (o_al 0 1)) else none))) else (bif Nat.ble pc 41 then (bif Nat.ble pc 38 then (bif Nat.beq pc 38 then some (.inl (o_gP 0 5)) else none) else (bif Nat.beq pc 41 then some (.inl (o_al 0 1)) else none)) else (bif Nat.ble pc 42 then (bif Nat.beq pc 42 then some (.inl (o_gI 0 2)) else none) else (bif Nat.beq pc 45 then some (.inl (o_al 2 1)) else none)))))) else (bif Nat.ble pc 66 then (bif Nat.ble pc 53 then (bif Nat.ble pc 50 then (bif Nat.ble pc 46 then (bif Nat.beq pc 46 then some (.inl (o_gP 4 8)) else none) else (bif Nat.ble pc 49 then (bif Nat.beq pc 49 then some (.inl (o_il 3 1)) else none) else (bif Nat.beq pc 50 then some (.inl (o_iald)) else none))) else (bif Nat.ble pc 51 then (bif Nat.beq pc 51 then some (.inl (o_iast)) else none) else (bif Nat.ble pc 52 then (bif Nat.beq pc 52 then some (.inl (o_al 0 1)) else none) else (bif Nat.beq pc 53 then some (.inl (o_gP 0 6)) else none)))) else (bif Nat.ble pc 60 then (bif Nat.ble pc 56 then (bif Nat.beq pc 56 then some (.inl (o_al 0 1)) else none) else (bif Nat.ble pc 57 then (bif Nat.beq pc 57 then some (.inl (o_gI 0 2)) else none) else (bif Nat.beq pc 60 then some (.inl (o_al 2 1)) else none))) else (bif Nat.ble pc 64 then (bif Nat.ble pc 61 then (bif Nat.beq pc 61 then some (.inl (o_gP 4 9)) else none) else (bif Nat.beq pc 64 then some (.inl (o_il 3 1)) else none)) else (bif Nat.ble pc 65 then (bif Nat.beq pc 65 then some (.inl (o_iald)) else none) else (bif Nat.beq pc 66 then some (.inl (o_iast)) else none))))) else (bif Nat.ble pc 77 then (bif Nat.ble pc 71 then (bif Nat.ble pc 67 then (bif Nat.beq pc 67 then some (.inl (o_al 0 1)) else none) else (bif Nat.ble pc 68 then (bif Nat.beq pc 68 then some (.inl (o_gP 0 7)) else none) else (bif Nat.beq pc 71 then some (.inl (o_al 0 1)) else none))) else (bif Nat.ble pc 72 then (bif Nat.beq pc 72 then some (.inl (o_gI 0 2)) else none) else (bif Nat.ble pc 75 then (bif Nat.beq pc 75 then some (.inl (o_il 4 2)) else none) else (bif Nat.beq pc 77 then some (.inl (o_iast)) else none)))) else (bif Nat.ble pc 80 then (bif Nat.ble pc 78 then (bif Nat.beq pc 78 then some (.inl (o_al 0 1)) else none) else (bif Nat.ble pc 79 then (bif Nat.beq pc 79 then some (.inl (oS 1 s_dup)) else none) else (bif Nat.beq pc 80 then some (.inl (o_gI 0 2)) else none))) else (bif Nat.ble pc 84 then (bif Nat.ble pc 83 then (bif Nat.beq pc 83 then some (.inl (oS 1 (s_push (.int 1)))) else none) else (bif Nat.beq pc 84 then some (.inl (oS 1 (s_ii (fun a b => a + b)))) else none)) else (bif Nat.ble pc 85 then (bif Nat.beq pc 85 then some (.inl (o_pI 0 2)) else none) else (bif Nat.beq pc 88 then some (.inr (0, 0, 0, 3)) else none))))))
theorem k_2_0 : mOk M_2.1 M_2.2.1 M_2.2.2.1 M_2.2.2.2 0 (o_al 0 1) := ok_aload_n dX0_tell_0 rfl
theorem k_2_1 : mOk M_2.1 M_2.2.1 M_2.2.2.1 M_2.2.2.2 1 (o_gI 0 2) := ok_gI dX0_tell_1 f_RX0_37 (Or.inl rfl)
theorem k_2_4 : mOk M_2.1 M_2.2.1 M_2.2.2.1 M_2.2.2.2 4 (o_al 0 1) := ok_aload_n dX0_tell_4 rfl
theorem k_2_5 : mOk M_2.1 M_2.2.1 M_2.2.2.1 M_2.2.2.2 5 (o_gP 0 3) := ok_gP dX0_tell_5 f_RX0_21 rfl
theorem k_2_8 : mOk M_2.1 M_2.2.1 M_2.2.2.1 M_2.2.2.2 8 (o_alen) := ok_alen dX0_tell_8
theorem k_2_9 : mOk M_2.1 M_2.2.1 M_2.2.2.1 M_2.2.2.2 9 (o_cge 88) := ok_cge dX0_tell_9 (by decide)
theorem k_2_12 : mOk M_2.1 M_2.2.1 M_2.2.2.1 M_2.2.2.2 12 (o_al 0 1) := ok_aload_n dX0_tell_12 rfl
theorem k_2_13 : mOk M_2.1 M_2.2.1 M_2.2.2.1 M_2.2.2.2 13 (o_gP 0 3) := ok_gP dX0_tell_13 f_RX0_21 rfl
theorem k_2_16 : mOk M_2.1 M_2.2.1 M_2.2.2.1 M_2.2.2.2 16 (o_al 0 1) := ok_aload_n dX0_tell_16 rfl
theorem k_2_17 : mOk M_2.1 M_2.2.1 M_2.2.2.1 M_2.2.2.2 17 (o_gI 0 2) := ok_gI dX0_tell_17 f_RX0_37 (Or.inl rfl)
theorem k_2_20 : mOk M_2.1 M_2.2.1 M_2.2.2.1 M_2.2.2.2 20 (o_il 1 1) := ok_iload_n dX0_tell_20 rfl
theorem k_2_21 : mOk M_2.1 M_2.2.1 M_2.2.2.1 M_2.2.2.2 21 (o_iast) := ok_iast dX0_tell_21
theorem k_2_22 : mOk M_2.1 M_2.2.1 M_2.2.2.1 M_2.2.2.2 22 (o_al 0 1) := ok_aload_n dX0_tell_22 rfl
theorem k_2_23 : mOk M_2.1 M_2.2.1 M_2.2.2.1 M_2.2.2.2 23 (o_gP 0 4) := ok_gP dX0_tell_23 f_RX0_25 rfl
theorem k_2_26 : mOk M_2.1 M_2.2.1 M_2.2.2.1 M_2.2.2.2 26 (o_al 0 1) := ok_aload_n dX0_tell_26 rfl
theorem k_2_27 : mOk M_2.1 M_2.2.1 M_2.2.2.1 M_2.2.2.2 27 (o_gI 0 2) := ok_gI dX0_tell_27 f_RX0_37 (Or.inl rfl)
theorem k_2_30 : mOk M_2.1 M_2.2.1 M_2.2.2.1 M_2.2.2.2 30 (o_al 2 1) := ok_aload_n dX0_tell_30 rfl
theorem k_2_31 : mOk M_2.1 M_2.2.1 M_2.2.2.1 M_2.2.2.2 31 (o_gP 4 7) := ok_gP dX0_tell_31 f_RX0_54 rfl
theorem k_2_34 : mOk M_2.1 M_2.2.1 M_2.2.2.1 M_2.2.2.2 34 (o_il 3 1) := ok_iload_n dX0_tell_34 rfl
theorem k_2_35 : mOk M_2.1 M_2.2.1 M_2.2.2.1 M_2.2.2.2 35 (o_iald) := ok_iald dX0_tell_35
theorem k_2_36 : mOk M_2.1 M_2.2.1 M_2.2.2.1 M_2.2.2.2 36 (o_iast) := ok_iast dX0_tell_36
theorem k_2_37 : mOk M_2.1 M_2.2.1 M_2.2.2.1 M_2.2.2.2 37 (o_al 0 1) := ok_aload_n dX0_tell_37 rfl
theorem k_2_38 : mOk M_2.1 M_2.2.1 M_2.2.2.1 M_2.2.2.2 38 (o_gP 0 5) := ok_gP dX0_tell_38 f_RX0_28 rfl
theorem k_2_41 : mOk M_2.1 M_2.2.1 M_2.2.2.1 M_2.2.2.2 41 (o_al 0 1) := ok_aload_n dX0_tell_41 rfl
theorem k_2_42 : mOk M_2.1 M_2.2.1 M_2.2.2.1 M_2.2.2.2 42 (o_gI 0 2) := ok_gI dX0_tell_42 f_RX0_37 (Or.inl rfl)
theorem k_2_45 : mOk M_2.1 M_2.2.1 M_2.2.2.1 M_2.2.2.2 45 (o_al 2 1) := ok_aload_n dX0_tell_45 rfl
theorem k_2_46 : mOk M_2.1 M_2.2.1 M_2.2.2.1 M_2.2.2.2 46 (o_gP 4 8) := ok_gP dX0_tell_46 f_RX0_55 rfl
theorem k_2_49 : mOk M_2.1 M_2.2.1 M_2.2.2.1 M_2.2.2.2 49 (o_il 3 1) := ok_iload_n dX0_tell_49 rfl
theorem k_2_50 : mOk M_2.1 M_2.2.1 M_2.2.2.1 M_2.2.2.2 50 (o_iald) := ok_iald dX0_tell_50
theorem k_2_51 : mOk M_2.1 M_2.2.1 M_2.2.2.1 M_2.2.2.2 51 (o_iast) := ok_iast dX0_tell_51
theorem k_2_52 : mOk M_2.1 M_2.2.1 M_2.2.2.1 M_2.2.2.2 52 (o_al 0 1) := ok_aload_n dX0_tell_52 rfl
theorem k_2_53 : mOk M_2.1 M_2.2.1 M_2.2.2.1 M_2.2.2.2 53 (o_gP 0 6) := ok_gP dX0_tell_53 f_RX0_31 rfl
theorem k_2_56 : mOk M_2.1 M_2.2.1 M_2.2.2.1 M_2.2.2.2 56 (o_al 0 1) := ok_aload_n dX0_tell_56 rfl
theorem k_2_57 : mOk M_2.1 M_2.2.1 M_2.2.2.1 M_2.2.2.2 57 (o_gI 0 2) := ok_gI dX0_tell_57 f_RX0_37 (Or.inl rfl)
theorem k_2_60 : mOk M_2.1 M_2.2.1 M_2.2.2.1 M_2.2.2.2 60 (o_al 2 1) := ok_aload_n dX0_tell_60 rfl
theorem k_2_61 : mOk M_2.1 M_2.2.1 M_2.2.2.1 M_2.2.2.2 61 (o_gP 4 9) := ok_gP dX0_tell_61 f_RX0_56 rfl
theorem k_2_64 : mOk M_2.1 M_2.2.1 M_2.2.2.1 M_2.2.2.2 64 (o_il 3 1) := ok_iload_n dX0_tell_64 rfl
theorem k_2_65 : mOk M_2.1 M_2.2.1 M_2.2.2.1 M_2.2.2.2 65 (o_iald) := ok_iald dX0_tell_65
theorem k_2_66 : mOk M_2.1 M_2.2.1 M_2.2.2.1 M_2.2.2.2 66 (o_iast) := ok_iast dX0_tell_66
theorem k_2_67 : mOk M_2.1 M_2.2.1 M_2.2.2.1 M_2.2.2.2 67 (o_al 0 1) := ok_aload_n dX0_tell_67 rfl
theorem k_2_68 : mOk M_2.1 M_2.2.1 M_2.2.2.1 M_2.2.2.2 68 (o_gP 0 7) := ok_gP dX0_tell_68 f_RX0_34 rfl
theorem k_2_71 : mOk M_2.1 M_2.2.1 M_2.2.2.1 M_2.2.2.2 71 (o_al 0 1) := ok_aload_n dX0_tell_71 rfl
theorem k_2_72 : mOk M_2.1 M_2.2.1 M_2.2.2.1 M_2.2.2.2 72 (o_gI 0 2) := ok_gI dX0_tell_72 f_RX0_37 (Or.inl rfl)
theorem k_2_75 : mOk M_2.1 M_2.2.1 M_2.2.2.1 M_2.2.2.2 75 (o_il 4 2) := ok_iload dX0_tell_75
theorem k_2_77 : mOk M_2.1 M_2.2.1 M_2.2.2.1 M_2.2.2.2 77 (o_iast) := ok_iast dX0_tell_77
theorem k_2_78 : mOk M_2.1 M_2.2.1 M_2.2.2.1 M_2.2.2.2 78 (o_al 0 1) := ok_aload_n dX0_tell_78 rfl
theorem k_2_79 : mOk M_2.1 M_2.2.1 M_2.2.2.1 M_2.2.2.2 79 (oS 1 s_dup) := ok_dup dX0_tell_79
theorem k_2_80 : mOk M_2.1 M_2.2.1 M_2.2.2.1 M_2.2.2.2 80 (o_gI 0 2) := ok_gI dX0_tell_80 f_RX0_37 (Or.inl rfl)
theorem k_2_83 : mOk M_2.1 M_2.2.1 M_2.2.2.1 M_2.2.2.2 83 (oS 1 (s_push (.int 1))) := ok_iconst dX0_tell_83 (by decide)
theorem k_2_84 : mOk M_2.1 M_2.2.1 M_2.2.2.1 M_2.2.2.2 84 (oS 1 (s_ii (fun a b => a + b))) := ok_iadd dX0_tell_84
theorem k_2_85 : mOk M_2.1 M_2.2.1 M_2.2.2.1 M_2.2.2.2 85 (o_pI 0 2) := ok_pI dX0_tell_85 (mFw_of f_RX0_37_c (Or.inl rfl)) rfl
set_option maxRecDepth 20000 in
set_option maxHeartbeats 4000000 in
theorem tk_2 (l : Launch) (H9 : mThr l) (H10 : mSpl l) (pc : Nat) (q : mEnt) (h : tb_2 pc = some q) : EE l 2 pc q := nd h (fun h => nd h (fun h => nd h (fun h => nd h (fun h => nd h (fun h => lf (P := EE l 2) h k_2_0) (fun h => nd h (fun h => lf (P := EE l 2) h k_2_1) (fun h => lf (P := EE l 2) h k_2_4))) (fun h => nd h (fun h => lf (P := EE l 2) h k_2_5) (fun h => nd h (fun h => lf (P := EE l 2) h k_2_8) (fun h => lf (P := EE l 2) h k_2_9)))) (fun h => nd h (fun h => nd h (fun h => lf (P := EE l 2) h k_2_12) (fun h => nd h (fun h => lf (P := EE l 2) h k_2_13) (fun h => lf (P := EE l 2) h k_2_16))) (fun h => nd h (fun h => nd h (fun h => lf (P := EE l 2) h k_2_17) (fun h => lf (P := EE l 2) h k_2_20)) (fun h => nd h (fun h => lf (P := EE l 2) h k_2_21) (fun h => lf (P := EE l 2) h k_2_22))))) (fun h => nd h (fun h => nd h (fun h => nd h (fun h => lf (P := EE l 2) h k_2_23) (fun h => nd h (fun h => lf (P := EE l 2) h k_2_26) (fun h => lf (P := EE l 2) h k_2_27))) (fun h => nd h (fun h => lf (P := EE l 2) h k_2_30) (fun h => nd h (fun h => lf (P := EE l 2) h k_2_31) (fun h => lf (P := EE l 2) h k_2_34)))) (fun h => nd h (fun h => nd h (fun h => lf (P := EE l 2) h k_2_35) (fun h => nd h (fun h => lf (P := EE l 2) h k_2_36) (fun h => lf (P := EE l 2) h k_2_37))) (fun h => nd h (fun h => nd h (fun h => lf (P := EE l 2) h k_2_38) (fun h => lf (P := EE l 2) h k_2_41)) (fun h => nd h (fun h => lf (P := EE l 2) h k_2_42) (fun h => lf (P := EE l 2) h k_2_45)))))) (fun h => nd h (fun h => nd h (fun h => nd h (fun h => nd h (fun h => lf (P := EE l 2) h k_2_46) (fun h => nd h (fun h => lf (P := EE l 2) h k_2_49) (fun h => lf (P := EE l 2) h k_2_50))) (fun h => nd h (fun h => lf (P := EE l 2) h k_2_51) (fun h => nd h (fun h => lf (P := EE l 2) h k_2_52) (fun h => lf (P := EE l 2) h k_2_53)))) (fun h => nd h (fun h => nd h (fun h => lf (P := EE l 2) h k_2_56) (fun h => nd h (fun h => lf (P := EE l 2) h k_2_57) (fun h => lf (P := EE l 2) h k_2_60))) (fun h => nd h (fun h => nd h (fun h => lf (P := EE l 2) h k_2_61) (fun h => lf (P := EE l 2) h k_2_64)) (fun h => nd h (fun h => lf (P := EE l 2) h k_2_65) (fun h => lf (P := EE l 2) h k_2_66))))) (fun h => nd h (fun h => nd h (fun h => nd h (fun h => lf (P := EE l 2) h k_2_67) (fun h => nd h (fun h => lf (P := EE l 2) h k_2_68) (fun h => lf (P := EE l 2) h k_2_71))) (fun h => nd h (fun h => lf (P := EE l 2) h k_2_72) (fun h => nd h (fun h => lf (P := EE l 2) h k_2_75) (fun h => lf (P := EE l 2) h k_2_77)))) (fun h => nd h (fun h => nd h (fun h => lf (P := EE l 2) h k_2_78) (fun h => nd h (fun h => lf (P := EE l 2) h k_2_79) (fun h => lf (P := EE l 2) h k_2_80))) (fun h => nd h (fun h => nd h (fun h => lf (P := EE l 2) h k_2_83) (fun h => lf (P := EE l 2) h k_2_84)) (fun h => nd h (fun h => lf (P := EE l 2) h k_2_85) (fun h => lf (P := EE l 2) h (EE_re (Or.inr (Or.inr (Or.inr (Or.inr ⟨rfl, dX0_tell_88, rfl⟩)))))))))))
