/-! tables of X2 (written by a program) -/
theorem dX2_init_0 : decode cX2_init 0 = .ok (.aload_n 0, 1) := by decide +kernel
theorem dX2_init_1 : decode cX2_init 1 = .ok (.invokespecial 3, 3) := by decide +kernel
theorem dX2_init_4 : decode cX2_init 4 = .ok (.aload_n 0, 1) := by decide +kernel
theorem dX2_init_5 : decode cX2_init 5 = .ok (.bipush 12, 2) := by decide +kernel
theorem dX2_init_7 : decode cX2_init 7 = .ok (.newarray .int, 2) := by decide +kernel
theorem dX2_init_9 : decode cX2_init 9 = .ok (.putfield 9, 3) := by decide +kernel
theorem dX2_init_12 : decode cX2_init 12 = .ok (.aload_n 0, 1) := by decide +kernel
theorem dX2_init_13 : decode cX2_init 13 = .ok (.bipush 12, 2) := by decide +kernel
theorem dX2_init_15 : decode cX2_init 15 = .ok (.newarray .int, 2) := by decide +kernel
theorem dX2_init_17 : decode cX2_init 17 = .ok (.putfield 15, 3) := by decide +kernel
theorem dX2_init_20 : decode cX2_init 20 = .ok (.return_, 1) := by decide +kernel
def tb_14 (pc : Nat) : Option mEnt := bif Nat.ble pc 7 then (bif Nat.ble pc 1 then (bif Nat.ble pc 0 then (bif Nat.beq pc 0 then some (.inl (o_al 0 1)) else none) else (bif Nat.beq pc 1 then some (.inr (5, 0, 0, 0)) else none)) else (bif Nat.ble pc 4 then (bif Nat.beq pc 4 then some (.inl (o_al 0 1)) else none) else (bif Nat.ble pc 5 then (bif Nat.beq pc 5 then some (.inl (oS 2 (s_push (.int 12)))) else none) else (bif Nat.beq pc 7 then some (.inl (o_newa 1)) else none)))) else (bif Nat.ble pc 13 then (bif Nat.ble pc 9 then (bif Nat.beq pc 9 then some (.inl (o_pP 2 6)) else none) else (bif Nat.ble pc 12 then (bif Nat.beq pc 12 then some (.inl (o_al 0 1)) else none) else (bif Nat.beq pc 13 then some (.inl (oS 2 (s_push (.int 12)))) else none))) else (bif Nat.ble pc 15 then (bif Nat.beq pc 15 then some (.inl (o_newa 1)) else none) else (bif Nat.ble pc 17 then (bif Nat.beq pc 17 then some (.inl (o_pP 2 7)) else none) else (bif Nat.beq pc 20 then some (.inr (0, 0, 0, 3)) else none))))
theorem k_14_0 : mOk M_14.1 M_14.2.1 M_14.2.2.1 M_14.2.2.2 0 (o_al 0 1) := ok_aload_n dX2_init_0 rfl
theorem k_14_4 : mOk M_14.1 M_14.2.1 M_14.2.2.1 M_14.2.2.2 4 (o_al 0 1) := ok_aload_n dX2_init_4 rfl
theorem k_14_5 : mOk M_14.1 M_14.2.1 M_14.2.2.1 M_14.2.2.2 5 (oS 2 (s_push (.int 12))) := ok_bipush dX2_init_5 (by decide)
theorem k_14_7 : mOk M_14.1 M_14.2.1 M_14.2.2.1 M_14.2.2.2 7 (o_newa 1) := ok_newa dX2_init_7 (by decide) m_145 (fun _ => rfl) (fun _ _ h => h) (by decide) rfl
theorem k_14_9 : mOk M_14.1 M_14.2.1 M_14.2.2.1 M_14.2.2.2 9 (o_pP 2 6) := ok_pP dX2_init_9 (mFw_of f_RX2_9_c (Or.inr ⟨rfl, rfl, rfl⟩)) rfl
theorem k_14_12 : mOk M_14.1 M_14.2.1 M_14.2.2.1 M_14.2.2.2 12 (o_al 0 1) := ok_aload_n dX2_init_12 rfl
theorem k_14_13 : mOk M_14.1 M_14.2.1 M_14.2.2.1 M_14.2.2.2 13 (oS 2 (s_push (.int 12))) := ok_bipush dX2_init_13 (by decide)
theorem k_14_15 : mOk M_14.1 M_14.2.1 M_14.2.2.1 M_14.2.2.2 15 (o_newa 1) := ok_newa dX2_init_15 (by decide) m_145 (fun _ => rfl) (fun _ _ h => h) (by decide) rfl
theorem k_14_17 : mOk M_14.1 M_14.2.1 M_14.2.2.1 M_14.2.2.2 17 (o_pP 2 7) := ok_pP dX2_init_17 (mFw_of f_RX2_15_c (Or.inr ⟨rfl, rfl, rfl⟩)) rfl
set_option maxRecDepth 20000 in
set_option maxHeartbeats 4000000 in
theorem tk_14 (l : Launch) (H9 : mThr l) (H10 : mSpl l) (pc : Nat) (q : mEnt) (h : tb_14 pc = some q) : EE l 14 pc q := nd h (fun h => nd h (fun h => nd h (fun h => lf (P := EE l 14) h k_14_0) (fun h => lf (P := EE l 14) h (EE_ob (⟨3, dX2_init_1, m_104, m_97, m_98, by decide, by decide⟩)))) (fun h => nd h (fun h => lf (P := EE l 14) h k_14_4) (fun h => nd h (fun h => lf (P := EE l 14) h k_14_5) (fun h => lf (P := EE l 14) h k_14_7)))) (fun h => nd h (fun h => nd h (fun h => lf (P := EE l 14) h k_14_9) (fun h => nd h (fun h => lf (P := EE l 14) h k_14_12) (fun h => lf (P := EE l 14) h k_14_13))) (fun h => nd h (fun h => lf (P := EE l 14) h k_14_15) (fun h => nd h (fun h => lf (P := EE l 14) h k_14_17) (fun h => lf (P := EE l 14) h (EE_re (Or.inr (Or.inr (Or.inr (Or.inr ⟨rfl, dX2_init_20, rfl⟩)))))))))
theorem dX2_addCorner_0 : decode cX2_addCorner 0 = .ok (.iload_n 1, 1) := by decide +kernel
theorem dX2_addCorner_1 : decode cX2_addCorner 1 = .ok (.iload_n 2, 1) := by decide +kernel
theorem dX2_addCorner_2 : decode cX2_addCorner 2 = .ok (.invokestatic 18, 3) := by decide +kernel
theorem dX2_addCorner_5 : decode cX2_addCorner 5 = .ok (.ifCond .eq 12, 3) := by decide +kernel
theorem dX2_addCorner_8 : decode cX2_addCorner 8 = .ok (.aload_n 0, 1) := by decide +kernel
theorem dX2_addCorner_9 : decode cX2_addCorner 9 = .ok (.getfield 22, 3) := by decide +kernel
theorem dX2_addCorner_12 : decode cX2_addCorner 12 = .ok (.bipush 12, 2) := by decide +kernel
theorem dX2_addCorner_14 : decode cX2_addCorner 14 = .ok (.if_icmp .lt 5, 3) := by decide +kernel
theorem dX2_addCorner_17 : decode cX2_addCorner 17 = .ok (.iconst 0, 1) := by decide +kernel
theorem dX2_addCorner_18 : decode cX2_addCorner 18 = .ok (.ireturn, 1) := by decide +kernel
theorem dX2_addCorner_19 : decode cX2_addCorner 19 = .ok (.aload_n 0, 1) := by decide +kernel
theorem dX2_addCorner_20 : decode cX2_addCorner 20 = .ok (.getfield 9, 3) := by decide +kernel
theorem dX2_addCorner_23 : decode cX2_addCorner 23 = .ok (.aload_n 0, 1) := by decide +kernel
theorem dX2_addCorner_24 : decode cX2_addCorner 24 = .ok (.getfield 22, 3) := by decide +kernel
theorem dX2_addCorner_27 : decode cX2_addCorner 27 = .ok (.iload_n 1, 1) := by decide +kernel
theorem dX2_addCorner_28 : decode cX2_addCorner 28 = .ok (.iastore, 1) := by decide +kernel
theorem dX2_addCorner_29 : decode cX2_addCorner 29 = .ok (.aload_n 0, 1) := by decide +kernel
theorem dX2_addCorner_30 : decode cX2_addCorner 30 = .ok (.getfield 15, 3) := by decide +kernel
theorem dX2_addCorner_33 : decode cX2_addCorner 33 = .ok (.aload_n 0, 1) := by decide +kernel
theorem dX2_addCorner_34 : decode cX2_addCorner 34 = .ok (.getfield 22, 3) := by decide +kernel
theorem dX2_addCorner_37 : decode cX2_addCorner 37 = .ok (.iload_n 2, 1) := by decide +kernel
theorem dX2_addCorner_38 : decode cX2_addCorner 38 = .ok (.iastore, 1) := by decide +kernel
theorem dX2_addCorner_39 : decode cX2_addCorner 39 = .ok (.aload_n 0, 1) := by decide +kernel
theorem dX2_addCorner_40 : decode cX2_addCorner 40 = .ok (.dup, 1) := by decide +kernel
theorem dX2_addCorner_41 : decode cX2_addCorner 41 = .ok (.getfield 22, 3) := by decide +kernel
theorem dX2_addCorner_44 : decode cX2_addCorner 44 = .ok (.iconst 1, 1) := by decide +kernel
theorem dX2_addCorner_45 : decode cX2_addCorner 45 = .ok (.iadd, 1) := by decide +kernel
theorem dX2_addCorner_46 : decode cX2_addCorner 46 = .ok (.putfield 22, 3) := by decide +kernel
theorem dX2_addCorner_49 : decode cX2_addCorner 49 = .ok (.iconst 1, 1) := by decide +kernel
theorem dX2_addCorner_50 : decode cX2_addCorner 50 = .ok (.ireturn, 1) := by decide +kernel
def tb_15 (pc : Nat) : Option mEnt := bif Nat.ble pc 27 then (bif Nat.ble pc 12 then (bif Nat.ble pc 2 then (bif Nat.ble pc 0 then (bif Nat.beq pc 0 then some (.inl (o_il 1 1)) else none) else (bif Nat.ble pc 1 then (bif Nat.beq pc 1 then some (.inl (o_il 2 1)) else none) else (bif Nat.beq pc 2 then some (.inr (6, 109, 2, 0)) else none))) else (bif Nat.ble pc 8 then (bif Nat.ble pc 5 then (bif Nat.beq pc 5 then some (.inl (o_zeq 17)) else none) else (bif Nat.beq pc 8 then some (.inl (o_al 0 1)) else none)) else (bif Nat.ble pc 9 then (bif Nat.beq pc 9 then some (.inl (o_gI 2 5)) else none) else (bif Nat.beq pc 12 then some (.inl (oS 2 (s_push (.int 12)))) else none)))) else (bif Nat.ble pc 19 then (bif Nat.ble pc 17 then (bif Nat.ble pc 14 then (bif Nat.beq pc 14 then some (.inl (o_clt 19)) else none) else (bif Nat.beq pc 17 then some (.inl (oS 1 (s_push (.int 0)))) else none)) else (bif Nat.ble pc 18 then (bif Nat.beq pc 18 then some (.inr (0, 0, 0, 4)) else none) else (bif Nat.beq pc 19 then some (.inl (o_al 0 1)) else none))) else (bif Nat.ble pc 23 then (bif Nat.ble pc 20 then (bif Nat.beq pc 20 then some (.inl (o_gP 2 6)) else none) else (bif Nat.beq pc 23 then some (.inl (o_al 0 1)) else none)) else (bif Nat.ble pc 24 then (bif Nat.beq pc 24 then some (.inl (o_gI 2 5)) else none) else (bif Nat.beq pc 27 then some (.inl (o_il 1 1)) else none))))) else (bif Nat.ble pc 38 then (bif Nat.ble pc 30 then (bif Nat.ble pc 28 then (bif Nat.beq pc 28 then some (.inl (o_iast)) else none) else (bif Nat.ble pc 29 then (bif Nat.beq pc 29 then some (.inl (o_al 0 1)) else none) else (bif Nat.beq pc 30 then some (.inl (o_gP 2 7)) else none))) else (bif Nat.ble pc 34 then (bif Nat.ble pc 33 then (bif Nat.beq pc 33 then some (.inl (o_al 0 1)) else none) else (bif Nat.beq pc 34 then some (.inl (o_gI 2 5)) else none)) else (bif Nat.ble pc 37 then (bif Nat.beq pc 37 then some (.inl (o_il 2 1)) else none) else (bif Nat.beq pc 38 then some (.inl (o_iast)) else none)))) else (bif Nat.ble pc 44 then (bif Nat.ble pc 40 then (bif Nat.ble pc 39 then (bif Nat.beq pc 39 then some (.inl (o_al 0 1)) else none) else (bif Nat.beq pc 40 then some (.inl (oS 1 s_dup)) else none)) else (bif Nat.ble pc 41 then (bif Nat.beq pc 41 then some (.inl (o_gI 2 5)) else none) else (bif Nat.beq pc 44 then some (.inl (oS 1 (s_push (.int 1)))) else none))) else (bif Nat.ble pc 46 then (bif Nat.ble pc 45 then (bif Nat.beq pc 45 then some (.inl (oS 1 (s_ii (fun a b => a + b)))) else none) else (bif Nat.beq pc 46 then some (.inl (o_pI 2 5)) else none)) else (bif Nat.ble pc 49 then (bif Nat.beq pc 49 then some (.inl (oS 1 (s_push (.int 1)))) else none) else (bif Nat.beq pc 50 then some (.inr (0, 0, 0, 4)) else none)))))
theorem k_15_0 : mOk M_15.1 M_15.2.1 M_15.2.2.1 M_15.2.2.2 0 (o_il 1 1) := ok_iload_n dX2_addCorner_0 rfl
theorem k_15_1 : mOk M_15.1 M_15.2.1 M_15.2.2.1 M_15.2.2.2 1 (o_il 2 1) := ok_iload_n dX2_addCorner_1 rfl
theorem k_15_5 : mOk M_15.1 M_15.2.1 M_15.2.2.1 M_15.2.2.2 5 (o_zeq 17) := ok_zeq dX2_addCorner_5 (by decide)
theorem k_15_8 : mOk M_15.1 M_15.2.1 M_15.2.2.1 M_15.2.2.2 8 (o_al 0 1) := ok_aload_n dX2_addCorner_8 rfl
theorem k_15_9 : mOk M_15.1 M_15.2.1 M_15.2.2.1 M_15.2.2.2 9 (o_gI 2 5) := ok_gI dX2_addCorner_9 f_RX2_22 (Or.inl rfl)
theorem k_15_12 : mOk M_15.1 M_15.2.1 M_15.2.2.1 M_15.2.2.2 12 (oS 2 (s_push (.int 12))) := ok_bipush dX2_addCorner_12 (by decide)
theorem k_15_14 : mOk M_15.1 M_15.2.1 M_15.2.2.1 M_15.2.2.2 14 (o_clt 19) := ok_clt dX2_addCorner_14 (by decide)
theorem k_15_17 : mOk M_15.1 M_15.2.1 M_15.2.2.1 M_15.2.2.2 17 (oS 1 (s_push (.int 0))) := ok_iconst dX2_addCorner_17 (by decide)
theorem k_15_19 : mOk M_15.1 M_15.2.1 M_15.2.2.1 M_15.2.2.2 19 (o_al 0 1) := ok_aload_n dX2_addCorner_19 rfl
theorem k_15_20 : mOk M_15.1 M_15.2.1 M_15.2.2.1 M_15.2.2.2 20 (o_gP 2 6) := ok_gP dX2_addCorner_20 f_RX2_9 rfl
theorem k_15_23 : mOk M_15.1 M_15.2.1 M_15.2.2.1 M_15.2.2.2 23 (o_al 0 1) := ok_aload_n dX2_addCorner_23 rfl
theorem k_15_24 : mOk M_15.1 M_15.2.1 M_15.2.2.1 M_15.2.2.2 24 (o_gI 2 5) := ok_gI dX2_addCorner_24 f_RX2_22 (Or.inl rfl)
theorem k_15_27 : mOk M_15.1 M_15.2.1 M_15.2.2.1 M_15.2.2.2 27 (o_il 1 1) := ok_iload_n dX2_addCorner_27 rfl
theorem k_15_28 : mOk M_15.1 M_15.2.1 M_15.2.2.1 M_15.2.2.2 28 (o_iast) := ok_iast dX2_addCorner_28
theorem k_15_29 : mOk M_15.1 M_15.2.1 M_15.2.2.1 M_15.2.2.2 29 (o_al 0 1) := ok_aload_n dX2_addCorner_29 rfl
theorem k_15_30 : mOk M_15.1 M_15.2.1 M_15.2.2.1 M_15.2.2.2 30 (o_gP 2 7) := ok_gP dX2_addCorner_30 f_RX2_15 rfl
theorem k_15_33 : mOk M_15.1 M_15.2.1 M_15.2.2.1 M_15.2.2.2 33 (o_al 0 1) := ok_aload_n dX2_addCorner_33 rfl
theorem k_15_34 : mOk M_15.1 M_15.2.1 M_15.2.2.1 M_15.2.2.2 34 (o_gI 2 5) := ok_gI dX2_addCorner_34 f_RX2_22 (Or.inl rfl)
theorem k_15_37 : mOk M_15.1 M_15.2.1 M_15.2.2.1 M_15.2.2.2 37 (o_il 2 1) := ok_iload_n dX2_addCorner_37 rfl
theorem k_15_38 : mOk M_15.1 M_15.2.1 M_15.2.2.1 M_15.2.2.2 38 (o_iast) := ok_iast dX2_addCorner_38
theorem k_15_39 : mOk M_15.1 M_15.2.1 M_15.2.2.1 M_15.2.2.2 39 (o_al 0 1) := ok_aload_n dX2_addCorner_39 rfl
theorem k_15_40 : mOk M_15.1 M_15.2.1 M_15.2.2.1 M_15.2.2.2 40 (oS 1 s_dup) := ok_dup dX2_addCorner_40
theorem k_15_41 : mOk M_15.1 M_15.2.1 M_15.2.2.1 M_15.2.2.2 41 (o_gI 2 5) := ok_gI dX2_addCorner_41 f_RX2_22 (Or.inl rfl)
theorem k_15_44 : mOk M_15.1 M_15.2.1 M_15.2.2.1 M_15.2.2.2 44 (oS 1 (s_push (.int 1))) := ok_iconst dX2_addCorner_44 (by decide)
theorem k_15_45 : mOk M_15.1 M_15.2.1 M_15.2.2.1 M_15.2.2.2 45 (oS 1 (s_ii (fun a b => a + b))) := ok_iadd dX2_addCorner_45
theorem k_15_46 : mOk M_15.1 M_15.2.1 M_15.2.2.1 M_15.2.2.2 46 (o_pI 2 5) := ok_pI dX2_addCorner_46 (mFw_of f_RX2_22_c (Or.inl rfl)) rfl
theorem k_15_49 : mOk M_15.1 M_15.2.1 M_15.2.2.1 M_15.2.2.2 49 (oS 1 (s_push (.int 1))) := ok_iconst dX2_addCorner_49 (by decide)
set_option maxRecDepth 20000 in
set_option maxHeartbeats 4000000 in
theorem tk_15 (l : Launch) (H9 : mThr l) (H10 : mSpl l) (pc : Nat) (q : mEnt) (h : tb_15 pc = some q) : EE l 15 pc q := nd h (fun h => nd h (fun h => nd h (fun h => nd h (fun h => lf (P := EE l 15) h k_15_0) (fun h => nd h (fun h => lf (P := EE l 15) h k_15_1) (fun h => lf (P := EE l 15) h (EE_ca (by decide) (⟨m_471, m_70, ⟨by decide, by decide⟩, by decide +kernel, ⟨by decide, by decide⟩, 18, 2, by decide +kernel, Or.inr (Or.inl ⟨rfl, rfl, dX2_addCorner_2, ⟨"AtlasDesk", m_469⟩, m_470⟩)⟩) rfl)))) (fun h => nd h (fun h => nd h (fun h => lf (P := EE l 15) h k_15_5) (fun h => lf (P := EE l 15) h k_15_8)) (fun h => nd h (fun h => lf (P := EE l 15) h k_15_9) (fun h => lf (P := EE l 15) h k_15_12)))) (fun h => nd h (fun h => nd h (fun h => nd h (fun h => lf (P := EE l 15) h k_15_14) (fun h => lf (P := EE l 15) h k_15_17)) (fun h => nd h (fun h => lf (P := EE l 15) h (EE_re (Or.inr (Or.inl ⟨rfl, dX2_addCorner_18, rfl⟩)))) (fun h => lf (P := EE l 15) h k_15_19))) (fun h => nd h (fun h => nd h (fun h => lf (P := EE l 15) h k_15_20) (fun h => lf (P := EE l 15) h k_15_23)) (fun h => nd h (fun h => lf (P := EE l 15) h k_15_24) (fun h => lf (P := EE l 15) h k_15_27))))) (fun h => nd h (fun h => nd h (fun h => nd h (fun h => lf (P := EE l 15) h k_15_28) (fun h => nd h (fun h => lf (P := EE l 15) h k_15_29) (fun h => lf (P := EE l 15) h k_15_30))) (fun h => nd h (fun h => nd h (fun h => lf (P := EE l 15) h k_15_33) (fun h => lf (P := EE l 15) h k_15_34)) (fun h => nd h (fun h => lf (P := EE l 15) h k_15_37) (fun h => lf (P := EE l 15) h k_15_38)))) (fun h => nd h (fun h => nd h (fun h => nd h (fun h => lf (P := EE l 15) h k_15_39) (fun h => lf (P := EE l 15) h k_15_40)) (fun h => nd h (fun h => lf (P := EE l 15) h k_15_41) (fun h => lf (P := EE l 15) h k_15_44))) (fun h => nd h (fun h => nd h (fun h => lf (P := EE l 15) h k_15_45) (fun h => lf (P := EE l 15) h k_15_46)) (fun h => nd h (fun h => lf (P := EE l 15) h k_15_49) (fun h => lf (P := EE l 15) h (EE_re (Or.inr (Or.inl ⟨rfl, dX2_addCorner_50, rfl⟩))))))))
theorem dX2_describe_0 : decode cX2_describe 0 = .ok (.aload_n 0, 1) := by decide +kernel
theorem dX2_describe_1 : decode cX2_describe 1 = .ok (.iload_n 1, 1) := by decide +kernel
theorem dX2_describe_2 : decode cX2_describe 2 = .ok (.putfield 26, 3) := by decide +kernel
theorem dX2_describe_5 : decode cX2_describe 5 = .ok (.aload_n 0, 1) := by decide +kernel
theorem dX2_describe_6 : decode cX2_describe 6 = .ok (.iload_n 2, 1) := by decide +kernel
theorem dX2_describe_7 : decode cX2_describe 7 = .ok (.putfield 29, 3) := by decide +kernel
theorem dX2_describe_10 : decode cX2_describe 10 = .ok (.aload_n 0, 1) := by decide +kernel
theorem dX2_describe_11 : decode cX2_describe 11 = .ok (.iload_n 3, 1) := by decide +kernel
theorem dX2_describe_12 : decode cX2_describe 12 = .ok (.putfield 32, 3) := by decide +kernel
theorem dX2_describe_15 : decode cX2_describe 15 = .ok (.aload_n 0, 1) := by decide +kernel
theorem dX2_describe_16 : decode cX2_describe 16 = .ok (.iload 4, 2) := by decide +kernel
theorem dX2_describe_18 : decode cX2_describe 18 = .ok (.putfield 35, 3) := by decide +kernel
theorem dX2_describe_21 : decode cX2_describe 21 = .ok (.aload_n 0, 1) := by decide +kernel
theorem dX2_describe_22 : decode cX2_describe 22 = .ok (.lload 5, 2) := by decide +kernel
theorem dX2_describe_24 : decode cX2_describe 24 = .ok (.putfield 38, 3) := by decide +kernel
theorem dX2_describe_27 : decode cX2_describe 27 = .ok (.return_, 1) := by decide +kernel
def tb_16 (pc : Nat) : Option mEnt := bif Nat.ble pc 11 then (bif Nat.ble pc 5 then (bif Nat.ble pc 1 then (bif Nat.ble pc 0 then (bif Nat.beq pc 0 then some (.inl (o_al 0 1)) else none) else (bif Nat.beq pc 1 then some (.inl (o_il 1 1)) else none)) else (bif Nat.ble pc 2 then (bif Nat.beq pc 2 then some (.inl (o_pI 2 0)) else none) else (bif Nat.beq pc 5 then some (.inl (o_al 0 1)) else none))) else (bif Nat.ble pc 7 then (bif Nat.ble pc 6 then (bif Nat.beq pc 6 then some (.inl (o_il 2 1)) else none) else (bif Nat.beq pc 7 then some (.inl (o_pI 2 1)) else none)) else (bif Nat.ble pc 10 then (bif Nat.beq pc 10 then some (.inl (o_al 0 1)) else none) else (bif Nat.beq pc 11 then some (.inl (o_il 3 1)) else none)))) else (bif Nat.ble pc 18 then (bif Nat.ble pc 15 then (bif Nat.ble pc 12 then (bif Nat.beq pc 12 then some (.inl (o_pI 2 2)) else none) else (bif Nat.beq pc 15 then some (.inl (o_al 0 1)) else none)) else (bif Nat.ble pc 16 then (bif Nat.beq pc 16 then some (.inl (o_il 4 2)) else none) else (bif Nat.beq pc 18 then some (.inl (o_pI 2 3)) else none))) else (bif Nat.ble pc 22 then (bif Nat.ble pc 21 then (bif Nat.beq pc 21 then some (.inl (o_al 0 1)) else none) else (bif Nat.beq pc 22 then some (.inl (o_ll 5 2)) else none)) else (bif Nat.ble pc 24 then (bif Nat.beq pc 24 then some (.inl (o_pJ 2 4)) else none) else (bif Nat.beq pc 27 then some (.inr (0, 0, 0, 3)) else none))))
theorem k_16_0 : mOk M_16.1 M_16.2.1 M_16.2.2.1 M_16.2.2.2 0 (o_al 0 1) := ok_aload_n dX2_describe_0 rfl
theorem k_16_1 : mOk M_16.1 M_16.2.1 M_16.2.2.1 M_16.2.2.2 1 (o_il 1 1) := ok_iload_n dX2_describe_1 rfl
theorem k_16_2 : mOk M_16.1 M_16.2.1 M_16.2.2.1 M_16.2.2.2 2 (o_pI 2 0) := ok_pI dX2_describe_2 (mFw_of f_RX2_26_c (Or.inl rfl)) rfl
theorem k_16_5 : mOk M_16.1 M_16.2.1 M_16.2.2.1 M_16.2.2.2 5 (o_al 0 1) := ok_aload_n dX2_describe_5 rfl
theorem k_16_6 : mOk M_16.1 M_16.2.1 M_16.2.2.1 M_16.2.2.2 6 (o_il 2 1) := ok_iload_n dX2_describe_6 rfl
theorem k_16_7 : mOk M_16.1 M_16.2.1 M_16.2.2.1 M_16.2.2.2 7 (o_pI 2 1) := ok_pI dX2_describe_7 (mFw_of f_RX2_29_c (Or.inl rfl)) rfl
theorem k_16_10 : mOk M_16.1 M_16.2.1 M_16.2.2.1 M_16.2.2.2 10 (o_al 0 1) := ok_aload_n dX2_describe_10 rfl
theorem k_16_11 : mOk M_16.1 M_16.2.1 M_16.2.2.1 M_16.2.2.2 11 (o_il 3 1) := ok_iload_n dX2_describe_11 rfl
theorem k_16_12 : mOk M_16.1 M_16.2.1 M_16.2.2.1 M_16.2.2.2 12 (o_pI 2 2) := ok_pI dX2_describe_12 (mFw_of f_RX2_32_c (Or.inl rfl)) rfl
theorem k_16_15 : mOk M_16.1 M_16.2.1 M_16.2.2.1 M_16.2.2.2 15 (o_al 0 1) := ok_aload_n dX2_describe_15 rfl
theorem k_16_16 : mOk M_16.1 M_16.2.1 M_16.2.2.1 M_16.2.2.2 16 (o_il 4 2) := ok_iload dX2_describe_16
theorem k_16_18 : mOk M_16.1 M_16.2.1 M_16.2.2.1 M_16.2.2.2 18 (o_pI 2 3) := ok_pI dX2_describe_18 (mFw_of f_RX2_35_c (Or.inl rfl)) rfl
theorem k_16_21 : mOk M_16.1 M_16.2.1 M_16.2.2.1 M_16.2.2.2 21 (o_al 0 1) := ok_aload_n dX2_describe_21 rfl
theorem k_16_22 : mOk M_16.1 M_16.2.1 M_16.2.2.1 M_16.2.2.2 22 (o_ll 5 2) := ok_lload dX2_describe_22
theorem k_16_24 : mOk M_16.1 M_16.2.1 M_16.2.2.1 M_16.2.2.2 24 (o_pJ 2 4) := ok_pJ dX2_describe_24 (mFw_of f_RX2_38_c (Or.inl rfl)) rfl
set_option maxRecDepth 20000 in
set_option maxHeartbeats 4000000 in
theorem tk_16 (l : Launch) (H9 : mThr l) (H10 : mSpl l) (pc : Nat) (q : mEnt) (h : tb_16 pc = some q) : EE l 16 pc q := nd h (fun h => nd h (fun h => nd h (fun h => nd h (fun h => lf (P := EE l 16) h k_16_0) (fun h => lf (P := EE l 16) h k_16_1)) (fun h => nd h (fun h => lf (P := EE l 16) h k_16_2) (fun h => lf (P := EE l 16) h k_16_5))) (fun h => nd h (fun h => nd h (fun h => lf (P := EE l 16) h k_16_6) (fun h => lf (P := EE l 16) h k_16_7)) (fun h => nd h (fun h => lf (P := EE l 16) h k_16_10) (fun h => lf (P := EE l 16) h k_16_11)))) (fun h => nd h (fun h => nd h (fun h => nd h (fun h => lf (P := EE l 16) h k_16_12) (fun h => lf (P := EE l 16) h k_16_15)) (fun h => nd h (fun h => lf (P := EE l 16) h k_16_16) (fun h => lf (P := EE l 16) h k_16_18))) (fun h => nd h (fun h => nd h (fun h => lf (P := EE l 16) h k_16_21) (fun h => lf (P := EE l 16) h k_16_22)) (fun h => nd h (fun h => lf (P := EE l 16) h k_16_24) (fun h => lf (P := EE l 16) h (EE_re (Or.inr (Or.inr (Or.inr (Or.inr ⟨rfl, dX2_describe_27, rfl⟩)))))))))
theorem dX2_copyFrom_0 : decode cX2_copyFrom 0 = .ok (.aload_n 0, 1) := by decide +kernel
theorem dX2_copyFrom_1 : decode cX2_copyFrom 1 = .ok (.aload_n 1, 1) := by decide +kernel
theorem dX2_copyFrom_2 : decode cX2_copyFrom 2 = .ok (.getfield 26, 3) := by decide +kernel
theorem dX2_copyFrom_5 : decode cX2_copyFrom 5 = .ok (.aload_n 1, 1) := by decide +kernel
theorem dX2_copyFrom_6 : decode cX2_copyFrom 6 = .ok (.getfield 29, 3) := by decide +kernel
theorem dX2_copyFrom_9 : decode cX2_copyFrom 9 = .ok (.aload_n 1, 1) := by decide +kernel
theorem dX2_copyFrom_10 : decode cX2_copyFrom 10 = .ok (.getfield 32, 3) := by decide +kernel
theorem dX2_copyFrom_13 : decode cX2_copyFrom 13 = .ok (.aload_n 1, 1) := by decide +kernel
theorem dX2_copyFrom_14 : decode cX2_copyFrom 14 = .ok (.getfield 35, 3) := by decide +kernel
theorem dX2_copyFrom_17 : decode cX2_copyFrom 17 = .ok (.aload_n 1, 1) := by decide +kernel
theorem dX2_copyFrom_18 : decode cX2_copyFrom 18 = .ok (.getfield 38, 3) := by decide +kernel
theorem dX2_copyFrom_21 : decode cX2_copyFrom 21 = .ok (.invokevirtual 42, 3) := by decide +kernel
theorem dX2_copyFrom_24 : decode cX2_copyFrom 24 = .ok (.aload_n 0, 1) := by decide +kernel
theorem dX2_copyFrom_25 : decode cX2_copyFrom 25 = .ok (.aload_n 1, 1) := by decide +kernel
theorem dX2_copyFrom_26 : decode cX2_copyFrom 26 = .ok (.getfield 22, 3) := by decide +kernel
theorem dX2_copyFrom_29 : decode cX2_copyFrom 29 = .ok (.putfield 22, 3) := by decide +kernel
theorem dX2_copyFrom_32 : decode cX2_copyFrom 32 = .ok (.aload_n 1, 1) := by decide +kernel
theorem dX2_copyFrom_33 : decode cX2_copyFrom 33 = .ok (.getfield 9, 3) := by decide +kernel
theorem dX2_copyFrom_36 : decode cX2_copyFrom 36 = .ok (.iconst 0, 1) := by decide +kernel
theorem dX2_copyFrom_37 : decode cX2_copyFrom 37 = .ok (.aload_n 0, 1) := by decide +kernel
theorem dX2_copyFrom_38 : decode cX2_copyFrom 38 = .ok (.getfield 9, 3) := by decide +kernel
theorem dX2_copyFrom_41 : decode cX2_copyFrom 41 = .ok (.iconst 0, 1) := by decide +kernel
theorem dX2_copyFrom_42 : decode cX2_copyFrom 42 = .ok (.bipush 12, 2) := by decide +kernel
theorem dX2_copyFrom_44 : decode cX2_copyFrom 44 = .ok (.invokestatic 46, 3) := by decide +kernel
theorem dX2_copyFrom_47 : decode cX2_copyFrom 47 = .ok (.aload_n 1, 1) := by decide +kernel
theorem dX2_copyFrom_48 : decode cX2_copyFrom 48 = .ok (.getfield 15, 3) := by decide +kernel
theorem dX2_copyFrom_51 : decode cX2_copyFrom 51 = .ok (.iconst 0, 1) := by decide +kernel
theorem dX2_copyFrom_52 : decode cX2_copyFrom 52 = .ok (.aload_n 0, 1) := by decide +kernel
theorem dX2_copyFrom_53 : decode cX2_copyFrom 53 = .ok (.getfield 15, 3) := by decide +kernel
theorem dX2_copyFrom_56 : decode cX2_copyFrom 56 = .ok (.iconst 0, 1) := by decide +kernel
theorem dX2_copyFrom_57 : decode cX2_copyFrom 57 = .ok (.bipush 12, 2) := by decide +kernel
theorem dX2_copyFrom_59 : decode cX2_copyFrom 59 = .ok (.invokestatic 46, 3) := by decide +kernel
theorem dX2_copyFrom_62 : decode cX2_copyFrom 62 = .ok (.return_, 1) := by decide +kernel
def tb_17 (pc : Nat) : Option mEnt := bif Nat.ble pc 29 then (bif Nat.ble pc 13 then (bif Nat.ble pc 5 then (bif Nat.ble pc 1 then (bif Nat.ble pc 0 then (bif Nat.beq pc 0 then some (.inl (o_al 0 1)) else none) else (bif Nat.beq pc 1 then some (.inl (o_al 1 1)) else none)) else (bif Nat.ble pc 2 then (bif Nat.beq pc 2 then some (.inl (o_gI 2 0)) else none) else (bif Nat.beq pc 5 then some (.inl (o_al 1 1)) else none))) else (bif Nat.ble pc 9 then (bif Nat.ble pc 6 then (bif Nat.beq pc 6 then some (.inl (o_gI 2 1)) else none) else (bif Nat.beq pc 9 then some (.inl (o_al 1 1)) else none)) else (bif Nat.ble pc 10 then (bif Nat.beq pc 10 then some (.inl (o_gI 2 2)) else none) else (bif Nat.beq pc 13 then some (.inl (o_al 1 1)) else none)))) else (bif Nat.ble pc 21 then (bif Nat.ble pc 17 then (bif Nat.ble pc 14 then (bif Nat.beq pc 14 then some (.inl (o_gI 2 3)) else none) else (bif Nat.beq pc 17 then some (.inl (o_al 1 1)) else none)) else (bif Nat.ble pc 18 then (bif Nat.beq pc 18 then some (.inl (o_gJ 2 4)) else none) else (bif Nat.beq pc 21 then some (.inr (3, 16, 6, 2)) else none))) else (bif Nat.ble pc 25 then (bif Nat.ble pc 24 then (bif Nat.beq pc 24 then some (.inl (o_al 0 1)) else none) else (bif Nat.beq pc 25 then some (.inl (o_al 1 1)) else none)) else (bif Nat.ble pc 26 then (bif Nat.beq pc 26 then some (.inl (o_gI 2 5)) else none) else (bif Nat.beq pc 29 then some (.inl (o_pI 2 5)) else none))))) else (bif Nat.ble pc 44 then (bif Nat.ble pc 37 then (bif Nat.ble pc 33 then (bif Nat.ble pc 32 then (bif Nat.beq pc 32 then some (.inl (o_al 1 1)) else none) else (bif Nat.beq pc 33 then some (.inl (o_gP 2 6)) else none)) else (bif Nat.ble pc 36 then (bif Nat.beq pc 36 then some (.inl (oS 1 (s_push (.int 0)))) else none) else (bif Nat.beq pc 37 then some (.inl (o_al 0 1)) else none))) else (bif Nat.ble pc 41 then (bif Nat.ble pc 38 then (bif Nat.beq pc 38 then some (.inl (o_gP 2 6)) else none) else (bif Nat.beq pc 41 then some (.inl (oS 1 (s_push (.int 0)))) else none)) else (bif Nat.ble pc 42 then (bif Nat.beq pc 42 then some (.inl (oS 2 (s_push (.int 12)))) else none) else (bif Nat.beq pc 44 then some (.inr (1, 0, 0, 0)) else none)))) else (bif Nat.ble pc 52 then (bif Nat.ble pc 48 then (bif Nat.ble pc 47 then (bif Nat.beq pc 47 then some (.inl (o_al 1 1)) else none) else (bif Nat.beq pc 48 then some (.inl (o_gP 2 7)) else none)) else (bif Nat.ble pc 51 then (bif Nat.beq pc 51 then some (.inl (oS 1 (s_push (.int 0)))) else none) else (bif Nat.beq pc 52 then some (.inl (o_al 0 1)) else none))) else (bif Nat.ble pc 56 then (bif Nat.ble pc 53 then (bif Nat.beq pc 53 then some (.inl (o_gP 2 7)) else none) else (bif Nat.beq pc 56 then some (.inl (oS 1 (s_push (.int 0)))) else none)) else (bif Nat.ble pc 57 then (bif Nat.beq pc 57 then some (.inl (oS 2 (s_push (.int 12)))) else none) else (bif Nat.ble pc 59 then (bif Nat.beq pc 59 then some (.inr (1, 0, 0, 0)) else none) else (bif Nat.beq pc 62 then some (.inr (0, 0, 0, 3)) else none))))))
theorem k_17_0 : mOk M_17.1 M_17.2.1 M_17.2.2.1 M_17.2.2.2 0 (o_al 0 1) := ok_aload_n dX2_copyFrom_0 rfl
theorem k_17_1 : mOk M_17.1 M_17.2.1 M_17.2.2.1 M_17.2.2.2 1 (o_al 1 1) := ok_aload_n dX2_copyFrom_1 rfl
theorem k_17_2 : mOk M_17.1 M_17.2.1 M_17.2.2.1 M_17.2.2.2 2 (o_gI 2 0) := ok_gI dX2_copyFrom_2 f_RX2_26 (Or.inl rfl)
theorem k_17_5 : mOk M_17.1 M_17.2.1 M_17.2.2.1 M_17.2.2.2 5 (o_al 1 1) := ok_aload_n dX2_copyFrom_5 rfl
theorem k_17_6 : mOk M_17.1 M_17.2.1 M_17.2.2.1 M_17.2.2.2 6 (o_gI 2 1) := ok_gI dX2_copyFrom_6 f_RX2_29 (Or.inl rfl)
theorem k_17_9 : mOk M_17.1 M_17.2.1 M_17.2.2.1 M_17.2.2.2 9 (o_al 1 1) := ok_aload_n dX2_copyFrom_9 rfl
theorem k_17_10 : mOk M_17.1 M_17.2.1 M_17.2.2.1 M_17.2.2.2 10 (o_gI 2 2) := ok_gI dX2_copyFrom_10 f_RX2_32 (Or.inl rfl)
theorem k_17_13 : mOk M_17.1 M_17.2.1 M_17.2.2.1 M_17.2.2.2 13 (o_al 1 1) := ok_aload_n dX2_copyFrom_13 rfl
theorem k_17_14 : mOk M_17.1 M_17.2.1 M_17.2.2.1 M_17.2.2.2 14 (o_gI 2 3) := ok_gI dX2_copyFrom_14 f_RX2_35 (Or.inl rfl)
theorem k_17_17 : mOk M_17.1 M_17.2.1 M_17.2.2.1 M_17.2.2.2 17 (o_al 1 1) := ok_aload_n dX2_copyFrom_17 rfl
theorem k_17_18 : mOk M_17.1 M_17.2.1 M_17.2.2.1 M_17.2.2.2 18 (o_gJ 2 4) := ok_gJ dX2_copyFrom_18 f_RX2_38 rfl
theorem k_17_24 : mOk M_17.1 M_17.2.1 M_17.2.2.1 M_17.2.2.2 24 (o_al 0 1) := ok_aload_n dX2_copyFrom_24 rfl
theorem k_17_25 : mOk M_17.1 M_17.2.1 M_17.2.2.1 M_17.2.2.2 25 (o_al 1 1) := ok_aload_n dX2_copyFrom_25 rfl
theorem k_17_26 : mOk M_17.1 M_17.2.1 M_17.2.2.1 M_17.2.2.2 26 (o_gI 2 5) := ok_gI dX2_copyFrom_26 f_RX2_22 (Or.inl rfl)
theorem k_17_29 : mOk M_17.1 M_17.2.1 M_17.2.2.1 M_17.2.2.2 29 (o_pI 2 5) := ok_pI dX2_copyFrom_29 (mFw_of f_RX2_22_c (Or.inl rfl)) rfl
theorem k_17_32 : mOk M_17.1 M_17.2.1 M_17.2.2.1 M_17.2.2.2 32 (o_al 1 1) := ok_aload_n dX2_copyFrom_32 rfl
theorem k_17_33 : mOk M_17.1 M_17.2.1 M_17.2.2.1 M_17.2.2.2 33 (o_gP 2 6) := ok_gP dX2_copyFrom_33 f_RX2_9 rfl
theorem k_17_36 : mOk M_17.1 M_17.2.1 M_17.2.2.1 M_17.2.2.2 36 (oS 1 (s_push (.int 0))) := ok_iconst dX2_copyFrom_36 (by decide)
theorem k_17_37 : mOk M_17.1 M_17.2.1 M_17.2.2.1 M_17.2.2.2 37 (o_al 0 1) := ok_aload_n dX2_copyFrom_37 rfl
theorem k_17_38 : mOk M_17.1 M_17.2.1 M_17.2.2.1 M_17.2.2.2 38 (o_gP 2 6) := ok_gP dX2_copyFrom_38 f_RX2_9 rfl
theorem k_17_41 : mOk M_17.1 M_17.2.1 M_17.2.2.1 M_17.2.2.2 41 (oS 1 (s_push (.int 0))) := ok_iconst dX2_copyFrom_41 (by decide)
theorem k_17_42 : mOk M_17.1 M_17.2.1 M_17.2.2.1 M_17.2.2.2 42 (oS 2 (s_push (.int 12))) := ok_bipush dX2_copyFrom_42 (by decide)
theorem k_17_47 : mOk M_17.1 M_17.2.1 M_17.2.2.1 M_17.2.2.2 47 (o_al 1 1) := ok_aload_n dX2_copyFrom_47 rfl
theorem k_17_48 : mOk M_17.1 M_17.2.1 M_17.2.2.1 M_17.2.2.2 48 (o_gP 2 7) := ok_gP dX2_copyFrom_48 f_RX2_15 rfl
theorem k_17_51 : mOk M_17.1 M_17.2.1 M_17.2.2.1 M_17.2.2.2 51 (oS 1 (s_push (.int 0))) := ok_iconst dX2_copyFrom_51 (by decide)
theorem k_17_52 : mOk M_17.1 M_17.2.1 M_17.2.2.1 M_17.2.2.2 52 (o_al 0 1) := ok_aload_n dX2_copyFrom_52 rfl
theorem k_17_53 : mOk M_17.1 M_17.2.1 M_17.2.2.1 M_17.2.2.2 53 (o_gP 2 7) := ok_gP dX2_copyFrom_53 f_RX2_15 rfl
theorem k_17_56 : mOk M_17.1 M_17.2.1 M_17.2.2.1 M_17.2.2.2 56 (oS 1 (s_push (.int 0))) := ok_iconst dX2_copyFrom_56 (by decide)
theorem k_17_57 : mOk M_17.1 M_17.2.1 M_17.2.2.1 M_17.2.2.2 57 (oS 2 (s_push (.int 12))) := ok_bipush dX2_copyFrom_57 (by decide)
set_option maxRecDepth 20000 in
set_option maxHeartbeats 4000000 in
theorem tk_17 (l : Launch) (H9 : mThr l) (H10 : mSpl l) (pc : Nat) (q : mEnt) (h : tb_17 pc = some q) : EE l 17 pc q := nd h (fun h => nd h (fun h => nd h (fun h => nd h (fun h => nd h (fun h => lf (P := EE l 17) h k_17_0) (fun h => lf (P := EE l 17) h k_17_1)) (fun h => nd h (fun h => lf (P := EE l 17) h k_17_2) (fun h => lf (P := EE l 17) h k_17_5))) (fun h => nd h (fun h => nd h (fun h => lf (P := EE l 17) h k_17_6) (fun h => lf (P := EE l 17) h k_17_9)) (fun h => nd h (fun h => lf (P := EE l 17) h k_17_10) (fun h => lf (P := EE l 17) h k_17_13)))) (fun h => nd h (fun h => nd h (fun h => nd h (fun h => lf (P := EE l 17) h k_17_14) (fun h => lf (P := EE l 17) h k_17_17)) (fun h => nd h (fun h => lf (P := EE l 17) h k_17_18) (fun h => lf (P := EE l 17) h (EE_ca (by decide) (⟨m_503, m_71, ⟨by decide, by decide⟩, by decide +kernel, ⟨by decide, by decide⟩, 42, 5, by decide +kernel, Or.inr (Or.inr (Or.inl ⟨rfl, rfl, dX2_copyFrom_21, m_500, m_501, _, rfl, by decide, m_502⟩))⟩) rfl)))) (fun h => nd h (fun h => nd h (fun h => lf (P := EE l 17) h k_17_24) (fun h => lf (P := EE l 17) h k_17_25)) (fun h => nd h (fun h => lf (P := EE l 17) h k_17_26) (fun h => lf (P := EE l 17) h k_17_29))))) (fun h => nd h (fun h => nd h (fun h => nd h (fun h => nd h (fun h => lf (P := EE l 17) h k_17_32) (fun h => lf (P := EE l 17) h k_17_33)) (fun h => nd h (fun h => lf (P := EE l 17) h k_17_36) (fun h => lf (P := EE l 17) h k_17_37))) (fun h => nd h (fun h => nd h (fun h => lf (P := EE l 17) h k_17_38) (fun h => lf (P := EE l 17) h k_17_41)) (fun h => nd h (fun h => lf (P := EE l 17) h k_17_42) (fun h => lf (P := EE l 17) h (EE_cp (⟨46, dX2_copyFrom_44, m_504, m_506, m_505, m_83, by decide, by decide⟩)))))) (fun h => nd h (fun h => nd h (fun h => nd h (fun h => lf (P := EE l 17) h k_17_47) (fun h => lf (P := EE l 17) h k_17_48)) (fun h => nd h (fun h => lf (P := EE l 17) h k_17_51) (fun h => lf (P := EE l 17) h k_17_52))) (fun h => nd h (fun h => nd h (fun h => lf (P := EE l 17) h k_17_53) (fun h => lf (P := EE l 17) h k_17_56)) (fun h => nd h (fun h => lf (P := EE l 17) h k_17_57) (fun h => nd h (fun h => lf (P := EE l 17) h (EE_cp (⟨46, dX2_copyFrom_59, m_504, m_506, m_505, m_83, by decide, by decide⟩))) (fun h => lf (P := EE l 17) h (EE_re (Or.inr (Or.inr (Or.inr (Or.inr ⟨rfl, dX2_copyFrom_62, rfl⟩)))))))))))
theorem dX2_isDescribed_0 : decode cX2_isDescribed 0 = .ok (.aload_n 0, 1) := by decide +kernel
theorem dX2_isDescribed_1 : decode cX2_isDescribed 1 = .ok (.getfield 26, 3) := by decide +kernel
theorem dX2_isDescribed_4 : decode cX2_isDescribed 4 = .ok (.iconst 1, 1) := by decide +kernel
theorem dX2_isDescribed_5 : decode cX2_isDescribed 5 = .ok (.if_icmp .lt 53, 3) := by decide +kernel
theorem dX2_isDescribed_8 : decode cX2_isDescribed 8 = .ok (.aload_n 0, 1) := by decide +kernel
theorem dX2_isDescribed_9 : decode cX2_isDescribed 9 = .ok (.getfield 26, 3) := by decide +kernel
theorem dX2_isDescribed_12 : decode cX2_isDescribed 12 = .ok (.sipush 9999, 3) := by decide +kernel
theorem dX2_isDescribed_15 : decode cX2_isDescribed 15 = .ok (.if_icmp .gt 43, 3) := by decide +kernel
theorem dX2_isDescribed_18 : decode cX2_isDescribed 18 = .ok (.aload_n 0, 1) := by decide +kernel
theorem dX2_isDescribed_19 : decode cX2_isDescribed 19 = .ok (.getfield 32, 3) := by decide +kernel
theorem dX2_isDescribed_22 : decode cX2_isDescribed 22 = .ok (.ifCond .lt 36, 3) := by decide +kernel
theorem dX2_isDescribed_25 : decode cX2_isDescribed 25 = .ok (.aload_n 0, 1) := by decide +kernel
theorem dX2_isDescribed_26 : decode cX2_isDescribed 26 = .ok (.getfield 32, 3) := by decide +kernel
theorem dX2_isDescribed_29 : decode cX2_isDescribed 29 = .ok (.bipush 9, 2) := by decide +kernel
theorem dX2_isDescribed_31 : decode cX2_isDescribed 31 = .ok (.if_icmp .gt 27, 3) := by decide +kernel
theorem dX2_isDescribed_34 : decode cX2_isDescribed 34 = .ok (.aload_n 0, 1) := by decide +kernel
theorem dX2_isDescribed_35 : decode cX2_isDescribed 35 = .ok (.getfield 35, 3) := by decide +kernel
theorem dX2_isDescribed_38 : decode cX2_isDescribed 38 = .ok (.invokestatic 52, 3) := by decide +kernel
theorem dX2_isDescribed_41 : decode cX2_isDescribed 41 = .ok (.ifCond .eq 17, 3) := by decide +kernel
theorem dX2_isDescribed_44 : decode cX2_isDescribed 44 = .ok (.aload_n 0, 1) := by decide +kernel
theorem dX2_isDescribed_45 : decode cX2_isDescribed 45 = .ok (.getfield 38, 3) := by decide +kernel
theorem dX2_isDescribed_48 : decode cX2_isDescribed 48 = .ok (.invokestatic 56, 3) := by decide +kernel
theorem dX2_isDescribed_51 : decode cX2_isDescribed 51 = .ok (.ifCond .eq 7, 3) := by decide +kernel
theorem dX2_isDescribed_54 : decode cX2_isDescribed 54 = .ok (.iconst 1, 1) := by decide +kernel
theorem dX2_isDescribed_55 : decode cX2_isDescribed 55 = .ok (.goto 4, 3) := by decide +kernel
theorem dX2_isDescribed_58 : decode cX2_isDescribed 58 = .ok (.iconst 0, 1) := by decide +kernel
theorem dX2_isDescribed_59 : decode cX2_isDescribed 59 = .ok (.ireturn, 1) := by decide +kernel
def tb_18 (pc : Nat) : Option mEnt := bif Nat.ble pc 26 then (bif Nat.ble pc 9 then (bif Nat.ble pc 4 then (bif Nat.ble pc 0 then (bif Nat.beq pc 0 then some (.inl (o_al 0 1)) else none) else (bif Nat.ble pc 1 then (bif Nat.beq pc 1 then some (.inl (o_gI 2 0)) else none) else (bif Nat.beq pc 4 then some (.inl (oS 1 (s_push (.int 1)))) else none))) else (bif Nat.ble pc 5 then (bif Nat.beq pc 5 then some (.inl (o_clt 58)) else none) else (bif Nat.ble pc 8 then (bif Nat.beq pc 8 then some (.inl (o_al 0 1)) else none) else (bif Nat.beq pc 9 then some (.inl (o_gI 2 0)) else none)))) else (bif Nat.ble pc 18 then (bif Nat.ble pc 12 then (bif Nat.beq pc 12 then some (.inl (oS 3 (s_push (.int 9999)))) else none) else (bif Nat.ble pc 15 then (bif Nat.beq pc 15 then some (.inl (o_cgt 58)) else none) else (bif Nat.beq pc 18 then some (.inl (o_al 0 1)) else none))) else (bif Nat.ble pc 22 then (bif Nat.ble pc 19 then (bif Nat.beq pc 19 then some (.inl (o_gI 2 2)) else none) else (bif Nat.beq pc 22 then some (.inl (o_zlt 58)) else none)) else (bif Nat.ble pc 25 then (bif Nat.beq pc 25 then some (.inl (o_al 0 1)) else none) else (bif Nat.beq pc 26 then some (.inl (o_gI 2 2)) else none))))) else (bif Nat.ble pc 44 then (bif Nat.ble pc 34 then (bif Nat.ble pc 29 then (bif Nat.beq pc 29 then some (.inl (oS 2 (s_push (.int 9)))) else none) else (bif Nat.ble pc 31 then (bif Nat.beq pc 31 then some (.inl (o_cgt 58)) else none) else (bif Nat.beq pc 34 then some (.inl (o_al 0 1)) else none))) else (bif Nat.ble pc 38 then (bif Nat.ble pc 35 then (bif Nat.beq pc 35 then some (.inl (o_gI 2 3)) else none) else (bif Nat.beq pc 38 then some (.inr (6, 110, 1, 0)) else none)) else (bif Nat.ble pc 41 then (bif Nat.beq pc 41 then some (.inl (o_zeq 58)) else none) else (bif Nat.beq pc 44 then some (.inl (o_al 0 1)) else none)))) else (bif Nat.ble pc 51 then (bif Nat.ble pc 45 then (bif Nat.beq pc 45 then some (.inl (o_gJ 2 4)) else none) else (bif Nat.ble pc 48 then (bif Nat.beq pc 48 then some (.inr (2, 31, 1, 0)) else none) else (bif Nat.beq pc 51 then some (.inl (o_zeq 58)) else none))) else (bif Nat.ble pc 55 then (bif Nat.ble pc 54 then (bif Nat.beq pc 54 then some (.inl (oS 1 (s_push (.int 1)))) else none) else (bif Nat.beq pc 55 then some (.inl (o_goto 59)) else none)) else (bif Nat.ble pc 58 then (bif Nat.beq pc 58 then some (.inl (oS 1 (s_push (.int 0)))) else none) else (bif Nat.beq pc 59 then some (.inr (0, 0, 0, 4)) else none)))))
theorem k_18_0 : mOk M_18.1 M_18.2.1 M_18.2.2.1 M_18.2.2.2 0 (o_al 0 1) := ok_aload_n dX2_isDescribed_0 rfl
theorem k_18_1 : mOk M_18.1 M_18.2.1 M_18.2.2.1 M_18.2.2.2 1 (o_gI 2 0) := ok_gI dX2_isDescribed_1 f_RX2_26 (Or.inl rfl)
theorem k_18_4 : mOk M_18.1 M_18.2.1 M_18.2.2.1 M_18.2.2.2 4 (oS 1 (s_push (.int 1))) := ok_iconst dX2_isDescribed_4 (by decide)
theorem k_18_5 : mOk M_18.1 M_18.2.1 M_18.2.2.1 M_18.2.2.2 5 (o_clt 58) := ok_clt dX2_isDescribed_5 (by decide)
theorem k_18_8 : mOk M_18.1 M_18.2.1 M_18.2.2.1 M_18.2.2.2 8 (o_al 0 1) := ok_aload_n dX2_isDescribed_8 rfl
theorem k_18_9 : mOk M_18.1 M_18.2.1 M_18.2.2.1 M_18.2.2.2 9 (o_gI 2 0) := ok_gI dX2_isDescribed_9 f_RX2_26 (Or.inl rfl)
theorem k_18_12 : mOk M_18.1 M_18.2.1 M_18.2.2.1 M_18.2.2.2 12 (oS 3 (s_push (.int 9999))) := ok_sipush dX2_isDescribed_12 (by decide)
theorem k_18_15 : mOk M_18.1 M_18.2.1 M_18.2.2.1 M_18.2.2.2 15 (o_cgt 58) := ok_cgt dX2_isDescribed_15 (by decide)
theorem k_18_18 : mOk M_18.1 M_18.2.1 M_18.2.2.1 M_18.2.2.2 18 (o_al 0 1) := ok_aload_n dX2_isDescribed_18 rfl
theorem k_18_19 : mOk M_18.1 M_18.2.1 M_18.2.2.1 M_18.2.2.2 19 (o_gI 2 2) := ok_gI dX2_isDescribed_19 f_RX2_32 (Or.inl rfl)
theorem k_18_22 : mOk M_18.1 M_18.2.1 M_18.2.2.1 M_18.2.2.2 22 (o_zlt 58) := ok_zlt dX2_isDescribed_22 (by decide)
theorem k_18_25 : mOk M_18.1 M_18.2.1 M_18.2.2.1 M_18.2.2.2 25 (o_al 0 1) := ok_aload_n dX2_isDescribed_25 rfl
theorem k_18_26 : mOk M_18.1 M_18.2.1 M_18.2.2.1 M_18.2.2.2 26 (o_gI 2 2) := ok_gI dX2_isDescribed_26 f_RX2_32 (Or.inl rfl)
theorem k_18_29 : mOk M_18.1 M_18.2.1 M_18.2.2.1 M_18.2.2.2 29 (oS 2 (s_push (.int 9))) := ok_bipush dX2_isDescribed_29 (by decide)
theorem k_18_31 : mOk M_18.1 M_18.2.1 M_18.2.2.1 M_18.2.2.2 31 (o_cgt 58) := ok_cgt dX2_isDescribed_31 (by decide)
theorem k_18_34 : mOk M_18.1 M_18.2.1 M_18.2.2.1 M_18.2.2.2 34 (o_al 0 1) := ok_aload_n dX2_isDescribed_34 rfl
theorem k_18_35 : mOk M_18.1 M_18.2.1 M_18.2.2.1 M_18.2.2.2 35 (o_gI 2 3) := ok_gI dX2_isDescribed_35 f_RX2_35 (Or.inl rfl)
theorem k_18_41 : mOk M_18.1 M_18.2.1 M_18.2.2.1 M_18.2.2.2 41 (o_zeq 58) := ok_zeq dX2_isDescribed_41 (by decide)
theorem k_18_44 : mOk M_18.1 M_18.2.1 M_18.2.2.1 M_18.2.2.2 44 (o_al 0 1) := ok_aload_n dX2_isDescribed_44 rfl
theorem k_18_45 : mOk M_18.1 M_18.2.1 M_18.2.2.1 M_18.2.2.2 45 (o_gJ 2 4) := ok_gJ dX2_isDescribed_45 f_RX2_38 rfl
theorem k_18_51 : mOk M_18.1 M_18.2.1 M_18.2.2.1 M_18.2.2.2 51 (o_zeq 58) := ok_zeq dX2_isDescribed_51 (by decide)
theorem k_18_54 : mOk M_18.1 M_18.2.1 M_18.2.2.1 M_18.2.2.2 54 (oS 1 (s_push (.int 1))) := ok_iconst dX2_isDescribed_54 (by decide)
theorem k_18_55 : mOk M_18.1 M_18.2.1 M_18.2.2.1 M_18.2.2.2 55 (o_goto 59) := ok_goto dX2_isDescribed_55 (by decide)
theorem k_18_58 : mOk M_18.1 M_18.2.1 M_18.2.2.1 M_18.2.2.2 58 (oS 1 (s_push (.int 0))) := ok_iconst dX2_isDescribed_58 (by decide)
set_option maxRecDepth 20000 in
set_option maxHeartbeats 4000000 in
theorem tk_18 (l : Launch) (H9 : mThr l) (H10 : mSpl l) (pc : Nat) (q : mEnt) (h : tb_18 pc = some q) : EE l 18 pc q := nd h (fun h => nd h (fun h => nd h (fun h => nd h (fun h => lf (P := EE l 18) h k_18_0) (fun h => nd h (fun h => lf (P := EE l 18) h k_18_1) (fun h => lf (P := EE l 18) h k_18_4))) (fun h => nd h (fun h => lf (P := EE l 18) h k_18_5) (fun h => nd h (fun h => lf (P := EE l 18) h k_18_8) (fun h => lf (P := EE l 18) h k_18_9)))) (fun h => nd h (fun h => nd h (fun h => lf (P := EE l 18) h k_18_12) (fun h => nd h (fun h => lf (P := EE l 18) h k_18_15) (fun h => lf (P := EE l 18) h k_18_18))) (fun h => nd h (fun h => nd h (fun h => lf (P := EE l 18) h k_18_19) (fun h => lf (P := EE l 18) h k_18_22)) (fun h => nd h (fun h => lf (P := EE l 18) h k_18_25) (fun h => lf (P := EE l 18) h k_18_26))))) (fun h => nd h (fun h => nd h (fun h => nd h (fun h => lf (P := EE l 18) h k_18_29) (fun h => nd h (fun h => lf (P := EE l 18) h k_18_31) (fun h => lf (P := EE l 18) h k_18_34))) (fun h => nd h (fun h => nd h (fun h => lf (P := EE l 18) h k_18_35) (fun h => lf (P := EE l 18) h (EE_ca (by decide) (⟨m_548, m_70, ⟨by decide, by decide⟩, by decide +kernel, ⟨by decide, by decide⟩, 52, 1, by decide +kernel, Or.inr (Or.inl ⟨rfl, rfl, dX2_isDescribed_38, ⟨"AtlasDesk", m_546⟩, m_547⟩)⟩) rfl))) (fun h => nd h (fun h => lf (P := EE l 18) h k_18_41) (fun h => lf (P := EE l 18) h k_18_44)))) (fun h => nd h (fun h => nd h (fun h => lf (P := EE l 18) h k_18_45) (fun h => nd h (fun h => lf (P := EE l 18) h (EE_ca (by decide) (⟨m_551, m_71, ⟨by decide, by decide⟩, by decide +kernel, ⟨by decide, by decide⟩, 56, 1, by decide +kernel, Or.inl ⟨rfl, rfl, dX2_isDescribed_48, m_549, m_550⟩⟩) rfl)) (fun h => lf (P := EE l 18) h k_18_51))) (fun h => nd h (fun h => nd h (fun h => lf (P := EE l 18) h k_18_54) (fun h => lf (P := EE l 18) h k_18_55)) (fun h => nd h (fun h => lf (P := EE l 18) h k_18_58) (fun h => lf (P := EE l 18) h (EE_re (Or.inr (Or.inl ⟨rfl, dX2_isDescribed_59, rfl⟩))))))))
theorem dX2_hasSoundCorners_0 : decode cX2_hasSoundCorners 0 = .ok (.aload_n 0, 1) := by decide +kernel
theorem dX2_hasSoundCorners_1 : decode cX2_hasSoundCorners 1 = .ok (.getfield 29, 3) := by decide +kernel
theorem dX2_hasSoundCorners_4 : decode cX2_hasSoundCorners 4 = .ok (.tableswitch 84 0 2 #[28, 42, 63], 28) := by decide +kernel
theorem dX2_hasSoundCorners_32 : decode cX2_hasSoundCorners 32 = .ok (.aload_n 0, 1) := by decide +kernel
theorem dX2_hasSoundCorners_33 : decode cX2_hasSoundCorners 33 = .ok (.getfield 22, 3) := by decide +kernel
theorem dX2_hasSoundCorners_36 : decode cX2_hasSoundCorners 36 = .ok (.iconst 1, 1) := by decide +kernel
theorem dX2_hasSoundCorners_37 : decode cX2_hasSoundCorners 37 = .ok (.if_icmp .ne 7, 3) := by decide +kernel
theorem dX2_hasSoundCorners_40 : decode cX2_hasSoundCorners 40 = .ok (.iconst 1, 1) := by decide +kernel
theorem dX2_hasSoundCorners_41 : decode cX2_hasSoundCorners 41 = .ok (.goto 4, 3) := by decide +kernel
theorem dX2_hasSoundCorners_44 : decode cX2_hasSoundCorners 44 = .ok (.iconst 0, 1) := by decide +kernel
theorem dX2_hasSoundCorners_45 : decode cX2_hasSoundCorners 45 = .ok (.ireturn, 1) := by decide +kernel
theorem dX2_hasSoundCorners_46 : decode cX2_hasSoundCorners 46 = .ok (.aload_n 0, 1) := by decide +kernel
theorem dX2_hasSoundCorners_47 : decode cX2_hasSoundCorners 47 = .ok (.getfield 22, 3) := by decide +kernel
theorem dX2_hasSoundCorners_50 : decode cX2_hasSoundCorners 50 = .ok (.iconst 2, 1) := by decide +kernel
theorem dX2_hasSoundCorners_51 : decode cX2_hasSoundCorners 51 = .ok (.if_icmp .lt 14, 3) := by decide +kernel
theorem dX2_hasSoundCorners_54 : decode cX2_hasSoundCorners 54 = .ok (.aload_n 0, 1) := by decide +kernel
theorem dX2_hasSoundCorners_55 : decode cX2_hasSoundCorners 55 = .ok (.invokevirtual 60, 3) := by decide +kernel
theorem dX2_hasSoundCorners_58 : decode cX2_hasSoundCorners 58 = .ok (.ifCond .eq 7, 3) := by decide +kernel
theorem dX2_hasSoundCorners_61 : decode cX2_hasSoundCorners 61 = .ok (.iconst 1, 1) := by decide +kernel
theorem dX2_hasSoundCorners_62 : decode cX2_hasSoundCorners 62 = .ok (.goto 4, 3) := by decide +kernel
theorem dX2_hasSoundCorners_65 : decode cX2_hasSoundCorners 65 = .ok (.iconst 0, 1) := by decide +kernel
theorem dX2_hasSoundCorners_66 : decode cX2_hasSoundCorners 66 = .ok (.ireturn, 1) := by decide +kernel
theorem dX2_hasSoundCorners_67 : decode cX2_hasSoundCorners 67 = .ok (.aload_n 0, 1) := by decide +kernel
theorem dX2_hasSoundCorners_68 : decode cX2_hasSoundCorners 68 = .ok (.getfield 22, 3) := by decide +kernel
theorem dX2_hasSoundCorners_71 : decode cX2_hasSoundCorners 71 = .ok (.iconst 3, 1) := by decide +kernel
theorem dX2_hasSoundCorners_72 : decode cX2_hasSoundCorners 72 = .ok (.if_icmp .lt 14, 3) := by decide +kernel
theorem dX2_hasSoundCorners_75 : decode cX2_hasSoundCorners 75 = .ok (.aload_n 0, 1) := by decide +kernel
theorem dX2_hasSoundCorners_76 : decode cX2_hasSoundCorners 76 = .ok (.invokevirtual 64, 3) := by decide +kernel
theorem dX2_hasSoundCorners_79 : decode cX2_hasSoundCorners 79 = .ok (.ifCond .eq 7, 3) := by decide +kernel
theorem dX2_hasSoundCorners_82 : decode cX2_hasSoundCorners 82 = .ok (.iconst 1, 1) := by decide +kernel
theorem dX2_hasSoundCorners_83 : decode cX2_hasSoundCorners 83 = .ok (.goto 4, 3) := by decide +kernel
theorem dX2_hasSoundCorners_86 : decode cX2_hasSoundCorners 86 = .ok (.iconst 0, 1) := by decide +kernel
theorem dX2_hasSoundCorners_87 : decode cX2_hasSoundCorners 87 = .ok (.ireturn, 1) := by decide +kernel
theorem dX2_hasSoundCorners_88 : decode cX2_hasSoundCorners 88 = .ok (.iconst 0, 1) := by decide +kernel
theorem dX2_hasSoundCorners_89 : decode cX2_hasSoundCorners 89 = .ok (.ireturn, 1) := by decide +kernel
def tb_19 (pc : Nat) : Option mEnt := bif Nat.ble pc 55 then (bif Nat.ble pc 40 then (bif Nat.ble pc 32 then (bif Nat.ble pc 1 then (bif Nat.ble pc 0 then (bif Nat.beq pc 0 then some (.inl (o_al 0 1)) else none) else (bif Nat.beq pc 1 then some (.inl (o_gI 2 1)) else none)) else (bif Nat.ble pc 4 then (bif Nat.beq pc 4 then some (.inl (o_tsw 0 2 [32, 46, 67] 88)) else none) else (bif Nat.beq pc 32 then some (.inl (o_al 0 1)) else none))) else (bif Nat.ble pc 36 then (bif Nat.ble pc 33 then (bif Nat.beq pc 33 then some (.inl (o_gI 2 5)) else none) else (bif Nat.beq pc 36 then some (.inl (oS 1 (s_push (.int 1)))) else none)) else (bif Nat.ble pc 37 then (bif Nat.beq pc 37 then some (.inl (o_cne 44)) else none) else (bif Nat.beq pc 40 then some (.inl (oS 1 (s_push (.int 1)))) else none)))) else (bif Nat.ble pc 46 then (bif Nat.ble pc 44 then (bif Nat.ble pc 41 then (bif Nat.beq pc 41 then some (.inl (o_goto 45)) else none) else (bif Nat.beq pc 44 then some (.inl (oS 1 (s_push (.int 0)))) else none)) else (bif Nat.ble pc 45 then (bif Nat.beq pc 45 then some (.inr (0, 0, 0, 4)) else none) else (bif Nat.beq pc 46 then some (.inl (o_al 0 1)) else none))) else (bif Nat.ble pc 50 then (bif Nat.ble pc 47 then (bif Nat.beq pc 47 then some (.inl (o_gI 2 5)) else none) else (bif Nat.beq pc 50 then some (.inl (oS 1 (s_push (.int 2)))) else none)) else (bif Nat.ble pc 51 then (bif Nat.beq pc 51 then some (.inl (o_clt 65)) else none) else (bif Nat.ble pc 54 then (bif Nat.beq pc 54 then some (.inl (o_al 0 1)) else none) else (bif Nat.beq pc 55 then some (.inr (3, 20, 1, 2)) else none)))))) else (bif Nat.ble pc 72 then (bif Nat.ble pc 65 then (bif Nat.ble pc 61 then (bif Nat.ble pc 58 then (bif Nat.beq pc 58 then some (.inl (o_zeq 65)) else none) else (bif Nat.beq pc 61 then some (.inl (oS 1 (s_push (.int 1)))) else none)) else (bif Nat.ble pc 62 then (bif Nat.beq pc 62 then some (.inl (o_goto 66)) else none) else (bif Nat.beq pc 65 then some (.inl (oS 1 (s_push (.int 0)))) else none))) else (bif Nat.ble pc 67 then (bif Nat.ble pc 66 then (bif Nat.beq pc 66 then some (.inr (0, 0, 0, 4)) else none) else (bif Nat.beq pc 67 then some (.inl (o_al 0 1)) else none)) else (bif Nat.ble pc 68 then (bif Nat.beq pc 68 then some (.inl (o_gI 2 5)) else none) else (bif Nat.ble pc 71 then (bif Nat.beq pc 71 then some (.inl (oS 1 (s_push (.int 3)))) else none) else (bif Nat.beq pc 72 then some (.inl (o_clt 86)) else none))))) else (bif Nat.ble pc 82 then (bif Nat.ble pc 76 then (bif Nat.ble pc 75 then (bif Nat.beq pc 75 then some (.inl (o_al 0 1)) else none) else (bif Nat.beq pc 76 then some (.inr (3, 21, 1, 2)) else none)) else (bif Nat.ble pc 79 then (bif Nat.beq pc 79 then some (.inl (o_zeq 86)) else none) else (bif Nat.beq pc 82 then some (.inl (oS 1 (s_push (.int 1)))) else none))) else (bif Nat.ble pc 86 then (bif Nat.ble pc 83 then (bif Nat.beq pc 83 then some (.inl (o_goto 87)) else none) else (bif Nat.beq pc 86 then some (.inl (oS 1 (s_push (.int 0)))) else none)) else (bif Nat.ble pc 87 then (bif Nat.beq pc 87 then some (.inr (0, 0, 0, 4)) else none) else (bif Nat.ble pc 88 then (bif Nat.beq pc 88 then some (.inl (oS 1 (s_push (.int 0)))) else none) else (bif Nat.beq pc 89 then some (.inr (0, 0, 0, 4)) else none))))))
theorem k_19_0 : mOk M_19.1 M_19.2.1 M_19.2.2.1 M_19.2.2.2 0 (o_al 0 1) := ok_aload_n dX2_hasSoundCorners_0 rfl
theorem k_19_1 : mOk M_19.1 M_19.2.1 M_19.2.2.1 M_19.2.2.2 1 (o_gI 2 1) := ok_gI dX2_hasSoundCorners_1 f_RX2_29 (Or.inl rfl)
theorem k_19_4 : mOk M_19.1 M_19.2.1 M_19.2.2.1 M_19.2.2.2 4 (o_tsw 0 2 [32, 46, 67] 88) := ok_tsw dX2_hasSoundCorners_4 (by decide) (by decide) (by decide)
theorem k_19_32 : mOk M_19.1 M_19.2.1 M_19.2.2.1 M_19.2.2.2 32 (o_al 0 1) := ok_aload_n dX2_hasSoundCorners_32 rfl
theorem k_19_33 : mOk M_19.1 M_19.2.1 M_19.2.2.1 M_19.2.2.2 33 (o_gI 2 5) := ok_gI dX2_hasSoundCorners_33 f_RX2_22 (Or.inl rfl)
theorem k_19_36 : mOk M_19.1 M_19.2.1 M_19.2.2.1 M_19.2.2.2 36 (oS 1 (s_push (.int 1))) := ok_iconst dX2_hasSoundCorners_36 (by decide)
theorem k_19_37 : mOk M_19.1 M_19.2.1 M_19.2.2.1 M_19.2.2.2 37 (o_cne 44) := ok_cne dX2_hasSoundCorners_37 (by decide)
theorem k_19_40 : mOk M_19.1 M_19.2.1 M_19.2.2.1 M_19.2.2.2 40 (oS 1 (s_push (.int 1))) := ok_iconst dX2_hasSoundCorners_40 (by decide)
theorem k_19_41 : mOk M_19.1 M_19.2.1 M_19.2.2.1 M_19.2.2.2 41 (o_goto 45) := ok_goto dX2_hasSoundCorners_41 (by decide)
theorem k_19_44 : mOk M_19.1 M_19.2.1 M_19.2.2.1 M_19.2.2.2 44 (oS 1 (s_push (.int 0))) := ok_iconst dX2_hasSoundCorners_44 (by decide)
theorem k_19_46 : mOk M_19.1 M_19.2.1 M_19.2.2.1 M_19.2.2.2 46 (o_al 0 1) := ok_aload_n dX2_hasSoundCorners_46 rfl
theorem k_19_47 : mOk M_19.1 M_19.2.1 M_19.2.2.1 M_19.2.2.2 47 (o_gI 2 5) := ok_gI dX2_hasSoundCorners_47 f_RX2_22 (Or.inl rfl)
theorem k_19_50 : mOk M_19.1 M_19.2.1 M_19.2.2.1 M_19.2.2.2 50 (oS 1 (s_push (.int 2))) := ok_iconst dX2_hasSoundCorners_50 (by decide)
theorem k_19_51 : mOk M_19.1 M_19.2.1 M_19.2.2.1 M_19.2.2.2 51 (o_clt 65) := ok_clt dX2_hasSoundCorners_51 (by decide)
theorem k_19_54 : mOk M_19.1 M_19.2.1 M_19.2.2.1 M_19.2.2.2 54 (o_al 0 1) := ok_aload_n dX2_hasSoundCorners_54 rfl
theorem k_19_58 : mOk M_19.1 M_19.2.1 M_19.2.2.1 M_19.2.2.2 58 (o_zeq 65) := ok_zeq dX2_hasSoundCorners_58 (by decide)
theorem k_19_61 : mOk M_19.1 M_19.2.1 M_19.2.2.1 M_19.2.2.2 61 (oS 1 (s_push (.int 1))) := ok_iconst dX2_hasSoundCorners_61 (by decide)
theorem k_19_62 : mOk M_19.1 M_19.2.1 M_19.2.2.1 M_19.2.2.2 62 (o_goto 66) := ok_goto dX2_hasSoundCorners_62 (by decide)
theorem k_19_65 : mOk M_19.1 M_19.2.1 M_19.2.2.1 M_19.2.2.2 65 (oS 1 (s_push (.int 0))) := ok_iconst dX2_hasSoundCorners_65 (by decide)
theorem k_19_67 : mOk M_19.1 M_19.2.1 M_19.2.2.1 M_19.2.2.2 67 (o_al 0 1) := ok_aload_n dX2_hasSoundCorners_67 rfl
theorem k_19_68 : mOk M_19.1 M_19.2.1 M_19.2.2.1 M_19.2.2.2 68 (o_gI 2 5) := ok_gI dX2_hasSoundCorners_68 f_RX2_22 (Or.inl rfl)
theorem k_19_71 : mOk M_19.1 M_19.2.1 M_19.2.2.1 M_19.2.2.2 71 (oS 1 (s_push (.int 3))) := ok_iconst dX2_hasSoundCorners_71 (by decide)
theorem k_19_72 : mOk M_19.1 M_19.2.1 M_19.2.2.1 M_19.2.2.2 72 (o_clt 86) := ok_clt dX2_hasSoundCorners_72 (by decide)
theorem k_19_75 : mOk M_19.1 M_19.2.1 M_19.2.2.1 M_19.2.2.2 75 (o_al 0 1) := ok_aload_n dX2_hasSoundCorners_75 rfl
theorem k_19_79 : mOk M_19.1 M_19.2.1 M_19.2.2.1 M_19.2.2.2 79 (o_zeq 86) := ok_zeq dX2_hasSoundCorners_79 (by decide)
theorem k_19_82 : mOk M_19.1 M_19.2.1 M_19.2.2.1 M_19.2.2.2 82 (oS 1 (s_push (.int 1))) := ok_iconst dX2_hasSoundCorners_82 (by decide)
theorem k_19_83 : mOk M_19.1 M_19.2.1 M_19.2.2.1 M_19.2.2.2 83 (o_goto 87) := ok_goto dX2_hasSoundCorners_83 (by decide)
theorem k_19_86 : mOk M_19.1 M_19.2.1 M_19.2.2.1 M_19.2.2.2 86 (oS 1 (s_push (.int 0))) := ok_iconst dX2_hasSoundCorners_86 (by decide)
theorem k_19_88 : mOk M_19.1 M_19.2.1 M_19.2.2.1 M_19.2.2.2 88 (oS 1 (s_push (.int 0))) := ok_iconst dX2_hasSoundCorners_88 (by decide)
set_option maxRecDepth 20000 in
set_option maxHeartbeats 4000000 in
theorem tk_19 (l : Launch) (H9 : mThr l) (H10 : mSpl l) (pc : Nat) (q : mEnt) (h : tb_19 pc = some q) : EE l 19 pc q := nd h (fun h => nd h (fun h => nd h (fun h => nd h (fun h => nd h (fun h => lf (P := EE l 19) h k_19_0) (fun h => lf (P := EE l 19) h k_19_1)) (fun h => nd h (fun h => lf (P := EE l 19) h k_19_4) (fun h => lf (P := EE l 19) h k_19_32))) (fun h => nd h (fun h => nd h (fun h => lf (P := EE l 19) h k_19_33) (fun h => lf (P := EE l 19) h k_19_36)) (fun h => nd h (fun h => lf (P := EE l 19) h k_19_37) (fun h => lf (P := EE l 19) h k_19_40)))) (fun h => nd h (fun h => nd h (fun h => nd h (fun h => lf (P := EE l 19) h k_19_41) (fun h => lf (P := EE l 19) h k_19_44)) (fun h => nd h (fun h => lf (P := EE l 19) h (EE_re (Or.inr (Or.inl ⟨rfl, dX2_hasSoundCorners_45, rfl⟩)))) (fun h => lf (P := EE l 19) h k_19_46))) (fun h => nd h (fun h => nd h (fun h => lf (P := EE l 19) h k_19_47) (fun h => lf (P := EE l 19) h k_19_50)) (fun h => nd h (fun h => lf (P := EE l 19) h k_19_51) (fun h => nd h (fun h => lf (P := EE l 19) h k_19_54) (fun h => lf (P := EE l 19) h (EE_ca (by decide) (⟨m_559, m_71, ⟨by decide, by decide⟩, by decide +kernel, ⟨by decide, by decide⟩, 60, 0, by decide +kernel, Or.inr (Or.inr (Or.inl ⟨rfl, rfl, dX2_hasSoundCorners_55, m_556, m_558, _, rfl, by decide, m_2⟩))⟩) rfl))))))) (fun h => nd h (fun h => nd h (fun h => nd h (fun h => nd h (fun h => lf (P := EE l 19) h k_19_58) (fun h => lf (P := EE l 19) h k_19_61)) (fun h => nd h (fun h => lf (P := EE l 19) h k_19_62) (fun h => lf (P := EE l 19) h k_19_65))) (fun h => nd h (fun h => nd h (fun h => lf (P := EE l 19) h (EE_re (Or.inr (Or.inl ⟨rfl, dX2_hasSoundCorners_66, rfl⟩)))) (fun h => lf (P := EE l 19) h k_19_67)) (fun h => nd h (fun h => lf (P := EE l 19) h k_19_68) (fun h => nd h (fun h => lf (P := EE l 19) h k_19_71) (fun h => lf (P := EE l 19) h k_19_72))))) (fun h => nd h (fun h => nd h (fun h => nd h (fun h => lf (P := EE l 19) h k_19_75) (fun h => lf (P := EE l 19) h (EE_ca (by decide) (⟨m_567, m_71, ⟨by decide, by decide⟩, by decide +kernel, ⟨by decide, by decide⟩, 64, 0, by decide +kernel, Or.inr (Or.inr (Or.inl ⟨rfl, rfl, dX2_hasSoundCorners_76, m_564, m_566, _, rfl, by decide, m_4⟩))⟩) rfl))) (fun h => nd h (fun h => lf (P := EE l 19) h k_19_79) (fun h => lf (P := EE l 19) h k_19_82))) (fun h => nd h (fun h => nd h (fun h => lf (P := EE l 19) h k_19_83) (fun h => lf (P := EE l 19) h k_19_86)) (fun h => nd h (fun h => lf (P := EE l 19) h (EE_re (Or.inr (Or.inl ⟨rfl, dX2_hasSoundCorners_87, rfl⟩)))) (fun h => nd h (fun h => lf (P := EE l 19) h k_19_88) (fun h => lf (P := EE l 19) h (EE_re (Or.inr (Or.inl ⟨rfl, dX2_hasSoundCorners_89, rfl⟩)))))))))
theorem dX2_goesOn_0 : decode cX2_goesOn 0 = .ok (.iconst 1, 1) := by decide +kernel
theorem dX2_goesOn_1 : decode cX2_goesOn 1 = .ok (.istore_n 1, 1) := by decide +kernel
theorem dX2_goesOn_2 : decode cX2_goesOn 2 = .ok (.iload_n 1, 1) := by decide +kernel
theorem dX2_goesOn_3 : decode cX2_goesOn 3 = .ok (.aload_n 0, 1) := by decide +kernel
theorem dX2_goesOn_4 : decode cX2_goesOn 4 = .ok (.getfield 22, 3) := by decide +kernel
theorem dX2_goesOn_7 : decode cX2_goesOn 7 = .ok (.if_icmp .ge 22, 3) := by decide +kernel
theorem dX2_goesOn_10 : decode cX2_goesOn 10 = .ok (.aload_n 0, 1) := by decide +kernel
theorem dX2_goesOn_11 : decode cX2_goesOn 11 = .ok (.iload_n 1, 1) := by decide +kernel
theorem dX2_goesOn_12 : decode cX2_goesOn 12 = .ok (.iconst 1, 1) := by decide +kernel
theorem dX2_goesOn_13 : decode cX2_goesOn 13 = .ok (.isub, 1) := by decide +kernel
theorem dX2_goesOn_14 : decode cX2_goesOn 14 = .ok (.iload_n 1, 1) := by decide +kernel
theorem dX2_goesOn_15 : decode cX2_goesOn 15 = .ok (.invokevirtual 67, 3) := by decide +kernel
theorem dX2_goesOn_18 : decode cX2_goesOn 18 = .ok (.ifCond .eq 5, 3) := by decide +kernel
theorem dX2_goesOn_21 : decode cX2_goesOn 21 = .ok (.iconst 0, 1) := by decide +kernel
theorem dX2_goesOn_22 : decode cX2_goesOn 22 = .ok (.ireturn, 1) := by decide +kernel
theorem dX2_goesOn_23 : decode cX2_goesOn 23 = .ok (.iinc 1 1, 3) := by decide +kernel
theorem dX2_goesOn_26 : decode cX2_goesOn 26 = .ok (.goto (-24), 3) := by decide +kernel
theorem dX2_goesOn_29 : decode cX2_goesOn 29 = .ok (.iconst 1, 1) := by decide +kernel
theorem dX2_goesOn_30 : decode cX2_goesOn 30 = .ok (.ireturn, 1) := by decide +kernel
def tb_20 (pc : Nat) : Option mEnt := bif Nat.ble pc 12 then (bif Nat.ble pc 3 then (bif Nat.ble pc 1 then (bif Nat.ble pc 0 then (bif Nat.beq pc 0 then some (.inl (oS 1 (s_push (.int 1)))) else none) else (bif Nat.beq pc 1 then some (.inl (o_is 1 1)) else none)) else (bif Nat.ble pc 2 then (bif Nat.beq pc 2 then some (.inl (o_il 1 1)) else none) else (bif Nat.beq pc 3 then some (.inl (o_al 0 1)) else none))) else (bif Nat.ble pc 7 then (bif Nat.ble pc 4 then (bif Nat.beq pc 4 then some (.inl (o_gI 2 5)) else none) else (bif Nat.beq pc 7 then some (.inl (o_cge 29)) else none)) else (bif Nat.ble pc 10 then (bif Nat.beq pc 10 then some (.inl (o_al 0 1)) else none) else (bif Nat.ble pc 11 then (bif Nat.beq pc 11 then some (.inl (o_il 1 1)) else none) else (bif Nat.beq pc 12 then some (.inl (oS 1 (s_push (.int 1)))) else none))))) else (bif Nat.ble pc 21 then (bif Nat.ble pc 14 then (bif Nat.ble pc 13 then (bif Nat.beq pc 13 then some (.inl (oS 1 (s_ii (fun a b => a - b)))) else none) else (bif Nat.beq pc 14 then some (.inl (o_il 1 1)) else none)) else (bif Nat.ble pc 15 then (bif Nat.beq pc 15 then some (.inr (3, 28, 3, 2)) else none) else (bif Nat.ble pc 18 then (bif Nat.beq pc 18 then some (.inl (o_zeq 23)) else none) else (bif Nat.beq pc 21 then some (.inl (oS 1 (s_push (.int 0)))) else none)))) else (bif Nat.ble pc 23 then (bif Nat.ble pc 22 then (bif Nat.beq pc 22 then some (.inr (0, 0, 0, 4)) else none) else (bif Nat.beq pc 23 then some (.inl (o_inc 1 1)) else none)) else (bif Nat.ble pc 26 then (bif Nat.beq pc 26 then some (.inl (o_goto 2)) else none) else (bif Nat.ble pc 29 then (bif Nat.beq pc 29 then some (.inl (oS 1 (s_push (.int 1)))) else none) else (bif Nat.beq pc 30 then some (.inr (0, 0, 0, 4)) else none)))))
theorem k_20_0 : mOk M_20.1 M_20.2.1 M_20.2.2.1 M_20.2.2.2 0 (oS 1 (s_push (.int 1))) := ok_iconst dX2_goesOn_0 (by decide)
theorem k_20_1 : mOk M_20.1 M_20.2.1 M_20.2.2.1 M_20.2.2.2 1 (o_is 1 1) := ok_istore_n dX2_goesOn_1 rfl
theorem k_20_2 : mOk M_20.1 M_20.2.1 M_20.2.2.1 M_20.2.2.2 2 (o_il 1 1) := ok_iload_n dX2_goesOn_2 rfl
theorem k_20_3 : mOk M_20.1 M_20.2.1 M_20.2.2.1 M_20.2.2.2 3 (o_al 0 1) := ok_aload_n dX2_goesOn_3 rfl
theorem k_20_4 : mOk M_20.1 M_20.2.1 M_20.2.2.1 M_20.2.2.2 4 (o_gI 2 5) := ok_gI dX2_goesOn_4 f_RX2_22 (Or.inl rfl)
theorem k_20_7 : mOk M_20.1 M_20.2.1 M_20.2.2.1 M_20.2.2.2 7 (o_cge 29) := ok_cge dX2_goesOn_7 (by decide)
theorem k_20_10 : mOk M_20.1 M_20.2.1 M_20.2.2.1 M_20.2.2.2 10 (o_al 0 1) := ok_aload_n dX2_goesOn_10 rfl
theorem k_20_11 : mOk M_20.1 M_20.2.1 M_20.2.2.1 M_20.2.2.2 11 (o_il 1 1) := ok_iload_n dX2_goesOn_11 rfl
theorem k_20_12 : mOk M_20.1 M_20.2.1 M_20.2.2.1 M_20.2.2.2 12 (oS 1 (s_push (.int 1))) := ok_iconst dX2_goesOn_12 (by decide)
theorem k_20_13 : mOk M_20.1 M_20.2.1 M_20.2.2.1 M_20.2.2.2 13 (oS 1 (s_ii (fun a b => a - b))) := ok_isub dX2_goesOn_13
theorem k_20_14 : mOk M_20.1 M_20.2.1 M_20.2.2.1 M_20.2.2.2 14 (o_il 1 1) := ok_iload_n dX2_goesOn_14 rfl
theorem k_20_18 : mOk M_20.1 M_20.2.1 M_20.2.2.1 M_20.2.2.2 18 (o_zeq 23) := ok_zeq dX2_goesOn_18 (by decide)
theorem k_20_21 : mOk M_20.1 M_20.2.1 M_20.2.2.1 M_20.2.2.2 21 (oS 1 (s_push (.int 0))) := ok_iconst dX2_goesOn_21 (by decide)
theorem k_20_23 : mOk M_20.1 M_20.2.1 M_20.2.2.1 M_20.2.2.2 23 (o_inc 1 1) := ok_iinc dX2_goesOn_23 (by decide)
theorem k_20_26 : mOk M_20.1 M_20.2.1 M_20.2.2.1 M_20.2.2.2 26 (o_goto 2) := ok_goto dX2_goesOn_26 (by decide)
theorem k_20_29 : mOk M_20.1 M_20.2.1 M_20.2.2.1 M_20.2.2.2 29 (oS 1 (s_push (.int 1))) := ok_iconst dX2_goesOn_29 (by decide)
set_option maxRecDepth 20000 in
set_option maxHeartbeats 4000000 in
theorem tk_20 (l : Launch) (H9 : mThr l) (H10 : mSpl l) (pc : Nat) (q : mEnt) (h : tb_20 pc = some q) : EE l 20 pc q := nd h (fun h => nd h (fun h => nd h (fun h => nd h (fun h => lf (P := EE l 20) h k_20_0) (fun h => lf (P := EE l 20) h k_20_1)) (fun h => nd h (fun h => lf (P := EE l 20) h k_20_2) (fun h => lf (P := EE l 20) h k_20_3))) (fun h => nd h (fun h => nd h (fun h => lf (P := EE l 20) h k_20_4) (fun h => lf (P := EE l 20) h k_20_7)) (fun h => nd h (fun h => lf (P := EE l 20) h k_20_10) (fun h => nd h (fun h => lf (P := EE l 20) h k_20_11) (fun h => lf (P := EE l 20) h k_20_12))))) (fun h => nd h (fun h => nd h (fun h => nd h (fun h => lf (P := EE l 20) h k_20_13) (fun h => lf (P := EE l 20) h k_20_14)) (fun h => nd h (fun h => lf (P := EE l 20) h (EE_ca (by decide) (⟨m_563, m_71, ⟨by decide, by decide⟩, by decide +kernel, ⟨by decide, by decide⟩, 67, 2, by decide +kernel, Or.inr (Or.inr (Or.inl ⟨rfl, rfl, dX2_goesOn_15, m_560, m_562, _, rfl, by decide, m_3⟩))⟩) rfl)) (fun h => nd h (fun h => lf (P := EE l 20) h k_20_18) (fun h => lf (P := EE l 20) h k_20_21)))) (fun h => nd h (fun h => nd h (fun h => lf (P := EE l 20) h (EE_re (Or.inr (Or.inl ⟨rfl, dX2_goesOn_22, rfl⟩)))) (fun h => lf (P := EE l 20) h k_20_23)) (fun h => nd h (fun h => lf (P := EE l 20) h k_20_26) (fun h => nd h (fun h => lf (P := EE l 20) h k_20_29) (fun h => lf (P := EE l 20) h (EE_re (Or.inr (Or.inl ⟨rfl, dX2_goesOn_30, rfl⟩))))))))
theorem dX2_isRing_0 : decode cX2_isRing 0 = .ok (.iconst 0, 1) := by decide +kernel
theorem dX2_isRing_1 : decode cX2_isRing 1 = .ok (.istore_n 1, 1) := by decide +kernel
theorem dX2_isRing_2 : decode cX2_isRing 2 = .ok (.iload_n 1, 1) := by decide +kernel
theorem dX2_isRing_3 : decode cX2_isRing 3 = .ok (.aload_n 0, 1) := by decide +kernel
theorem dX2_isRing_4 : decode cX2_isRing 4 = .ok (.getfield 22, 3) := by decide +kernel
theorem dX2_isRing_7 : decode cX2_isRing 7 = .ok (.if_icmp .ge 47, 3) := by decide +kernel
theorem dX2_isRing_10 : decode cX2_isRing 10 = .ok (.iload_n 1, 1) := by decide +kernel
theorem dX2_isRing_11 : decode cX2_isRing 11 = .ok (.iconst 1, 1) := by decide +kernel
theorem dX2_isRing_12 : decode cX2_isRing 12 = .ok (.iadd, 1) := by decide +kernel
theorem dX2_isRing_13 : decode cX2_isRing 13 = .ok (.istore_n 2, 1) := by decide +kernel
theorem dX2_isRing_14 : decode cX2_isRing 14 = .ok (.iload_n 2, 1) := by decide +kernel
theorem dX2_isRing_15 : decode cX2_isRing 15 = .ok (.aload_n 0, 1) := by decide +kernel
theorem dX2_isRing_16 : decode cX2_isRing 16 = .ok (.getfield 22, 3) := by decide +kernel
theorem dX2_isRing_19 : decode cX2_isRing 19 = .ok (.if_icmp .ge 29, 3) := by decide +kernel
theorem dX2_isRing_22 : decode cX2_isRing 22 = .ok (.aload_n 0, 1) := by decide +kernel
theorem dX2_isRing_23 : decode cX2_isRing 23 = .ok (.iload_n 1, 1) := by decide +kernel
theorem dX2_isRing_24 : decode cX2_isRing 24 = .ok (.iload_n 2, 1) := by decide +kernel
theorem dX2_isRing_25 : decode cX2_isRing 25 = .ok (.invokevirtual 67, 3) := by decide +kernel
theorem dX2_isRing_28 : decode cX2_isRing 28 = .ok (.ifCond .ne 12, 3) := by decide +kernel
theorem dX2_isRing_31 : decode cX2_isRing 31 = .ok (.aload_n 0, 1) := by decide +kernel
theorem dX2_isRing_32 : decode cX2_isRing 32 = .ok (.iload_n 1, 1) := by decide +kernel
theorem dX2_isRing_33 : decode cX2_isRing 33 = .ok (.iload_n 2, 1) := by decide +kernel
theorem dX2_isRing_34 : decode cX2_isRing 34 = .ok (.invokevirtual 70, 3) := by decide +kernel
theorem dX2_isRing_37 : decode cX2_isRing 37 = .ok (.ifCond .eq 5, 3) := by decide +kernel
theorem dX2_isRing_40 : decode cX2_isRing 40 = .ok (.iconst 0, 1) := by decide +kernel
theorem dX2_isRing_41 : decode cX2_isRing 41 = .ok (.ireturn, 1) := by decide +kernel
theorem dX2_isRing_42 : decode cX2_isRing 42 = .ok (.iinc 2 1, 3) := by decide +kernel
theorem dX2_isRing_45 : decode cX2_isRing 45 = .ok (.goto (-31), 3) := by decide +kernel
theorem dX2_isRing_48 : decode cX2_isRing 48 = .ok (.iinc 1 1, 3) := by decide +kernel
theorem dX2_isRing_51 : decode cX2_isRing 51 = .ok (.goto (-49), 3) := by decide +kernel
theorem dX2_isRing_54 : decode cX2_isRing 54 = .ok (.iconst 1, 1) := by decide +kernel
theorem dX2_isRing_55 : decode cX2_isRing 55 = .ok (.ireturn, 1) := by decide +kernel
def tb_21 (pc : Nat) : Option mEnt := bif Nat.ble pc 23 then (bif Nat.ble pc 11 then (bif Nat.ble pc 3 then (bif Nat.ble pc 1 then (bif Nat.ble pc 0 then (bif Nat.beq pc 0 then some (.inl (oS 1 (s_push (.int 0)))) else none) else (bif Nat.beq pc 1 then some (.inl (o_is 1 1)) else none)) else (bif Nat.ble pc 2 then (bif Nat.beq pc 2 then some (.inl (o_il 1 1)) else none) else (bif Nat.beq pc 3 then some (.inl (o_al 0 1)) else none))) else (bif Nat.ble pc 7 then (bif Nat.ble pc 4 then (bif Nat.beq pc 4 then some (.inl (o_gI 2 5)) else none) else (bif Nat.beq pc 7 then some (.inl (o_cge 54)) else none)) else (bif Nat.ble pc 10 then (bif Nat.beq pc 10 then some (.inl (o_il 1 1)) else none) else (bif Nat.beq pc 11 then some (.inl (oS 1 (s_push (.int 1)))) else none)))) else (bif Nat.ble pc 15 then (bif Nat.ble pc 13 then (bif Nat.ble pc 12 then (bif Nat.beq pc 12 then some (.inl (oS 1 (s_ii (fun a b => a + b)))) else none) else (bif Nat.beq pc 13 then some (.inl (o_is 2 1)) else none)) else (bif Nat.ble pc 14 then (bif Nat.beq pc 14 then some (.inl (o_il 2 1)) else none) else (bif Nat.beq pc 15 then some (.inl (o_al 0 1)) else none))) else (bif Nat.ble pc 19 then (bif Nat.ble pc 16 then (bif Nat.beq pc 16 then some (.inl (o_gI 2 5)) else none) else (bif Nat.beq pc 19 then some (.inl (o_cge 48)) else none)) else (bif Nat.ble pc 22 then (bif Nat.beq pc 22 then some (.inl (o_al 0 1)) else none) else (bif Nat.beq pc 23 then some (.inl (o_il 1 1)) else none))))) else (bif Nat.ble pc 37 then (bif Nat.ble pc 31 then (bif Nat.ble pc 25 then (bif Nat.ble pc 24 then (bif Nat.beq pc 24 then some (.inl (o_il 2 1)) else none) else (bif Nat.beq pc 25 then some (.inr (3, 28, 3, 2)) else none)) else (bif Nat.ble pc 28 then (bif Nat.beq pc 28 then some (.inl (o_zne 40)) else none) else (bif Nat.beq pc 31 then some (.inl (o_al 0 1)) else none))) else (bif Nat.ble pc 33 then (bif Nat.ble pc 32 then (bif Nat.beq pc 32 then some (.inl (o_il 1 1)) else none) else (bif Nat.beq pc 33 then some (.inl (o_il 2 1)) else none)) else (bif Nat.ble pc 34 then (bif Nat.beq pc 34 then some (.inr (3, 22, 3, 2)) else none) else (bif Nat.beq pc 37 then some (.inl (o_zeq 42)) else none)))) else (bif Nat.ble pc 45 then (bif Nat.ble pc 41 then (bif Nat.ble pc 40 then (bif Nat.beq pc 40 then some (.inl (oS 1 (s_push (.int 0)))) else none) else (bif Nat.beq pc 41 then some (.inr (0, 0, 0, 4)) else none)) else (bif Nat.ble pc 42 then (bif Nat.beq pc 42 then some (.inl (o_inc 2 1)) else none) else (bif Nat.beq pc 45 then some (.inl (o_goto 14)) else none))) else (bif Nat.ble pc 51 then (bif Nat.ble pc 48 then (bif Nat.beq pc 48 then some (.inl (o_inc 1 1)) else none) else (bif Nat.beq pc 51 then some (.inl (o_goto 2)) else none)) else (bif Nat.ble pc 54 then (bif Nat.beq pc 54 then some (.inl (oS 1 (s_push (.int 1)))) else none) else (bif Nat.beq pc 55 then some (.inr (0, 0, 0, 4)) else none)))))
theorem k_21_0 : mOk M_21.1 M_21.2.1 M_21.2.2.1 M_21.2.2.2 0 (oS 1 (s_push (.int 0))) := ok_iconst dX2_isRing_0 (by decide)
theorem k_21_1 : mOk M_21.1 M_21.2.1 M_21.2.2.1 M_21.2.2.2 1 (o_is 1 1) := ok_istore_n dX2_isRing_1 rfl
theorem k_21_2 : mOk M_21.1 M_21.2.1 M_21.2.2.1 M_21.2.2.2 2 (o_il 1 1) := ok_iload_n dX2_isRing_2 rfl
theorem k_21_3 : mOk M_21.1 M_21.2.1 M_21.2.2.1 M_21.2.2.2 3 (o_al 0 1) := ok_aload_n dX2_isRing_3 rfl
theorem k_21_4 : mOk M_21.1 M_21.2.1 M_21.2.2.1 M_21.2.2.2 4 (o_gI 2 5) := ok_gI dX2_isRing_4 f_RX2_22 (Or.inl rfl)
theorem k_21_7 : mOk M_21.1 M_21.2.1 M_21.2.2.1 M_21.2.2.2 7 (o_cge 54) := ok_cge dX2_isRing_7 (by decide)
theorem k_21_10 : mOk M_21.1 M_21.2.1 M_21.2.2.1 M_21.2.2.2 10 (o_il 1 1) := ok_iload_n dX2_isRing_10 rfl
theorem k_21_11 : mOk M_21.1 M_21.2.1 M_21.2.2.1 M_21.2.2.2 11 (oS 1 (s_push (.int 1))) := ok_iconst dX2_isRing_11 (by decide)
theorem k_21_12 : mOk M_21.1 M_21.2.1 M_21.2.2.1 M_21.2.2.2 12 (oS 1 (s_ii (fun a b => a + b))) := ok_iadd dX2_isRing_12
theorem k_21_13 : mOk M_21.1 M_21.2.1 M_21.2.2.1 M_21.2.2.2 13 (o_is 2 1) := ok_istore_n dX2_isRing_13 rfl
theorem k_21_14 : mOk M_21.1 M_21.2.1 M_21.2.2.1 M_21.2.2.2 14 (o_il 2 1) := ok_iload_n dX2_isRing_14 rfl
theorem k_21_15 : mOk M_21.1 M_21.2.1 M_21.2.2.1 M_21.2.2.2 15 (o_al 0 1) := ok_aload_n dX2_isRing_15 rfl
theorem k_21_16 : mOk M_21.1 M_21.2.1 M_21.2.2.1 M_21.2.2.2 16 (o_gI 2 5) := ok_gI dX2_isRing_16 f_RX2_22 (Or.inl rfl)
theorem k_21_19 : mOk M_21.1 M_21.2.1 M_21.2.2.1 M_21.2.2.2 19 (o_cge 48) := ok_cge dX2_isRing_19 (by decide)
theorem k_21_22 : mOk M_21.1 M_21.2.1 M_21.2.2.1 M_21.2.2.2 22 (o_al 0 1) := ok_aload_n dX2_isRing_22 rfl
theorem k_21_23 : mOk M_21.1 M_21.2.1 M_21.2.2.1 M_21.2.2.2 23 (o_il 1 1) := ok_iload_n dX2_isRing_23 rfl
theorem k_21_24 : mOk M_21.1 M_21.2.1 M_21.2.2.1 M_21.2.2.2 24 (o_il 2 1) := ok_iload_n dX2_isRing_24 rfl
theorem k_21_28 : mOk M_21.1 M_21.2.1 M_21.2.2.1 M_21.2.2.2 28 (o_zne 40) := ok_zne dX2_isRing_28 (by decide)
theorem k_21_31 : mOk M_21.1 M_21.2.1 M_21.2.2.1 M_21.2.2.2 31 (o_al 0 1) := ok_aload_n dX2_isRing_31 rfl
theorem k_21_32 : mOk M_21.1 M_21.2.1 M_21.2.2.1 M_21.2.2.2 32 (o_il 1 1) := ok_iload_n dX2_isRing_32 rfl
theorem k_21_33 : mOk M_21.1 M_21.2.1 M_21.2.2.1 M_21.2.2.2 33 (o_il 2 1) := ok_iload_n dX2_isRing_33 rfl
theorem k_21_37 : mOk M_21.1 M_21.2.1 M_21.2.2.1 M_21.2.2.2 37 (o_zeq 42) := ok_zeq dX2_isRing_37 (by decide)
theorem k_21_40 : mOk M_21.1 M_21.2.1 M_21.2.2.1 M_21.2.2.2 40 (oS 1 (s_push (.int 0))) := ok_iconst dX2_isRing_40 (by decide)
theorem k_21_42 : mOk M_21.1 M_21.2.1 M_21.2.2.1 M_21.2.2.2 42 (o_inc 2 1) := ok_iinc dX2_isRing_42 (by decide)
theorem k_21_45 : mOk M_21.1 M_21.2.1 M_21.2.2.1 M_21.2.2.2 45 (o_goto 14) := ok_goto dX2_isRing_45 (by decide)
theorem k_21_48 : mOk M_21.1 M_21.2.1 M_21.2.2.1 M_21.2.2.2 48 (o_inc 1 1) := ok_iinc dX2_isRing_48 (by decide)
theorem k_21_51 : mOk M_21.1 M_21.2.1 M_21.2.2.1 M_21.2.2.2 51 (o_goto 2) := ok_goto dX2_isRing_51 (by decide)
theorem k_21_54 : mOk M_21.1 M_21.2.1 M_21.2.2.1 M_21.2.2.2 54 (oS 1 (s_push (.int 1))) := ok_iconst dX2_isRing_54 (by decide)
set_option maxRecDepth 20000 in
set_option maxHeartbeats 4000000 in
theorem tk_21 (l : Launch) (H9 : mThr l) (H10 : mSpl l) (pc : Nat) (q : mEnt) (h : tb_21 pc = some q) : EE l 21 pc q := nd h (fun h => nd h (fun h => nd h (fun h => nd h (fun h => nd h (fun h => lf (P := EE l 21) h k_21_0) (fun h => lf (P := EE l 21) h k_21_1)) (fun h => nd h (fun h => lf (P := EE l 21) h k_21_2) (fun h => lf (P := EE l 21) h k_21_3))) (fun h => nd h (fun h => nd h (fun h => lf (P := EE l 21) h k_21_4) (fun h => lf (P := EE l 21) h k_21_7)) (fun h => nd h (fun h => lf (P := EE l 21) h k_21_10) (fun h => lf (P := EE l 21) h k_21_11)))) (fun h => nd h (fun h => nd h (fun h => nd h (fun h => lf (P := EE l 21) h k_21_12) (fun h => lf (P := EE l 21) h k_21_13)) (fun h => nd h (fun h => lf (P := EE l 21) h k_21_14) (fun h => lf (P := EE l 21) h k_21_15))) (fun h => nd h (fun h => nd h (fun h => lf (P := EE l 21) h k_21_16) (fun h => lf (P := EE l 21) h k_21_19)) (fun h => nd h (fun h => lf (P := EE l 21) h k_21_22) (fun h => lf (P := EE l 21) h k_21_23))))) (fun h => nd h (fun h => nd h (fun h => nd h (fun h => nd h (fun h => lf (P := EE l 21) h k_21_24) (fun h => lf (P := EE l 21) h (EE_ca (by decide) (⟨m_563, m_71, ⟨by decide, by decide⟩, by decide +kernel, ⟨by decide, by decide⟩, 67, 2, by decide +kernel, Or.inr (Or.inr (Or.inl ⟨rfl, rfl, dX2_isRing_25, m_560, m_562, _, rfl, by decide, m_3⟩))⟩) rfl))) (fun h => nd h (fun h => lf (P := EE l 21) h k_21_28) (fun h => lf (P := EE l 21) h k_21_31))) (fun h => nd h (fun h => nd h (fun h => lf (P := EE l 21) h k_21_32) (fun h => lf (P := EE l 21) h k_21_33)) (fun h => nd h (fun h => lf (P := EE l 21) h (EE_ca (by decide) (⟨m_571, m_71, ⟨by decide, by decide⟩, by decide +kernel, ⟨by decide, by decide⟩, 70, 2, by decide +kernel, Or.inr (Or.inr (Or.inl ⟨rfl, rfl, dX2_isRing_34, m_568, m_570, _, rfl, by decide, m_5⟩))⟩) rfl)) (fun h => lf (P := EE l 21) h k_21_37)))) (fun h => nd h (fun h => nd h (fun h => nd h (fun h => lf (P := EE l 21) h k_21_40) (fun h => lf (P := EE l 21) h (EE_re (Or.inr (Or.inl ⟨rfl, dX2_isRing_41, rfl⟩))))) (fun h => nd h (fun h => lf (P := EE l 21) h k_21_42) (fun h => lf (P := EE l 21) h k_21_45))) (fun h => nd h (fun h => nd h (fun h => lf (P := EE l 21) h k_21_48) (fun h => lf (P := EE l 21) h k_21_51)) (fun h => nd h (fun h => lf (P := EE l 21) h k_21_54) (fun h => lf (P := EE l 21) h (EE_re (Or.inr (Or.inl ⟨rfl, dX2_isRing_55, rfl⟩))))))))
theorem dX2_edgesClash_0 : decode cX2_edgesClash 0 = .ok (.aload_n 0, 1) := by decide +kernel
theorem dX2_edgesClash_1 : decode cX2_edgesClash 1 = .ok (.iload_n 1, 1) := by decide +kernel
theorem dX2_edgesClash_2 : decode cX2_edgesClash 2 = .ok (.invokevirtual 73, 3) := by decide +kernel
theorem dX2_edgesClash_5 : decode cX2_edgesClash 5 = .ok (.iload_n 2, 1) := by decide +kernel
theorem dX2_edgesClash_6 : decode cX2_edgesClash 6 = .ok (.if_icmp .ne 15, 3) := by decide +kernel
theorem dX2_edgesClash_9 : decode cX2_edgesClash 9 = .ok (.aload_n 0, 1) := by decide +kernel
theorem dX2_edgesClash_10 : decode cX2_edgesClash 10 = .ok (.iload_n 1, 1) := by decide +kernel
theorem dX2_edgesClash_11 : decode cX2_edgesClash 11 = .ok (.iload_n 2, 1) := by decide +kernel
theorem dX2_edgesClash_12 : decode cX2_edgesClash 12 = .ok (.aload_n 0, 1) := by decide +kernel
theorem dX2_edgesClash_13 : decode cX2_edgesClash 13 = .ok (.iload_n 2, 1) := by decide +kernel
theorem dX2_edgesClash_14 : decode cX2_edgesClash 14 = .ok (.invokevirtual 73, 3) := by decide +kernel
theorem dX2_edgesClash_17 : decode cX2_edgesClash 17 = .ok (.invokevirtual 77, 3) := by decide +kernel
theorem dX2_edgesClash_20 : decode cX2_edgesClash 20 = .ok (.ireturn, 1) := by decide +kernel
theorem dX2_edgesClash_21 : decode cX2_edgesClash 21 = .ok (.aload_n 0, 1) := by decide +kernel
theorem dX2_edgesClash_22 : decode cX2_edgesClash 22 = .ok (.iload_n 2, 1) := by decide +kernel
theorem dX2_edgesClash_23 : decode cX2_edgesClash 23 = .ok (.invokevirtual 73, 3) := by decide +kernel
theorem dX2_edgesClash_26 : decode cX2_edgesClash 26 = .ok (.iload_n 1, 1) := by decide +kernel
theorem dX2_edgesClash_27 : decode cX2_edgesClash 27 = .ok (.if_icmp .ne 15, 3) := by decide +kernel
theorem dX2_edgesClash_30 : decode cX2_edgesClash 30 = .ok (.aload_n 0, 1) := by decide +kernel
theorem dX2_edgesClash_31 : decode cX2_edgesClash 31 = .ok (.iload_n 2, 1) := by decide +kernel
theorem dX2_edgesClash_32 : decode cX2_edgesClash 32 = .ok (.iload_n 1, 1) := by decide +kernel
theorem dX2_edgesClash_33 : decode cX2_edgesClash 33 = .ok (.aload_n 0, 1) := by decide +kernel
theorem dX2_edgesClash_34 : decode cX2_edgesClash 34 = .ok (.iload_n 1, 1) := by decide +kernel
theorem dX2_edgesClash_35 : decode cX2_edgesClash 35 = .ok (.invokevirtual 73, 3) := by decide +kernel
theorem dX2_edgesClash_38 : decode cX2_edgesClash 38 = .ok (.invokevirtual 77, 3) := by decide +kernel
theorem dX2_edgesClash_41 : decode cX2_edgesClash 41 = .ok (.ireturn, 1) := by decide +kernel
theorem dX2_edgesClash_42 : decode cX2_edgesClash 42 = .ok (.aload_n 0, 1) := by decide +kernel
theorem dX2_edgesClash_43 : decode cX2_edgesClash 43 = .ok (.iload_n 1, 1) := by decide +kernel
theorem dX2_edgesClash_44 : decode cX2_edgesClash 44 = .ok (.aload_n 0, 1) := by decide +kernel
theorem dX2_edgesClash_45 : decode cX2_edgesClash 45 = .ok (.iload_n 1, 1) := by decide +kernel
theorem dX2_edgesClash_46 : decode cX2_edgesClash 46 = .ok (.invokevirtual 73, 3) := by decide +kernel
theorem dX2_edgesClash_49 : decode cX2_edgesClash 49 = .ok (.iload_n 2, 1) := by decide +kernel
theorem dX2_edgesClash_50 : decode cX2_edgesClash 50 = .ok (.aload_n 0, 1) := by decide +kernel
theorem dX2_edgesClash_51 : decode cX2_edgesClash 51 = .ok (.iload_n 2, 1) := by decide +kernel
theorem dX2_edgesClash_52 : decode cX2_edgesClash 52 = .ok (.invokevirtual 73, 3) := by decide +kernel
theorem dX2_edgesClash_55 : decode cX2_edgesClash 55 = .ok (.invokevirtual 81, 3) := by decide +kernel
theorem dX2_edgesClash_58 : decode cX2_edgesClash 58 = .ok (.ireturn, 1) := by decide +kernel
def tb_22 (pc : Nat) : Option mEnt := bif Nat.ble pc 27 then (bif Nat.ble pc 12 then (bif Nat.ble pc 5 then (bif Nat.ble pc 1 then (bif Nat.ble pc 0 then (bif Nat.beq pc 0 then some (.inl (o_al 0 1)) else none) else (bif Nat.beq pc 1 then some (.inl (o_il 1 1)) else none)) else (bif Nat.ble pc 2 then (bif Nat.beq pc 2 then some (.inr (3, 29, 2, 2)) else none) else (bif Nat.beq pc 5 then some (.inl (o_il 2 1)) else none))) else (bif Nat.ble pc 9 then (bif Nat.ble pc 6 then (bif Nat.beq pc 6 then some (.inl (o_cne 21)) else none) else (bif Nat.beq pc 9 then some (.inl (o_al 0 1)) else none)) else (bif Nat.ble pc 10 then (bif Nat.beq pc 10 then some (.inl (o_il 1 1)) else none) else (bif Nat.ble pc 11 then (bif Nat.beq pc 11 then some (.inl (o_il 2 1)) else none) else (bif Nat.beq pc 12 then some (.inl (o_al 0 1)) else none))))) else (bif Nat.ble pc 20 then (bif Nat.ble pc 14 then (bif Nat.ble pc 13 then (bif Nat.beq pc 13 then some (.inl (o_il 2 1)) else none) else (bif Nat.beq pc 14 then some (.inr (3, 29, 2, 2)) else none)) else (bif Nat.ble pc 17 then (bif Nat.beq pc 17 then some (.inr (3, 23, 4, 2)) else none) else (bif Nat.beq pc 20 then some (.inr (0, 0, 0, 4)) else none))) else (bif Nat.ble pc 22 then (bif Nat.ble pc 21 then (bif Nat.beq pc 21 then some (.inl (o_al 0 1)) else none) else (bif Nat.beq pc 22 then some (.inl (o_il 2 1)) else none)) else (bif Nat.ble pc 23 then (bif Nat.beq pc 23 then some (.inr (3, 29, 2, 2)) else none) else (bif Nat.ble pc 26 then (bif Nat.beq pc 26 then some (.inl (o_il 1 1)) else none) else (bif Nat.beq pc 27 then some (.inl (o_cne 42)) else none)))))) else (bif Nat.ble pc 42 then (bif Nat.ble pc 33 then (bif Nat.ble pc 31 then (bif Nat.ble pc 30 then (bif Nat.beq pc 30 then some (.inl (o_al 0 1)) else none) else (bif Nat.beq pc 31 then some (.inl (o_il 2 1)) else none)) else (bif Nat.ble pc 32 then (bif Nat.beq pc 32 then some (.inl (o_il 1 1)) else none) else (bif Nat.beq pc 33 then some (.inl (o_al 0 1)) else none))) else (bif Nat.ble pc 35 then (bif Nat.ble pc 34 then (bif Nat.beq pc 34 then some (.inl (o_il 1 1)) else none) else (bif Nat.beq pc 35 then some (.inr (3, 29, 2, 2)) else none)) else (bif Nat.ble pc 38 then (bif Nat.beq pc 38 then some (.inr (3, 23, 4, 2)) else none) else (bif Nat.ble pc 41 then (bif Nat.beq pc 41 then some (.inr (0, 0, 0, 4)) else none) else (bif Nat.beq pc 42 then some (.inl (o_al 0 1)) else none))))) else (bif Nat.ble pc 49 then (bif Nat.ble pc 44 then (bif Nat.ble pc 43 then (bif Nat.beq pc 43 then some (.inl (o_il 1 1)) else none) else (bif Nat.beq pc 44 then some (.inl (o_al 0 1)) else none)) else (bif Nat.ble pc 45 then (bif Nat.beq pc 45 then some (.inl (o_il 1 1)) else none) else (bif Nat.ble pc 46 then (bif Nat.beq pc 46 then some (.inr (3, 29, 2, 2)) else none) else (bif Nat.beq pc 49 then some (.inl (o_il 2 1)) else none)))) else (bif Nat.ble pc 51 then (bif Nat.ble pc 50 then (bif Nat.beq pc 50 then some (.inl (o_al 0 1)) else none) else (bif Nat.beq pc 51 then some (.inl (o_il 2 1)) else none)) else (bif Nat.ble pc 52 then (bif Nat.beq pc 52 then some (.inr (3, 29, 2, 2)) else none) else (bif Nat.ble pc 55 then (bif Nat.beq pc 55 then some (.inr (3, 24, 5, 2)) else none) else (bif Nat.beq pc 58 then some (.inr (0, 0, 0, 4)) else none))))))
theorem k_22_0 : mOk M_22.1 M_22.2.1 M_22.2.2.1 M_22.2.2.2 0 (o_al 0 1) := ok_aload_n dX2_edgesClash_0 rfl
theorem k_22_1 : mOk M_22.1 M_22.2.1 M_22.2.2.1 M_22.2.2.2 1 (o_il 1 1) := ok_iload_n dX2_edgesClash_1 rfl
theorem k_22_5 : mOk M_22.1 M_22.2.1 M_22.2.2.1 M_22.2.2.2 5 (o_il 2 1) := ok_iload_n dX2_edgesClash_5 rfl
theorem k_22_6 : mOk M_22.1 M_22.2.1 M_22.2.2.1 M_22.2.2.2 6 (o_cne 21) := ok_cne dX2_edgesClash_6 (by decide)
theorem k_22_9 : mOk M_22.1 M_22.2.1 M_22.2.2.1 M_22.2.2.2 9 (o_al 0 1) := ok_aload_n dX2_edgesClash_9 rfl
theorem k_22_10 : mOk M_22.1 M_22.2.1 M_22.2.2.1 M_22.2.2.2 10 (o_il 1 1) := ok_iload_n dX2_edgesClash_10 rfl
theorem k_22_11 : mOk M_22.1 M_22.2.1 M_22.2.2.1 M_22.2.2.2 11 (o_il 2 1) := ok_iload_n dX2_edgesClash_11 rfl
theorem k_22_12 : mOk M_22.1 M_22.2.1 M_22.2.2.1 M_22.2.2.2 12 (o_al 0 1) := ok_aload_n dX2_edgesClash_12 rfl
theorem k_22_13 : mOk M_22.1 M_22.2.1 M_22.2.2.1 M_22.2.2.2 13 (o_il 2 1) := ok_iload_n dX2_edgesClash_13 rfl
theorem k_22_21 : mOk M_22.1 M_22.2.1 M_22.2.2.1 M_22.2.2.2 21 (o_al 0 1) := ok_aload_n dX2_edgesClash_21 rfl
theorem k_22_22 : mOk M_22.1 M_22.2.1 M_22.2.2.1 M_22.2.2.2 22 (o_il 2 1) := ok_iload_n dX2_edgesClash_22 rfl
theorem k_22_26 : mOk M_22.1 M_22.2.1 M_22.2.2.1 M_22.2.2.2 26 (o_il 1 1) := ok_iload_n dX2_edgesClash_26 rfl
theorem k_22_27 : mOk M_22.1 M_22.2.1 M_22.2.2.1 M_22.2.2.2 27 (o_cne 42) := ok_cne dX2_edgesClash_27 (by decide)
theorem k_22_30 : mOk M_22.1 M_22.2.1 M_22.2.2.1 M_22.2.2.2 30 (o_al 0 1) := ok_aload_n dX2_edgesClash_30 rfl
theorem k_22_31 : mOk M_22.1 M_22.2.1 M_22.2.2.1 M_22.2.2.2 31 (o_il 2 1) := ok_iload_n dX2_edgesClash_31 rfl
theorem k_22_32 : mOk M_22.1 M_22.2.1 M_22.2.2.1 M_22.2.2.2 32 (o_il 1 1) := ok_iload_n dX2_edgesClash_32 rfl
theorem k_22_33 : mOk M_22.1 M_22.2.1 M_22.2.2.1 M_22.2.2.2 33 (o_al 0 1) := ok_aload_n dX2_edgesClash_33 rfl
theorem k_22_34 : mOk M_22.1 M_22.2.1 M_22.2.2.1 M_22.2.2.2 34 (o_il 1 1) := ok_iload_n dX2_edgesClash_34 rfl
theorem k_22_42 : mOk M_22.1 M_22.2.1 M_22.2.2.1 M_22.2.2.2 42 (o_al 0 1) := ok_aload_n dX2_edgesClash_42 rfl
theorem k_22_43 : mOk M_22.1 M_22.2.1 M_22.2.2.1 M_22.2.2.2 43 (o_il 1 1) := ok_iload_n dX2_edgesClash_43 rfl
theorem k_22_44 : mOk M_22.1 M_22.2.1 M_22.2.2.1 M_22.2.2.2 44 (o_al 0 1) := ok_aload_n dX2_edgesClash_44 rfl
theorem k_22_45 : mOk M_22.1 M_22.2.1 M_22.2.2.1 M_22.2.2.2 45 (o_il 1 1) := ok_iload_n dX2_edgesClash_45 rfl
theorem k_22_49 : mOk M_22.1 M_22.2.1 M_22.2.2.1 M_22.2.2.2 49 (o_il 2 1) := ok_iload_n dX2_edgesClash_49 rfl
theorem k_22_50 : mOk M_22.1 M_22.2.1 M_22.2.2.1 M_22.2.2.2 50 (o_al 0 1) := ok_aload_n dX2_edgesClash_50 rfl
theorem k_22_51 : mOk M_22.1 M_22.2.1 M_22.2.2.1 M_22.2.2.2 51 (o_il 2 1) := ok_iload_n dX2_edgesClash_51 rfl
set_option maxRecDepth 20000 in
set_option maxHeartbeats 4000000 in
theorem tk_22 (l : Launch) (H9 : mThr l) (H10 : mSpl l) (pc : Nat) (q : mEnt) (h : tb_22 pc = some q) : EE l 22 pc q := nd h (fun h => nd h (fun h => nd h (fun h => nd h (fun h => nd h (fun h => lf (P := EE l 22) h k_22_0) (fun h => lf (P := EE l 22) h k_22_1)) (fun h => nd h (fun h => lf (P := EE l 22) h (EE_ca (by decide) (⟨m_575, m_71, ⟨by decide, by decide⟩, by decide +kernel, ⟨by decide, by decide⟩, 73, 1, by decide +kernel, Or.inr (Or.inr (Or.inl ⟨rfl, rfl, dX2_edgesClash_2, m_572, m_573, _, rfl, by decide, m_574⟩))⟩) rfl)) (fun h => lf (P := EE l 22) h k_22_5))) (fun h => nd h (fun h => nd h (fun h => lf (P := EE l 22) h k_22_6) (fun h => lf (P := EE l 22) h k_22_9)) (fun h => nd h (fun h => lf (P := EE l 22) h k_22_10) (fun h => nd h (fun h => lf (P := EE l 22) h k_22_11) (fun h => lf (P := EE l 22) h k_22_12))))) (fun h => nd h (fun h => nd h (fun h => nd h (fun h => lf (P := EE l 22) h k_22_13) (fun h => lf (P := EE l 22) h (EE_ca (by decide) (⟨m_575, m_71, ⟨by decide, by decide⟩, by decide +kernel, ⟨by decide, by decide⟩, 73, 1, by decide +kernel, Or.inr (Or.inr (Or.inl ⟨rfl, rfl, dX2_edgesClash_14, m_572, m_573, _, rfl, by decide, m_574⟩))⟩) rfl))) (fun h => nd h (fun h => lf (P := EE l 22) h (EE_ca (by decide) (⟨m_579, m_71, ⟨by decide, by decide⟩, by decide +kernel, ⟨by decide, by decide⟩, 77, 3, by decide +kernel, Or.inr (Or.inr (Or.inl ⟨rfl, rfl, dX2_edgesClash_17, m_576, m_578, _, rfl, by decide, m_6⟩))⟩) rfl)) (fun h => lf (P := EE l 22) h (EE_re (Or.inr (Or.inl ⟨rfl, dX2_edgesClash_20, rfl⟩)))))) (fun h => nd h (fun h => nd h (fun h => lf (P := EE l 22) h k_22_21) (fun h => lf (P := EE l 22) h k_22_22)) (fun h => nd h (fun h => lf (P := EE l 22) h (EE_ca (by decide) (⟨m_575, m_71, ⟨by decide, by decide⟩, by decide +kernel, ⟨by decide, by decide⟩, 73, 1, by decide +kernel, Or.inr (Or.inr (Or.inl ⟨rfl, rfl, dX2_edgesClash_23, m_572, m_573, _, rfl, by decide, m_574⟩))⟩) rfl)) (fun h => nd h (fun h => lf (P := EE l 22) h k_22_26) (fun h => lf (P := EE l 22) h k_22_27)))))) (fun h => nd h (fun h => nd h (fun h => nd h (fun h => nd h (fun h => lf (P := EE l 22) h k_22_30) (fun h => lf (P := EE l 22) h k_22_31)) (fun h => nd h (fun h => lf (P := EE l 22) h k_22_32) (fun h => lf (P := EE l 22) h k_22_33))) (fun h => nd h (fun h => nd h (fun h => lf (P := EE l 22) h k_22_34) (fun h => lf (P := EE l 22) h (EE_ca (by decide) (⟨m_575, m_71, ⟨by decide, by decide⟩, by decide +kernel, ⟨by decide, by decide⟩, 73, 1, by decide +kernel, Or.inr (Or.inr (Or.inl ⟨rfl, rfl, dX2_edgesClash_35, m_572, m_573, _, rfl, by decide, m_574⟩))⟩) rfl))) (fun h => nd h (fun h => lf (P := EE l 22) h (EE_ca (by decide) (⟨m_579, m_71, ⟨by decide, by decide⟩, by decide +kernel, ⟨by decide, by decide⟩, 77, 3, by decide +kernel, Or.inr (Or.inr (Or.inl ⟨rfl, rfl, dX2_edgesClash_38, m_576, m_578, _, rfl, by decide, m_6⟩))⟩) rfl)) (fun h => nd h (fun h => lf (P := EE l 22) h (EE_re (Or.inr (Or.inl ⟨rfl, dX2_edgesClash_41, rfl⟩)))) (fun h => lf (P := EE l 22) h k_22_42))))) (fun h => nd h (fun h => nd h (fun h => nd h (fun h => lf (P := EE l 22) h k_22_43) (fun h => lf (P := EE l 22) h k_22_44)) (fun h => nd h (fun h => lf (P := EE l 22) h k_22_45) (fun h => nd h (fun h => lf (P := EE l 22) h (EE_ca (by decide) (⟨m_575, m_71, ⟨by decide, by decide⟩, by decide +kernel, ⟨by decide, by decide⟩, 73, 1, by decide +kernel, Or.inr (Or.inr (Or.inl ⟨rfl, rfl, dX2_edgesClash_46, m_572, m_573, _, rfl, by decide, m_574⟩))⟩) rfl)) (fun h => lf (P := EE l 22) h k_22_49)))) (fun h => nd h (fun h => nd h (fun h => lf (P := EE l 22) h k_22_50) (fun h => lf (P := EE l 22) h k_22_51)) (fun h => nd h (fun h => lf (P := EE l 22) h (EE_ca (by decide) (⟨m_575, m_71, ⟨by decide, by decide⟩, by decide +kernel, ⟨by decide, by decide⟩, 73, 1, by decide +kernel, Or.inr (Or.inr (Or.inl ⟨rfl, rfl, dX2_edgesClash_52, m_572, m_573, _, rfl, by decide, m_574⟩))⟩) rfl)) (fun h => nd h (fun h => lf (P := EE l 22) h (EE_ca (by decide) (⟨m_590, m_71, ⟨by decide, by decide⟩, by decide +kernel, ⟨by decide, by decide⟩, 81, 4, by decide +kernel, Or.inr (Or.inr (Or.inl ⟨rfl, rfl, dX2_edgesClash_55, m_587, m_589, _, rfl, by decide, m_8⟩))⟩) rfl)) (fun h => lf (P := EE l 22) h (EE_re (Or.inr (Or.inl ⟨rfl, dX2_edgesClash_58, rfl⟩)))))))))
theorem dX2_foldsBack_0 : decode cX2_foldsBack 0 = .ok (.aload_n 0, 1) := by decide +kernel
theorem dX2_foldsBack_1 : decode cX2_foldsBack 1 = .ok (.getfield 9, 3) := by decide +kernel
theorem dX2_foldsBack_4 : decode cX2_foldsBack 4 = .ok (.iload_n 1, 1) := by decide +kernel
theorem dX2_foldsBack_5 : decode cX2_foldsBack 5 = .ok (.iaload, 1) := by decide +kernel
theorem dX2_foldsBack_6 : decode cX2_foldsBack 6 = .ok (.aload_n 0, 1) := by decide +kernel
theorem dX2_foldsBack_7 : decode cX2_foldsBack 7 = .ok (.getfield 9, 3) := by decide +kernel
theorem dX2_foldsBack_10 : decode cX2_foldsBack 10 = .ok (.iload_n 2, 1) := by decide +kernel
theorem dX2_foldsBack_11 : decode cX2_foldsBack 11 = .ok (.iaload, 1) := by decide +kernel
theorem dX2_foldsBack_12 : decode cX2_foldsBack 12 = .ok (.isub, 1) := by decide +kernel
theorem dX2_foldsBack_13 : decode cX2_foldsBack 13 = .ok (.aload_n 0, 1) := by decide +kernel
theorem dX2_foldsBack_14 : decode cX2_foldsBack 14 = .ok (.getfield 9, 3) := by decide +kernel
theorem dX2_foldsBack_17 : decode cX2_foldsBack 17 = .ok (.iload_n 3, 1) := by decide +kernel
theorem dX2_foldsBack_18 : decode cX2_foldsBack 18 = .ok (.iaload, 1) := by decide +kernel
theorem dX2_foldsBack_19 : decode cX2_foldsBack 19 = .ok (.aload_n 0, 1) := by decide +kernel
theorem dX2_foldsBack_20 : decode cX2_foldsBack 20 = .ok (.getfield 9, 3) := by decide +kernel
theorem dX2_foldsBack_23 : decode cX2_foldsBack 23 = .ok (.iload_n 2, 1) := by decide +kernel
theorem dX2_foldsBack_24 : decode cX2_foldsBack 24 = .ok (.iaload, 1) := by decide +kernel
theorem dX2_foldsBack_25 : decode cX2_foldsBack 25 = .ok (.isub, 1) := by decide +kernel
theorem dX2_foldsBack_26 : decode cX2_foldsBack 26 = .ok (.imul, 1) := by decide +kernel
theorem dX2_foldsBack_27 : decode cX2_foldsBack 27 = .ok (.aload_n 0, 1) := by decide +kernel
theorem dX2_foldsBack_28 : decode cX2_foldsBack 28 = .ok (.getfield 15, 3) := by decide +kernel
theorem dX2_foldsBack_31 : decode cX2_foldsBack 31 = .ok (.iload_n 1, 1) := by decide +kernel
theorem dX2_foldsBack_32 : decode cX2_foldsBack 32 = .ok (.iaload, 1) := by decide +kernel
theorem dX2_foldsBack_33 : decode cX2_foldsBack 33 = .ok (.aload_n 0, 1) := by decide +kernel
theorem dX2_foldsBack_34 : decode cX2_foldsBack 34 = .ok (.getfield 15, 3) := by decide +kernel
theorem dX2_foldsBack_37 : decode cX2_foldsBack 37 = .ok (.iload_n 2, 1) := by decide +kernel
theorem dX2_foldsBack_38 : decode cX2_foldsBack 38 = .ok (.iaload, 1) := by decide +kernel
theorem dX2_foldsBack_39 : decode cX2_foldsBack 39 = .ok (.isub, 1) := by decide +kernel
theorem dX2_foldsBack_40 : decode cX2_foldsBack 40 = .ok (.aload_n 0, 1) := by decide +kernel
theorem dX2_foldsBack_41 : decode cX2_foldsBack 41 = .ok (.getfield 15, 3) := by decide +kernel
theorem dX2_foldsBack_44 : decode cX2_foldsBack 44 = .ok (.iload_n 3, 1) := by decide +kernel
theorem dX2_foldsBack_45 : decode cX2_foldsBack 45 = .ok (.iaload, 1) := by decide +kernel
theorem dX2_foldsBack_46 : decode cX2_foldsBack 46 = .ok (.aload_n 0, 1) := by decide +kernel
theorem dX2_foldsBack_47 : decode cX2_foldsBack 47 = .ok (.getfield 15, 3) := by decide +kernel
theorem dX2_foldsBack_50 : decode cX2_foldsBack 50 = .ok (.iload_n 2, 1) := by decide +kernel
theorem dX2_foldsBack_51 : decode cX2_foldsBack 51 = .ok (.iaload, 1) := by decide +kernel
theorem dX2_foldsBack_52 : decode cX2_foldsBack 52 = .ok (.isub, 1) := by decide +kernel
theorem dX2_foldsBack_53 : decode cX2_foldsBack 53 = .ok (.imul, 1) := by decide +kernel
theorem dX2_foldsBack_54 : decode cX2_foldsBack 54 = .ok (.iadd, 1) := by decide +kernel
theorem dX2_foldsBack_55 : decode cX2_foldsBack 55 = .ok (.istore 4, 2) := by decide +kernel
theorem dX2_foldsBack_57 : decode cX2_foldsBack 57 = .ok (.aload_n 0, 1) := by decide +kernel
theorem dX2_foldsBack_58 : decode cX2_foldsBack 58 = .ok (.iload_n 1, 1) := by decide +kernel
theorem dX2_foldsBack_59 : decode cX2_foldsBack 59 = .ok (.iload_n 2, 1) := by decide +kernel
theorem dX2_foldsBack_60 : decode cX2_foldsBack 60 = .ok (.iload_n 3, 1) := by decide +kernel
theorem dX2_foldsBack_61 : decode cX2_foldsBack 61 = .ok (.invokevirtual 85, 3) := by decide +kernel
theorem dX2_foldsBack_64 : decode cX2_foldsBack 64 = .ok (.ifCond .ne 12, 3) := by decide +kernel
theorem dX2_foldsBack_67 : decode cX2_foldsBack 67 = .ok (.iload 4, 2) := by decide +kernel
theorem dX2_foldsBack_69 : decode cX2_foldsBack 69 = .ok (.ifCond .le 7, 3) := by decide +kernel
theorem dX2_foldsBack_72 : decode cX2_foldsBack 72 = .ok (.iconst 1, 1) := by decide +kernel
theorem dX2_foldsBack_73 : decode cX2_foldsBack 73 = .ok (.goto 4, 3) := by decide +kernel
theorem dX2_foldsBack_76 : decode cX2_foldsBack 76 = .ok (.iconst 0, 1) := by decide +kernel
theorem dX2_foldsBack_77 : decode cX2_foldsBack 77 = .ok (.ireturn, 1) := by decide +kernel
def tb_23 (pc : Nat) : Option mEnt := bif Nat.ble pc 37 then (bif Nat.ble pc 18 then (bif Nat.ble pc 7 then (bif Nat.ble pc 4 then (bif Nat.ble pc 0 then (bif Nat.beq pc 0 then some (.inl (o_al 0 1)) else none) else (bif Nat.ble pc 1 then (bif Nat.beq pc 1 then some (.inl (o_gP 2 6)) else none) else (bif Nat.beq pc 4 then some (.inl (o_il 1 1)) else none))) else (bif Nat.ble pc 5 then (bif Nat.beq pc 5 then some (.inl (o_iald)) else none) else (bif Nat.ble pc 6 then (bif Nat.beq pc 6 then some (.inl (o_al 0 1)) else none) else (bif Nat.beq pc 7 then some (.inl (o_gP 2 6)) else none)))) else (bif Nat.ble pc 12 then (bif Nat.ble pc 10 then (bif Nat.beq pc 10 then some (.inl (o_il 2 1)) else none) else (bif Nat.ble pc 11 then (bif Nat.beq pc 11 then some (.inl (o_iald)) else none) else (bif Nat.beq pc 12 then some (.inl (oS 1 (s_ii (fun a b => a - b)))) else none))) else (bif Nat.ble pc 14 then (bif Nat.ble pc 13 then (bif Nat.beq pc 13 then some (.inl (o_al 0 1)) else none) else (bif Nat.beq pc 14 then some (.inl (o_gP 2 6)) else none)) else (bif Nat.ble pc 17 then (bif Nat.beq pc 17 then some (.inl (o_il 3 1)) else none) else (bif Nat.beq pc 18 then some (.inl (o_iald)) else none))))) else (bif Nat.ble pc 26 then (bif Nat.ble pc 23 then (bif Nat.ble pc 19 then (bif Nat.beq pc 19 then some (.inl (o_al 0 1)) else none) else (bif Nat.ble pc 20 then (bif Nat.beq pc 20 then some (.inl (o_gP 2 6)) else none) else (bif Nat.beq pc 23 then some (.inl (o_il 2 1)) else none))) else (bif Nat.ble pc 24 then (bif Nat.beq pc 24 then some (.inl (o_iald)) else none) else (bif Nat.ble pc 25 then (bif Nat.beq pc 25 then some (.inl (oS 1 (s_ii (fun a b => a - b)))) else none) else (bif Nat.beq pc 26 then some (.inl (oS 1 (s_ii (fun a b => a * b)))) else none)))) else (bif Nat.ble pc 31 then (bif Nat.ble pc 27 then (bif Nat.beq pc 27 then some (.inl (o_al 0 1)) else none) else (bif Nat.ble pc 28 then (bif Nat.beq pc 28 then some (.inl (o_gP 2 7)) else none) else (bif Nat.beq pc 31 then some (.inl (o_il 1 1)) else none))) else (bif Nat.ble pc 33 then (bif Nat.ble pc 32 then (bif Nat.beq pc 32 then some (.inl (o_iald)) else none) else (bif Nat.beq pc 33 then some (.inl (o_al 0 1)) else none)) else (bif Nat.ble pc 34 then (bif Nat.beq pc 34 then some (.inl (o_gP 2 7)) else none) else (bif Nat.beq pc 37 then some (.inl (o_il 2 1)) else none)))))) else (bif Nat.ble pc 54 then (bif Nat.ble pc 45 then (bif Nat.ble pc 40 then (bif Nat.ble pc 38 then (bif Nat.beq pc 38 then some (.inl (o_iald)) else none) else (bif Nat.ble pc 39 then (bif Nat.beq pc 39 then some (.inl (oS 1 (s_ii (fun a b => a - b)))) else none) else (bif Nat.beq pc 40 then some (.inl (o_al 0 1)) else none))) else (bif Nat.ble pc 41 then (bif Nat.beq pc 41 then some (.inl (o_gP 2 7)) else none) else (bif Nat.ble pc 44 then (bif Nat.beq pc 44 then some (.inl (o_il 3 1)) else none) else (bif Nat.beq pc 45 then some (.inl (o_iald)) else none)))) else (bif Nat.ble pc 50 then (bif Nat.ble pc 46 then (bif Nat.beq pc 46 then some (.inl (o_al 0 1)) else none) else (bif Nat.ble pc 47 then (bif Nat.beq pc 47 then some (.inl (o_gP 2 7)) else none) else (bif Nat.beq pc 50 then some (.inl (o_il 2 1)) else none))) else (bif Nat.ble pc 52 then (bif Nat.ble pc 51 then (bif Nat.beq pc 51 then some (.inl (o_iald)) else none) else (bif Nat.beq pc 52 then some (.inl (oS 1 (s_ii (fun a b => a - b)))) else none)) else (bif Nat.ble pc 53 then (bif Nat.beq pc 53 then some (.inl (oS 1 (s_ii (fun a b => a * b)))) else none) else (bif Nat.beq pc 54 then some (.inl (oS 1 (s_ii (fun a b => a + b)))) else none))))) else (bif Nat.ble pc 61 then (bif Nat.ble pc 58 then (bif Nat.ble pc 55 then (bif Nat.beq pc 55 then some (.inl (o_is 4 2)) else none) else (bif Nat.ble pc 57 then (bif Nat.beq pc 57 then some (.inl (o_al 0 1)) else none) else (bif Nat.beq pc 58 then some (.inl (o_il 1 1)) else none))) else (bif Nat.ble pc 59 then (bif Nat.beq pc 59 then some (.inl (o_il 2 1)) else none) else (bif Nat.ble pc 60 then (bif Nat.beq pc 60 then some (.inl (o_il 3 1)) else none) else (bif Nat.beq pc 61 then some (.inr (3, 27, 4, 2)) else none)))) else (bif Nat.ble pc 69 then (bif Nat.ble pc 64 then (bif Nat.beq pc 64 then some (.inl (o_zne 76)) else none) else (bif Nat.ble pc 67 then (bif Nat.beq pc 67 then some (.inl (o_il 4 2)) else none) else (bif Nat.beq pc 69 then some (.inl (o_zle 76)) else none))) else (bif Nat.ble pc 73 then (bif Nat.ble pc 72 then (bif Nat.beq pc 72 then some (.inl (oS 1 (s_push (.int 1)))) else none) else (bif Nat.beq pc 73 then some (.inl (o_goto 77)) else none)) else (bif Nat.ble pc 76 then (bif Nat.beq pc 76 then some (.inl (oS 1 (s_push (.int 0)))) else none) else (bif Nat.beq pc 77 then some (.inr (0, 0, 0, 4)) else none))))))
theorem k_23_0 : mOk M_23.1 M_23.2.1 M_23.2.2.1 M_23.2.2.2 0 (o_al 0 1) := ok_aload_n dX2_foldsBack_0 rfl
theorem k_23_1 : mOk M_23.1 M_23.2.1 M_23.2.2.1 M_23.2.2.2 1 (o_gP 2 6) := ok_gP dX2_foldsBack_1 f_RX2_9 rfl
theorem k_23_4 : mOk M_23.1 M_23.2.1 M_23.2.2.1 M_23.2.2.2 4 (o_il 1 1) := ok_iload_n dX2_foldsBack_4 rfl
theorem k_23_5 : mOk M_23.1 M_23.2.1 M_23.2.2.1 M_23.2.2.2 5 (o_iald) := ok_iald dX2_foldsBack_5
theorem k_23_6 : mOk M_23.1 M_23.2.1 M_23.2.2.1 M_23.2.2.2 6 (o_al 0 1) := ok_aload_n dX2_foldsBack_6 rfl
theorem k_23_7 : mOk M_23.1 M_23.2.1 M_23.2.2.1 M_23.2.2.2 7 (o_gP 2 6) := ok_gP dX2_foldsBack_7 f_RX2_9 rfl
theorem k_23_10 : mOk M_23.1 M_23.2.1 M_23.2.2.1 M_23.2.2.2 10 (o_il 2 1) := ok_iload_n dX2_foldsBack_10 rfl
theorem k_23_11 : mOk M_23.1 M_23.2.1 M_23.2.2.1 M_23.2.2.2 11 (o_iald) := ok_iald dX2_foldsBack_11
theorem k_23_12 : mOk M_23.1 M_23.2.1 M_23.2.2.1 M_23.2.2.2 12 (oS 1 (s_ii (fun a b => a - b))) := ok_isub dX2_foldsBack_12
theorem k_23_13 : mOk M_23.1 M_23.2.1 M_23.2.2.1 M_23.2.2.2 13 (o_al 0 1) := ok_aload_n dX2_foldsBack_13 rfl
theorem k_23_14 : mOk M_23.1 M_23.2.1 M_23.2.2.1 M_23.2.2.2 14 (o_gP 2 6) := ok_gP dX2_foldsBack_14 f_RX2_9 rfl
theorem k_23_17 : mOk M_23.1 M_23.2.1 M_23.2.2.1 M_23.2.2.2 17 (o_il 3 1) := ok_iload_n dX2_foldsBack_17 rfl
theorem k_23_18 : mOk M_23.1 M_23.2.1 M_23.2.2.1 M_23.2.2.2 18 (o_iald) := ok_iald dX2_foldsBack_18
theorem k_23_19 : mOk M_23.1 M_23.2.1 M_23.2.2.1 M_23.2.2.2 19 (o_al 0 1) := ok_aload_n dX2_foldsBack_19 rfl
theorem k_23_20 : mOk M_23.1 M_23.2.1 M_23.2.2.1 M_23.2.2.2 20 (o_gP 2 6) := ok_gP dX2_foldsBack_20 f_RX2_9 rfl
theorem k_23_23 : mOk M_23.1 M_23.2.1 M_23.2.2.1 M_23.2.2.2 23 (o_il 2 1) := ok_iload_n dX2_foldsBack_23 rfl
theorem k_23_24 : mOk M_23.1 M_23.2.1 M_23.2.2.1 M_23.2.2.2 24 (o_iald) := ok_iald dX2_foldsBack_24
theorem k_23_25 : mOk M_23.1 M_23.2.1 M_23.2.2.1 M_23.2.2.2 25 (oS 1 (s_ii (fun a b => a - b))) := ok_isub dX2_foldsBack_25
theorem k_23_26 : mOk M_23.1 M_23.2.1 M_23.2.2.1 M_23.2.2.2 26 (oS 1 (s_ii (fun a b => a * b))) := ok_imul dX2_foldsBack_26
theorem k_23_27 : mOk M_23.1 M_23.2.1 M_23.2.2.1 M_23.2.2.2 27 (o_al 0 1) := ok_aload_n dX2_foldsBack_27 rfl
theorem k_23_28 : mOk M_23.1 M_23.2.1 M_23.2.2.1 M_23.2.2.2 28 (o_gP 2 7) := ok_gP dX2_foldsBack_28 f_RX2_15 rfl
theorem k_23_31 : mOk M_23.1 M_23.2.1 M_23.2.2.1 M_23.2.2.2 31 (o_il 1 1) := ok_iload_n dX2_foldsBack_31 rfl
theorem k_23_32 : mOk M_23.1 M_23.2.1 M_23.2.2.1 M_23.2.2.2 32 (o_iald) := ok_iald dX2_foldsBack_32
theorem k_23_33 : mOk M_23.1 M_23.2.1 M_23.2.2.1 M_23.2.2.2 33 (o_al 0 1) := ok_aload_n dX2_foldsBack_33 rfl
theorem k_23_34 : mOk M_23.1 M_23.2.1 M_23.2.2.1 M_23.2.2.2 34 (o_gP 2 7) := ok_gP dX2_foldsBack_34 f_RX2_15 rfl
theorem k_23_37 : mOk M_23.1 M_23.2.1 M_23.2.2.1 M_23.2.2.2 37 (o_il 2 1) := ok_iload_n dX2_foldsBack_37 rfl
theorem k_23_38 : mOk M_23.1 M_23.2.1 M_23.2.2.1 M_23.2.2.2 38 (o_iald) := ok_iald dX2_foldsBack_38
theorem k_23_39 : mOk M_23.1 M_23.2.1 M_23.2.2.1 M_23.2.2.2 39 (oS 1 (s_ii (fun a b => a - b))) := ok_isub dX2_foldsBack_39
theorem k_23_40 : mOk M_23.1 M_23.2.1 M_23.2.2.1 M_23.2.2.2 40 (o_al 0 1) := ok_aload_n dX2_foldsBack_40 rfl
theorem k_23_41 : mOk M_23.1 M_23.2.1 M_23.2.2.1 M_23.2.2.2 41 (o_gP 2 7) := ok_gP dX2_foldsBack_41 f_RX2_15 rfl
theorem k_23_44 : mOk M_23.1 M_23.2.1 M_23.2.2.1 M_23.2.2.2 44 (o_il 3 1) := ok_iload_n dX2_foldsBack_44 rfl
theorem k_23_45 : mOk M_23.1 M_23.2.1 M_23.2.2.1 M_23.2.2.2 45 (o_iald) := ok_iald dX2_foldsBack_45
theorem k_23_46 : mOk M_23.1 M_23.2.1 M_23.2.2.1 M_23.2.2.2 46 (o_al 0 1) := ok_aload_n dX2_foldsBack_46 rfl
theorem k_23_47 : mOk M_23.1 M_23.2.1 M_23.2.2.1 M_23.2.2.2 47 (o_gP 2 7) := ok_gP dX2_foldsBack_47 f_RX2_15 rfl
theorem k_23_50 : mOk M_23.1 M_23.2.1 M_23.2.2.1 M_23.2.2.2 50 (o_il 2 1) := ok_iload_n dX2_foldsBack_50 rfl
theorem k_23_51 : mOk M_23.1 M_23.2.1 M_23.2.2.1 M_23.2.2.2 51 (o_iald) := ok_iald dX2_foldsBack_51
theorem k_23_52 : mOk M_23.1 M_23.2.1 M_23.2.2.1 M_23.2.2.2 52 (oS 1 (s_ii (fun a b => a - b))) := ok_isub dX2_foldsBack_52
theorem k_23_53 : mOk M_23.1 M_23.2.1 M_23.2.2.1 M_23.2.2.2 53 (oS 1 (s_ii (fun a b => a * b))) := ok_imul dX2_foldsBack_53
theorem k_23_54 : mOk M_23.1 M_23.2.1 M_23.2.2.1 M_23.2.2.2 54 (oS 1 (s_ii (fun a b => a + b))) := ok_iadd dX2_foldsBack_54
theorem k_23_55 : mOk M_23.1 M_23.2.1 M_23.2.2.1 M_23.2.2.2 55 (o_is 4 2) := ok_istore dX2_foldsBack_55
theorem k_23_57 : mOk M_23.1 M_23.2.1 M_23.2.2.1 M_23.2.2.2 57 (o_al 0 1) := ok_aload_n dX2_foldsBack_57 rfl
theorem k_23_58 : mOk M_23.1 M_23.2.1 M_23.2.2.1 M_23.2.2.2 58 (o_il 1 1) := ok_iload_n dX2_foldsBack_58 rfl
theorem k_23_59 : mOk M_23.1 M_23.2.1 M_23.2.2.1 M_23.2.2.2 59 (o_il 2 1) := ok_iload_n dX2_foldsBack_59 rfl
theorem k_23_60 : mOk M_23.1 M_23.2.1 M_23.2.2.1 M_23.2.2.2 60 (o_il 3 1) := ok_iload_n dX2_foldsBack_60 rfl
theorem k_23_64 : mOk M_23.1 M_23.2.1 M_23.2.2.1 M_23.2.2.2 64 (o_zne 76) := ok_zne dX2_foldsBack_64 (by decide)
theorem k_23_67 : mOk M_23.1 M_23.2.1 M_23.2.2.1 M_23.2.2.2 67 (o_il 4 2) := ok_iload dX2_foldsBack_67
theorem k_23_69 : mOk M_23.1 M_23.2.1 M_23.2.2.1 M_23.2.2.2 69 (o_zle 76) := ok_zle dX2_foldsBack_69 (by decide)
theorem k_23_72 : mOk M_23.1 M_23.2.1 M_23.2.2.1 M_23.2.2.2 72 (oS 1 (s_push (.int 1))) := ok_iconst dX2_foldsBack_72 (by decide)
theorem k_23_73 : mOk M_23.1 M_23.2.1 M_23.2.2.1 M_23.2.2.2 73 (o_goto 77) := ok_goto dX2_foldsBack_73 (by decide)
theorem k_23_76 : mOk M_23.1 M_23.2.1 M_23.2.2.1 M_23.2.2.2 76 (oS 1 (s_push (.int 0))) := ok_iconst dX2_foldsBack_76 (by decide)
set_option maxRecDepth 20000 in
set_option maxHeartbeats 4000000 in
theorem tk_23 (l : Launch) (H9 : mThr l) (H10 : mSpl l) (pc : Nat) (q : mEnt) (h : tb_23 pc = some q) : EE l 23 pc q := nd h (fun h => nd h (fun h => nd h (fun h => nd h (fun h => nd h (fun h => lf (P := EE l 23) h k_23_0) (fun h => nd h (fun h => lf (P := EE l 23) h k_23_1) (fun h => lf (P := EE l 23) h k_23_4))) (fun h => nd h (fun h => lf (P := EE l 23) h k_23_5) (fun h => nd h (fun h => lf (P := EE l 23) h k_23_6) (fun h => lf (P := EE l 23) h k_23_7)))) (fun h => nd h (fun h => nd h (fun h => lf (P := EE l 23) h k_23_10) (fun h => nd h (fun h => lf (P := EE l 23) h k_23_11) (fun h => lf (P := EE l 23) h k_23_12))) (fun h => nd h (fun h => nd h (fun h => lf (P := EE l 23) h k_23_13) (fun h => lf (P := EE l 23) h k_23_14)) (fun h => nd h (fun h => lf (P := EE l 23) h k_23_17) (fun h => lf (P := EE l 23) h k_23_18))))) (fun h => nd h (fun h => nd h (fun h => nd h (fun h => lf (P := EE l 23) h k_23_19) (fun h => nd h (fun h => lf (P := EE l 23) h k_23_20) (fun h => lf (P := EE l 23) h k_23_23))) (fun h => nd h (fun h => lf (P := EE l 23) h k_23_24) (fun h => nd h (fun h => lf (P := EE l 23) h k_23_25) (fun h => lf (P := EE l 23) h k_23_26)))) (fun h => nd h (fun h => nd h (fun h => lf (P := EE l 23) h k_23_27) (fun h => nd h (fun h => lf (P := EE l 23) h k_23_28) (fun h => lf (P := EE l 23) h k_23_31))) (fun h => nd h (fun h => nd h (fun h => lf (P := EE l 23) h k_23_32) (fun h => lf (P := EE l 23) h k_23_33)) (fun h => nd h (fun h => lf (P := EE l 23) h k_23_34) (fun h => lf (P := EE l 23) h k_23_37)))))) (fun h => nd h (fun h => nd h (fun h => nd h (fun h => nd h (fun h => lf (P := EE l 23) h k_23_38) (fun h => nd h (fun h => lf (P := EE l 23) h k_23_39) (fun h => lf (P := EE l 23) h k_23_40))) (fun h => nd h (fun h => lf (P := EE l 23) h k_23_41) (fun h => nd h (fun h => lf (P := EE l 23) h k_23_44) (fun h => lf (P := EE l 23) h k_23_45)))) (fun h => nd h (fun h => nd h (fun h => lf (P := EE l 23) h k_23_46) (fun h => nd h (fun h => lf (P := EE l 23) h k_23_47) (fun h => lf (P := EE l 23) h k_23_50))) (fun h => nd h (fun h => nd h (fun h => lf (P := EE l 23) h k_23_51) (fun h => lf (P := EE l 23) h k_23_52)) (fun h => nd h (fun h => lf (P := EE l 23) h k_23_53) (fun h => lf (P := EE l 23) h k_23_54))))) (fun h => nd h (fun h => nd h (fun h => nd h (fun h => lf (P := EE l 23) h k_23_55) (fun h => nd h (fun h => lf (P := EE l 23) h k_23_57) (fun h => lf (P := EE l 23) h k_23_58))) (fun h => nd h (fun h => lf (P := EE l 23) h k_23_59) (fun h => nd h (fun h => lf (P := EE l 23) h k_23_60) (fun h => lf (P := EE l 23) h (EE_ca (by decide) (⟨m_583, m_71, ⟨by decide, by decide⟩, by decide +kernel, ⟨by decide, by decide⟩, 85, 3, by decide +kernel, Or.inr (Or.inr (Or.inl ⟨rfl, rfl, dX2_foldsBack_61, m_580, m_582, _, rfl, by decide, m_7⟩))⟩) rfl))))) (fun h => nd h (fun h => nd h (fun h => lf (P := EE l 23) h k_23_64) (fun h => nd h (fun h => lf (P := EE l 23) h k_23_67) (fun h => lf (P := EE l 23) h k_23_69))) (fun h => nd h (fun h => nd h (fun h => lf (P := EE l 23) h k_23_72) (fun h => lf (P := EE l 23) h k_23_73)) (fun h => nd h (fun h => lf (P := EE l 23) h k_23_76) (fun h => lf (P := EE l 23) h (EE_re (Or.inr (Or.inl ⟨rfl, dX2_foldsBack_77, rfl⟩)))))))))
theorem dX2_edgesMeet_0 : decode cX2_edgesMeet 0 = .ok (.aload_n 0, 1) := by decide +kernel
theorem dX2_edgesMeet_1 : decode cX2_edgesMeet 1 = .ok (.iload_n 1, 1) := by decide +kernel
theorem dX2_edgesMeet_2 : decode cX2_edgesMeet 2 = .ok (.iload_n 2, 1) := by decide +kernel
theorem dX2_edgesMeet_3 : decode cX2_edgesMeet 3 = .ok (.iload_n 3, 1) := by decide +kernel
theorem dX2_edgesMeet_4 : decode cX2_edgesMeet 4 = .ok (.invokevirtual 85, 3) := by decide +kernel
theorem dX2_edgesMeet_7 : decode cX2_edgesMeet 7 = .ok (.istore 5, 2) := by decide +kernel
theorem dX2_edgesMeet_9 : decode cX2_edgesMeet 9 = .ok (.aload_n 0, 1) := by decide +kernel
theorem dX2_edgesMeet_10 : decode cX2_edgesMeet 10 = .ok (.iload_n 1, 1) := by decide +kernel
theorem dX2_edgesMeet_11 : decode cX2_edgesMeet 11 = .ok (.iload_n 2, 1) := by decide +kernel
theorem dX2_edgesMeet_12 : decode cX2_edgesMeet 12 = .ok (.iload 4, 2) := by decide +kernel
theorem dX2_edgesMeet_14 : decode cX2_edgesMeet 14 = .ok (.invokevirtual 85, 3) := by decide +kernel
theorem dX2_edgesMeet_17 : decode cX2_edgesMeet 17 = .ok (.istore 6, 2) := by decide +kernel
theorem dX2_edgesMeet_19 : decode cX2_edgesMeet 19 = .ok (.aload_n 0, 1) := by decide +kernel
theorem dX2_edgesMeet_20 : decode cX2_edgesMeet 20 = .ok (.iload_n 3, 1) := by decide +kernel
theorem dX2_edgesMeet_21 : decode cX2_edgesMeet 21 = .ok (.iload 4, 2) := by decide +kernel
theorem dX2_edgesMeet_23 : decode cX2_edgesMeet 23 = .ok (.iload_n 1, 1) := by decide +kernel
theorem dX2_edgesMeet_24 : decode cX2_edgesMeet 24 = .ok (.invokevirtual 85, 3) := by decide +kernel
theorem dX2_edgesMeet_27 : decode cX2_edgesMeet 27 = .ok (.istore 7, 2) := by decide +kernel
theorem dX2_edgesMeet_29 : decode cX2_edgesMeet 29 = .ok (.aload_n 0, 1) := by decide +kernel
theorem dX2_edgesMeet_30 : decode cX2_edgesMeet 30 = .ok (.iload_n 3, 1) := by decide +kernel
theorem dX2_edgesMeet_31 : decode cX2_edgesMeet 31 = .ok (.iload 4, 2) := by decide +kernel
theorem dX2_edgesMeet_33 : decode cX2_edgesMeet 33 = .ok (.iload_n 2, 1) := by decide +kernel
theorem dX2_edgesMeet_34 : decode cX2_edgesMeet 34 = .ok (.invokevirtual 85, 3) := by decide +kernel
theorem dX2_edgesMeet_37 : decode cX2_edgesMeet 37 = .ok (.istore 8, 2) := by decide +kernel
theorem dX2_edgesMeet_39 : decode cX2_edgesMeet 39 = .ok (.iload 5, 2) := by decide +kernel
theorem dX2_edgesMeet_41 : decode cX2_edgesMeet 41 = .ok (.iload 6, 2) := by decide +kernel
theorem dX2_edgesMeet_43 : decode cX2_edgesMeet 43 = .ok (.invokestatic 89, 3) := by decide +kernel
theorem dX2_edgesMeet_46 : decode cX2_edgesMeet 46 = .ok (.ifCond .eq 17, 3) := by decide +kernel
theorem dX2_edgesMeet_49 : decode cX2_edgesMeet 49 = .ok (.iload 7, 2) := by decide +kernel
theorem dX2_edgesMeet_51 : decode cX2_edgesMeet 51 = .ok (.iload 8, 2) := by decide +kernel
theorem dX2_edgesMeet_53 : decode cX2_edgesMeet 53 = .ok (.invokestatic 89, 3) := by decide +kernel
theorem dX2_edgesMeet_56 : decode cX2_edgesMeet 56 = .ok (.ifCond .eq 7, 3) := by decide +kernel
theorem dX2_edgesMeet_59 : decode cX2_edgesMeet 59 = .ok (.iconst 1, 1) := by decide +kernel
theorem dX2_edgesMeet_60 : decode cX2_edgesMeet 60 = .ok (.goto 4, 3) := by decide +kernel
theorem dX2_edgesMeet_63 : decode cX2_edgesMeet 63 = .ok (.iconst 0, 1) := by decide +kernel
theorem dX2_edgesMeet_64 : decode cX2_edgesMeet 64 = .ok (.istore 9, 2) := by decide +kernel
theorem dX2_edgesMeet_66 : decode cX2_edgesMeet 66 = .ok (.iload 9, 2) := by decide +kernel
theorem dX2_edgesMeet_68 : decode cX2_edgesMeet 68 = .ok (.ifCond .ne 66, 3) := by decide +kernel
theorem dX2_edgesMeet_71 : decode cX2_edgesMeet 71 = .ok (.iload 5, 2) := by decide +kernel
theorem dX2_edgesMeet_73 : decode cX2_edgesMeet 73 = .ok (.ifCond .ne 13, 3) := by decide +kernel
theorem dX2_edgesMeet_76 : decode cX2_edgesMeet 76 = .ok (.aload_n 0, 1) := by decide +kernel
theorem dX2_edgesMeet_77 : decode cX2_edgesMeet 77 = .ok (.iload_n 1, 1) := by decide +kernel
theorem dX2_edgesMeet_78 : decode cX2_edgesMeet 78 = .ok (.iload_n 2, 1) := by decide +kernel
theorem dX2_edgesMeet_79 : decode cX2_edgesMeet 79 = .ok (.iload_n 3, 1) := by decide +kernel
theorem dX2_edgesMeet_80 : decode cX2_edgesMeet 80 = .ok (.invokevirtual 92, 3) := by decide +kernel
theorem dX2_edgesMeet_83 : decode cX2_edgesMeet 83 = .ok (.ifCond .ne 51, 3) := by decide +kernel
theorem dX2_edgesMeet_86 : decode cX2_edgesMeet 86 = .ok (.iload 6, 2) := by decide +kernel
theorem dX2_edgesMeet_88 : decode cX2_edgesMeet 88 = .ok (.ifCond .ne 14, 3) := by decide +kernel
theorem dX2_edgesMeet_91 : decode cX2_edgesMeet 91 = .ok (.aload_n 0, 1) := by decide +kernel
theorem dX2_edgesMeet_92 : decode cX2_edgesMeet 92 = .ok (.iload_n 1, 1) := by decide +kernel
theorem dX2_edgesMeet_93 : decode cX2_edgesMeet 93 = .ok (.iload_n 2, 1) := by decide +kernel
theorem dX2_edgesMeet_94 : decode cX2_edgesMeet 94 = .ok (.iload 4, 2) := by decide +kernel
theorem dX2_edgesMeet_96 : decode cX2_edgesMeet 96 = .ok (.invokevirtual 92, 3) := by decide +kernel
theorem dX2_edgesMeet_99 : decode cX2_edgesMeet 99 = .ok (.ifCond .ne 35, 3) := by decide +kernel
theorem dX2_edgesMeet_102 : decode cX2_edgesMeet 102 = .ok (.iload 7, 2) := by decide +kernel
theorem dX2_edgesMeet_104 : decode cX2_edgesMeet 104 = .ok (.ifCond .ne 14, 3) := by decide +kernel
theorem dX2_edgesMeet_107 : decode cX2_edgesMeet 107 = .ok (.aload_n 0, 1) := by decide +kernel
theorem dX2_edgesMeet_108 : decode cX2_edgesMeet 108 = .ok (.iload_n 3, 1) := by decide +kernel
theorem dX2_edgesMeet_109 : decode cX2_edgesMeet 109 = .ok (.iload 4, 2) := by decide +kernel
theorem dX2_edgesMeet_111 : decode cX2_edgesMeet 111 = .ok (.iload_n 1, 1) := by decide +kernel
theorem dX2_edgesMeet_112 : decode cX2_edgesMeet 112 = .ok (.invokevirtual 92, 3) := by decide +kernel
theorem dX2_edgesMeet_115 : decode cX2_edgesMeet 115 = .ok (.ifCond .ne 19, 3) := by decide +kernel
theorem dX2_edgesMeet_118 : decode cX2_edgesMeet 118 = .ok (.iload 8, 2) := by decide +kernel
theorem dX2_edgesMeet_120 : decode cX2_edgesMeet 120 = .ok (.ifCond .ne 18, 3) := by decide +kernel
theorem dX2_edgesMeet_123 : decode cX2_edgesMeet 123 = .ok (.aload_n 0, 1) := by decide +kernel
theorem dX2_edgesMeet_124 : decode cX2_edgesMeet 124 = .ok (.iload_n 3, 1) := by decide +kernel
theorem dX2_edgesMeet_125 : decode cX2_edgesMeet 125 = .ok (.iload 4, 2) := by decide +kernel
theorem dX2_edgesMeet_127 : decode cX2_edgesMeet 127 = .ok (.iload_n 2, 1) := by decide +kernel
theorem dX2_edgesMeet_128 : decode cX2_edgesMeet 128 = .ok (.invokevirtual 92, 3) := by decide +kernel
theorem dX2_edgesMeet_131 : decode cX2_edgesMeet 131 = .ok (.ifCond .eq 7, 3) := by decide +kernel
theorem dX2_edgesMeet_134 : decode cX2_edgesMeet 134 = .ok (.iconst 1, 1) := by decide +kernel
theorem dX2_edgesMeet_135 : decode cX2_edgesMeet 135 = .ok (.goto 4, 3) := by decide +kernel
theorem dX2_edgesMeet_138 : decode cX2_edgesMeet 138 = .ok (.iconst 0, 1) := by decide +kernel
theorem dX2_edgesMeet_139 : decode cX2_edgesMeet 139 = .ok (.ireturn, 1) := by decide +kernel
def tb_24 (pc : Nat) : Option mEnt := bif Nat.ble pc 66 then (bif Nat.ble pc 27 then (bif Nat.ble pc 11 then (bif Nat.ble pc 3 then (bif Nat.ble pc 1 then (bif Nat.ble pc 0 then (bif Nat.beq pc 0 then some (.inl (o_al 0 1)) else none) else (bif Nat.beq pc 1 then some (.inl (o_il 1 1)) else none)) else (bif Nat.ble pc 2 then (bif Nat.beq pc 2 then some (.inl (o_il 2 1)) else none) else (bif Nat.beq pc 3 then some (.inl (o_il 3 1)) else none))) else (bif Nat.ble pc 7 then (bif Nat.ble pc 4 then (bif Nat.beq pc 4 then some (.inr (3, 27, 4, 2)) else none) else (bif Nat.beq pc 7 then some (.inl (o_is 5 2)) else none)) else (bif Nat.ble pc 9 then (bif Nat.beq pc 9 then some (.inl (o_al 0 1)) else none) else (bif Nat.ble pc 10 then (bif Nat.beq pc 10 then some (.inl (o_il 1 1)) else none) else (bif Nat.beq pc 11 then some (.inl (o_il 2 1)) else none))))) else (bif Nat.ble pc 19 then (bif Nat.ble pc 14 then (bif Nat.ble pc 12 then (bif Nat.beq pc 12 then some (.inl (o_il 4 2)) else none) else (bif Nat.beq pc 14 then some (.inr (3, 27, 4, 2)) else none)) else (bif Nat.ble pc 17 then (bif Nat.beq pc 17 then some (.inl (o_is 6 2)) else none) else (bif Nat.beq pc 19 then some (.inl (o_al 0 1)) else none))) else (bif Nat.ble pc 21 then (bif Nat.ble pc 20 then (bif Nat.beq pc 20 then some (.inl (o_il 3 1)) else none) else (bif Nat.beq pc 21 then some (.inl (o_il 4 2)) else none)) else (bif Nat.ble pc 23 then (bif Nat.beq pc 23 then some (.inl (o_il 1 1)) else none) else (bif Nat.ble pc 24 then (bif Nat.beq pc 24 then some (.inr (3, 27, 4, 2)) else none) else (bif Nat.beq pc 27 then some (.inl (o_is 7 2)) else none)))))) else (bif Nat.ble pc 43 then (bif Nat.ble pc 33 then (bif Nat.ble pc 30 then (bif Nat.ble pc 29 then (bif Nat.beq pc 29 then some (.inl (o_al 0 1)) else none) else (bif Nat.beq pc 30 then some (.inl (o_il 3 1)) else none)) else (bif Nat.ble pc 31 then (bif Nat.beq pc 31 then some (.inl (o_il 4 2)) else none) else (bif Nat.beq pc 33 then some (.inl (o_il 2 1)) else none))) else (bif Nat.ble pc 37 then (bif Nat.ble pc 34 then (bif Nat.beq pc 34 then some (.inr (3, 27, 4, 2)) else none) else (bif Nat.beq pc 37 then some (.inl (o_is 8 2)) else none)) else (bif Nat.ble pc 39 then (bif Nat.beq pc 39 then some (.inl (o_il 5 2)) else none) else (bif Nat.ble pc 41 then (bif Nat.beq pc 41 then some (.inl (o_il 6 2)) else none) else (bif Nat.beq pc 43 then some (.inr (2, 25, 2, 0)) else none))))) else (bif Nat.ble pc 56 then (bif Nat.ble pc 49 then (bif Nat.ble pc 46 then (bif Nat.beq pc 46 then some (.inl (o_zeq 63)) else none) else (bif Nat.beq pc 49 then some (.inl (o_il 7 2)) else none)) else (bif Nat.ble pc 51 then (bif Nat.beq pc 51 then some (.inl (o_il 8 2)) else none) else (bif Nat.ble pc 53 then (bif Nat.beq pc 53 then some (.inr (2, 25, 2, 0)) else none) else (bif Nat.beq pc 56 then some (.inl (o_zeq 63)) else none)))) else (bif Nat.ble pc 60 then (bif Nat.ble pc 59 then (bif Nat.beq pc 59 then some (.inl (oS 1 (s_push (.int 1)))) else none) else (bif Nat.beq pc 60 then some (.inl (o_goto 64)) else none)) else (bif Nat.ble pc 63 then (bif Nat.beq pc 63 then some (.inl (oS 1 (s_push (.int 0)))) else none) else (bif Nat.ble pc 64 then (bif Nat.beq pc 64 then some (.inl (o_is 9 2)) else none) else (bif Nat.beq pc 66 then some (.inl (o_il 9 2)) else none))))))) else (bif Nat.ble pc 102 then (bif Nat.ble pc 83 then (bif Nat.ble pc 76 then (bif Nat.ble pc 71 then (bif Nat.ble pc 68 then (bif Nat.beq pc 68 then some (.inl (o_zne 134)) else none) else (bif Nat.beq pc 71 then some (.inl (o_il 5 2)) else none)) else (bif Nat.ble pc 73 then (bif Nat.beq pc 73 then some (.inl (o_zne 86)) else none) else (bif Nat.beq pc 76 then some (.inl (o_al 0 1)) else none))) else (bif Nat.ble pc 78 then (bif Nat.ble pc 77 then (bif Nat.beq pc 77 then some (.inl (o_il 1 1)) else none) else (bif Nat.beq pc 78 then some (.inl (o_il 2 1)) else none)) else (bif Nat.ble pc 79 then (bif Nat.beq pc 79 then some (.inl (o_il 3 1)) else none) else (bif Nat.ble pc 80 then (bif Nat.beq pc 80 then some (.inr (3, 26, 4, 2)) else none) else (bif Nat.beq pc 83 then some (.inl (o_zne 134)) else none))))) else (bif Nat.ble pc 92 then (bif Nat.ble pc 88 then (bif Nat.ble pc 86 then (bif Nat.beq pc 86 then some (.inl (o_il 6 2)) else none) else (bif Nat.beq pc 88 then some (.inl (o_zne 102)) else none)) else (bif Nat.ble pc 91 then (bif Nat.beq pc 91 then some (.inl (o_al 0 1)) else none) else (bif Nat.beq pc 92 then some (.inl (o_il 1 1)) else none))) else (bif Nat.ble pc 94 then (bif Nat.ble pc 93 then (bif Nat.beq pc 93 then some (.inl (o_il 2 1)) else none) else (bif Nat.beq pc 94 then some (.inl (o_il 4 2)) else none)) else (bif Nat.ble pc 96 then (bif Nat.beq pc 96 then some (.inr (3, 26, 4, 2)) else none) else (bif Nat.ble pc 99 then (bif Nat.beq pc 99 then some (.inl (o_zne 134)) else none) else (bif Nat.beq pc 102 then some (.inl (o_il 7 2)) else none)))))) else (bif Nat.ble pc 120 then (bif Nat.ble pc 109 then (bif Nat.ble pc 107 then (bif Nat.ble pc 104 then (bif Nat.beq pc 104 then some (.inl (o_zne 118)) else none) else (bif Nat.beq pc 107 then some (.inl (o_al 0 1)) else none)) else (bif Nat.ble pc 108 then (bif Nat.beq pc 108 then some (.inl (o_il 3 1)) else none) else (bif Nat.beq pc 109 then some (.inl (o_il 4 2)) else none))) else (bif Nat.ble pc 112 then (bif Nat.ble pc 111 then (bif Nat.beq pc 111 then some (.inl (o_il 1 1)) else none) else (bif Nat.beq pc 112 then some (.inr (3, 26, 4, 2)) else none)) else (bif Nat.ble pc 115 then (bif Nat.beq pc 115 then some (.inl (o_zne 134)) else none) else (bif Nat.ble pc 118 then (bif Nat.beq pc 118 then some (.inl (o_il 8 2)) else none) else (bif Nat.beq pc 120 then some (.inl (o_zne 138)) else none))))) else (bif Nat.ble pc 128 then (bif Nat.ble pc 124 then (bif Nat.ble pc 123 then (bif Nat.beq pc 123 then some (.inl (o_al 0 1)) else none) else (bif Nat.beq pc 124 then some (.inl (o_il 3 1)) else none)) else (bif Nat.ble pc 125 then (bif Nat.beq pc 125 then some (.inl (o_il 4 2)) else none) else (bif Nat.ble pc 127 then (bif Nat.beq pc 127 then some (.inl (o_il 2 1)) else none) else (bif Nat.beq pc 128 then some (.inr (3, 26, 4, 2)) else none)))) else (bif Nat.ble pc 134 then (bif Nat.ble pc 131 then (bif Nat.beq pc 131 then some (.inl (o_zeq 138)) else none) else (bif Nat.beq pc 134 then some (.inl (oS 1 (s_push (.int 1)))) else none)) else (bif Nat.ble pc 135 then (bif Nat.beq pc 135 then some (.inl (o_goto 139)) else none) else (bif Nat.ble pc 138 then (bif Nat.beq pc 138 then some (.inl (oS 1 (s_push (.int 0)))) else none) else (bif Nat.beq pc 139 then some (.inr (0, 0, 0, 4)) else none)))))))
theorem k_24_0 : mOk M_24.1 M_24.2.1 M_24.2.2.1 M_24.2.2.2 0 (o_al 0 1) := ok_aload_n dX2_edgesMeet_0 rfl
theorem k_24_1 : mOk M_24.1 M_24.2.1 M_24.2.2.1 M_24.2.2.2 1 (o_il 1 1) := ok_iload_n dX2_edgesMeet_1 rfl
theorem k_24_2 : mOk M_24.1 M_24.2.1 M_24.2.2.1 M_24.2.2.2 2 (o_il 2 1) := ok_iload_n dX2_edgesMeet_2 rfl
theorem k_24_3 : mOk M_24.1 M_24.2.1 M_24.2.2.1 M_24.2.2.2 3 (o_il 3 1) := ok_iload_n dX2_edgesMeet_3 rfl
theorem k_24_7 : mOk M_24.1 M_24.2.1 M_24.2.2.1 M_24.2.2.2 7 (o_is 5 2) := ok_istore dX2_edgesMeet_7
theorem k_24_9 : mOk M_24.1 M_24.2.1 M_24.2.2.1 M_24.2.2.2 9 (o_al 0 1) := ok_aload_n dX2_edgesMeet_9 rfl
theorem k_24_10 : mOk M_24.1 M_24.2.1 M_24.2.2.1 M_24.2.2.2 10 (o_il 1 1) := ok_iload_n dX2_edgesMeet_10 rfl
theorem k_24_11 : mOk M_24.1 M_24.2.1 M_24.2.2.1 M_24.2.2.2 11 (o_il 2 1) := ok_iload_n dX2_edgesMeet_11 rfl
theorem k_24_12 : mOk M_24.1 M_24.2.1 M_24.2.2.1 M_24.2.2.2 12 (o_il 4 2) := ok_iload dX2_edgesMeet_12
theorem k_24_17 : mOk M_24.1 M_24.2.1 M_24.2.2.1 M_24.2.2.2 17 (o_is 6 2) := ok_istore dX2_edgesMeet_17
theorem k_24_19 : mOk M_24.1 M_24.2.1 M_24.2.2.1 M_24.2.2.2 19 (o_al 0 1) := ok_aload_n dX2_edgesMeet_19 rfl
theorem k_24_20 : mOk M_24.1 M_24.2.1 M_24.2.2.1 M_24.2.2.2 20 (o_il 3 1) := ok_iload_n dX2_edgesMeet_20 rfl
theorem k_24_21 : mOk M_24.1 M_24.2.1 M_24.2.2.1 M_24.2.2.2 21 (o_il 4 2) := ok_iload dX2_edgesMeet_21
theorem k_24_23 : mOk M_24.1 M_24.2.1 M_24.2.2.1 M_24.2.2.2 23 (o_il 1 1) := ok_iload_n dX2_edgesMeet_23 rfl
theorem k_24_27 : mOk M_24.1 M_24.2.1 M_24.2.2.1 M_24.2.2.2 27 (o_is 7 2) := ok_istore dX2_edgesMeet_27
theorem k_24_29 : mOk M_24.1 M_24.2.1 M_24.2.2.1 M_24.2.2.2 29 (o_al 0 1) := ok_aload_n dX2_edgesMeet_29 rfl
theorem k_24_30 : mOk M_24.1 M_24.2.1 M_24.2.2.1 M_24.2.2.2 30 (o_il 3 1) := ok_iload_n dX2_edgesMeet_30 rfl
theorem k_24_31 : mOk M_24.1 M_24.2.1 M_24.2.2.1 M_24.2.2.2 31 (o_il 4 2) := ok_iload dX2_edgesMeet_31
theorem k_24_33 : mOk M_24.1 M_24.2.1 M_24.2.2.1 M_24.2.2.2 33 (o_il 2 1) := ok_iload_n dX2_edgesMeet_33 rfl
theorem k_24_37 : mOk M_24.1 M_24.2.1 M_24.2.2.1 M_24.2.2.2 37 (o_is 8 2) := ok_istore dX2_edgesMeet_37
theorem k_24_39 : mOk M_24.1 M_24.2.1 M_24.2.2.1 M_24.2.2.2 39 (o_il 5 2) := ok_iload dX2_edgesMeet_39
theorem k_24_41 : mOk M_24.1 M_24.2.1 M_24.2.2.1 M_24.2.2.2 41 (o_il 6 2) := ok_iload dX2_edgesMeet_41
theorem k_24_46 : mOk M_24.1 M_24.2.1 M_24.2.2.1 M_24.2.2.2 46 (o_zeq 63) := ok_zeq dX2_edgesMeet_46 (by decide)
theorem k_24_49 : mOk M_24.1 M_24.2.1 M_24.2.2.1 M_24.2.2.2 49 (o_il 7 2) := ok_iload dX2_edgesMeet_49
theorem k_24_51 : mOk M_24.1 M_24.2.1 M_24.2.2.1 M_24.2.2.2 51 (o_il 8 2) := ok_iload dX2_edgesMeet_51
theorem k_24_56 : mOk M_24.1 M_24.2.1 M_24.2.2.1 M_24.2.2.2 56 (o_zeq 63) := ok_zeq dX2_edgesMeet_56 (by decide)
theorem k_24_59 : mOk M_24.1 M_24.2.1 M_24.2.2.1 M_24.2.2.2 59 (oS 1 (s_push (.int 1))) := ok_iconst dX2_edgesMeet_59 (by decide)
theorem k_24_60 : mOk M_24.1 M_24.2.1 M_24.2.2.1 M_24.2.2.2 60 (o_goto 64) := ok_goto dX2_edgesMeet_60 (by decide)
theorem k_24_63 : mOk M_24.1 M_24.2.1 M_24.2.2.1 M_24.2.2.2 63 (oS 1 (s_push (.int 0))) := ok_iconst dX2_edgesMeet_63 (by decide)
theorem k_24_64 : mOk M_24.1 M_24.2.1 M_24.2.2.1 M_24.2.2.2 64 (o_is 9 2) := ok_istore dX2_edgesMeet_64
theorem k_24_66 : mOk M_24.1 M_24.2.1 M_24.2.2.1 M_24.2.2.2 66 (o_il 9 2) := ok_iload dX2_edgesMeet_66
theorem k_24_68 : mOk M_24.1 M_24.2.1 M_24.2.2.1 M_24.2.2.2 68 (o_zne 134) := ok_zne dX2_edgesMeet_68 (by decide)
theorem k_24_71 : mOk M_24.1 M_24.2.1 M_24.2.2.1 M_24.2.2.2 71 (o_il 5 2) := ok_iload dX2_edgesMeet_71
theorem k_24_73 : mOk M_24.1 M_24.2.1 M_24.2.2.1 M_24.2.2.2 73 (o_zne 86) := ok_zne dX2_edgesMeet_73 (by decide)
theorem k_24_76 : mOk M_24.1 M_24.2.1 M_24.2.2.1 M_24.2.2.2 76 (o_al 0 1) := ok_aload_n dX2_edgesMeet_76 rfl
theorem k_24_77 : mOk M_24.1 M_24.2.1 M_24.2.2.1 M_24.2.2.2 77 (o_il 1 1) := ok_iload_n dX2_edgesMeet_77 rfl
theorem k_24_78 : mOk M_24.1 M_24.2.1 M_24.2.2.1 M_24.2.2.2 78 (o_il 2 1) := ok_iload_n dX2_edgesMeet_78 rfl
theorem k_24_79 : mOk M_24.1 M_24.2.1 M_24.2.2.1 M_24.2.2.2 79 (o_il 3 1) := ok_iload_n dX2_edgesMeet_79 rfl
theorem k_24_83 : mOk M_24.1 M_24.2.1 M_24.2.2.1 M_24.2.2.2 83 (o_zne 134) := ok_zne dX2_edgesMeet_83 (by decide)
theorem k_24_86 : mOk M_24.1 M_24.2.1 M_24.2.2.1 M_24.2.2.2 86 (o_il 6 2) := ok_iload dX2_edgesMeet_86
theorem k_24_88 : mOk M_24.1 M_24.2.1 M_24.2.2.1 M_24.2.2.2 88 (o_zne 102) := ok_zne dX2_edgesMeet_88 (by decide)
theorem k_24_91 : mOk M_24.1 M_24.2.1 M_24.2.2.1 M_24.2.2.2 91 (o_al 0 1) := ok_aload_n dX2_edgesMeet_91 rfl
theorem k_24_92 : mOk M_24.1 M_24.2.1 M_24.2.2.1 M_24.2.2.2 92 (o_il 1 1) := ok_iload_n dX2_edgesMeet_92 rfl
theorem k_24_93 : mOk M_24.1 M_24.2.1 M_24.2.2.1 M_24.2.2.2 93 (o_il 2 1) := ok_iload_n dX2_edgesMeet_93 rfl
theorem k_24_94 : mOk M_24.1 M_24.2.1 M_24.2.2.1 M_24.2.2.2 94 (o_il 4 2) := ok_iload dX2_edgesMeet_94
theorem k_24_99 : mOk M_24.1 M_24.2.1 M_24.2.2.1 M_24.2.2.2 99 (o_zne 134) := ok_zne dX2_edgesMeet_99 (by decide)
theorem k_24_102 : mOk M_24.1 M_24.2.1 M_24.2.2.1 M_24.2.2.2 102 (o_il 7 2) := ok_iload dX2_edgesMeet_102
theorem k_24_104 : mOk M_24.1 M_24.2.1 M_24.2.2.1 M_24.2.2.2 104 (o_zne 118) := ok_zne dX2_edgesMeet_104 (by decide)
theorem k_24_107 : mOk M_24.1 M_24.2.1 M_24.2.2.1 M_24.2.2.2 107 (o_al 0 1) := ok_aload_n dX2_edgesMeet_107 rfl
theorem k_24_108 : mOk M_24.1 M_24.2.1 M_24.2.2.1 M_24.2.2.2 108 (o_il 3 1) := ok_iload_n dX2_edgesMeet_108 rfl
theorem k_24_109 : mOk M_24.1 M_24.2.1 M_24.2.2.1 M_24.2.2.2 109 (o_il 4 2) := ok_iload dX2_edgesMeet_109
theorem k_24_111 : mOk M_24.1 M_24.2.1 M_24.2.2.1 M_24.2.2.2 111 (o_il 1 1) := ok_iload_n dX2_edgesMeet_111 rfl
theorem k_24_115 : mOk M_24.1 M_24.2.1 M_24.2.2.1 M_24.2.2.2 115 (o_zne 134) := ok_zne dX2_edgesMeet_115 (by decide)
theorem k_24_118 : mOk M_24.1 M_24.2.1 M_24.2.2.1 M_24.2.2.2 118 (o_il 8 2) := ok_iload dX2_edgesMeet_118
theorem k_24_120 : mOk M_24.1 M_24.2.1 M_24.2.2.1 M_24.2.2.2 120 (o_zne 138) := ok_zne dX2_edgesMeet_120 (by decide)
theorem k_24_123 : mOk M_24.1 M_24.2.1 M_24.2.2.1 M_24.2.2.2 123 (o_al 0 1) := ok_aload_n dX2_edgesMeet_123 rfl
theorem k_24_124 : mOk M_24.1 M_24.2.1 M_24.2.2.1 M_24.2.2.2 124 (o_il 3 1) := ok_iload_n dX2_edgesMeet_124 rfl
theorem k_24_125 : mOk M_24.1 M_24.2.1 M_24.2.2.1 M_24.2.2.2 125 (o_il 4 2) := ok_iload dX2_edgesMeet_125
theorem k_24_127 : mOk M_24.1 M_24.2.1 M_24.2.2.1 M_24.2.2.2 127 (o_il 2 1) := ok_iload_n dX2_edgesMeet_127 rfl
theorem k_24_131 : mOk M_24.1 M_24.2.1 M_24.2.2.1 M_24.2.2.2 131 (o_zeq 138) := ok_zeq dX2_edgesMeet_131 (by decide)
theorem k_24_134 : mOk M_24.1 M_24.2.1 M_24.2.2.1 M_24.2.2.2 134 (oS 1 (s_push (.int 1))) := ok_iconst dX2_edgesMeet_134 (by decide)
theorem k_24_135 : mOk M_24.1 M_24.2.1 M_24.2.2.1 M_24.2.2.2 135 (o_goto 139) := ok_goto dX2_edgesMeet_135 (by decide)
theorem k_24_138 : mOk M_24.1 M_24.2.1 M_24.2.2.1 M_24.2.2.2 138 (oS 1 (s_push (.int 0))) := ok_iconst dX2_edgesMeet_138 (by decide)
set_option maxRecDepth 20000 in
set_option maxHeartbeats 4000000 in
theorem tk_24 (l : Launch) (H9 : mThr l) (H10 : mSpl l) (pc : Nat) (q : mEnt) (h : tb_24 pc = some q) : EE l 24 pc q := nd h (fun h => nd h (fun h => nd h (fun h => nd h (fun h => nd h (fun h => nd h (fun h => lf (P := EE l 24) h k_24_0) (fun h => lf (P := EE l 24) h k_24_1)) (fun h => nd h (fun h => lf (P := EE l 24) h k_24_2) (fun h => lf (P := EE l 24) h k_24_3))) (fun h => nd h (fun h => nd h (fun h => lf (P := EE l 24) h (EE_ca (by decide) (⟨m_583, m_71, ⟨by decide, by decide⟩, by decide +kernel, ⟨by decide, by decide⟩, 85, 3, by decide +kernel, Or.inr (Or.inr (Or.inl ⟨rfl, rfl, dX2_edgesMeet_4, m_580, m_582, _, rfl, by decide, m_7⟩))⟩) rfl)) (fun h => lf (P := EE l 24) h k_24_7)) (fun h => nd h (fun h => lf (P := EE l 24) h k_24_9) (fun h => nd h (fun h => lf (P := EE l 24) h k_24_10) (fun h => lf (P := EE l 24) h k_24_11))))) (fun h => nd h (fun h => nd h (fun h => nd h (fun h => lf (P := EE l 24) h k_24_12) (fun h => lf (P := EE l 24) h (EE_ca (by decide) (⟨m_583, m_71, ⟨by decide, by decide⟩, by decide +kernel, ⟨by decide, by decide⟩, 85, 3, by decide +kernel, Or.inr (Or.inr (Or.inl ⟨rfl, rfl, dX2_edgesMeet_14, m_580, m_582, _, rfl, by decide, m_7⟩))⟩) rfl))) (fun h => nd h (fun h => lf (P := EE l 24) h k_24_17) (fun h => lf (P := EE l 24) h k_24_19))) (fun h => nd h (fun h => nd h (fun h => lf (P := EE l 24) h k_24_20) (fun h => lf (P := EE l 24) h k_24_21)) (fun h => nd h (fun h => lf (P := EE l 24) h k_24_23) (fun h => nd h (fun h => lf (P := EE l 24) h (EE_ca (by decide) (⟨m_583, m_71, ⟨by decide, by decide⟩, by decide +kernel, ⟨by decide, by decide⟩, 85, 3, by decide +kernel, Or.inr (Or.inr (Or.inl ⟨rfl, rfl, dX2_edgesMeet_24, m_580, m_582, _, rfl, by decide, m_7⟩))⟩) rfl)) (fun h => lf (P := EE l 24) h k_24_27)))))) (fun h => nd h (fun h => nd h (fun h => nd h (fun h => nd h (fun h => lf (P := EE l 24) h k_24_29) (fun h => lf (P := EE l 24) h k_24_30)) (fun h => nd h (fun h => lf (P := EE l 24) h k_24_31) (fun h => lf (P := EE l 24) h k_24_33))) (fun h => nd h (fun h => nd h (fun h => lf (P := EE l 24) h (EE_ca (by decide) (⟨m_583, m_71, ⟨by decide, by decide⟩, by decide +kernel, ⟨by decide, by decide⟩, 85, 3, by decide +kernel, Or.inr (Or.inr (Or.inl ⟨rfl, rfl, dX2_edgesMeet_34, m_580, m_582, _, rfl, by decide, m_7⟩))⟩) rfl)) (fun h => lf (P := EE l 24) h k_24_37)) (fun h => nd h (fun h => lf (P := EE l 24) h k_24_39) (fun h => nd h (fun h => lf (P := EE l 24) h k_24_41) (fun h => lf (P := EE l 24) h (EE_ca (by decide) (⟨m_593, m_71, ⟨by decide, by decide⟩, by decide +kernel, ⟨by decide, by decide⟩, 89, 2, by decide +kernel, Or.inl ⟨rfl, rfl, dX2_edgesMeet_43, m_591, m_592⟩⟩) rfl)))))) (fun h => nd h (fun h => nd h (fun h => nd h (fun h => lf (P := EE l 24) h k_24_46) (fun h => lf (P := EE l 24) h k_24_49)) (fun h => nd h (fun h => lf (P := EE l 24) h k_24_51) (fun h => nd h (fun h => lf (P := EE l 24) h (EE_ca (by decide) (⟨m_593, m_71, ⟨by decide, by decide⟩, by decide +kernel, ⟨by decide, by decide⟩, 89, 2, by decide +kernel, Or.inl ⟨rfl, rfl, dX2_edgesMeet_53, m_591, m_592⟩⟩) rfl)) (fun h => lf (P := EE l 24) h k_24_56)))) (fun h => nd h (fun h => nd h (fun h => lf (P := EE l 24) h k_24_59) (fun h => lf (P := EE l 24) h k_24_60)) (fun h => nd h (fun h => lf (P := EE l 24) h k_24_63) (fun h => nd h (fun h => lf (P := EE l 24) h k_24_64) (fun h => lf (P := EE l 24) h k_24_66))))))) (fun h => nd h (fun h => nd h (fun h => nd h (fun h => nd h (fun h => nd h (fun h => lf (P := EE l 24) h k_24_68) (fun h => lf (P := EE l 24) h k_24_71)) (fun h => nd h (fun h => lf (P := EE l 24) h k_24_73) (fun h => lf (P := EE l 24) h k_24_76))) (fun h => nd h (fun h => nd h (fun h => lf (P := EE l 24) h k_24_77) (fun h => lf (P := EE l 24) h k_24_78)) (fun h => nd h (fun h => lf (P := EE l 24) h k_24_79) (fun h => nd h (fun h => lf (P := EE l 24) h (EE_ca (by decide) (⟨m_597, m_71, ⟨by decide, by decide⟩, by decide +kernel, ⟨by decide, by decide⟩, 92, 3, by decide +kernel, Or.inr (Or.inr (Or.inl ⟨rfl, rfl, dX2_edgesMeet_80, m_594, m_596, _, rfl, by decide, m_9⟩))⟩) rfl)) (fun h => lf (P := EE l 24) h k_24_83))))) (fun h => nd h (fun h => nd h (fun h => nd h (fun h => lf (P := EE l 24) h k_24_86) (fun h => lf (P := EE l 24) h k_24_88)) (fun h => nd h (fun h => lf (P := EE l 24) h k_24_91) (fun h => lf (P := EE l 24) h k_24_92))) (fun h => nd h (fun h => nd h (fun h => lf (P := EE l 24) h k_24_93) (fun h => lf (P := EE l 24) h k_24_94)) (fun h => nd h (fun h => lf (P := EE l 24) h (EE_ca (by decide) (⟨m_597, m_71, ⟨by decide, by decide⟩, by decide +kernel, ⟨by decide, by decide⟩, 92, 3, by decide +kernel, Or.inr (Or.inr (Or.inl ⟨rfl, rfl, dX2_edgesMeet_96, m_594, m_596, _, rfl, by decide, m_9⟩))⟩) rfl)) (fun h => nd h (fun h => lf (P := EE l 24) h k_24_99) (fun h => lf (P := EE l 24) h k_24_102)))))) (fun h => nd h (fun h => nd h (fun h => nd h (fun h => nd h (fun h => lf (P := EE l 24) h k_24_104) (fun h => lf (P := EE l 24) h k_24_107)) (fun h => nd h (fun h => lf (P := EE l 24) h k_24_108) (fun h => lf (P := EE l 24) h k_24_109))) (fun h => nd h (fun h => nd h (fun h => lf (P := EE l 24) h k_24_111) (fun h => lf (P := EE l 24) h (EE_ca (by decide) (⟨m_597, m_71, ⟨by decide, by decide⟩, by decide +kernel, ⟨by decide, by decide⟩, 92, 3, by decide +kernel, Or.inr (Or.inr (Or.inl ⟨rfl, rfl, dX2_edgesMeet_112, m_594, m_596, _, rfl, by decide, m_9⟩))⟩) rfl))) (fun h => nd h (fun h => lf (P := EE l 24) h k_24_115) (fun h => nd h (fun h => lf (P := EE l 24) h k_24_118) (fun h => lf (P := EE l 24) h k_24_120))))) (fun h => nd h (fun h => nd h (fun h => nd h (fun h => lf (P := EE l 24) h k_24_123) (fun h => lf (P := EE l 24) h k_24_124)) (fun h => nd h (fun h => lf (P := EE l 24) h k_24_125) (fun h => nd h (fun h => lf (P := EE l 24) h k_24_127) (fun h => lf (P := EE l 24) h (EE_ca (by decide) (⟨m_597, m_71, ⟨by decide, by decide⟩, by decide +kernel, ⟨by decide, by decide⟩, 92, 3, by decide +kernel, Or.inr (Or.inr (Or.inl ⟨rfl, rfl, dX2_edgesMeet_128, m_594, m_596, _, rfl, by decide, m_9⟩))⟩) rfl))))) (fun h => nd h (fun h => nd h (fun h => lf (P := EE l 24) h k_24_131) (fun h => lf (P := EE l 24) h k_24_134)) (fun h => nd h (fun h => lf (P := EE l 24) h k_24_135) (fun h => nd h (fun h => lf (P := EE l 24) h k_24_138) (fun h => lf (P := EE l 24) h (EE_re (Or.inr (Or.inl ⟨rfl, dX2_edgesMeet_139, rfl⟩))))))))))
theorem dX2_areOpposite_0 : decode cX2_areOpposite 0 = .ok (.iload_n 0, 1) := by decide +kernel
theorem dX2_areOpposite_1 : decode cX2_areOpposite 1 = .ok (.ifCond .ge 7, 3) := by decide +kernel
theorem dX2_areOpposite_4 : decode cX2_areOpposite 4 = .ok (.iload_n 1, 1) := by decide +kernel
theorem dX2_areOpposite_5 : decode cX2_areOpposite 5 = .ok (.ifCond .gt 11, 3) := by decide +kernel
theorem dX2_areOpposite_8 : decode cX2_areOpposite 8 = .ok (.iload_n 0, 1) := by decide +kernel
theorem dX2_areOpposite_9 : decode cX2_areOpposite 9 = .ok (.ifCond .le 11, 3) := by decide +kernel
theorem dX2_areOpposite_12 : decode cX2_areOpposite 12 = .ok (.iload_n 1, 1) := by decide +kernel
theorem dX2_areOpposite_13 : decode cX2_areOpposite 13 = .ok (.ifCond .ge 7, 3) := by decide +kernel
theorem dX2_areOpposite_16 : decode cX2_areOpposite 16 = .ok (.iconst 1, 1) := by decide +kernel
theorem dX2_areOpposite_17 : decode cX2_areOpposite 17 = .ok (.goto 4, 3) := by decide +kernel
theorem dX2_areOpposite_20 : decode cX2_areOpposite 20 = .ok (.iconst 0, 1) := by decide +kernel
theorem dX2_areOpposite_21 : decode cX2_areOpposite 21 = .ok (.ireturn, 1) := by decide +kernel
def tb_25 (pc : Nat) : Option mEnt := bif Nat.ble pc 9 then (bif Nat.ble pc 4 then (bif Nat.ble pc 0 then (bif Nat.beq pc 0 then some (.inl (o_il 0 1)) else none) else (bif Nat.ble pc 1 then (bif Nat.beq pc 1 then some (.inl (o_zge 8)) else none) else (bif Nat.beq pc 4 then some (.inl (o_il 1 1)) else none))) else (bif Nat.ble pc 5 then (bif Nat.beq pc 5 then some (.inl (o_zgt 16)) else none) else (bif Nat.ble pc 8 then (bif Nat.beq pc 8 then some (.inl (o_il 0 1)) else none) else (bif Nat.beq pc 9 then some (.inl (o_zle 20)) else none)))) else (bif Nat.ble pc 16 then (bif Nat.ble pc 12 then (bif Nat.beq pc 12 then some (.inl (o_il 1 1)) else none) else (bif Nat.ble pc 13 then (bif Nat.beq pc 13 then some (.inl (o_zge 20)) else none) else (bif Nat.beq pc 16 then some (.inl (oS 1 (s_push (.int 1)))) else none))) else (bif Nat.ble pc 17 then (bif Nat.beq pc 17 then some (.inl (o_goto 21)) else none) else (bif Nat.ble pc 20 then (bif Nat.beq pc 20 then some (.inl (oS 1 (s_push (.int 0)))) else none) else (bif Nat.beq pc 21 then some (.inr (0, 0, 0, 4)) else none))))
theorem k_25_0 : mOk M_25.1 M_25.2.1 M_25.2.2.1 M_25.2.2.2 0 (o_il 0 1) := ok_iload_n dX2_areOpposite_0 rfl
theorem k_25_1 : mOk M_25.1 M_25.2.1 M_25.2.2.1 M_25.2.2.2 1 (o_zge 8) := ok_zge dX2_areOpposite_1 (by decide)
theorem k_25_4 : mOk M_25.1 M_25.2.1 M_25.2.2.1 M_25.2.2.2 4 (o_il 1 1) := ok_iload_n dX2_areOpposite_4 rfl
theorem k_25_5 : mOk M_25.1 M_25.2.1 M_25.2.2.1 M_25.2.2.2 5 (o_zgt 16) := ok_zgt dX2_areOpposite_5 (by decide)
theorem k_25_8 : mOk M_25.1 M_25.2.1 M_25.2.2.1 M_25.2.2.2 8 (o_il 0 1) := ok_iload_n dX2_areOpposite_8 rfl
theorem k_25_9 : mOk M_25.1 M_25.2.1 M_25.2.2.1 M_25.2.2.2 9 (o_zle 20) := ok_zle dX2_areOpposite_9 (by decide)
theorem k_25_12 : mOk M_25.1 M_25.2.1 M_25.2.2.1 M_25.2.2.2 12 (o_il 1 1) := ok_iload_n dX2_areOpposite_12 rfl
theorem k_25_13 : mOk M_25.1 M_25.2.1 M_25.2.2.1 M_25.2.2.2 13 (o_zge 20) := ok_zge dX2_areOpposite_13 (by decide)
theorem k_25_16 : mOk M_25.1 M_25.2.1 M_25.2.2.1 M_25.2.2.2 16 (oS 1 (s_push (.int 1))) := ok_iconst dX2_areOpposite_16 (by decide)
theorem k_25_17 : mOk M_25.1 M_25.2.1 M_25.2.2.1 M_25.2.2.2 17 (o_goto 21) := ok_goto dX2_areOpposite_17 (by decide)
theorem k_25_20 : mOk M_25.1 M_25.2.1 M_25.2.2.1 M_25.2.2.2 20 (oS 1 (s_push (.int 0))) := ok_iconst dX2_areOpposite_20 (by decide)
set_option maxRecDepth 20000 in
set_option maxHeartbeats 4000000 in
theorem tk_25 (l : Launch) (H9 : mThr l) (H10 : mSpl l) (pc : Nat) (q : mEnt) (h : tb_25 pc = some q) : EE l 25 pc q := nd h (fun h => nd h (fun h => nd h (fun h => lf (P := EE l 25) h k_25_0) (fun h => nd h (fun h => lf (P := EE l 25) h k_25_1) (fun h => lf (P := EE l 25) h k_25_4))) (fun h => nd h (fun h => lf (P := EE l 25) h k_25_5) (fun h => nd h (fun h => lf (P := EE l 25) h k_25_8) (fun h => lf (P := EE l 25) h k_25_9)))) (fun h => nd h (fun h => nd h (fun h => lf (P := EE l 25) h k_25_12) (fun h => nd h (fun h => lf (P := EE l 25) h k_25_13) (fun h => lf (P := EE l 25) h k_25_16))) (fun h => nd h (fun h => lf (P := EE l 25) h k_25_17) (fun h => nd h (fun h => lf (P := EE l 25) h k_25_20) (fun h => lf (P := EE l 25) h (EE_re (Or.inr (Or.inl ⟨rfl, dX2_areOpposite_21, rfl⟩)))))))
theorem dX2_isBetween_0 : decode cX2_isBetween 0 = .ok (.aload_n 0, 1) := by decide +kernel
theorem dX2_isBetween_1 : decode cX2_isBetween 1 = .ok (.getfield 9, 3) := by decide +kernel
theorem dX2_isBetween_4 : decode cX2_isBetween 4 = .ok (.iload_n 1, 1) := by decide +kernel
theorem dX2_isBetween_5 : decode cX2_isBetween 5 = .ok (.iaload, 1) := by decide +kernel
theorem dX2_isBetween_6 : decode cX2_isBetween 6 = .ok (.aload_n 0, 1) := by decide +kernel
theorem dX2_isBetween_7 : decode cX2_isBetween 7 = .ok (.getfield 9, 3) := by decide +kernel
theorem dX2_isBetween_10 : decode cX2_isBetween 10 = .ok (.iload_n 2, 1) := by decide +kernel
theorem dX2_isBetween_11 : decode cX2_isBetween 11 = .ok (.iaload, 1) := by decide +kernel
theorem dX2_isBetween_12 : decode cX2_isBetween 12 = .ok (.invokestatic 95, 3) := by decide +kernel
theorem dX2_isBetween_15 : decode cX2_isBetween 15 = .ok (.aload_n 0, 1) := by decide +kernel
theorem dX2_isBetween_16 : decode cX2_isBetween 16 = .ok (.getfield 9, 3) := by decide +kernel
theorem dX2_isBetween_19 : decode cX2_isBetween 19 = .ok (.iload_n 3, 1) := by decide +kernel
theorem dX2_isBetween_20 : decode cX2_isBetween 20 = .ok (.iaload, 1) := by decide +kernel
theorem dX2_isBetween_21 : decode cX2_isBetween 21 = .ok (.if_icmp .gt 79, 3) := by decide +kernel
theorem dX2_isBetween_24 : decode cX2_isBetween 24 = .ok (.aload_n 0, 1) := by decide +kernel
theorem dX2_isBetween_25 : decode cX2_isBetween 25 = .ok (.getfield 9, 3) := by decide +kernel
theorem dX2_isBetween_28 : decode cX2_isBetween 28 = .ok (.iload_n 3, 1) := by decide +kernel
theorem dX2_isBetween_29 : decode cX2_isBetween 29 = .ok (.iaload, 1) := by decide +kernel
theorem dX2_isBetween_30 : decode cX2_isBetween 30 = .ok (.aload_n 0, 1) := by decide +kernel
theorem dX2_isBetween_31 : decode cX2_isBetween 31 = .ok (.getfield 9, 3) := by decide +kernel
theorem dX2_isBetween_34 : decode cX2_isBetween 34 = .ok (.iload_n 1, 1) := by decide +kernel
theorem dX2_isBetween_35 : decode cX2_isBetween 35 = .ok (.iaload, 1) := by decide +kernel
theorem dX2_isBetween_36 : decode cX2_isBetween 36 = .ok (.aload_n 0, 1) := by decide +kernel
theorem dX2_isBetween_37 : decode cX2_isBetween 37 = .ok (.getfield 9, 3) := by decide +kernel
theorem dX2_isBetween_40 : decode cX2_isBetween 40 = .ok (.iload_n 2, 1) := by decide +kernel
theorem dX2_isBetween_41 : decode cX2_isBetween 41 = .ok (.iaload, 1) := by decide +kernel
theorem dX2_isBetween_42 : decode cX2_isBetween 42 = .ok (.invokestatic 101, 3) := by decide +kernel
theorem dX2_isBetween_45 : decode cX2_isBetween 45 = .ok (.if_icmp .gt 55, 3) := by decide +kernel
theorem dX2_isBetween_48 : decode cX2_isBetween 48 = .ok (.aload_n 0, 1) := by decide +kernel
theorem dX2_isBetween_49 : decode cX2_isBetween 49 = .ok (.getfield 15, 3) := by decide +kernel
theorem dX2_isBetween_52 : decode cX2_isBetween 52 = .ok (.iload_n 1, 1) := by decide +kernel
theorem dX2_isBetween_53 : decode cX2_isBetween 53 = .ok (.iaload, 1) := by decide +kernel
theorem dX2_isBetween_54 : decode cX2_isBetween 54 = .ok (.aload_n 0, 1) := by decide +kernel
theorem dX2_isBetween_55 : decode cX2_isBetween 55 = .ok (.getfield 15, 3) := by decide +kernel
theorem dX2_isBetween_58 : decode cX2_isBetween 58 = .ok (.iload_n 2, 1) := by decide +kernel
theorem dX2_isBetween_59 : decode cX2_isBetween 59 = .ok (.iaload, 1) := by decide +kernel
theorem dX2_isBetween_60 : decode cX2_isBetween 60 = .ok (.invokestatic 95, 3) := by decide +kernel
theorem dX2_isBetween_63 : decode cX2_isBetween 63 = .ok (.aload_n 0, 1) := by decide +kernel
theorem dX2_isBetween_64 : decode cX2_isBetween 64 = .ok (.getfield 15, 3) := by decide +kernel
theorem dX2_isBetween_67 : decode cX2_isBetween 67 = .ok (.iload_n 3, 1) := by decide +kernel
theorem dX2_isBetween_68 : decode cX2_isBetween 68 = .ok (.iaload, 1) := by decide +kernel
theorem dX2_isBetween_69 : decode cX2_isBetween 69 = .ok (.if_icmp .gt 31, 3) := by decide +kernel
theorem dX2_isBetween_72 : decode cX2_isBetween 72 = .ok (.aload_n 0, 1) := by decide +kernel
theorem dX2_isBetween_73 : decode cX2_isBetween 73 = .ok (.getfield 15, 3) := by decide +kernel
theorem dX2_isBetween_76 : decode cX2_isBetween 76 = .ok (.iload_n 3, 1) := by decide +kernel
theorem dX2_isBetween_77 : decode cX2_isBetween 77 = .ok (.iaload, 1) := by decide +kernel
theorem dX2_isBetween_78 : decode cX2_isBetween 78 = .ok (.aload_n 0, 1) := by decide +kernel
theorem dX2_isBetween_79 : decode cX2_isBetween 79 = .ok (.getfield 15, 3) := by decide +kernel
theorem dX2_isBetween_82 : decode cX2_isBetween 82 = .ok (.iload_n 1, 1) := by decide +kernel
theorem dX2_isBetween_83 : decode cX2_isBetween 83 = .ok (.iaload, 1) := by decide +kernel
theorem dX2_isBetween_84 : decode cX2_isBetween 84 = .ok (.aload_n 0, 1) := by decide +kernel
theorem dX2_isBetween_85 : decode cX2_isBetween 85 = .ok (.getfield 15, 3) := by decide +kernel
theorem dX2_isBetween_88 : decode cX2_isBetween 88 = .ok (.iload_n 2, 1) := by decide +kernel
theorem dX2_isBetween_89 : decode cX2_isBetween 89 = .ok (.iaload, 1) := by decide +kernel
theorem dX2_isBetween_90 : decode cX2_isBetween 90 = .ok (.invokestatic 101, 3) := by decide +kernel
theorem dX2_isBetween_93 : decode cX2_isBetween 93 = .ok (.if_icmp .gt 7, 3) := by decide +kernel
theorem dX2_isBetween_96 : decode cX2_isBetween 96 = .ok (.iconst 1, 1) := by decide +kernel
theorem dX2_isBetween_97 : decode cX2_isBetween 97 = .ok (.goto 4, 3) := by decide +kernel
theorem dX2_isBetween_100 : decode cX2_isBetween 100 = .ok (.iconst 0, 1) := by decide +kernel
theorem dX2_isBetween_101 : decode cX2_isBetween 101 = .ok (.ireturn, 1) := by decide +kernel
def tb_26 (pc : Nat) : Option mEnt := bif Nat.ble pc 49 then (bif Nat.ble pc 24 then (bif Nat.ble pc 10 then (bif Nat.ble pc 4 then (bif Nat.ble pc 0 then (bif Nat.beq pc 0 then some (.inl (o_al 0 1)) else none) else (bif Nat.ble pc 1 then (bif Nat.beq pc 1 then some (.inl (o_gP 2 6)) else none) else (bif Nat.beq pc 4 then some (.inl (o_il 1 1)) else none))) else (bif Nat.ble pc 6 then (bif Nat.ble pc 5 then (bif Nat.beq pc 5 then some (.inl (o_iald)) else none) else (bif Nat.beq pc 6 then some (.inl (o_al 0 1)) else none)) else (bif Nat.ble pc 7 then (bif Nat.beq pc 7 then some (.inl (o_gP 2 6)) else none) else (bif Nat.beq pc 10 then some (.inl (o_il 2 1)) else none)))) else (bif Nat.ble pc 16 then (bif Nat.ble pc 12 then (bif Nat.ble pc 11 then (bif Nat.beq pc 11 then some (.inl (o_iald)) else none) else (bif Nat.beq pc 12 then some (.inr (2, 184, 2, 0)) else none)) else (bif Nat.ble pc 15 then (bif Nat.beq pc 15 then some (.inl (o_al 0 1)) else none) else (bif Nat.beq pc 16 then some (.inl (o_gP 2 6)) else none))) else (bif Nat.ble pc 20 then (bif Nat.ble pc 19 then (bif Nat.beq pc 19 then some (.inl (o_il 3 1)) else none) else (bif Nat.beq pc 20 then some (.inl (o_iald)) else none)) else (bif Nat.ble pc 21 then (bif Nat.beq pc 21 then some (.inl (o_cgt 100)) else none) else (bif Nat.beq pc 24 then some (.inl (o_al 0 1)) else none))))) else (bif Nat.ble pc 35 then (bif Nat.ble pc 29 then (bif Nat.ble pc 25 then (bif Nat.beq pc 25 then some (.inl (o_gP 2 6)) else none) else (bif Nat.ble pc 28 then (bif Nat.beq pc 28 then some (.inl (o_il 3 1)) else none) else (bif Nat.beq pc 29 then some (.inl (o_iald)) else none))) else (bif Nat.ble pc 31 then (bif Nat.ble pc 30 then (bif Nat.beq pc 30 then some (.inl (o_al 0 1)) else none) else (bif Nat.beq pc 31 then some (.inl (o_gP 2 6)) else none)) else (bif Nat.ble pc 34 then (bif Nat.beq pc 34 then some (.inl (o_il 1 1)) else none) else (bif Nat.beq pc 35 then some (.inl (o_iald)) else none)))) else (bif Nat.ble pc 41 then (bif Nat.ble pc 37 then (bif Nat.ble pc 36 then (bif Nat.beq pc 36 then some (.inl (o_al 0 1)) else none) else (bif Nat.beq pc 37 then some (.inl (o_gP 2 6)) else none)) else (bif Nat.ble pc 40 then (bif Nat.beq pc 40 then some (.inl (o_il 2 1)) else none) else (bif Nat.beq pc 41 then some (.inl (o_iald)) else none))) else (bif Nat.ble pc 45 then (bif Nat.ble pc 42 then (bif Nat.beq pc 42 then some (.inr (2, 183, 2, 0)) else none) else (bif Nat.beq pc 45 then some (.inl (o_cgt 100)) else none)) else (bif Nat.ble pc 48 then (bif Nat.beq pc 48 then some (.inl (o_al 0 1)) else none) else (bif Nat.beq pc 49 then some (.inl (o_gP 2 7)) else none)))))) else (bif Nat.ble pc 76 then (bif Nat.ble pc 60 then (bif Nat.ble pc 54 then (bif Nat.ble pc 52 then (bif Nat.beq pc 52 then some (.inl (o_il 1 1)) else none) else (bif Nat.ble pc 53 then (bif Nat.beq pc 53 then some (.inl (o_iald)) else none) else (bif Nat.beq pc 54 then some (.inl (o_al 0 1)) else none))) else (bif Nat.ble pc 58 then (bif Nat.ble pc 55 then (bif Nat.beq pc 55 then some (.inl (o_gP 2 7)) else none) else (bif Nat.beq pc 58 then some (.inl (o_il 2 1)) else none)) else (bif Nat.ble pc 59 then (bif Nat.beq pc 59 then some (.inl (o_iald)) else none) else (bif Nat.beq pc 60 then some (.inr (2, 184, 2, 0)) else none)))) else (bif Nat.ble pc 68 then (bif Nat.ble pc 64 then (bif Nat.ble pc 63 then (bif Nat.beq pc 63 then some (.inl (o_al 0 1)) else none) else (bif Nat.beq pc 64 then some (.inl (o_gP 2 7)) else none)) else (bif Nat.ble pc 67 then (bif Nat.beq pc 67 then some (.inl (o_il 3 1)) else none) else (bif Nat.beq pc 68 then some (.inl (o_iald)) else none))) else (bif Nat.ble pc 72 then (bif Nat.ble pc 69 then (bif Nat.beq pc 69 then some (.inl (o_cgt 100)) else none) else (bif Nat.beq pc 72 then some (.inl (o_al 0 1)) else none)) else (bif Nat.ble pc 73 then (bif Nat.beq pc 73 then some (.inl (o_gP 2 7)) else none) else (bif Nat.beq pc 76 then some (.inl (o_il 3 1)) else none))))) else (bif Nat.ble pc 85 then (bif Nat.ble pc 79 then (bif Nat.ble pc 77 then (bif Nat.beq pc 77 then some (.inl (o_iald)) else none) else (bif Nat.ble pc 78 then (bif Nat.beq pc 78 then some (.inl (o_al 0 1)) else none) else (bif Nat.beq pc 79 then some (.inl (o_gP 2 7)) else none))) else (bif Nat.ble pc 83 then (bif Nat.ble pc 82 then (bif Nat.beq pc 82 then some (.inl (o_il 1 1)) else none) else (bif Nat.beq pc 83 then some (.inl (o_iald)) else none)) else (bif Nat.ble pc 84 then (bif Nat.beq pc 84 then some (.inl (o_al 0 1)) else none) else (bif Nat.beq pc 85 then some (.inl (o_gP 2 7)) else none)))) else (bif Nat.ble pc 93 then (bif Nat.ble pc 89 then (bif Nat.ble pc 88 then (bif Nat.beq pc 88 then some (.inl (o_il 2 1)) else none) else (bif Nat.beq pc 89 then some (.inl (o_iald)) else none)) else (bif Nat.ble pc 90 then (bif Nat.beq pc 90 then some (.inr (2, 183, 2, 0)) else none) else (bif Nat.beq pc 93 then some (.inl (o_cgt 100)) else none))) else (bif Nat.ble pc 97 then (bif Nat.ble pc 96 then (bif Nat.beq pc 96 then some (.inl (oS 1 (s_push (.int 1)))) else none) else (bif Nat.beq pc 97 then some (.inl (o_goto 101)) else none)) else (bif Nat.ble pc 100 then (bif Nat.beq pc 100 then some (.inl (oS 1 (s_push (.int 0)))) else none) else (bif Nat.beq pc 101 then some (.inr (0, 0, 0, 4)) else none))))))
theorem k_26_0 : mOk M_26.1 M_26.2.1 M_26.2.2.1 M_26.2.2.2 0 (o_al 0 1) := ok_aload_n dX2_isBetween_0 rfl
theorem k_26_1 : mOk M_26.1 M_26.2.1 M_26.2.2.1 M_26.2.2.2 1 (o_gP 2 6) := ok_gP dX2_isBetween_1 f_RX2_9 rfl
theorem k_26_4 : mOk M_26.1 M_26.2.1 M_26.2.2.1 M_26.2.2.2 4 (o_il 1 1) := ok_iload_n dX2_isBetween_4 rfl
theorem k_26_5 : mOk M_26.1 M_26.2.1 M_26.2.2.1 M_26.2.2.2 5 (o_iald) := ok_iald dX2_isBetween_5
theorem k_26_6 : mOk M_26.1 M_26.2.1 M_26.2.2.1 M_26.2.2.2 6 (o_al 0 1) := ok_aload_n dX2_isBetween_6 rfl
theorem k_26_7 : mOk M_26.1 M_26.2.1 M_26.2.2.1 M_26.2.2.2 7 (o_gP 2 6) := ok_gP dX2_isBetween_7 f_RX2_9 rfl
theorem k_26_10 : mOk M_26.1 M_26.2.1 M_26.2.2.1 M_26.2.2.2 10 (o_il 2 1) := ok_iload_n dX2_isBetween_10 rfl
theorem k_26_11 : mOk M_26.1 M_26.2.1 M_26.2.2.1 M_26.2.2.2 11 (o_iald) := ok_iald dX2_isBetween_11
theorem k_26_15 : mOk M_26.1 M_26.2.1 M_26.2.2.1 M_26.2.2.2 15 (o_al 0 1) := ok_aload_n dX2_isBetween_15 rfl
theorem k_26_16 : mOk M_26.1 M_26.2.1 M_26.2.2.1 M_26.2.2.2 16 (o_gP 2 6) := ok_gP dX2_isBetween_16 f_RX2_9 rfl
theorem k_26_19 : mOk M_26.1 M_26.2.1 M_26.2.2.1 M_26.2.2.2 19 (o_il 3 1) := ok_iload_n dX2_isBetween_19 rfl
theorem k_26_20 : mOk M_26.1 M_26.2.1 M_26.2.2.1 M_26.2.2.2 20 (o_iald) := ok_iald dX2_isBetween_20
theorem k_26_21 : mOk M_26.1 M_26.2.1 M_26.2.2.1 M_26.2.2.2 21 (o_cgt 100) := ok_cgt dX2_isBetween_21 (by decide)
theorem k_26_24 : mOk M_26.1 M_26.2.1 M_26.2.2.1 M_26.2.2.2 24 (o_al 0 1) := ok_aload_n dX2_isBetween_24 rfl
theorem k_26_25 : mOk M_26.1 M_26.2.1 M_26.2.2.1 M_26.2.2.2 25 (o_gP 2 6) := ok_gP dX2_isBetween_25 f_RX2_9 rfl
theorem k_26_28 : mOk M_26.1 M_26.2.1 M_26.2.2.1 M_26.2.2.2 28 (o_il 3 1) := ok_iload_n dX2_isBetween_28 rfl
theorem k_26_29 : mOk M_26.1 M_26.2.1 M_26.2.2.1 M_26.2.2.2 29 (o_iald) := ok_iald dX2_isBetween_29
theorem k_26_30 : mOk M_26.1 M_26.2.1 M_26.2.2.1 M_26.2.2.2 30 (o_al 0 1) := ok_aload_n dX2_isBetween_30 rfl
theorem k_26_31 : mOk M_26.1 M_26.2.1 M_26.2.2.1 M_26.2.2.2 31 (o_gP 2 6) := ok_gP dX2_isBetween_31 f_RX2_9 rfl
theorem k_26_34 : mOk M_26.1 M_26.2.1 M_26.2.2.1 M_26.2.2.2 34 (o_il 1 1) := ok_iload_n dX2_isBetween_34 rfl
theorem k_26_35 : mOk M_26.1 M_26.2.1 M_26.2.2.1 M_26.2.2.2 35 (o_iald) := ok_iald dX2_isBetween_35
theorem k_26_36 : mOk M_26.1 M_26.2.1 M_26.2.2.1 M_26.2.2.2 36 (o_al 0 1) := ok_aload_n dX2_isBetween_36 rfl
theorem k_26_37 : mOk M_26.1 M_26.2.1 M_26.2.2.1 M_26.2.2.2 37 (o_gP 2 6) := ok_gP dX2_isBetween_37 f_RX2_9 rfl
theorem k_26_40 : mOk M_26.1 M_26.2.1 M_26.2.2.1 M_26.2.2.2 40 (o_il 2 1) := ok_iload_n dX2_isBetween_40 rfl
theorem k_26_41 : mOk M_26.1 M_26.2.1 M_26.2.2.1 M_26.2.2.2 41 (o_iald) := ok_iald dX2_isBetween_41
theorem k_26_45 : mOk M_26.1 M_26.2.1 M_26.2.2.1 M_26.2.2.2 45 (o_cgt 100) := ok_cgt dX2_isBetween_45 (by decide)
theorem k_26_48 : mOk M_26.1 M_26.2.1 M_26.2.2.1 M_26.2.2.2 48 (o_al 0 1) := ok_aload_n dX2_isBetween_48 rfl
theorem k_26_49 : mOk M_26.1 M_26.2.1 M_26.2.2.1 M_26.2.2.2 49 (o_gP 2 7) := ok_gP dX2_isBetween_49 f_RX2_15 rfl
theorem k_26_52 : mOk M_26.1 M_26.2.1 M_26.2.2.1 M_26.2.2.2 52 (o_il 1 1) := ok_iload_n dX2_isBetween_52 rfl
theorem k_26_53 : mOk M_26.1 M_26.2.1 M_26.2.2.1 M_26.2.2.2 53 (o_iald) := ok_iald dX2_isBetween_53
theorem k_26_54 : mOk M_26.1 M_26.2.1 M_26.2.2.1 M_26.2.2.2 54 (o_al 0 1) := ok_aload_n dX2_isBetween_54 rfl
theorem k_26_55 : mOk M_26.1 M_26.2.1 M_26.2.2.1 M_26.2.2.2 55 (o_gP 2 7) := ok_gP dX2_isBetween_55 f_RX2_15 rfl
theorem k_26_58 : mOk M_26.1 M_26.2.1 M_26.2.2.1 M_26.2.2.2 58 (o_il 2 1) := ok_iload_n dX2_isBetween_58 rfl
theorem k_26_59 : mOk M_26.1 M_26.2.1 M_26.2.2.1 M_26.2.2.2 59 (o_iald) := ok_iald dX2_isBetween_59
theorem k_26_63 : mOk M_26.1 M_26.2.1 M_26.2.2.1 M_26.2.2.2 63 (o_al 0 1) := ok_aload_n dX2_isBetween_63 rfl
theorem k_26_64 : mOk M_26.1 M_26.2.1 M_26.2.2.1 M_26.2.2.2 64 (o_gP 2 7) := ok_gP dX2_isBetween_64 f_RX2_15 rfl
theorem k_26_67 : mOk M_26.1 M_26.2.1 M_26.2.2.1 M_26.2.2.2 67 (o_il 3 1) := ok_iload_n dX2_isBetween_67 rfl
theorem k_26_68 : mOk M_26.1 M_26.2.1 M_26.2.2.1 M_26.2.2.2 68 (o_iald) := ok_iald dX2_isBetween_68
theorem k_26_69 : mOk M_26.1 M_26.2.1 M_26.2.2.1 M_26.2.2.2 69 (o_cgt 100) := ok_cgt dX2_isBetween_69 (by decide)
theorem k_26_72 : mOk M_26.1 M_26.2.1 M_26.2.2.1 M_26.2.2.2 72 (o_al 0 1) := ok_aload_n dX2_isBetween_72 rfl
theorem k_26_73 : mOk M_26.1 M_26.2.1 M_26.2.2.1 M_26.2.2.2 73 (o_gP 2 7) := ok_gP dX2_isBetween_73 f_RX2_15 rfl
theorem k_26_76 : mOk M_26.1 M_26.2.1 M_26.2.2.1 M_26.2.2.2 76 (o_il 3 1) := ok_iload_n dX2_isBetween_76 rfl
theorem k_26_77 : mOk M_26.1 M_26.2.1 M_26.2.2.1 M_26.2.2.2 77 (o_iald) := ok_iald dX2_isBetween_77
theorem k_26_78 : mOk M_26.1 M_26.2.1 M_26.2.2.1 M_26.2.2.2 78 (o_al 0 1) := ok_aload_n dX2_isBetween_78 rfl
theorem k_26_79 : mOk M_26.1 M_26.2.1 M_26.2.2.1 M_26.2.2.2 79 (o_gP 2 7) := ok_gP dX2_isBetween_79 f_RX2_15 rfl
theorem k_26_82 : mOk M_26.1 M_26.2.1 M_26.2.2.1 M_26.2.2.2 82 (o_il 1 1) := ok_iload_n dX2_isBetween_82 rfl
theorem k_26_83 : mOk M_26.1 M_26.2.1 M_26.2.2.1 M_26.2.2.2 83 (o_iald) := ok_iald dX2_isBetween_83
theorem k_26_84 : mOk M_26.1 M_26.2.1 M_26.2.2.1 M_26.2.2.2 84 (o_al 0 1) := ok_aload_n dX2_isBetween_84 rfl
theorem k_26_85 : mOk M_26.1 M_26.2.1 M_26.2.2.1 M_26.2.2.2 85 (o_gP 2 7) := ok_gP dX2_isBetween_85 f_RX2_15 rfl
theorem k_26_88 : mOk M_26.1 M_26.2.1 M_26.2.2.1 M_26.2.2.2 88 (o_il 2 1) := ok_iload_n dX2_isBetween_88 rfl
theorem k_26_89 : mOk M_26.1 M_26.2.1 M_26.2.2.1 M_26.2.2.2 89 (o_iald) := ok_iald dX2_isBetween_89
theorem k_26_93 : mOk M_26.1 M_26.2.1 M_26.2.2.1 M_26.2.2.2 93 (o_cgt 100) := ok_cgt dX2_isBetween_93 (by decide)
theorem k_26_96 : mOk M_26.1 M_26.2.1 M_26.2.2.1 M_26.2.2.2 96 (oS 1 (s_push (.int 1))) := ok_iconst dX2_isBetween_96 (by decide)
theorem k_26_97 : mOk M_26.1 M_26.2.1 M_26.2.2.1 M_26.2.2.2 97 (o_goto 101) := ok_goto dX2_isBetween_97 (by decide)
theorem k_26_100 : mOk M_26.1 M_26.2.1 M_26.2.2.1 M_26.2.2.2 100 (oS 1 (s_push (.int 0))) := ok_iconst dX2_isBetween_100 (by decide)
set_option maxRecDepth 20000 in
set_option maxHeartbeats 4000000 in
theorem tk_26 (l : Launch) (H9 : mThr l) (H10 : mSpl l) (pc : Nat) (q : mEnt) (h : tb_26 pc = some q) : EE l 26 pc q := nd h (fun h => nd h (fun h => nd h (fun h => nd h (fun h => nd h (fun h => lf (P := EE l 26) h k_26_0) (fun h => nd h (fun h => lf (P := EE l 26) h k_26_1) (fun h => lf (P := EE l 26) h k_26_4))) (fun h => nd h (fun h => nd h (fun h => lf (P := EE l 26) h k_26_5) (fun h => lf (P := EE l 26) h k_26_6)) (fun h => nd h (fun h => lf (P := EE l 26) h k_26_7) (fun h => lf (P := EE l 26) h k_26_10)))) (fun h => nd h (fun h => nd h (fun h => nd h (fun h => lf (P := EE l 26) h k_26_11) (fun h => lf (P := EE l 26) h (EE_ca (by decide) (⟨m_600, m_82, ⟨by decide, by decide⟩, by decide +kernel, ⟨by decide, by decide⟩, 95, 2, by decide +kernel, Or.inl ⟨rfl, rfl, dX2_isBetween_12, m_598, m_599⟩⟩) rfl))) (fun h => nd h (fun h => lf (P := EE l 26) h k_26_15) (fun h => lf (P := EE l 26) h k_26_16))) (fun h => nd h (fun h => nd h (fun h => lf (P := EE l 26) h k_26_19) (fun h => lf (P := EE l 26) h k_26_20)) (fun h => nd h (fun h => lf (P := EE l 26) h k_26_21) (fun h => lf (P := EE l 26) h k_26_24))))) (fun h => nd h (fun h => nd h (fun h => nd h (fun h => lf (P := EE l 26) h k_26_25) (fun h => nd h (fun h => lf (P := EE l 26) h k_26_28) (fun h => lf (P := EE l 26) h k_26_29))) (fun h => nd h (fun h => nd h (fun h => lf (P := EE l 26) h k_26_30) (fun h => lf (P := EE l 26) h k_26_31)) (fun h => nd h (fun h => lf (P := EE l 26) h k_26_34) (fun h => lf (P := EE l 26) h k_26_35)))) (fun h => nd h (fun h => nd h (fun h => nd h (fun h => lf (P := EE l 26) h k_26_36) (fun h => lf (P := EE l 26) h k_26_37)) (fun h => nd h (fun h => lf (P := EE l 26) h k_26_40) (fun h => lf (P := EE l 26) h k_26_41))) (fun h => nd h (fun h => nd h (fun h => lf (P := EE l 26) h (EE_ca (by decide) (⟨m_603, m_82, ⟨by decide, by decide⟩, by decide +kernel, ⟨by decide, by decide⟩, 101, 2, by decide +kernel, Or.inl ⟨rfl, rfl, dX2_isBetween_42, m_601, m_602⟩⟩) rfl)) (fun h => lf (P := EE l 26) h k_26_45)) (fun h => nd h (fun h => lf (P := EE l 26) h k_26_48) (fun h => lf (P := EE l 26) h k_26_49)))))) (fun h => nd h (fun h => nd h (fun h => nd h (fun h => nd h (fun h => lf (P := EE l 26) h k_26_52) (fun h => nd h (fun h => lf (P := EE l 26) h k_26_53) (fun h => lf (P := EE l 26) h k_26_54))) (fun h => nd h (fun h => nd h (fun h => lf (P := EE l 26) h k_26_55) (fun h => lf (P := EE l 26) h k_26_58)) (fun h => nd h (fun h => lf (P := EE l 26) h k_26_59) (fun h => lf (P := EE l 26) h (EE_ca (by decide) (⟨m_600, m_82, ⟨by decide, by decide⟩, by decide +kernel, ⟨by decide, by decide⟩, 95, 2, by decide +kernel, Or.inl ⟨rfl, rfl, dX2_isBetween_60, m_598, m_599⟩⟩) rfl))))) (fun h => nd h (fun h => nd h (fun h => nd h (fun h => lf (P := EE l 26) h k_26_63) (fun h => lf (P := EE l 26) h k_26_64)) (fun h => nd h (fun h => lf (P := EE l 26) h k_26_67) (fun h => lf (P := EE l 26) h k_26_68))) (fun h => nd h (fun h => nd h (fun h => lf (P := EE l 26) h k_26_69) (fun h => lf (P := EE l 26) h k_26_72)) (fun h => nd h (fun h => lf (P := EE l 26) h k_26_73) (fun h => lf (P := EE l 26) h k_26_76))))) (fun h => nd h (fun h => nd h (fun h => nd h (fun h => lf (P := EE l 26) h k_26_77) (fun h => nd h (fun h => lf (P := EE l 26) h k_26_78) (fun h => lf (P := EE l 26) h k_26_79))) (fun h => nd h (fun h => nd h (fun h => lf (P := EE l 26) h k_26_82) (fun h => lf (P := EE l 26) h k_26_83)) (fun h => nd h (fun h => lf (P := EE l 26) h k_26_84) (fun h => lf (P := EE l 26) h k_26_85)))) (fun h => nd h (fun h => nd h (fun h => nd h (fun h => lf (P := EE l 26) h k_26_88) (fun h => lf (P := EE l 26) h k_26_89)) (fun h => nd h (fun h => lf (P := EE l 26) h (EE_ca (by decide) (⟨m_603, m_82, ⟨by decide, by decide⟩, by decide +kernel, ⟨by decide, by decide⟩, 101, 2, by decide +kernel, Or.inl ⟨rfl, rfl, dX2_isBetween_90, m_601, m_602⟩⟩) rfl)) (fun h => lf (P := EE l 26) h k_26_93))) (fun h => nd h (fun h => nd h (fun h => lf (P := EE l 26) h k_26_96) (fun h => lf (P := EE l 26) h k_26_97)) (fun h => nd h (fun h => lf (P := EE l 26) h k_26_100) (fun h => lf (P := EE l 26) h (EE_re (Or.inr (Or.inl ⟨rfl, dX2_isBetween_101, rfl⟩)))))))))
theorem dX2_turnOf_0 : decode cX2_turnOf 0 = .ok (.aload_n 0, 1) := by decide +kernel
theorem dX2_turnOf_1 : decode cX2_turnOf 1 = .ok (.getfield 9, 3) := by decide +kernel
theorem dX2_turnOf_4 : decode cX2_turnOf 4 = .ok (.iload_n 1, 1) := by decide +kernel
theorem dX2_turnOf_5 : decode cX2_turnOf 5 = .ok (.iaload, 1) := by decide +kernel
theorem dX2_turnOf_6 : decode cX2_turnOf 6 = .ok (.aload_n 0, 1) := by decide +kernel
theorem dX2_turnOf_7 : decode cX2_turnOf 7 = .ok (.getfield 15, 3) := by decide +kernel
theorem dX2_turnOf_10 : decode cX2_turnOf 10 = .ok (.iload_n 1, 1) := by decide +kernel
theorem dX2_turnOf_11 : decode cX2_turnOf 11 = .ok (.iaload, 1) := by decide +kernel
theorem dX2_turnOf_12 : decode cX2_turnOf 12 = .ok (.aload_n 0, 1) := by decide +kernel
theorem dX2_turnOf_13 : decode cX2_turnOf 13 = .ok (.getfield 9, 3) := by decide +kernel
theorem dX2_turnOf_16 : decode cX2_turnOf 16 = .ok (.iload_n 2, 1) := by decide +kernel
theorem dX2_turnOf_17 : decode cX2_turnOf 17 = .ok (.iaload, 1) := by decide +kernel
theorem dX2_turnOf_18 : decode cX2_turnOf 18 = .ok (.aload_n 0, 1) := by decide +kernel
theorem dX2_turnOf_19 : decode cX2_turnOf 19 = .ok (.getfield 15, 3) := by decide +kernel
theorem dX2_turnOf_22 : decode cX2_turnOf 22 = .ok (.iload_n 2, 1) := by decide +kernel
theorem dX2_turnOf_23 : decode cX2_turnOf 23 = .ok (.iaload, 1) := by decide +kernel
theorem dX2_turnOf_24 : decode cX2_turnOf 24 = .ok (.aload_n 0, 1) := by decide +kernel
theorem dX2_turnOf_25 : decode cX2_turnOf 25 = .ok (.getfield 9, 3) := by decide +kernel
theorem dX2_turnOf_28 : decode cX2_turnOf 28 = .ok (.iload_n 3, 1) := by decide +kernel
theorem dX2_turnOf_29 : decode cX2_turnOf 29 = .ok (.iaload, 1) := by decide +kernel
theorem dX2_turnOf_30 : decode cX2_turnOf 30 = .ok (.aload_n 0, 1) := by decide +kernel
theorem dX2_turnOf_31 : decode cX2_turnOf 31 = .ok (.getfield 15, 3) := by decide +kernel
theorem dX2_turnOf_34 : decode cX2_turnOf 34 = .ok (.iload_n 3, 1) := by decide +kernel
theorem dX2_turnOf_35 : decode cX2_turnOf 35 = .ok (.iaload, 1) := by decide +kernel
theorem dX2_turnOf_36 : decode cX2_turnOf 36 = .ok (.invokestatic 104, 3) := by decide +kernel
theorem dX2_turnOf_39 : decode cX2_turnOf 39 = .ok (.ireturn, 1) := by decide +kernel
def tb_27 (pc : Nat) : Option mEnt := bif Nat.ble pc 18 then (bif Nat.ble pc 7 then (bif Nat.ble pc 4 then (bif Nat.ble pc 0 then (bif Nat.beq pc 0 then some (.inl (o_al 0 1)) else none) else (bif Nat.ble pc 1 then (bif Nat.beq pc 1 then some (.inl (o_gP 2 6)) else none) else (bif Nat.beq pc 4 then some (.inl (o_il 1 1)) else none))) else (bif Nat.ble pc 5 then (bif Nat.beq pc 5 then some (.inl (o_iald)) else none) else (bif Nat.ble pc 6 then (bif Nat.beq pc 6 then some (.inl (o_al 0 1)) else none) else (bif Nat.beq pc 7 then some (.inl (o_gP 2 7)) else none)))) else (bif Nat.ble pc 12 then (bif Nat.ble pc 10 then (bif Nat.beq pc 10 then some (.inl (o_il 1 1)) else none) else (bif Nat.ble pc 11 then (bif Nat.beq pc 11 then some (.inl (o_iald)) else none) else (bif Nat.beq pc 12 then some (.inl (o_al 0 1)) else none))) else (bif Nat.ble pc 16 then (bif Nat.ble pc 13 then (bif Nat.beq pc 13 then some (.inl (o_gP 2 6)) else none) else (bif Nat.beq pc 16 then some (.inl (o_il 2 1)) else none)) else (bif Nat.ble pc 17 then (bif Nat.beq pc 17 then some (.inl (o_iald)) else none) else (bif Nat.beq pc 18 then some (.inl (o_al 0 1)) else none))))) else (bif Nat.ble pc 28 then (bif Nat.ble pc 23 then (bif Nat.ble pc 19 then (bif Nat.beq pc 19 then some (.inl (o_gP 2 7)) else none) else (bif Nat.ble pc 22 then (bif Nat.beq pc 22 then some (.inl (o_il 2 1)) else none) else (bif Nat.beq pc 23 then some (.inl (o_iald)) else none))) else (bif Nat.ble pc 24 then (bif Nat.beq pc 24 then some (.inl (o_al 0 1)) else none) else (bif Nat.ble pc 25 then (bif Nat.beq pc 25 then some (.inl (o_gP 2 6)) else none) else (bif Nat.beq pc 28 then some (.inl (o_il 3 1)) else none)))) else (bif Nat.ble pc 31 then (bif Nat.ble pc 29 then (bif Nat.beq pc 29 then some (.inl (o_iald)) else none) else (bif Nat.ble pc 30 then (bif Nat.beq pc 30 then some (.inl (o_al 0 1)) else none) else (bif Nat.beq pc 31 then some (.inl (o_gP 2 7)) else none))) else (bif Nat.ble pc 35 then (bif Nat.ble pc 34 then (bif Nat.beq pc 34 then some (.inl (o_il 3 1)) else none) else (bif Nat.beq pc 35 then some (.inl (o_iald)) else none)) else (bif Nat.ble pc 36 then (bif Nat.beq pc 36 then some (.inr (6, 112, 6, 0)) else none) else (bif Nat.beq pc 39 then some (.inr (0, 0, 0, 0)) else none)))))
theorem k_27_0 : mOk M_27.1 M_27.2.1 M_27.2.2.1 M_27.2.2.2 0 (o_al 0 1) := ok_aload_n dX2_turnOf_0 rfl
theorem k_27_1 : mOk M_27.1 M_27.2.1 M_27.2.2.1 M_27.2.2.2 1 (o_gP 2 6) := ok_gP dX2_turnOf_1 f_RX2_9 rfl
theorem k_27_4 : mOk M_27.1 M_27.2.1 M_27.2.2.1 M_27.2.2.2 4 (o_il 1 1) := ok_iload_n dX2_turnOf_4 rfl
theorem k_27_5 : mOk M_27.1 M_27.2.1 M_27.2.2.1 M_27.2.2.2 5 (o_iald) := ok_iald dX2_turnOf_5
theorem k_27_6 : mOk M_27.1 M_27.2.1 M_27.2.2.1 M_27.2.2.2 6 (o_al 0 1) := ok_aload_n dX2_turnOf_6 rfl
theorem k_27_7 : mOk M_27.1 M_27.2.1 M_27.2.2.1 M_27.2.2.2 7 (o_gP 2 7) := ok_gP dX2_turnOf_7 f_RX2_15 rfl
theorem k_27_10 : mOk M_27.1 M_27.2.1 M_27.2.2.1 M_27.2.2.2 10 (o_il 1 1) := ok_iload_n dX2_turnOf_10 rfl
theorem k_27_11 : mOk M_27.1 M_27.2.1 M_27.2.2.1 M_27.2.2.2 11 (o_iald) := ok_iald dX2_turnOf_11
theorem k_27_12 : mOk M_27.1 M_27.2.1 M_27.2.2.1 M_27.2.2.2 12 (o_al 0 1) := ok_aload_n dX2_turnOf_12 rfl
theorem k_27_13 : mOk M_27.1 M_27.2.1 M_27.2.2.1 M_27.2.2.2 13 (o_gP 2 6) := ok_gP dX2_turnOf_13 f_RX2_9 rfl
theorem k_27_16 : mOk M_27.1 M_27.2.1 M_27.2.2.1 M_27.2.2.2 16 (o_il 2 1) := ok_iload_n dX2_turnOf_16 rfl
theorem k_27_17 : mOk M_27.1 M_27.2.1 M_27.2.2.1 M_27.2.2.2 17 (o_iald) := ok_iald dX2_turnOf_17
theorem k_27_18 : mOk M_27.1 M_27.2.1 M_27.2.2.1 M_27.2.2.2 18 (o_al 0 1) := ok_aload_n dX2_turnOf_18 rfl
theorem k_27_19 : mOk M_27.1 M_27.2.1 M_27.2.2.1 M_27.2.2.2 19 (o_gP 2 7) := ok_gP dX2_turnOf_19 f_RX2_15 rfl
theorem k_27_22 : mOk M_27.1 M_27.2.1 M_27.2.2.1 M_27.2.2.2 22 (o_il 2 1) := ok_iload_n dX2_turnOf_22 rfl
theorem k_27_23 : mOk M_27.1 M_27.2.1 M_27.2.2.1 M_27.2.2.2 23 (o_iald) := ok_iald dX2_turnOf_23
theorem k_27_24 : mOk M_27.1 M_27.2.1 M_27.2.2.1 M_27.2.2.2 24 (o_al 0 1) := ok_aload_n dX2_turnOf_24 rfl
theorem k_27_25 : mOk M_27.1 M_27.2.1 M_27.2.2.1 M_27.2.2.2 25 (o_gP 2 6) := ok_gP dX2_turnOf_25 f_RX2_9 rfl
theorem k_27_28 : mOk M_27.1 M_27.2.1 M_27.2.2.1 M_27.2.2.2 28 (o_il 3 1) := ok_iload_n dX2_turnOf_28 rfl
theorem k_27_29 : mOk M_27.1 M_27.2.1 M_27.2.2.1 M_27.2.2.2 29 (o_iald) := ok_iald dX2_turnOf_29
theorem k_27_30 : mOk M_27.1 M_27.2.1 M_27.2.2.1 M_27.2.2.2 30 (o_al 0 1) := ok_aload_n dX2_turnOf_30 rfl
theorem k_27_31 : mOk M_27.1 M_27.2.1 M_27.2.2.1 M_27.2.2.2 31 (o_gP 2 7) := ok_gP dX2_turnOf_31 f_RX2_15 rfl
theorem k_27_34 : mOk M_27.1 M_27.2.1 M_27.2.2.1 M_27.2.2.2 34 (o_il 3 1) := ok_iload_n dX2_turnOf_34 rfl
theorem k_27_35 : mOk M_27.1 M_27.2.1 M_27.2.2.1 M_27.2.2.2 35 (o_iald) := ok_iald dX2_turnOf_35
set_option maxRecDepth 20000 in
set_option maxHeartbeats 4000000 in
theorem tk_27 (l : Launch) (H9 : mThr l) (H10 : mSpl l) (pc : Nat) (q : mEnt) (h : tb_27 pc = some q) : EE l 27 pc q := nd h (fun h => nd h (fun h => nd h (fun h => nd h (fun h => lf (P := EE l 27) h k_27_0) (fun h => nd h (fun h => lf (P := EE l 27) h k_27_1) (fun h => lf (P := EE l 27) h k_27_4))) (fun h => nd h (fun h => lf (P := EE l 27) h k_27_5) (fun h => nd h (fun h => lf (P := EE l 27) h k_27_6) (fun h => lf (P := EE l 27) h k_27_7)))) (fun h => nd h (fun h => nd h (fun h => lf (P := EE l 27) h k_27_10) (fun h => nd h (fun h => lf (P := EE l 27) h k_27_11) (fun h => lf (P := EE l 27) h k_27_12))) (fun h => nd h (fun h => nd h (fun h => lf (P := EE l 27) h k_27_13) (fun h => lf (P := EE l 27) h k_27_16)) (fun h => nd h (fun h => lf (P := EE l 27) h k_27_17) (fun h => lf (P := EE l 27) h k_27_18))))) (fun h => nd h (fun h => nd h (fun h => nd h (fun h => lf (P := EE l 27) h k_27_19) (fun h => nd h (fun h => lf (P := EE l 27) h k_27_22) (fun h => lf (P := EE l 27) h k_27_23))) (fun h => nd h (fun h => lf (P := EE l 27) h k_27_24) (fun h => nd h (fun h => lf (P := EE l 27) h k_27_25) (fun h => lf (P := EE l 27) h k_27_28)))) (fun h => nd h (fun h => nd h (fun h => lf (P := EE l 27) h k_27_29) (fun h => nd h (fun h => lf (P := EE l 27) h k_27_30) (fun h => lf (P := EE l 27) h k_27_31))) (fun h => nd h (fun h => nd h (fun h => lf (P := EE l 27) h k_27_34) (fun h => lf (P := EE l 27) h k_27_35)) (fun h => nd h (fun h => lf (P := EE l 27) h (EE_ca (by decide) (⟨m_586, m_70, ⟨by decide, by decide⟩, by decide +kernel, ⟨by decide, by decide⟩, 104, 6, by decide +kernel, Or.inr (Or.inl ⟨rfl, rfl, dX2_turnOf_36, ⟨"AtlasDesk", m_584⟩, m_585⟩)⟩) rfl)) (fun h => lf (P := EE l 27) h (EE_re (Or.inl ⟨rfl, dX2_turnOf_39, rfl⟩)))))))
theorem dX2_samePlace_0 : decode cX2_samePlace 0 = .ok (.aload_n 0, 1) := by decide +kernel
theorem dX2_samePlace_1 : decode cX2_samePlace 1 = .ok (.getfield 9, 3) := by decide +kernel
theorem dX2_samePlace_4 : decode cX2_samePlace 4 = .ok (.iload_n 1, 1) := by decide +kernel
theorem dX2_samePlace_5 : decode cX2_samePlace 5 = .ok (.iaload, 1) := by decide +kernel
theorem dX2_samePlace_6 : decode cX2_samePlace 6 = .ok (.aload_n 0, 1) := by decide +kernel
theorem dX2_samePlace_7 : decode cX2_samePlace 7 = .ok (.getfield 9, 3) := by decide +kernel
theorem dX2_samePlace_10 : decode cX2_samePlace 10 = .ok (.iload_n 2, 1) := by decide +kernel
theorem dX2_samePlace_11 : decode cX2_samePlace 11 = .ok (.iaload, 1) := by decide +kernel
theorem dX2_samePlace_12 : decode cX2_samePlace 12 = .ok (.if_icmp .ne 22, 3) := by decide +kernel
theorem dX2_samePlace_15 : decode cX2_samePlace 15 = .ok (.aload_n 0, 1) := by decide +kernel
theorem dX2_samePlace_16 : decode cX2_samePlace 16 = .ok (.getfield 15, 3) := by decide +kernel
theorem dX2_samePlace_19 : decode cX2_samePlace 19 = .ok (.iload_n 1, 1) := by decide +kernel
theorem dX2_samePlace_20 : decode cX2_samePlace 20 = .ok (.iaload, 1) := by decide +kernel
theorem dX2_samePlace_21 : decode cX2_samePlace 21 = .ok (.aload_n 0, 1) := by decide +kernel
theorem dX2_samePlace_22 : decode cX2_samePlace 22 = .ok (.getfield 15, 3) := by decide +kernel
theorem dX2_samePlace_25 : decode cX2_samePlace 25 = .ok (.iload_n 2, 1) := by decide +kernel
theorem dX2_samePlace_26 : decode cX2_samePlace 26 = .ok (.iaload, 1) := by decide +kernel
theorem dX2_samePlace_27 : decode cX2_samePlace 27 = .ok (.if_icmp .ne 7, 3) := by decide +kernel
theorem dX2_samePlace_30 : decode cX2_samePlace 30 = .ok (.iconst 1, 1) := by decide +kernel
theorem dX2_samePlace_31 : decode cX2_samePlace 31 = .ok (.goto 4, 3) := by decide +kernel
theorem dX2_samePlace_34 : decode cX2_samePlace 34 = .ok (.iconst 0, 1) := by decide +kernel
theorem dX2_samePlace_35 : decode cX2_samePlace 35 = .ok (.ireturn, 1) := by decide +kernel
def tb_28 (pc : Nat) : Option mEnt := bif Nat.ble pc 16 then (bif Nat.ble pc 6 then (bif Nat.ble pc 1 then (bif Nat.ble pc 0 then (bif Nat.beq pc 0 then some (.inl (o_al 0 1)) else none) else (bif Nat.beq pc 1 then some (.inl (o_gP 2 6)) else none)) else (bif Nat.ble pc 4 then (bif Nat.beq pc 4 then some (.inl (o_il 1 1)) else none) else (bif Nat.ble pc 5 then (bif Nat.beq pc 5 then some (.inl (o_iald)) else none) else (bif Nat.beq pc 6 then some (.inl (o_al 0 1)) else none)))) else (bif Nat.ble pc 11 then (bif Nat.ble pc 7 then (bif Nat.beq pc 7 then some (.inl (o_gP 2 6)) else none) else (bif Nat.ble pc 10 then (bif Nat.beq pc 10 then some (.inl (o_il 2 1)) else none) else (bif Nat.beq pc 11 then some (.inl (o_iald)) else none))) else (bif Nat.ble pc 12 then (bif Nat.beq pc 12 then some (.inl (o_cne 34)) else none) else (bif Nat.ble pc 15 then (bif Nat.beq pc 15 then some (.inl (o_al 0 1)) else none) else (bif Nat.beq pc 16 then some (.inl (o_gP 2 7)) else none))))) else (bif Nat.ble pc 25 then (bif Nat.ble pc 20 then (bif Nat.ble pc 19 then (bif Nat.beq pc 19 then some (.inl (o_il 1 1)) else none) else (bif Nat.beq pc 20 then some (.inl (o_iald)) else none)) else (bif Nat.ble pc 21 then (bif Nat.beq pc 21 then some (.inl (o_al 0 1)) else none) else (bif Nat.ble pc 22 then (bif Nat.beq pc 22 then some (.inl (o_gP 2 7)) else none) else (bif Nat.beq pc 25 then some (.inl (o_il 2 1)) else none)))) else (bif Nat.ble pc 30 then (bif Nat.ble pc 26 then (bif Nat.beq pc 26 then some (.inl (o_iald)) else none) else (bif Nat.ble pc 27 then (bif Nat.beq pc 27 then some (.inl (o_cne 34)) else none) else (bif Nat.beq pc 30 then some (.inl (oS 1 (s_push (.int 1)))) else none))) else (bif Nat.ble pc 31 then (bif Nat.beq pc 31 then some (.inl (o_goto 35)) else none) else (bif Nat.ble pc 34 then (bif Nat.beq pc 34 then some (.inl (oS 1 (s_push (.int 0)))) else none) else (bif Nat.beq pc 35 then some (.inr (0, 0, 0, 4)) else none)))))
theorem k_28_0 : mOk M_28.1 M_28.2.1 M_28.2.2.1 M_28.2.2.2 0 (o_al 0 1) := ok_aload_n dX2_samePlace_0 rfl
theorem k_28_1 : mOk M_28.1 M_28.2.1 M_28.2.2.1 M_28.2.2.2 1 (o_gP 2 6) := ok_gP dX2_samePlace_1 f_RX2_9 rfl
theorem k_28_4 : mOk M_28.1 M_28.2.1 M_28.2.2.1 M_28.2.2.2 4 (o_il 1 1) := ok_iload_n dX2_samePlace_4 rfl
theorem k_28_5 : mOk M_28.1 M_28.2.1 M_28.2.2.1 M_28.2.2.2 5 (o_iald) := ok_iald dX2_samePlace_5
theorem k_28_6 : mOk M_28.1 M_28.2.1 M_28.2.2.1 M_28.2.2.2 6 (o_al 0 1) := ok_aload_n dX2_samePlace_6 rfl
theorem k_28_7 : mOk M_28.1 M_28.2.1 M_28.2.2.1 M_28.2.2.2 7 (o_gP 2 6) := ok_gP dX2_samePlace_7 f_RX2_9 rfl
theorem k_28_10 : mOk M_28.1 M_28.2.1 M_28.2.2.1 M_28.2.2.2 10 (o_il 2 1) := ok_iload_n dX2_samePlace_10 rfl
theorem k_28_11 : mOk M_28.1 M_28.2.1 M_28.2.2.1 M_28.2.2.2 11 (o_iald) := ok_iald dX2_samePlace_11
theorem k_28_12 : mOk M_28.1 M_28.2.1 M_28.2.2.1 M_28.2.2.2 12 (o_cne 34) := ok_cne dX2_samePlace_12 (by decide)
theorem k_28_15 : mOk M_28.1 M_28.2.1 M_28.2.2.1 M_28.2.2.2 15 (o_al 0 1) := ok_aload_n dX2_samePlace_15 rfl
theorem k_28_16 : mOk M_28.1 M_28.2.1 M_28.2.2.1 M_28.2.2.2 16 (o_gP 2 7) := ok_gP dX2_samePlace_16 f_RX2_15 rfl
theorem k_28_19 : mOk M_28.1 M_28.2.1 M_28.2.2.1 M_28.2.2.2 19 (o_il 1 1) := ok_iload_n dX2_samePlace_19 rfl
theorem k_28_20 : mOk M_28.1 M_28.2.1 M_28.2.2.1 M_28.2.2.2 20 (o_iald) := ok_iald dX2_samePlace_20
theorem k_28_21 : mOk M_28.1 M_28.2.1 M_28.2.2.1 M_28.2.2.2 21 (o_al 0 1) := ok_aload_n dX2_samePlace_21 rfl
theorem k_28_22 : mOk M_28.1 M_28.2.1 M_28.2.2.1 M_28.2.2.2 22 (o_gP 2 7) := ok_gP dX2_samePlace_22 f_RX2_15 rfl
theorem k_28_25 : mOk M_28.1 M_28.2.1 M_28.2.2.1 M_28.2.2.2 25 (o_il 2 1) := ok_iload_n dX2_samePlace_25 rfl
theorem k_28_26 : mOk M_28.1 M_28.2.1 M_28.2.2.1 M_28.2.2.2 26 (o_iald) := ok_iald dX2_samePlace_26
theorem k_28_27 : mOk M_28.1 M_28.2.1 M_28.2.2.1 M_28.2.2.2 27 (o_cne 34) := ok_cne dX2_samePlace_27 (by decide)
theorem k_28_30 : mOk M_28.1 M_28.2.1 M_28.2.2.1 M_28.2.2.2 30 (oS 1 (s_push (.int 1))) := ok_iconst dX2_samePlace_30 (by decide)
theorem k_28_31 : mOk M_28.1 M_28.2.1 M_28.2.2.1 M_28.2.2.2 31 (o_goto 35) := ok_goto dX2_samePlace_31 (by decide)
theorem k_28_34 : mOk M_28.1 M_28.2.1 M_28.2.2.1 M_28.2.2.2 34 (oS 1 (s_push (.int 0))) := ok_iconst dX2_samePlace_34 (by decide)
set_option maxRecDepth 20000 in
set_option maxHeartbeats 4000000 in
theorem tk_28 (l : Launch) (H9 : mThr l) (H10 : mSpl l) (pc : Nat) (q : mEnt) (h : tb_28 pc = some q) : EE l 28 pc q := nd h (fun h => nd h (fun h => nd h (fun h => nd h (fun h => lf (P := EE l 28) h k_28_0) (fun h => lf (P := EE l 28) h k_28_1)) (fun h => nd h (fun h => lf (P := EE l 28) h k_28_4) (fun h => nd h (fun h => lf (P := EE l 28) h k_28_5) (fun h => lf (P := EE l 28) h k_28_6)))) (fun h => nd h (fun h => nd h (fun h => lf (P := EE l 28) h k_28_7) (fun h => nd h (fun h => lf (P := EE l 28) h k_28_10) (fun h => lf (P := EE l 28) h k_28_11))) (fun h => nd h (fun h => lf (P := EE l 28) h k_28_12) (fun h => nd h (fun h => lf (P := EE l 28) h k_28_15) (fun h => lf (P := EE l 28) h k_28_16))))) (fun h => nd h (fun h => nd h (fun h => nd h (fun h => lf (P := EE l 28) h k_28_19) (fun h => lf (P := EE l 28) h k_28_20)) (fun h => nd h (fun h => lf (P := EE l 28) h k_28_21) (fun h => nd h (fun h => lf (P := EE l 28) h k_28_22) (fun h => lf (P := EE l 28) h k_28_25)))) (fun h => nd h (fun h => nd h (fun h => lf (P := EE l 28) h k_28_26) (fun h => nd h (fun h => lf (P := EE l 28) h k_28_27) (fun h => lf (P := EE l 28) h k_28_30))) (fun h => nd h (fun h => lf (P := EE l 28) h k_28_31) (fun h => nd h (fun h => lf (P := EE l 28) h k_28_34) (fun h => lf (P := EE l 28) h (EE_re (Or.inr (Or.inl ⟨rfl, dX2_samePlace_35, rfl⟩))))))))
theorem dX2_next_0 : decode cX2_next 0 = .ok (.iload_n 1, 1) := by decide +kernel
theorem dX2_next_1 : decode cX2_next 1 = .ok (.iconst 1, 1) := by decide +kernel
theorem dX2_next_2 : decode cX2_next 2 = .ok (.iadd, 1) := by decide +kernel
theorem dX2_next_3 : decode cX2_next 3 = .ok (.aload_n 0, 1) := by decide +kernel
theorem dX2_next_4 : decode cX2_next 4 = .ok (.getfield 22, 3) := by decide +kernel
theorem dX2_next_7 : decode cX2_next 7 = .ok (.if_icmp .ge 9, 3) := by decide +kernel
theorem dX2_next_10 : decode cX2_next 10 = .ok (.iload_n 1, 1) := by decide +kernel
theorem dX2_next_11 : decode cX2_next 11 = .ok (.iconst 1, 1) := by decide +kernel
theorem dX2_next_12 : decode cX2_next 12 = .ok (.iadd, 1) := by decide +kernel
theorem dX2_next_13 : decode cX2_next 13 = .ok (.goto 4, 3) := by decide +kernel
theorem dX2_next_16 : decode cX2_next 16 = .ok (.iconst 0, 1) := by decide +kernel
theorem dX2_next_17 : decode cX2_next 17 = .ok (.ireturn, 1) := by decide +kernel
def tb_29 (pc : Nat) : Option mEnt := bif Nat.ble pc 7 then (bif Nat.ble pc 2 then (bif Nat.ble pc 0 then (bif Nat.beq pc 0 then some (.inl (o_il 1 1)) else none) else (bif Nat.ble pc 1 then (bif Nat.beq pc 1 then some (.inl (oS 1 (s_push (.int 1)))) else none) else (bif Nat.beq pc 2 then some (.inl (oS 1 (s_ii (fun a b => a + b)))) else none))) else (bif Nat.ble pc 3 then (bif Nat.beq pc 3 then some (.inl (o_al 0 1)) else none) else (bif Nat.ble pc 4 then (bif Nat.beq pc 4 then some (.inl (o_gI 2 5)) else none) else (bif Nat.beq pc 7 then some (.inl (o_cge 16)) else none)))) else (bif Nat.ble pc 12 then (bif Nat.ble pc 10 then (bif Nat.beq pc 10 then some (.inl (o_il 1 1)) else none) else (bif Nat.ble pc 11 then (bif Nat.beq pc 11 then some (.inl (oS 1 (s_push (.int 1)))) else none) else (bif Nat.beq pc 12 then some (.inl (oS 1 (s_ii (fun a b => a + b)))) else none))) else (bif Nat.ble pc 13 then (bif Nat.beq pc 13 then some (.inl (o_goto 17)) else none) else (bif Nat.ble pc 16 then (bif Nat.beq pc 16 then some (.inl (oS 1 (s_push (.int 0)))) else none) else (bif Nat.beq pc 17 then some (.inr (0, 0, 0, 0)) else none))))
theorem k_29_0 : mOk M_29.1 M_29.2.1 M_29.2.2.1 M_29.2.2.2 0 (o_il 1 1) := ok_iload_n dX2_next_0 rfl
theorem k_29_1 : mOk M_29.1 M_29.2.1 M_29.2.2.1 M_29.2.2.2 1 (oS 1 (s_push (.int 1))) := ok_iconst dX2_next_1 (by decide)
theorem k_29_2 : mOk M_29.1 M_29.2.1 M_29.2.2.1 M_29.2.2.2 2 (oS 1 (s_ii (fun a b => a + b))) := ok_iadd dX2_next_2
theorem k_29_3 : mOk M_29.1 M_29.2.1 M_29.2.2.1 M_29.2.2.2 3 (o_al 0 1) := ok_aload_n dX2_next_3 rfl
theorem k_29_4 : mOk M_29.1 M_29.2.1 M_29.2.2.1 M_29.2.2.2 4 (o_gI 2 5) := ok_gI dX2_next_4 f_RX2_22 (Or.inl rfl)
theorem k_29_7 : mOk M_29.1 M_29.2.1 M_29.2.2.1 M_29.2.2.2 7 (o_cge 16) := ok_cge dX2_next_7 (by decide)
theorem k_29_10 : mOk M_29.1 M_29.2.1 M_29.2.2.1 M_29.2.2.2 10 (o_il 1 1) := ok_iload_n dX2_next_10 rfl
theorem k_29_11 : mOk M_29.1 M_29.2.1 M_29.2.2.1 M_29.2.2.2 11 (oS 1 (s_push (.int 1))) := ok_iconst dX2_next_11 (by decide)
theorem k_29_12 : mOk M_29.1 M_29.2.1 M_29.2.2.1 M_29.2.2.2 12 (oS 1 (s_ii (fun a b => a + b))) := ok_iadd dX2_next_12
theorem k_29_13 : mOk M_29.1 M_29.2.1 M_29.2.2.1 M_29.2.2.2 13 (o_goto 17) := ok_goto dX2_next_13 (by decide)
theorem k_29_16 : mOk M_29.1 M_29.2.1 M_29.2.2.1 M_29.2.2.2 16 (oS 1 (s_push (.int 0))) := ok_iconst dX2_next_16 (by decide)
set_option maxRecDepth 20000 in
set_option maxHeartbeats 4000000 in
theorem tk_29 (l : Launch) (H9 : mThr l) (H10 : mSpl l) (pc : Nat) (q : mEnt) (h : tb_29 pc = some q) : EE l 29 pc q := nd h (fun h => nd h (fun h => nd h (fun h => lf (P := EE l 29) h k_29_0) (fun h => nd h (fun h => lf (P := EE l 29) h k_29_1) (fun h => lf (P := EE l 29) h k_29_2))) (fun h => nd h (fun h => lf (P := EE l 29) h k_29_3) (fun h => nd h (fun h => lf (P := EE l 29) h k_29_4) (fun h => lf (P := EE l 29) h k_29_7)))) (fun h => nd h (fun h => nd h (fun h => lf (P := EE l 29) h k_29_10) (fun h => nd h (fun h => lf (P := EE l 29) h k_29_11) (fun h => lf (P := EE l 29) h k_29_12))) (fun h => nd h (fun h => lf (P := EE l 29) h k_29_13) (fun h => nd h (fun h => lf (P := EE l 29) h k_29_16) (fun h => lf (P := EE l 29) h (EE_re (Or.inl ⟨rfl, dX2_next_17, rfl⟩))))))
theorem dX2_surrounds_0 : decode cX2_surrounds 0 = .ok (.iconst 0, 1) := by decide +kernel
theorem dX2_surrounds_1 : decode cX2_surrounds 1 = .ok (.istore_n 3, 1) := by decide +kernel
theorem dX2_surrounds_2 : decode cX2_surrounds 2 = .ok (.iconst 0, 1) := by decide +kernel
theorem dX2_surrounds_3 : decode cX2_surrounds 3 = .ok (.istore 4, 2) := by decide +kernel
theorem dX2_surrounds_5 : decode cX2_surrounds 5 = .ok (.iload 4, 2) := by decide +kernel
theorem dX2_surrounds_7 : decode cX2_surrounds 7 = .ok (.aload_n 0, 1) := by decide +kernel
theorem dX2_surrounds_8 : decode cX2_surrounds 8 = .ok (.getfield 22, 3) := by decide +kernel
theorem dX2_surrounds_11 : decode cX2_surrounds 11 = .ok (.if_icmp .ge 144, 3) := by decide +kernel
theorem dX2_surrounds_14 : decode cX2_surrounds 14 = .ok (.aload_n 0, 1) := by decide +kernel
theorem dX2_surrounds_15 : decode cX2_surrounds 15 = .ok (.iload 4, 2) := by decide +kernel
theorem dX2_surrounds_17 : decode cX2_surrounds 17 = .ok (.invokevirtual 73, 3) := by decide +kernel
theorem dX2_surrounds_20 : decode cX2_surrounds 20 = .ok (.istore 5, 2) := by decide +kernel
theorem dX2_surrounds_22 : decode cX2_surrounds 22 = .ok (.aload_n 0, 1) := by decide +kernel
theorem dX2_surrounds_23 : decode cX2_surrounds 23 = .ok (.getfield 15, 3) := by decide +kernel
theorem dX2_surrounds_26 : decode cX2_surrounds 26 = .ok (.iload 4, 2) := by decide +kernel
theorem dX2_surrounds_28 : decode cX2_surrounds 28 = .ok (.iaload, 1) := by decide +kernel
theorem dX2_surrounds_29 : decode cX2_surrounds 29 = .ok (.iload_n 2, 1) := by decide +kernel
theorem dX2_surrounds_30 : decode cX2_surrounds 30 = .ok (.if_icmp .le 7, 3) := by decide +kernel
theorem dX2_surrounds_33 : decode cX2_surrounds 33 = .ok (.iconst 1, 1) := by decide +kernel
theorem dX2_surrounds_34 : decode cX2_surrounds 34 = .ok (.goto 4, 3) := by decide +kernel
theorem dX2_surrounds_37 : decode cX2_surrounds 37 = .ok (.iconst 0, 1) := by decide +kernel
theorem dX2_surrounds_38 : decode cX2_surrounds 38 = .ok (.aload_n 0, 1) := by decide +kernel
theorem dX2_surrounds_39 : decode cX2_surrounds 39 = .ok (.getfield 15, 3) := by decide +kernel
theorem dX2_surrounds_42 : decode cX2_surrounds 42 = .ok (.iload 5, 2) := by decide +kernel
theorem dX2_surrounds_44 : decode cX2_surrounds 44 = .ok (.iaload, 1) := by decide +kernel
theorem dX2_surrounds_45 : decode cX2_surrounds 45 = .ok (.iload_n 2, 1) := by decide +kernel
theorem dX2_surrounds_46 : decode cX2_surrounds 46 = .ok (.if_icmp .le 7, 3) := by decide +kernel
theorem dX2_surrounds_49 : decode cX2_surrounds 49 = .ok (.iconst 1, 1) := by decide +kernel
theorem dX2_surrounds_50 : decode cX2_surrounds 50 = .ok (.goto 4, 3) := by decide +kernel
theorem dX2_surrounds_53 : decode cX2_surrounds 53 = .ok (.iconst 0, 1) := by decide +kernel
theorem dX2_surrounds_54 : decode cX2_surrounds 54 = .ok (.if_icmp .eq 7, 3) := by decide +kernel
theorem dX2_surrounds_57 : decode cX2_surrounds 57 = .ok (.iconst 1, 1) := by decide +kernel
theorem dX2_surrounds_58 : decode cX2_surrounds 58 = .ok (.goto 4, 3) := by decide +kernel
theorem dX2_surrounds_61 : decode cX2_surrounds 61 = .ok (.iconst 0, 1) := by decide +kernel
theorem dX2_surrounds_62 : decode cX2_surrounds 62 = .ok (.istore 6, 2) := by decide +kernel
theorem dX2_surrounds_64 : decode cX2_surrounds 64 = .ok (.aload_n 0, 1) := by decide +kernel
theorem dX2_surrounds_65 : decode cX2_surrounds 65 = .ok (.getfield 9, 3) := by decide +kernel
theorem dX2_surrounds_68 : decode cX2_surrounds 68 = .ok (.iload 4, 2) := by decide +kernel
theorem dX2_surrounds_70 : decode cX2_surrounds 70 = .ok (.iaload, 1) := by decide +kernel
theorem dX2_surrounds_71 : decode cX2_surrounds 71 = .ok (.aload_n 0, 1) := by decide +kernel
theorem dX2_surrounds_72 : decode cX2_surrounds 72 = .ok (.getfield 15, 3) := by decide +kernel
theorem dX2_surrounds_75 : decode cX2_surrounds 75 = .ok (.iload 4, 2) := by decide +kernel
theorem dX2_surrounds_77 : decode cX2_surrounds 77 = .ok (.iaload, 1) := by decide +kernel
theorem dX2_surrounds_78 : decode cX2_surrounds 78 = .ok (.aload_n 0, 1) := by decide +kernel
theorem dX2_surrounds_79 : decode cX2_surrounds 79 = .ok (.getfield 9, 3) := by decide +kernel
theorem dX2_surrounds_82 : decode cX2_surrounds 82 = .ok (.iload 5, 2) := by decide +kernel
theorem dX2_surrounds_84 : decode cX2_surrounds 84 = .ok (.iaload, 1) := by decide +kernel
theorem dX2_surrounds_85 : decode cX2_surrounds 85 = .ok (.aload_n 0, 1) := by decide +kernel
theorem dX2_surrounds_86 : decode cX2_surrounds 86 = .ok (.getfield 15, 3) := by decide +kernel
theorem dX2_surrounds_89 : decode cX2_surrounds 89 = .ok (.iload 5, 2) := by decide +kernel
theorem dX2_surrounds_91 : decode cX2_surrounds 91 = .ok (.iaload, 1) := by decide +kernel
theorem dX2_surrounds_92 : decode cX2_surrounds 92 = .ok (.iload_n 1, 1) := by decide +kernel
theorem dX2_surrounds_93 : decode cX2_surrounds 93 = .ok (.iload_n 2, 1) := by decide +kernel
theorem dX2_surrounds_94 : decode cX2_surrounds 94 = .ok (.invokestatic 104, 3) := by decide +kernel
theorem dX2_surrounds_97 : decode cX2_surrounds 97 = .ok (.ifCond .le 7, 3) := by decide +kernel
theorem dX2_surrounds_100 : decode cX2_surrounds 100 = .ok (.iconst 1, 1) := by decide +kernel
theorem dX2_surrounds_101 : decode cX2_surrounds 101 = .ok (.goto 4, 3) := by decide +kernel
theorem dX2_surrounds_104 : decode cX2_surrounds 104 = .ok (.iconst 0, 1) := by decide +kernel
theorem dX2_surrounds_105 : decode cX2_surrounds 105 = .ok (.istore 7, 2) := by decide +kernel
theorem dX2_surrounds_107 : decode cX2_surrounds 107 = .ok (.iload 6, 2) := by decide +kernel
theorem dX2_surrounds_109 : decode cX2_surrounds 109 = .ok (.ifCond .eq 40, 3) := by decide +kernel
theorem dX2_surrounds_112 : decode cX2_surrounds 112 = .ok (.iload 7, 2) := by decide +kernel
theorem dX2_surrounds_114 : decode cX2_surrounds 114 = .ok (.aload_n 0, 1) := by decide +kernel
theorem dX2_surrounds_115 : decode cX2_surrounds 115 = .ok (.getfield 15, 3) := by decide +kernel
theorem dX2_surrounds_118 : decode cX2_surrounds 118 = .ok (.iload 5, 2) := by decide +kernel
theorem dX2_surrounds_120 : decode cX2_surrounds 120 = .ok (.iaload, 1) := by decide +kernel
theorem dX2_surrounds_121 : decode cX2_surrounds 121 = .ok (.aload_n 0, 1) := by decide +kernel
theorem dX2_surrounds_122 : decode cX2_surrounds 122 = .ok (.getfield 15, 3) := by decide +kernel
theorem dX2_surrounds_125 : decode cX2_surrounds 125 = .ok (.iload 4, 2) := by decide +kernel
theorem dX2_surrounds_127 : decode cX2_surrounds 127 = .ok (.iaload, 1) := by decide +kernel
theorem dX2_surrounds_128 : decode cX2_surrounds 128 = .ok (.if_icmp .le 7, 3) := by decide +kernel
theorem dX2_surrounds_131 : decode cX2_surrounds 131 = .ok (.iconst 1, 1) := by decide +kernel
theorem dX2_surrounds_132 : decode cX2_surrounds 132 = .ok (.goto 4, 3) := by decide +kernel
theorem dX2_surrounds_135 : decode cX2_surrounds 135 = .ok (.iconst 0, 1) := by decide +kernel
theorem dX2_surrounds_136 : decode cX2_surrounds 136 = .ok (.if_icmp .ne 13, 3) := by decide +kernel
theorem dX2_surrounds_139 : decode cX2_surrounds 139 = .ok (.iload_n 3, 1) := by decide +kernel
theorem dX2_surrounds_140 : decode cX2_surrounds 140 = .ok (.ifCond .ne 7, 3) := by decide +kernel
theorem dX2_surrounds_143 : decode cX2_surrounds 143 = .ok (.iconst 1, 1) := by decide +kernel
theorem dX2_surrounds_144 : decode cX2_surrounds 144 = .ok (.goto 4, 3) := by decide +kernel
theorem dX2_surrounds_147 : decode cX2_surrounds 147 = .ok (.iconst 0, 1) := by decide +kernel
theorem dX2_surrounds_148 : decode cX2_surrounds 148 = .ok (.istore_n 3, 1) := by decide +kernel
theorem dX2_surrounds_149 : decode cX2_surrounds 149 = .ok (.iinc 4 1, 3) := by decide +kernel
theorem dX2_surrounds_152 : decode cX2_surrounds 152 = .ok (.goto (-147), 3) := by decide +kernel
theorem dX2_surrounds_155 : decode cX2_surrounds 155 = .ok (.iload_n 3, 1) := by decide +kernel
theorem dX2_surrounds_156 : decode cX2_surrounds 156 = .ok (.ireturn, 1) := by decide +kernel
def tb_30 (pc : Nat) : Option mEnt := bif Nat.ble pc 75 then (bif Nat.ble pc 37 then (bif Nat.ble pc 15 then (bif Nat.ble pc 5 then (bif Nat.ble pc 1 then (bif Nat.ble pc 0 then (bif Nat.beq pc 0 then some (.inl (oS 1 (s_push (.int 0)))) else none) else (bif Nat.beq pc 1 then some (.inl (o_is 3 1)) else none)) else (bif Nat.ble pc 2 then (bif Nat.beq pc 2 then some (.inl (oS 1 (s_push (.int 0)))) else none) else (bif Nat.ble pc 3 then (bif Nat.beq pc 3 then some (.inl (o_is 4 2)) else none) else (bif Nat.beq pc 5 then some (.inl (o_il 4 2)) else none)))) else (bif Nat.ble pc 8 then (bif Nat.ble pc 7 then (bif Nat.beq pc 7 then some (.inl (o_al 0 1)) else none) else (bif Nat.beq pc 8 then some (.inl (o_gI 2 5)) else none)) else (bif Nat.ble pc 11 then (bif Nat.beq pc 11 then some (.inl (o_cge 155)) else none) else (bif Nat.ble pc 14 then (bif Nat.beq pc 14 then some (.inl (o_al 0 1)) else none) else (bif Nat.beq pc 15 then some (.inl (o_il 4 2)) else none))))) else (bif Nat.ble pc 26 then (bif Nat.ble pc 20 then (bif Nat.ble pc 17 then (bif Nat.beq pc 17 then some (.inr (3, 29, 2, 2)) else none) else (bif Nat.beq pc 20 then some (.inl (o_is 5 2)) else none)) else (bif Nat.ble pc 22 then (bif Nat.beq pc 22 then some (.inl (o_al 0 1)) else none) else (bif Nat.ble pc 23 then (bif Nat.beq pc 23 then some (.inl (o_gP 2 7)) else none) else (bif Nat.beq pc 26 then some (.inl (o_il 4 2)) else none)))) else (bif Nat.ble pc 30 then (bif Nat.ble pc 28 then (bif Nat.beq pc 28 then some (.inl (o_iald)) else none) else (bif Nat.ble pc 29 then (bif Nat.beq pc 29 then some (.inl (o_il 2 1)) else none) else (bif Nat.beq pc 30 then some (.inl (o_cle 37)) else none))) else (bif Nat.ble pc 33 then (bif Nat.beq pc 33 then some (.inl (oS 1 (s_push (.int 1)))) else none) else (bif Nat.ble pc 34 then (bif Nat.beq pc 34 then some (.inl (o_goto 38)) else none) else (bif Nat.beq pc 37 then some (.inl (oS 1 (s_push (.int 0)))) else none)))))) else (bif Nat.ble pc 54 then (bif Nat.ble pc 45 then (bif Nat.ble pc 39 then (bif Nat.ble pc 38 then (bif Nat.beq pc 38 then some (.inl (o_al 0 1)) else none) else (bif Nat.beq pc 39 then some (.inl (o_gP 2 7)) else none)) else (bif Nat.ble pc 42 then (bif Nat.beq pc 42 then some (.inl (o_il 5 2)) else none) else (bif Nat.ble pc 44 then (bif Nat.beq pc 44 then some (.inl (o_iald)) else none) else (bif Nat.beq pc 45 then some (.inl (o_il 2 1)) else none)))) else (bif Nat.ble pc 49 then (bif Nat.ble pc 46 then (bif Nat.beq pc 46 then some (.inl (o_cle 53)) else none) else (bif Nat.beq pc 49 then some (.inl (oS 1 (s_push (.int 1)))) else none)) else (bif Nat.ble pc 50 then (bif Nat.beq pc 50 then some (.inl (o_goto 54)) else none) else (bif Nat.ble pc 53 then (bif Nat.beq pc 53 then some (.inl (oS 1 (s_push (.int 0)))) else none) else (bif Nat.beq pc 54 then some (.inl (o_ceq 61)) else none))))) else (bif Nat.ble pc 64 then (bif Nat.ble pc 58 then (bif Nat.ble pc 57 then (bif Nat.beq pc 57 then some (.inl (oS 1 (s_push (.int 1)))) else none) else (bif Nat.beq pc 58 then some (.inl (o_goto 62)) else none)) else (bif Nat.ble pc 61 then (bif Nat.beq pc 61 then some (.inl (oS 1 (s_push (.int 0)))) else none) else (bif Nat.ble pc 62 then (bif Nat.beq pc 62 then some (.inl (o_is 6 2)) else none) else (bif Nat.beq pc 64 then some (.inl (o_al 0 1)) else none)))) else (bif Nat.ble pc 70 then (bif Nat.ble pc 65 then (bif Nat.beq pc 65 then some (.inl (o_gP 2 6)) else none) else (bif Nat.ble pc 68 then (bif Nat.beq pc 68 then some (.inl (o_il 4 2)) else none) else (bif Nat.beq pc 70 then some (.inl (o_iald)) else none))) else (bif Nat.ble pc 71 then (bif Nat.beq pc 71 then some (.inl (o_al 0 1)) else none) else (bif Nat.ble pc 72 then (bif Nat.beq pc 72 then some (.inl (o_gP 2 7)) else none) else (bif Nat.beq pc 75 then some (.inl (o_il 4 2)) else none))))))) else (bif Nat.ble pc 114 then (bif Nat.ble pc 92 then (bif Nat.ble pc 84 then (bif Nat.ble pc 78 then (bif Nat.ble pc 77 then (bif Nat.beq pc 77 then some (.inl (o_iald)) else none) else (bif Nat.beq pc 78 then some (.inl (o_al 0 1)) else none)) else (bif Nat.ble pc 79 then (bif Nat.beq pc 79 then some (.inl (o_gP 2 6)) else none) else (bif Nat.ble pc 82 then (bif Nat.beq pc 82 then some (.inl (o_il 5 2)) else none) else (bif Nat.beq pc 84 then some (.inl (o_iald)) else none)))) else (bif Nat.ble pc 86 then (bif Nat.ble pc 85 then (bif Nat.beq pc 85 then some (.inl (o_al 0 1)) else none) else (bif Nat.beq pc 86 then some (.inl (o_gP 2 7)) else none)) else (bif Nat.ble pc 89 then (bif Nat.beq pc 89 then some (.inl (o_il 5 2)) else none) else (bif Nat.ble pc 91 then (bif Nat.beq pc 91 then some (.inl (o_iald)) else none) else (bif Nat.beq pc 92 then some (.inl (o_il 1 1)) else none))))) else (bif Nat.ble pc 101 then (bif Nat.ble pc 94 then (bif Nat.ble pc 93 then (bif Nat.beq pc 93 then some (.inl (o_il 2 1)) else none) else (bif Nat.beq pc 94 then some (.inr (6, 112, 6, 0)) else none)) else (bif Nat.ble pc 97 then (bif Nat.beq pc 97 then some (.inl (o_zle 104)) else none) else (bif Nat.ble pc 100 then (bif Nat.beq pc 100 then some (.inl (oS 1 (s_push (.int 1)))) else none) else (bif Nat.beq pc 101 then some (.inl (o_goto 105)) else none)))) else (bif Nat.ble pc 107 then (bif Nat.ble pc 104 then (bif Nat.beq pc 104 then some (.inl (oS 1 (s_push (.int 0)))) else none) else (bif Nat.ble pc 105 then (bif Nat.beq pc 105 then some (.inl (o_is 7 2)) else none) else (bif Nat.beq pc 107 then some (.inl (o_il 6 2)) else none))) else (bif Nat.ble pc 109 then (bif Nat.beq pc 109 then some (.inl (o_zeq 149)) else none) else (bif Nat.ble pc 112 then (bif Nat.beq pc 112 then some (.inl (o_il 7 2)) else none) else (bif Nat.beq pc 114 then some (.inl (o_al 0 1)) else none)))))) else (bif Nat.ble pc 135 then (bif Nat.ble pc 122 then (bif Nat.ble pc 118 then (bif Nat.ble pc 115 then (bif Nat.beq pc 115 then some (.inl (o_gP 2 7)) else none) else (bif Nat.beq pc 118 then some (.inl (o_il 5 2)) else none)) else (bif Nat.ble pc 120 then (bif Nat.beq pc 120 then some (.inl (o_iald)) else none) else (bif Nat.ble pc 121 then (bif Nat.beq pc 121 then some (.inl (o_al 0 1)) else none) else (bif Nat.beq pc 122 then some (.inl (o_gP 2 7)) else none)))) else (bif Nat.ble pc 128 then (bif Nat.ble pc 125 then (bif Nat.beq pc 125 then some (.inl (o_il 4 2)) else none) else (bif Nat.ble pc 127 then (bif Nat.beq pc 127 then some (.inl (o_iald)) else none) else (bif Nat.beq pc 128 then some (.inl (o_cle 135)) else none))) else (bif Nat.ble pc 131 then (bif Nat.beq pc 131 then some (.inl (oS 1 (s_push (.int 1)))) else none) else (bif Nat.ble pc 132 then (bif Nat.beq pc 132 then some (.inl (o_goto 136)) else none) else (bif Nat.beq pc 135 then some (.inl (oS 1 (s_push (.int 0)))) else none))))) else (bif Nat.ble pc 144 then (bif Nat.ble pc 139 then (bif Nat.ble pc 136 then (bif Nat.beq pc 136 then some (.inl (o_cne 149)) else none) else (bif Nat.beq pc 139 then some (.inl (o_il 3 1)) else none)) else (bif Nat.ble pc 140 then (bif Nat.beq pc 140 then some (.inl (o_zne 147)) else none) else (bif Nat.ble pc 143 then (bif Nat.beq pc 143 then some (.inl (oS 1 (s_push (.int 1)))) else none) else (bif Nat.beq pc 144 then some (.inl (o_goto 148)) else none)))) else (bif Nat.ble pc 149 then (bif Nat.ble pc 147 then (bif Nat.beq pc 147 then some (.inl (oS 1 (s_push (.int 0)))) else none) else (bif Nat.ble pc 148 then (bif Nat.beq pc 148 then some (.inl (o_is 3 1)) else none) else (bif Nat.beq pc 149 then some (.inl (o_inc 4 1)) else none))) else (bif Nat.ble pc 152 then (bif Nat.beq pc 152 then some (.inl (o_goto 5)) else none) else (bif Nat.ble pc 155 then (bif Nat.beq pc 155 then some (.inl (o_il 3 1)) else none) else (bif Nat.beq pc 156 then some (.inr (0, 0, 0, 4)) else none)))))))
theorem k_30_0 : mOk M_30.1 M_30.2.1 M_30.2.2.1 M_30.2.2.2 0 (oS 1 (s_push (.int 0))) := ok_iconst dX2_surrounds_0 (by decide)
theorem k_30_1 : mOk M_30.1 M_30.2.1 M_30.2.2.1 M_30.2.2.2 1 (o_is 3 1) := ok_istore_n dX2_surrounds_1 rfl
theorem k_30_2 : mOk M_30.1 M_30.2.1 M_30.2.2.1 M_30.2.2.2 2 (oS 1 (s_push (.int 0))) := ok_iconst dX2_surrounds_2 (by decide)
theorem k_30_3 : mOk M_30.1 M_30.2.1 M_30.2.2.1 M_30.2.2.2 3 (o_is 4 2) := ok_istore dX2_surrounds_3
theorem k_30_5 : mOk M_30.1 M_30.2.1 M_30.2.2.1 M_30.2.2.2 5 (o_il 4 2) := ok_iload dX2_surrounds_5
theorem k_30_7 : mOk M_30.1 M_30.2.1 M_30.2.2.1 M_30.2.2.2 7 (o_al 0 1) := ok_aload_n dX2_surrounds_7 rfl
theorem k_30_8 : mOk M_30.1 M_30.2.1 M_30.2.2.1 M_30.2.2.2 8 (o_gI 2 5) := ok_gI dX2_surrounds_8 f_RX2_22 (Or.inl rfl)
theorem k_30_11 : mOk M_30.1 M_30.2.1 M_30.2.2.1 M_30.2.2.2 11 (o_cge 155) := ok_cge dX2_surrounds_11 (by decide)
theorem k_30_14 : mOk M_30.1 M_30.2.1 M_30.2.2.1 M_30.2.2.2 14 (o_al 0 1) := ok_aload_n dX2_surrounds_14 rfl
theorem k_30_15 : mOk M_30.1 M_30.2.1 M_30.2.2.1 M_30.2.2.2 15 (o_il 4 2) := ok_iload dX2_surrounds_15
theorem k_30_20 : mOk M_30.1 M_30.2.1 M_30.2.2.1 M_30.2.2.2 20 (o_is 5 2) := ok_istore dX2_surrounds_20
theorem k_30_22 : mOk M_30.1 M_30.2.1 M_30.2.2.1 M_30.2.2.2 22 (o_al 0 1) := ok_aload_n dX2_surrounds_22 rfl
theorem k_30_23 : mOk M_30.1 M_30.2.1 M_30.2.2.1 M_30.2.2.2 23 (o_gP 2 7) := ok_gP dX2_surrounds_23 f_RX2_15 rfl
theorem k_30_26 : mOk M_30.1 M_30.2.1 M_30.2.2.1 M_30.2.2.2 26 (o_il 4 2) := ok_iload dX2_surrounds_26
theorem k_30_28 : mOk M_30.1 M_30.2.1 M_30.2.2.1 M_30.2.2.2 28 (o_iald) := ok_iald dX2_surrounds_28
theorem k_30_29 : mOk M_30.1 M_30.2.1 M_30.2.2.1 M_30.2.2.2 29 (o_il 2 1) := ok_iload_n dX2_surrounds_29 rfl
theorem k_30_30 : mOk M_30.1 M_30.2.1 M_30.2.2.1 M_30.2.2.2 30 (o_cle 37) := ok_cle dX2_surrounds_30 (by decide)
theorem k_30_33 : mOk M_30.1 M_30.2.1 M_30.2.2.1 M_30.2.2.2 33 (oS 1 (s_push (.int 1))) := ok_iconst dX2_surrounds_33 (by decide)
theorem k_30_34 : mOk M_30.1 M_30.2.1 M_30.2.2.1 M_30.2.2.2 34 (o_goto 38) := ok_goto dX2_surrounds_34 (by decide)
theorem k_30_37 : mOk M_30.1 M_30.2.1 M_30.2.2.1 M_30.2.2.2 37 (oS 1 (s_push (.int 0))) := ok_iconst dX2_surrounds_37 (by decide)
theorem k_30_38 : mOk M_30.1 M_30.2.1 M_30.2.2.1 M_30.2.2.2 38 (o_al 0 1) := ok_aload_n dX2_surrounds_38 rfl
theorem k_30_39 : mOk M_30.1 M_30.2.1 M_30.2.2.1 M_30.2.2.2 39 (o_gP 2 7) := ok_gP dX2_surrounds_39 f_RX2_15 rfl
theorem k_30_42 : mOk M_30.1 M_30.2.1 M_30.2.2.1 M_30.2.2.2 42 (o_il 5 2) := ok_iload dX2_surrounds_42
theorem k_30_44 : mOk M_30.1 M_30.2.1 M_30.2.2.1 M_30.2.2.2 44 (o_iald) := ok_iald dX2_surrounds_44
theorem k_30_45 : mOk M_30.1 M_30.2.1 M_30.2.2.1 M_30.2.2.2 45 (o_il 2 1) := ok_iload_n dX2_surrounds_45 rfl
theorem k_30_46 : mOk M_30.1 M_30.2.1 M_30.2.2.1 M_30.2.2.2 46 (o_cle 53) := ok_cle dX2_surrounds_46 (by decide)
theorem k_30_49 : mOk M_30.1 M_30.2.1 M_30.2.2.1 M_30.2.2.2 49 (oS 1 (s_push (.int 1))) := ok_iconst dX2_surrounds_49 (by decide)
theorem k_30_50 : mOk M_30.1 M_30.2.1 M_30.2.2.1 M_30.2.2.2 50 (o_goto 54) := ok_goto dX2_surrounds_50 (by decide)
theorem k_30_53 : mOk M_30.1 M_30.2.1 M_30.2.2.1 M_30.2.2.2 53 (oS 1 (s_push (.int 0))) := ok_iconst dX2_surrounds_53 (by decide)
theorem k_30_54 : mOk M_30.1 M_30.2.1 M_30.2.2.1 M_30.2.2.2 54 (o_ceq 61) := ok_ceq dX2_surrounds_54 (by decide)
theorem k_30_57 : mOk M_30.1 M_30.2.1 M_30.2.2.1 M_30.2.2.2 57 (oS 1 (s_push (.int 1))) := ok_iconst dX2_surrounds_57 (by decide)
theorem k_30_58 : mOk M_30.1 M_30.2.1 M_30.2.2.1 M_30.2.2.2 58 (o_goto 62) := ok_goto dX2_surrounds_58 (by decide)
theorem k_30_61 : mOk M_30.1 M_30.2.1 M_30.2.2.1 M_30.2.2.2 61 (oS 1 (s_push (.int 0))) := ok_iconst dX2_surrounds_61 (by decide)
theorem k_30_62 : mOk M_30.1 M_30.2.1 M_30.2.2.1 M_30.2.2.2 62 (o_is 6 2) := ok_istore dX2_surrounds_62
theorem k_30_64 : mOk M_30.1 M_30.2.1 M_30.2.2.1 M_30.2.2.2 64 (o_al 0 1) := ok_aload_n dX2_surrounds_64 rfl
theorem k_30_65 : mOk M_30.1 M_30.2.1 M_30.2.2.1 M_30.2.2.2 65 (o_gP 2 6) := ok_gP dX2_surrounds_65 f_RX2_9 rfl
theorem k_30_68 : mOk M_30.1 M_30.2.1 M_30.2.2.1 M_30.2.2.2 68 (o_il 4 2) := ok_iload dX2_surrounds_68
theorem k_30_70 : mOk M_30.1 M_30.2.1 M_30.2.2.1 M_30.2.2.2 70 (o_iald) := ok_iald dX2_surrounds_70
theorem k_30_71 : mOk M_30.1 M_30.2.1 M_30.2.2.1 M_30.2.2.2 71 (o_al 0 1) := ok_aload_n dX2_surrounds_71 rfl
theorem k_30_72 : mOk M_30.1 M_30.2.1 M_30.2.2.1 M_30.2.2.2 72 (o_gP 2 7) := ok_gP dX2_surrounds_72 f_RX2_15 rfl
theorem k_30_75 : mOk M_30.1 M_30.2.1 M_30.2.2.1 M_30.2.2.2 75 (o_il 4 2) := ok_iload dX2_surrounds_75
theorem k_30_77 : mOk M_30.1 M_30.2.1 M_30.2.2.1 M_30.2.2.2 77 (o_iald) := ok_iald dX2_surrounds_77
theorem k_30_78 : mOk M_30.1 M_30.2.1 M_30.2.2.1 M_30.2.2.2 78 (o_al 0 1) := ok_aload_n dX2_surrounds_78 rfl
theorem k_30_79 : mOk M_30.1 M_30.2.1 M_30.2.2.1 M_30.2.2.2 79 (o_gP 2 6) := ok_gP dX2_surrounds_79 f_RX2_9 rfl
theorem k_30_82 : mOk M_30.1 M_30.2.1 M_30.2.2.1 M_30.2.2.2 82 (o_il 5 2) := ok_iload dX2_surrounds_82
theorem k_30_84 : mOk M_30.1 M_30.2.1 M_30.2.2.1 M_30.2.2.2 84 (o_iald) := ok_iald dX2_surrounds_84
theorem k_30_85 : mOk M_30.1 M_30.2.1 M_30.2.2.1 M_30.2.2.2 85 (o_al 0 1) := ok_aload_n dX2_surrounds_85 rfl
theorem k_30_86 : mOk M_30.1 M_30.2.1 M_30.2.2.1 M_30.2.2.2 86 (o_gP 2 7) := ok_gP dX2_surrounds_86 f_RX2_15 rfl
theorem k_30_89 : mOk M_30.1 M_30.2.1 M_30.2.2.1 M_30.2.2.2 89 (o_il 5 2) := ok_iload dX2_surrounds_89
theorem k_30_91 : mOk M_30.1 M_30.2.1 M_30.2.2.1 M_30.2.2.2 91 (o_iald) := ok_iald dX2_surrounds_91
theorem k_30_92 : mOk M_30.1 M_30.2.1 M_30.2.2.1 M_30.2.2.2 92 (o_il 1 1) := ok_iload_n dX2_surrounds_92 rfl
theorem k_30_93 : mOk M_30.1 M_30.2.1 M_30.2.2.1 M_30.2.2.2 93 (o_il 2 1) := ok_iload_n dX2_surrounds_93 rfl
theorem k_30_97 : mOk M_30.1 M_30.2.1 M_30.2.2.1 M_30.2.2.2 97 (o_zle 104) := ok_zle dX2_surrounds_97 (by decide)
theorem k_30_100 : mOk M_30.1 M_30.2.1 M_30.2.2.1 M_30.2.2.2 100 (oS 1 (s_push (.int 1))) := ok_iconst dX2_surrounds_100 (by decide)
theorem k_30_101 : mOk M_30.1 M_30.2.1 M_30.2.2.1 M_30.2.2.2 101 (o_goto 105) := ok_goto dX2_surrounds_101 (by decide)
theorem k_30_104 : mOk M_30.1 M_30.2.1 M_30.2.2.1 M_30.2.2.2 104 (oS 1 (s_push (.int 0))) := ok_iconst dX2_surrounds_104 (by decide)
theorem k_30_105 : mOk M_30.1 M_30.2.1 M_30.2.2.1 M_30.2.2.2 105 (o_is 7 2) := ok_istore dX2_surrounds_105
theorem k_30_107 : mOk M_30.1 M_30.2.1 M_30.2.2.1 M_30.2.2.2 107 (o_il 6 2) := ok_iload dX2_surrounds_107
theorem k_30_109 : mOk M_30.1 M_30.2.1 M_30.2.2.1 M_30.2.2.2 109 (o_zeq 149) := ok_zeq dX2_surrounds_109 (by decide)
theorem k_30_112 : mOk M_30.1 M_30.2.1 M_30.2.2.1 M_30.2.2.2 112 (o_il 7 2) := ok_iload dX2_surrounds_112
theorem k_30_114 : mOk M_30.1 M_30.2.1 M_30.2.2.1 M_30.2.2.2 114 (o_al 0 1) := ok_aload_n dX2_surrounds_114 rfl
theorem k_30_115 : mOk M_30.1 M_30.2.1 M_30.2.2.1 M_30.2.2.2 115 (o_gP 2 7) := ok_gP dX2_surrounds_115 f_RX2_15 rfl
theorem k_30_118 : mOk M_30.1 M_30.2.1 M_30.2.2.1 M_30.2.2.2 118 (o_il 5 2) := ok_iload dX2_surrounds_118
theorem k_30_120 : mOk M_30.1 M_30.2.1 M_30.2.2.1 M_30.2.2.2 120 (o_iald) := ok_iald dX2_surrounds_120
theorem k_30_121 : mOk M_30.1 M_30.2.1 M_30.2.2.1 M_30.2.2.2 121 (o_al 0 1) := ok_aload_n dX2_surrounds_121 rfl
theorem k_30_122 : mOk M_30.1 M_30.2.1 M_30.2.2.1 M_30.2.2.2 122 (o_gP 2 7) := ok_gP dX2_surrounds_122 f_RX2_15 rfl
theorem k_30_125 : mOk M_30.1 M_30.2.1 M_30.2.2.1 M_30.2.2.2 125 (o_il 4 2) := ok_iload dX2_surrounds_125
theorem k_30_127 : mOk M_30.1 M_30.2.1 M_30.2.2.1 M_30.2.2.2 127 (o_iald) := ok_iald dX2_surrounds_127
theorem k_30_128 : mOk M_30.1 M_30.2.1 M_30.2.2.1 M_30.2.2.2 128 (o_cle 135) := ok_cle dX2_surrounds_128 (by decide)
theorem k_30_131 : mOk M_30.1 M_30.2.1 M_30.2.2.1 M_30.2.2.2 131 (oS 1 (s_push (.int 1))) := ok_iconst dX2_surrounds_131 (by decide)
theorem k_30_132 : mOk M_30.1 M_30.2.1 M_30.2.2.1 M_30.2.2.2 132 (o_goto 136) := ok_goto dX2_surrounds_132 (by decide)
theorem k_30_135 : mOk M_30.1 M_30.2.1 M_30.2.2.1 M_30.2.2.2 135 (oS 1 (s_push (.int 0))) := ok_iconst dX2_surrounds_135 (by decide)
theorem k_30_136 : mOk M_30.1 M_30.2.1 M_30.2.2.1 M_30.2.2.2 136 (o_cne 149) := ok_cne dX2_surrounds_136 (by decide)
theorem k_30_139 : mOk M_30.1 M_30.2.1 M_30.2.2.1 M_30.2.2.2 139 (o_il 3 1) := ok_iload_n dX2_surrounds_139 rfl
theorem k_30_140 : mOk M_30.1 M_30.2.1 M_30.2.2.1 M_30.2.2.2 140 (o_zne 147) := ok_zne dX2_surrounds_140 (by decide)
theorem k_30_143 : mOk M_30.1 M_30.2.1 M_30.2.2.1 M_30.2.2.2 143 (oS 1 (s_push (.int 1))) := ok_iconst dX2_surrounds_143 (by decide)
theorem k_30_144 : mOk M_30.1 M_30.2.1 M_30.2.2.1 M_30.2.2.2 144 (o_goto 148) := ok_goto dX2_surrounds_144 (by decide)
theorem k_30_147 : mOk M_30.1 M_30.2.1 M_30.2.2.1 M_30.2.2.2 147 (oS 1 (s_push (.int 0))) := ok_iconst dX2_surrounds_147 (by decide)
theorem k_30_148 : mOk M_30.1 M_30.2.1 M_30.2.2.1 M_30.2.2.2 148 (o_is 3 1) := ok_istore_n dX2_surrounds_148 rfl
theorem k_30_149 : mOk M_30.1 M_30.2.1 M_30.2.2.1 M_30.2.2.2 149 (o_inc 4 1) := ok_iinc dX2_surrounds_149 (by decide)
theorem k_30_152 : mOk M_30.1 M_30.2.1 M_30.2.2.1 M_30.2.2.2 152 (o_goto 5) := ok_goto dX2_surrounds_152 (by decide)
theorem k_30_155 : mOk M_30.1 M_30.2.1 M_30.2.2.1 M_30.2.2.2 155 (o_il 3 1) := ok_iload_n dX2_surrounds_155 rfl
set_option maxRecDepth 20000 in
set_option maxHeartbeats 4000000 in
theorem tk_30 (l : Launch) (H9 : mThr l) (H10 : mSpl l) (pc : Nat) (q : mEnt) (h : tb_30 pc = some q) : EE l 30 pc q := nd h (fun h => nd h (fun h => nd h (fun h => nd h (fun h => nd h (fun h => nd h (fun h => lf (P := EE l 30) h k_30_0) (fun h => lf (P := EE l 30) h k_30_1)) (fun h => nd h (fun h => lf (P := EE l 30) h k_30_2) (fun h => nd h (fun h => lf (P := EE l 30) h k_30_3) (fun h => lf (P := EE l 30) h k_30_5)))) (fun h => nd h (fun h => nd h (fun h => lf (P := EE l 30) h k_30_7) (fun h => lf (P := EE l 30) h k_30_8)) (fun h => nd h (fun h => lf (P := EE l 30) h k_30_11) (fun h => nd h (fun h => lf (P := EE l 30) h k_30_14) (fun h => lf (P := EE l 30) h k_30_15))))) (fun h => nd h (fun h => nd h (fun h => nd h (fun h => lf (P := EE l 30) h (EE_ca (by decide) (⟨m_575, m_71, ⟨by decide, by decide⟩, by decide +kernel, ⟨by decide, by decide⟩, 73, 1, by decide +kernel, Or.inr (Or.inr (Or.inl ⟨rfl, rfl, dX2_surrounds_17, m_572, m_573, _, rfl, by decide, m_574⟩))⟩) rfl)) (fun h => lf (P := EE l 30) h k_30_20)) (fun h => nd h (fun h => lf (P := EE l 30) h k_30_22) (fun h => nd h (fun h => lf (P := EE l 30) h k_30_23) (fun h => lf (P := EE l 30) h k_30_26)))) (fun h => nd h (fun h => nd h (fun h => lf (P := EE l 30) h k_30_28) (fun h => nd h (fun h => lf (P := EE l 30) h k_30_29) (fun h => lf (P := EE l 30) h k_30_30))) (fun h => nd h (fun h => lf (P := EE l 30) h k_30_33) (fun h => nd h (fun h => lf (P := EE l 30) h k_30_34) (fun h => lf (P := EE l 30) h k_30_37)))))) (fun h => nd h (fun h => nd h (fun h => nd h (fun h => nd h (fun h => lf (P := EE l 30) h k_30_38) (fun h => lf (P := EE l 30) h k_30_39)) (fun h => nd h (fun h => lf (P := EE l 30) h k_30_42) (fun h => nd h (fun h => lf (P := EE l 30) h k_30_44) (fun h => lf (P := EE l 30) h k_30_45)))) (fun h => nd h (fun h => nd h (fun h => lf (P := EE l 30) h k_30_46) (fun h => lf (P := EE l 30) h k_30_49)) (fun h => nd h (fun h => lf (P := EE l 30) h k_30_50) (fun h => nd h (fun h => lf (P := EE l 30) h k_30_53) (fun h => lf (P := EE l 30) h k_30_54))))) (fun h => nd h (fun h => nd h (fun h => nd h (fun h => lf (P := EE l 30) h k_30_57) (fun h => lf (P := EE l 30) h k_30_58)) (fun h => nd h (fun h => lf (P := EE l 30) h k_30_61) (fun h => nd h (fun h => lf (P := EE l 30) h k_30_62) (fun h => lf (P := EE l 30) h k_30_64)))) (fun h => nd h (fun h => nd h (fun h => lf (P := EE l 30) h k_30_65) (fun h => nd h (fun h => lf (P := EE l 30) h k_30_68) (fun h => lf (P := EE l 30) h k_30_70))) (fun h => nd h (fun h => lf (P := EE l 30) h k_30_71) (fun h => nd h (fun h => lf (P := EE l 30) h k_30_72) (fun h => lf (P := EE l 30) h k_30_75))))))) (fun h => nd h (fun h => nd h (fun h => nd h (fun h => nd h (fun h => nd h (fun h => lf (P := EE l 30) h k_30_77) (fun h => lf (P := EE l 30) h k_30_78)) (fun h => nd h (fun h => lf (P := EE l 30) h k_30_79) (fun h => nd h (fun h => lf (P := EE l 30) h k_30_82) (fun h => lf (P := EE l 30) h k_30_84)))) (fun h => nd h (fun h => nd h (fun h => lf (P := EE l 30) h k_30_85) (fun h => lf (P := EE l 30) h k_30_86)) (fun h => nd h (fun h => lf (P := EE l 30) h k_30_89) (fun h => nd h (fun h => lf (P := EE l 30) h k_30_91) (fun h => lf (P := EE l 30) h k_30_92))))) (fun h => nd h (fun h => nd h (fun h => nd h (fun h => lf (P := EE l 30) h k_30_93) (fun h => lf (P := EE l 30) h (EE_ca (by decide) (⟨m_586, m_70, ⟨by decide, by decide⟩, by decide +kernel, ⟨by decide, by decide⟩, 104, 6, by decide +kernel, Or.inr (Or.inl ⟨rfl, rfl, dX2_surrounds_94, ⟨"AtlasDesk", m_584⟩, m_585⟩)⟩) rfl))) (fun h => nd h (fun h => lf (P := EE l 30) h k_30_97) (fun h => nd h (fun h => lf (P := EE l 30) h k_30_100) (fun h => lf (P := EE l 30) h k_30_101)))) (fun h => nd h (fun h => nd h (fun h => lf (P := EE l 30) h k_30_104) (fun h => nd h (fun h => lf (P := EE l 30) h k_30_105) (fun h => lf (P := EE l 30) h k_30_107))) (fun h => nd h (fun h => lf (P := EE l 30) h k_30_109) (fun h => nd h (fun h => lf (P := EE l 30) h k_30_112) (fun h => lf (P := EE l 30) h k_30_114)))))) (fun h => nd h (fun h => nd h (fun h => nd h (fun h => nd h (fun h => lf (P := EE l 30) h k_30_115) (fun h => lf (P := EE l 30) h k_30_118)) (fun h => nd h (fun h => lf (P := EE l 30) h k_30_120) (fun h => nd h (fun h => lf (P := EE l 30) h k_30_121) (fun h => lf (P := EE l 30) h k_30_122)))) (fun h => nd h (fun h => nd h (fun h => lf (P := EE l 30) h k_30_125) (fun h => nd h (fun h => lf (P := EE l 30) h k_30_127) (fun h => lf (P := EE l 30) h k_30_128))) (fun h => nd h (fun h => lf (P := EE l 30) h k_30_131) (fun h => nd h (fun h => lf (P := EE l 30) h k_30_132) (fun h => lf (P := EE l 30) h k_30_135))))) (fun h => nd h (fun h => nd h (fun h => nd h (fun h => lf (P := EE l 30) h k_30_136) (fun h => lf (P := EE l 30) h k_30_139)) (fun h => nd h (fun h => lf (P := EE l 30) h k_30_140) (fun h => nd h (fun h => lf (P := EE l 30) h k_30_143) (fun h => lf (P := EE l 30) h k_30_144)))) (fun h => nd h (fun h => nd h (fun h => lf (P := EE l 30) h k_30_147) (fun h => nd h (fun h => lf (P := EE l 30) h k_30_148) (fun h => lf (P := EE l 30) h k_30_149))) (fun h => nd h (fun h => lf (P := EE l 30) h k_30_152) (fun h => nd h (fun h => lf (P := EE l 30) h k_30_155) (fun h => lf (P := EE l 30) h (EE_re (Or.inr (Or.inl ⟨rfl, dX2_surrounds_156, rfl⟩))))))))))
theorem dX2_isName_0 : decode cX2_isName 0 = .ok (.iconst 0, 1) := by decide +kernel
theorem dX2_isName_1 : decode cX2_isName 1 = .ok (.istore_n 2, 1) := by decide +kernel
theorem dX2_isName_2 : decode cX2_isName 2 = .ok (.bipush 7, 2) := by decide +kernel
theorem dX2_isName_4 : decode cX2_isName 4 = .ok (.istore_n 3, 1) := by decide +kernel
theorem dX2_isName_5 : decode cX2_isName 5 = .ok (.iload_n 3, 1) := by decide +kernel
theorem dX2_isName_6 : decode cX2_isName 6 = .ok (.ifCond .lt 62, 3) := by decide +kernel
theorem dX2_isName_9 : decode cX2_isName 9 = .ok (.lload_n 0, 1) := by decide +kernel
theorem dX2_isName_10 : decode cX2_isName 10 = .ok (.bipush 8, 2) := by decide +kernel
theorem dX2_isName_12 : decode cX2_isName 12 = .ok (.iload_n 3, 1) := by decide +kernel
theorem dX2_isName_13 : decode cX2_isName 13 = .ok (.imul, 1) := by decide +kernel
theorem dX2_isName_14 : decode cX2_isName 14 = .ok (.lushr, 1) := by decide +kernel
theorem dX2_isName_15 : decode cX2_isName 15 = .ok (.l2i, 1) := by decide +kernel
theorem dX2_isName_16 : decode cX2_isName 16 = .ok (.sipush 255, 3) := by decide +kernel
theorem dX2_isName_19 : decode cX2_isName 19 = .ok (.iand, 1) := by decide +kernel
theorem dX2_isName_20 : decode cX2_isName 20 = .ok (.istore 4, 2) := by decide +kernel
theorem dX2_isName_22 : decode cX2_isName 22 = .ok (.iload 4, 2) := by decide +kernel
theorem dX2_isName_24 : decode cX2_isName 24 = .ok (.bipush 97, 2) := by decide +kernel
theorem dX2_isName_26 : decode cX2_isName 26 = .ok (.if_icmp .lt 14, 3) := by decide +kernel
theorem dX2_isName_29 : decode cX2_isName 29 = .ok (.iload 4, 2) := by decide +kernel
theorem dX2_isName_31 : decode cX2_isName 31 = .ok (.bipush 122, 2) := by decide +kernel
theorem dX2_isName_33 : decode cX2_isName 33 = .ok (.if_icmp .gt 7, 3) := by decide +kernel
theorem dX2_isName_36 : decode cX2_isName 36 = .ok (.iconst 1, 1) := by decide +kernel
theorem dX2_isName_37 : decode cX2_isName 37 = .ok (.goto 4, 3) := by decide +kernel
theorem dX2_isName_40 : decode cX2_isName 40 = .ok (.iconst 0, 1) := by decide +kernel
theorem dX2_isName_41 : decode cX2_isName 41 = .ok (.istore 5, 2) := by decide +kernel
theorem dX2_isName_43 : decode cX2_isName 43 = .ok (.iload 5, 2) := by decide +kernel
theorem dX2_isName_45 : decode cX2_isName 45 = .ok (.ifCond .ne 14, 3) := by decide +kernel
theorem dX2_isName_48 : decode cX2_isName 48 = .ok (.iload_n 2, 1) := by decide +kernel
theorem dX2_isName_49 : decode cX2_isName 49 = .ok (.ifCond .ne 8, 3) := by decide +kernel
theorem dX2_isName_52 : decode cX2_isName 52 = .ok (.iload 4, 2) := by decide +kernel
theorem dX2_isName_54 : decode cX2_isName 54 = .ok (.ifCond .eq 5, 3) := by decide +kernel
theorem dX2_isName_57 : decode cX2_isName 57 = .ok (.iconst 0, 1) := by decide +kernel
theorem dX2_isName_58 : decode cX2_isName 58 = .ok (.ireturn, 1) := by decide +kernel
theorem dX2_isName_59 : decode cX2_isName 59 = .ok (.iload 5, 2) := by decide +kernel
theorem dX2_isName_61 : decode cX2_isName 61 = .ok (.istore_n 2, 1) := by decide +kernel
theorem dX2_isName_62 : decode cX2_isName 62 = .ok (.iinc 3 (-1), 3) := by decide +kernel
theorem dX2_isName_65 : decode cX2_isName 65 = .ok (.goto (-60), 3) := by decide +kernel
theorem dX2_isName_68 : decode cX2_isName 68 = .ok (.iconst 1, 1) := by decide +kernel
theorem dX2_isName_69 : decode cX2_isName 69 = .ok (.ireturn, 1) := by decide +kernel
def tb_31 (pc : Nat) : Option mEnt := bif Nat.ble pc 29 then (bif Nat.ble pc 12 then (bif Nat.ble pc 4 then (bif Nat.ble pc 1 then (bif Nat.ble pc 0 then (bif Nat.beq pc 0 then some (.inl (oS 1 (s_push (.int 0)))) else none) else (bif Nat.beq pc 1 then some (.inl (o_is 2 1)) else none)) else (bif Nat.ble pc 2 then (bif Nat.beq pc 2 then some (.inl (oS 2 (s_push (.int 7)))) else none) else (bif Nat.beq pc 4 then some (.inl (o_is 3 1)) else none))) else (bif Nat.ble pc 6 then (bif Nat.ble pc 5 then (bif Nat.beq pc 5 then some (.inl (o_il 3 1)) else none) else (bif Nat.beq pc 6 then some (.inl (o_zlt 68)) else none)) else (bif Nat.ble pc 9 then (bif Nat.beq pc 9 then some (.inl (o_ll 0 1)) else none) else (bif Nat.ble pc 10 then (bif Nat.beq pc 10 then some (.inl (oS 2 (s_push (.int 8)))) else none) else (bif Nat.beq pc 12 then some (.inl (o_il 3 1)) else none))))) else (bif Nat.ble pc 19 then (bif Nat.ble pc 14 then (bif Nat.ble pc 13 then (bif Nat.beq pc 13 then some (.inl (oS 1 (s_ii (fun a b => a * b)))) else none) else (bif Nat.beq pc 14 then some (.inl (oS 1 (s_li (fun a b => (a.toUInt64 >>> (b.toInt64.toUInt64 &&& Int64.toUInt64 63)).toInt64)))) else none)) else (bif Nat.ble pc 15 then (bif Nat.beq pc 15 then some (.inl (oS 1 s_l2i)) else none) else (bif Nat.ble pc 16 then (bif Nat.beq pc 16 then some (.inl (oS 3 (s_push (.int 255)))) else none) else (bif Nat.beq pc 19 then some (.inl (oS 1 (s_ii (fun a b => a &&& b)))) else none)))) else (bif Nat.ble pc 22 then (bif Nat.ble pc 20 then (bif Nat.beq pc 20 then some (.inl (o_is 4 2)) else none) else (bif Nat.beq pc 22 then some (.inl (o_il 4 2)) else none)) else (bif Nat.ble pc 24 then (bif Nat.beq pc 24 then some (.inl (oS 2 (s_push (.int 97)))) else none) else (bif Nat.ble pc 26 then (bif Nat.beq pc 26 then some (.inl (o_clt 40)) else none) else (bif Nat.beq pc 29 then some (.inl (o_il 4 2)) else none)))))) else (bif Nat.ble pc 49 then (bif Nat.ble pc 40 then (bif Nat.ble pc 33 then (bif Nat.ble pc 31 then (bif Nat.beq pc 31 then some (.inl (oS 2 (s_push (.int 122)))) else none) else (bif Nat.beq pc 33 then some (.inl (o_cgt 40)) else none)) else (bif Nat.ble pc 36 then (bif Nat.beq pc 36 then some (.inl (oS 1 (s_push (.int 1)))) else none) else (bif Nat.ble pc 37 then (bif Nat.beq pc 37 then some (.inl (o_goto 41)) else none) else (bif Nat.beq pc 40 then some (.inl (oS 1 (s_push (.int 0)))) else none)))) else (bif Nat.ble pc 43 then (bif Nat.ble pc 41 then (bif Nat.beq pc 41 then some (.inl (o_is 5 2)) else none) else (bif Nat.beq pc 43 then some (.inl (o_il 5 2)) else none)) else (bif Nat.ble pc 45 then (bif Nat.beq pc 45 then some (.inl (o_zne 59)) else none) else (bif Nat.ble pc 48 then (bif Nat.beq pc 48 then some (.inl (o_il 2 1)) else none) else (bif Nat.beq pc 49 then some (.inl (o_zne 57)) else none))))) else (bif Nat.ble pc 59 then (bif Nat.ble pc 54 then (bif Nat.ble pc 52 then (bif Nat.beq pc 52 then some (.inl (o_il 4 2)) else none) else (bif Nat.beq pc 54 then some (.inl (o_zeq 59)) else none)) else (bif Nat.ble pc 57 then (bif Nat.beq pc 57 then some (.inl (oS 1 (s_push (.int 0)))) else none) else (bif Nat.ble pc 58 then (bif Nat.beq pc 58 then some (.inr (0, 0, 0, 4)) else none) else (bif Nat.beq pc 59 then some (.inl (o_il 5 2)) else none)))) else (bif Nat.ble pc 62 then (bif Nat.ble pc 61 then (bif Nat.beq pc 61 then some (.inl (o_is 2 1)) else none) else (bif Nat.beq pc 62 then some (.inl (o_inc 3 (-1))) else none)) else (bif Nat.ble pc 65 then (bif Nat.beq pc 65 then some (.inl (o_goto 5)) else none) else (bif Nat.ble pc 68 then (bif Nat.beq pc 68 then some (.inl (oS 1 (s_push (.int 1)))) else none) else (bif Nat.beq pc 69 then some (.inr (0, 0, 0, 4)) else none))))))
theorem k_31_0 : mOk M_31.1 M_31.2.1 M_31.2.2.1 M_31.2.2.2 0 (oS 1 (s_push (.int 0))) := ok_iconst dX2_isName_0 (by decide)
theorem k_31_1 : mOk M_31.1 M_31.2.1 M_31.2.2.1 M_31.2.2.2 1 (o_is 2 1) := ok_istore_n dX2_isName_1 rfl
theorem k_31_2 : mOk M_31.1 M_31.2.1 M_31.2.2.1 M_31.2.2.2 2 (oS 2 (s_push (.int 7))) := ok_bipush dX2_isName_2 (by decide)
theorem k_31_4 : mOk M_31.1 M_31.2.1 M_31.2.2.1 M_31.2.2.2 4 (o_is 3 1) := ok_istore_n dX2_isName_4 rfl
theorem k_31_5 : mOk M_31.1 M_31.2.1 M_31.2.2.1 M_31.2.2.2 5 (o_il 3 1) := ok_iload_n dX2_isName_5 rfl
theorem k_31_6 : mOk M_31.1 M_31.2.1 M_31.2.2.1 M_31.2.2.2 6 (o_zlt 68) := ok_zlt dX2_isName_6 (by decide)
theorem k_31_9 : mOk M_31.1 M_31.2.1 M_31.2.2.1 M_31.2.2.2 9 (o_ll 0 1) := ok_lload_n dX2_isName_9 rfl
theorem k_31_10 : mOk M_31.1 M_31.2.1 M_31.2.2.1 M_31.2.2.2 10 (oS 2 (s_push (.int 8))) := ok_bipush dX2_isName_10 (by decide)
theorem k_31_12 : mOk M_31.1 M_31.2.1 M_31.2.2.1 M_31.2.2.2 12 (o_il 3 1) := ok_iload_n dX2_isName_12 rfl
theorem k_31_13 : mOk M_31.1 M_31.2.1 M_31.2.2.1 M_31.2.2.2 13 (oS 1 (s_ii (fun a b => a * b))) := ok_imul dX2_isName_13
theorem k_31_14 : mOk M_31.1 M_31.2.1 M_31.2.2.1 M_31.2.2.2 14 (oS 1 (s_li (fun a b => (a.toUInt64 >>> (b.toInt64.toUInt64 &&& Int64.toUInt64 63)).toInt64))) := ok_lushr dX2_isName_14
theorem k_31_15 : mOk M_31.1 M_31.2.1 M_31.2.2.1 M_31.2.2.2 15 (oS 1 s_l2i) := ok_l2i dX2_isName_15
theorem k_31_16 : mOk M_31.1 M_31.2.1 M_31.2.2.1 M_31.2.2.2 16 (oS 3 (s_push (.int 255))) := ok_sipush dX2_isName_16 (by decide)
theorem k_31_19 : mOk M_31.1 M_31.2.1 M_31.2.2.1 M_31.2.2.2 19 (oS 1 (s_ii (fun a b => a &&& b))) := ok_iand dX2_isName_19
theorem k_31_20 : mOk M_31.1 M_31.2.1 M_31.2.2.1 M_31.2.2.2 20 (o_is 4 2) := ok_istore dX2_isName_20
theorem k_31_22 : mOk M_31.1 M_31.2.1 M_31.2.2.1 M_31.2.2.2 22 (o_il 4 2) := ok_iload dX2_isName_22
theorem k_31_24 : mOk M_31.1 M_31.2.1 M_31.2.2.1 M_31.2.2.2 24 (oS 2 (s_push (.int 97))) := ok_bipush dX2_isName_24 (by decide)
theorem k_31_26 : mOk M_31.1 M_31.2.1 M_31.2.2.1 M_31.2.2.2 26 (o_clt 40) := ok_clt dX2_isName_26 (by decide)
theorem k_31_29 : mOk M_31.1 M_31.2.1 M_31.2.2.1 M_31.2.2.2 29 (o_il 4 2) := ok_iload dX2_isName_29
theorem k_31_31 : mOk M_31.1 M_31.2.1 M_31.2.2.1 M_31.2.2.2 31 (oS 2 (s_push (.int 122))) := ok_bipush dX2_isName_31 (by decide)
theorem k_31_33 : mOk M_31.1 M_31.2.1 M_31.2.2.1 M_31.2.2.2 33 (o_cgt 40) := ok_cgt dX2_isName_33 (by decide)
theorem k_31_36 : mOk M_31.1 M_31.2.1 M_31.2.2.1 M_31.2.2.2 36 (oS 1 (s_push (.int 1))) := ok_iconst dX2_isName_36 (by decide)
theorem k_31_37 : mOk M_31.1 M_31.2.1 M_31.2.2.1 M_31.2.2.2 37 (o_goto 41) := ok_goto dX2_isName_37 (by decide)
theorem k_31_40 : mOk M_31.1 M_31.2.1 M_31.2.2.1 M_31.2.2.2 40 (oS 1 (s_push (.int 0))) := ok_iconst dX2_isName_40 (by decide)
theorem k_31_41 : mOk M_31.1 M_31.2.1 M_31.2.2.1 M_31.2.2.2 41 (o_is 5 2) := ok_istore dX2_isName_41
theorem k_31_43 : mOk M_31.1 M_31.2.1 M_31.2.2.1 M_31.2.2.2 43 (o_il 5 2) := ok_iload dX2_isName_43
theorem k_31_45 : mOk M_31.1 M_31.2.1 M_31.2.2.1 M_31.2.2.2 45 (o_zne 59) := ok_zne dX2_isName_45 (by decide)
theorem k_31_48 : mOk M_31.1 M_31.2.1 M_31.2.2.1 M_31.2.2.2 48 (o_il 2 1) := ok_iload_n dX2_isName_48 rfl
theorem k_31_49 : mOk M_31.1 M_31.2.1 M_31.2.2.1 M_31.2.2.2 49 (o_zne 57) := ok_zne dX2_isName_49 (by decide)
theorem k_31_52 : mOk M_31.1 M_31.2.1 M_31.2.2.1 M_31.2.2.2 52 (o_il 4 2) := ok_iload dX2_isName_52
theorem k_31_54 : mOk M_31.1 M_31.2.1 M_31.2.2.1 M_31.2.2.2 54 (o_zeq 59) := ok_zeq dX2_isName_54 (by decide)
theorem k_31_57 : mOk M_31.1 M_31.2.1 M_31.2.2.1 M_31.2.2.2 57 (oS 1 (s_push (.int 0))) := ok_iconst dX2_isName_57 (by decide)
theorem k_31_59 : mOk M_31.1 M_31.2.1 M_31.2.2.1 M_31.2.2.2 59 (o_il 5 2) := ok_iload dX2_isName_59
theorem k_31_61 : mOk M_31.1 M_31.2.1 M_31.2.2.1 M_31.2.2.2 61 (o_is 2 1) := ok_istore_n dX2_isName_61 rfl
theorem k_31_62 : mOk M_31.1 M_31.2.1 M_31.2.2.1 M_31.2.2.2 62 (o_inc 3 (-1)) := ok_iinc dX2_isName_62 (by decide)
theorem k_31_65 : mOk M_31.1 M_31.2.1 M_31.2.2.1 M_31.2.2.2 65 (o_goto 5) := ok_goto dX2_isName_65 (by decide)
theorem k_31_68 : mOk M_31.1 M_31.2.1 M_31.2.2.1 M_31.2.2.2 68 (oS 1 (s_push (.int 1))) := ok_iconst dX2_isName_68 (by decide)
set_option maxRecDepth 20000 in
set_option maxHeartbeats 4000000 in
theorem tk_31 (l : Launch) (H9 : mThr l) (H10 : mSpl l) (pc : Nat) (q : mEnt) (h : tb_31 pc = some q) : EE l 31 pc q := nd h (fun h => nd h (fun h => nd h (fun h => nd h (fun h => nd h (fun h => lf (P := EE l 31) h k_31_0) (fun h => lf (P := EE l 31) h k_31_1)) (fun h => nd h (fun h => lf (P := EE l 31) h k_31_2) (fun h => lf (P := EE l 31) h k_31_4))) (fun h => nd h (fun h => nd h (fun h => lf (P := EE l 31) h k_31_5) (fun h => lf (P := EE l 31) h k_31_6)) (fun h => nd h (fun h => lf (P := EE l 31) h k_31_9) (fun h => nd h (fun h => lf (P := EE l 31) h k_31_10) (fun h => lf (P := EE l 31) h k_31_12))))) (fun h => nd h (fun h => nd h (fun h => nd h (fun h => lf (P := EE l 31) h k_31_13) (fun h => lf (P := EE l 31) h k_31_14)) (fun h => nd h (fun h => lf (P := EE l 31) h k_31_15) (fun h => nd h (fun h => lf (P := EE l 31) h k_31_16) (fun h => lf (P := EE l 31) h k_31_19)))) (fun h => nd h (fun h => nd h (fun h => lf (P := EE l 31) h k_31_20) (fun h => lf (P := EE l 31) h k_31_22)) (fun h => nd h (fun h => lf (P := EE l 31) h k_31_24) (fun h => nd h (fun h => lf (P := EE l 31) h k_31_26) (fun h => lf (P := EE l 31) h k_31_29)))))) (fun h => nd h (fun h => nd h (fun h => nd h (fun h => nd h (fun h => lf (P := EE l 31) h k_31_31) (fun h => lf (P := EE l 31) h k_31_33)) (fun h => nd h (fun h => lf (P := EE l 31) h k_31_36) (fun h => nd h (fun h => lf (P := EE l 31) h k_31_37) (fun h => lf (P := EE l 31) h k_31_40)))) (fun h => nd h (fun h => nd h (fun h => lf (P := EE l 31) h k_31_41) (fun h => lf (P := EE l 31) h k_31_43)) (fun h => nd h (fun h => lf (P := EE l 31) h k_31_45) (fun h => nd h (fun h => lf (P := EE l 31) h k_31_48) (fun h => lf (P := EE l 31) h k_31_49))))) (fun h => nd h (fun h => nd h (fun h => nd h (fun h => lf (P := EE l 31) h k_31_52) (fun h => lf (P := EE l 31) h k_31_54)) (fun h => nd h (fun h => lf (P := EE l 31) h k_31_57) (fun h => nd h (fun h => lf (P := EE l 31) h (EE_re (Or.inr (Or.inl ⟨rfl, dX2_isName_58, rfl⟩)))) (fun h => lf (P := EE l 31) h k_31_59)))) (fun h => nd h (fun h => nd h (fun h => lf (P := EE l 31) h k_31_61) (fun h => lf (P := EE l 31) h k_31_62)) (fun h => nd h (fun h => lf (P := EE l 31) h k_31_65) (fun h => nd h (fun h => lf (P := EE l 31) h k_31_68) (fun h => lf (P := EE l 31) h (EE_re (Or.inr (Or.inl ⟨rfl, dX2_isName_69, rfl⟩)))))))))
theorem dX2_letters_0 : decode cX2_letters 0 = .ok (.bipush 8, 2) := by decide +kernel
theorem dX2_letters_2 : decode cX2_letters 2 = .ok (.istore_n 2, 1) := by decide +kernel
theorem dX2_letters_3 : decode cX2_letters 3 = .ok (.iload_n 2, 1) := by decide +kernel
theorem dX2_letters_4 : decode cX2_letters 4 = .ok (.ifCond .le 24, 3) := by decide +kernel
theorem dX2_letters_7 : decode cX2_letters 7 = .ok (.lload_n 0, 1) := by decide +kernel
theorem dX2_letters_8 : decode cX2_letters 8 = .ok (.bipush 8, 2) := by decide +kernel
theorem dX2_letters_10 : decode cX2_letters 10 = .ok (.iload_n 2, 1) := by decide +kernel
theorem dX2_letters_11 : decode cX2_letters 11 = .ok (.iconst 1, 1) := by decide +kernel
theorem dX2_letters_12 : decode cX2_letters 12 = .ok (.isub, 1) := by decide +kernel
theorem dX2_letters_13 : decode cX2_letters 13 = .ok (.imul, 1) := by decide +kernel
theorem dX2_letters_14 : decode cX2_letters 14 = .ok (.lushr, 1) := by decide +kernel
theorem dX2_letters_15 : decode cX2_letters 15 = .ok (.lconst 0, 1) := by decide +kernel
theorem dX2_letters_16 : decode cX2_letters 16 = .ok (.lcmp, 1) := by decide +kernel
theorem dX2_letters_17 : decode cX2_letters 17 = .ok (.ifCond .eq 5, 3) := by decide +kernel
theorem dX2_letters_20 : decode cX2_letters 20 = .ok (.iload_n 2, 1) := by decide +kernel
theorem dX2_letters_21 : decode cX2_letters 21 = .ok (.ireturn, 1) := by decide +kernel
theorem dX2_letters_22 : decode cX2_letters 22 = .ok (.iinc 2 (-1), 3) := by decide +kernel
theorem dX2_letters_25 : decode cX2_letters 25 = .ok (.goto (-22), 3) := by decide +kernel
theorem dX2_letters_28 : decode cX2_letters 28 = .ok (.iconst 0, 1) := by decide +kernel
theorem dX2_letters_29 : decode cX2_letters 29 = .ok (.ireturn, 1) := by decide +kernel
def tb_32 (pc : Nat) : Option mEnt := bif Nat.ble pc 13 then (bif Nat.ble pc 7 then (bif Nat.ble pc 2 then (bif Nat.ble pc 0 then (bif Nat.beq pc 0 then some (.inl (oS 2 (s_push (.int 8)))) else none) else (bif Nat.beq pc 2 then some (.inl (o_is 2 1)) else none)) else (bif Nat.ble pc 3 then (bif Nat.beq pc 3 then some (.inl (o_il 2 1)) else none) else (bif Nat.ble pc 4 then (bif Nat.beq pc 4 then some (.inl (o_zle 28)) else none) else (bif Nat.beq pc 7 then some (.inl (o_ll 0 1)) else none)))) else (bif Nat.ble pc 10 then (bif Nat.ble pc 8 then (bif Nat.beq pc 8 then some (.inl (oS 2 (s_push (.int 8)))) else none) else (bif Nat.beq pc 10 then some (.inl (o_il 2 1)) else none)) else (bif Nat.ble pc 11 then (bif Nat.beq pc 11 then some (.inl (oS 1 (s_push (.int 1)))) else none) else (bif Nat.ble pc 12 then (bif Nat.beq pc 12 then some (.inl (oS 1 (s_ii (fun a b => a - b)))) else none) else (bif Nat.beq pc 13 then some (.inl (oS 1 (s_ii (fun a b => a * b)))) else none))))) else (bif Nat.ble pc 20 then (bif Nat.ble pc 15 then (bif Nat.ble pc 14 then (bif Nat.beq pc 14 then some (.inl (oS 1 (s_li (fun a b => (a.toUInt64 >>> (b.toInt64.toUInt64 &&& Int64.toUInt64 63)).toInt64)))) else none) else (bif Nat.beq pc 15 then some (.inl (oS 1 (s_push (.long 0)))) else none)) else (bif Nat.ble pc 16 then (bif Nat.beq pc 16 then some (.inl (oS 1 s_lcmp)) else none) else (bif Nat.ble pc 17 then (bif Nat.beq pc 17 then some (.inl (o_zeq 22)) else none) else (bif Nat.beq pc 20 then some (.inl (o_il 2 1)) else none)))) else (bif Nat.ble pc 22 then (bif Nat.ble pc 21 then (bif Nat.beq pc 21 then some (.inr (0, 0, 0, 0)) else none) else (bif Nat.beq pc 22 then some (.inl (o_inc 2 (-1))) else none)) else (bif Nat.ble pc 25 then (bif Nat.beq pc 25 then some (.inl (o_goto 3)) else none) else (bif Nat.ble pc 28 then (bif Nat.beq pc 28 then some (.inl (oS 1 (s_push (.int 0)))) else none) else (bif Nat.beq pc 29 then some (.inr (0, 0, 0, 0)) else none)))))
theorem k_32_0 : mOk M_32.1 M_32.2.1 M_32.2.2.1 M_32.2.2.2 0 (oS 2 (s_push (.int 8))) := ok_bipush dX2_letters_0 (by decide)
theorem k_32_2 : mOk M_32.1 M_32.2.1 M_32.2.2.1 M_32.2.2.2 2 (o_is 2 1) := ok_istore_n dX2_letters_2 rfl
theorem k_32_3 : mOk M_32.1 M_32.2.1 M_32.2.2.1 M_32.2.2.2 3 (o_il 2 1) := ok_iload_n dX2_letters_3 rfl
theorem k_32_4 : mOk M_32.1 M_32.2.1 M_32.2.2.1 M_32.2.2.2 4 (o_zle 28) := ok_zle dX2_letters_4 (by decide)
theorem k_32_7 : mOk M_32.1 M_32.2.1 M_32.2.2.1 M_32.2.2.2 7 (o_ll 0 1) := ok_lload_n dX2_letters_7 rfl
theorem k_32_8 : mOk M_32.1 M_32.2.1 M_32.2.2.1 M_32.2.2.2 8 (oS 2 (s_push (.int 8))) := ok_bipush dX2_letters_8 (by decide)
theorem k_32_10 : mOk M_32.1 M_32.2.1 M_32.2.2.1 M_32.2.2.2 10 (o_il 2 1) := ok_iload_n dX2_letters_10 rfl
theorem k_32_11 : mOk M_32.1 M_32.2.1 M_32.2.2.1 M_32.2.2.2 11 (oS 1 (s_push (.int 1))) := ok_iconst dX2_letters_11 (by decide)
theorem k_32_12 : mOk M_32.1 M_32.2.1 M_32.2.2.1 M_32.2.2.2 12 (oS 1 (s_ii (fun a b => a - b))) := ok_isub dX2_letters_12
theorem k_32_13 : mOk M_32.1 M_32.2.1 M_32.2.2.1 M_32.2.2.2 13 (oS 1 (s_ii (fun a b => a * b))) := ok_imul dX2_letters_13
theorem k_32_14 : mOk M_32.1 M_32.2.1 M_32.2.2.1 M_32.2.2.2 14 (oS 1 (s_li (fun a b => (a.toUInt64 >>> (b.toInt64.toUInt64 &&& Int64.toUInt64 63)).toInt64))) := ok_lushr dX2_letters_14
theorem k_32_15 : mOk M_32.1 M_32.2.1 M_32.2.2.1 M_32.2.2.2 15 (oS 1 (s_push (.long 0))) := ok_lconst dX2_letters_15 (by decide)
theorem k_32_16 : mOk M_32.1 M_32.2.1 M_32.2.2.1 M_32.2.2.2 16 (oS 1 s_lcmp) := ok_lcmp dX2_letters_16
theorem k_32_17 : mOk M_32.1 M_32.2.1 M_32.2.2.1 M_32.2.2.2 17 (o_zeq 22) := ok_zeq dX2_letters_17 (by decide)
theorem k_32_20 : mOk M_32.1 M_32.2.1 M_32.2.2.1 M_32.2.2.2 20 (o_il 2 1) := ok_iload_n dX2_letters_20 rfl
theorem k_32_22 : mOk M_32.1 M_32.2.1 M_32.2.2.1 M_32.2.2.2 22 (o_inc 2 (-1)) := ok_iinc dX2_letters_22 (by decide)
theorem k_32_25 : mOk M_32.1 M_32.2.1 M_32.2.2.1 M_32.2.2.2 25 (o_goto 3) := ok_goto dX2_letters_25 (by decide)
theorem k_32_28 : mOk M_32.1 M_32.2.1 M_32.2.2.1 M_32.2.2.2 28 (oS 1 (s_push (.int 0))) := ok_iconst dX2_letters_28 (by decide)
set_option maxRecDepth 20000 in
set_option maxHeartbeats 4000000 in
theorem tk_32 (l : Launch) (H9 : mThr l) (H10 : mSpl l) (pc : Nat) (q : mEnt) (h : tb_32 pc = some q) : EE l 32 pc q := nd h (fun h => nd h (fun h => nd h (fun h => nd h (fun h => lf (P := EE l 32) h k_32_0) (fun h => lf (P := EE l 32) h k_32_2)) (fun h => nd h (fun h => lf (P := EE l 32) h k_32_3) (fun h => nd h (fun h => lf (P := EE l 32) h k_32_4) (fun h => lf (P := EE l 32) h k_32_7)))) (fun h => nd h (fun h => nd h (fun h => lf (P := EE l 32) h k_32_8) (fun h => lf (P := EE l 32) h k_32_10)) (fun h => nd h (fun h => lf (P := EE l 32) h k_32_11) (fun h => nd h (fun h => lf (P := EE l 32) h k_32_12) (fun h => lf (P := EE l 32) h k_32_13))))) (fun h => nd h (fun h => nd h (fun h => nd h (fun h => lf (P := EE l 32) h k_32_14) (fun h => lf (P := EE l 32) h k_32_15)) (fun h => nd h (fun h => lf (P := EE l 32) h k_32_16) (fun h => nd h (fun h => lf (P := EE l 32) h k_32_17) (fun h => lf (P := EE l 32) h k_32_20)))) (fun h => nd h (fun h => nd h (fun h => lf (P := EE l 32) h (EE_re (Or.inl ⟨rfl, dX2_letters_21, rfl⟩))) (fun h => lf (P := EE l 32) h k_32_22)) (fun h => nd h (fun h => lf (P := EE l 32) h k_32_25) (fun h => nd h (fun h => lf (P := EE l 32) h k_32_28) (fun h => lf (P := EE l 32) h (EE_re (Or.inl ⟨rfl, dX2_letters_29, rfl⟩)))))))
theorem dX2_nameBegins_0 : decode cX2_nameBegins 0 = .ok (.lload_n 1, 1) := by decide +kernel
theorem dX2_nameBegins_1 : decode cX2_nameBegins 1 = .ok (.invokestatic 108, 3) := by decide +kernel
theorem dX2_nameBegins_4 : decode cX2_nameBegins 4 = .ok (.istore_n 3, 1) := by decide +kernel
theorem dX2_nameBegins_5 : decode cX2_nameBegins 5 = .ok (.aload_n 0, 1) := by decide +kernel
theorem dX2_nameBegins_6 : decode cX2_nameBegins 6 = .ok (.getfield 38, 3) := by decide +kernel
theorem dX2_nameBegins_9 : decode cX2_nameBegins 9 = .ok (.invokestatic 108, 3) := by decide +kernel
theorem dX2_nameBegins_12 : decode cX2_nameBegins 12 = .ok (.istore 4, 2) := by decide +kernel
theorem dX2_nameBegins_14 : decode cX2_nameBegins 14 = .ok (.iload_n 3, 1) := by decide +kernel
theorem dX2_nameBegins_15 : decode cX2_nameBegins 15 = .ok (.ifCond .eq 26, 3) := by decide +kernel
theorem dX2_nameBegins_18 : decode cX2_nameBegins 18 = .ok (.iload 4, 2) := by decide +kernel
theorem dX2_nameBegins_20 : decode cX2_nameBegins 20 = .ok (.iload_n 3, 1) := by decide +kernel
theorem dX2_nameBegins_21 : decode cX2_nameBegins 21 = .ok (.if_icmp .lt 24, 3) := by decide +kernel
theorem dX2_nameBegins_24 : decode cX2_nameBegins 24 = .ok (.aload_n 0, 1) := by decide +kernel
theorem dX2_nameBegins_25 : decode cX2_nameBegins 25 = .ok (.getfield 38, 3) := by decide +kernel
theorem dX2_nameBegins_28 : decode cX2_nameBegins 28 = .ok (.bipush 8, 2) := by decide +kernel
theorem dX2_nameBegins_30 : decode cX2_nameBegins 30 = .ok (.iload 4, 2) := by decide +kernel
theorem dX2_nameBegins_32 : decode cX2_nameBegins 32 = .ok (.iload_n 3, 1) := by decide +kernel
theorem dX2_nameBegins_33 : decode cX2_nameBegins 33 = .ok (.isub, 1) := by decide +kernel
theorem dX2_nameBegins_34 : decode cX2_nameBegins 34 = .ok (.imul, 1) := by decide +kernel
theorem dX2_nameBegins_35 : decode cX2_nameBegins 35 = .ok (.lushr, 1) := by decide +kernel
theorem dX2_nameBegins_36 : decode cX2_nameBegins 36 = .ok (.lload_n 1, 1) := by decide +kernel
theorem dX2_nameBegins_37 : decode cX2_nameBegins 37 = .ok (.lcmp, 1) := by decide +kernel
theorem dX2_nameBegins_38 : decode cX2_nameBegins 38 = .ok (.ifCond .ne 7, 3) := by decide +kernel
theorem dX2_nameBegins_41 : decode cX2_nameBegins 41 = .ok (.iconst 1, 1) := by decide +kernel
theorem dX2_nameBegins_42 : decode cX2_nameBegins 42 = .ok (.goto 4, 3) := by decide +kernel
theorem dX2_nameBegins_45 : decode cX2_nameBegins 45 = .ok (.iconst 0, 1) := by decide +kernel
theorem dX2_nameBegins_46 : decode cX2_nameBegins 46 = .ok (.ireturn, 1) := by decide +kernel
def tb_33 (pc : Nat) : Option mEnt := bif Nat.ble pc 24 then (bif Nat.ble pc 9 then (bif Nat.ble pc 4 then (bif Nat.ble pc 0 then (bif Nat.beq pc 0 then some (.inl (o_ll 1 1)) else none) else (bif Nat.ble pc 1 then (bif Nat.beq pc 1 then some (.inr (2, 32, 1, 0)) else none) else (bif Nat.beq pc 4 then some (.inl (o_is 3 1)) else none))) else (bif Nat.ble pc 5 then (bif Nat.beq pc 5 then some (.inl (o_al 0 1)) else none) else (bif Nat.ble pc 6 then (bif Nat.beq pc 6 then some (.inl (o_gJ 2 4)) else none) else (bif Nat.beq pc 9 then some (.inr (2, 32, 1, 0)) else none)))) else (bif Nat.ble pc 15 then (bif Nat.ble pc 12 then (bif Nat.beq pc 12 then some (.inl (o_is 4 2)) else none) else (bif Nat.ble pc 14 then (bif Nat.beq pc 14 then some (.inl (o_il 3 1)) else none) else (bif Nat.beq pc 15 then some (.inl (o_zeq 41)) else none))) else (bif Nat.ble pc 20 then (bif Nat.ble pc 18 then (bif Nat.beq pc 18 then some (.inl (o_il 4 2)) else none) else (bif Nat.beq pc 20 then some (.inl (o_il 3 1)) else none)) else (bif Nat.ble pc 21 then (bif Nat.beq pc 21 then some (.inl (o_clt 45)) else none) else (bif Nat.beq pc 24 then some (.inl (o_al 0 1)) else none))))) else (bif Nat.ble pc 35 then (bif Nat.ble pc 30 then (bif Nat.ble pc 25 then (bif Nat.beq pc 25 then some (.inl (o_gJ 2 4)) else none) else (bif Nat.ble pc 28 then (bif Nat.beq pc 28 then some (.inl (oS 2 (s_push (.int 8)))) else none) else (bif Nat.beq pc 30 then some (.inl (o_il 4 2)) else none))) else (bif Nat.ble pc 33 then (bif Nat.ble pc 32 then (bif Nat.beq pc 32 then some (.inl (o_il 3 1)) else none) else (bif Nat.beq pc 33 then some (.inl (oS 1 (s_ii (fun a b => a - b)))) else none)) else (bif Nat.ble pc 34 then (bif Nat.beq pc 34 then some (.inl (oS 1 (s_ii (fun a b => a * b)))) else none) else (bif Nat.beq pc 35 then some (.inl (oS 1 (s_li (fun a b => (a.toUInt64 >>> (b.toInt64.toUInt64 &&& Int64.toUInt64 63)).toInt64)))) else none)))) else (bif Nat.ble pc 38 then (bif Nat.ble pc 36 then (bif Nat.beq pc 36 then some (.inl (o_ll 1 1)) else none) else (bif Nat.ble pc 37 then (bif Nat.beq pc 37 then some (.inl (oS 1 s_lcmp)) else none) else (bif Nat.beq pc 38 then some (.inl (o_zne 45)) else none))) else (bif Nat.ble pc 42 then (bif Nat.ble pc 41 then (bif Nat.beq pc 41 then some (.inl (oS 1 (s_push (.int 1)))) else none) else (bif Nat.beq pc 42 then some (.inl (o_goto 46)) else none)) else (bif Nat.ble pc 45 then (bif Nat.beq pc 45 then some (.inl (oS 1 (s_push (.int 0)))) else none) else (bif Nat.beq pc 46 then some (.inr (0, 0, 0, 4)) else none)))))
theorem k_33_0 : mOk M_33.1 M_33.2.1 M_33.2.2.1 M_33.2.2.2 0 (o_ll 1 1) := ok_lload_n dX2_nameBegins_0 rfl
theorem k_33_4 : mOk M_33.1 M_33.2.1 M_33.2.2.1 M_33.2.2.2 4 (o_is 3 1) := ok_istore_n dX2_nameBegins_4 rfl
theorem k_33_5 : mOk M_33.1 M_33.2.1 M_33.2.2.1 M_33.2.2.2 5 (o_al 0 1) := ok_aload_n dX2_nameBegins_5 rfl
theorem k_33_6 : mOk M_33.1 M_33.2.1 M_33.2.2.1 M_33.2.2.2 6 (o_gJ 2 4) := ok_gJ dX2_nameBegins_6 f_RX2_38 rfl
theorem k_33_12 : mOk M_33.1 M_33.2.1 M_33.2.2.1 M_33.2.2.2 12 (o_is 4 2) := ok_istore dX2_nameBegins_12
theorem k_33_14 : mOk M_33.1 M_33.2.1 M_33.2.2.1 M_33.2.2.2 14 (o_il 3 1) := ok_iload_n dX2_nameBegins_14 rfl
theorem k_33_15 : mOk M_33.1 M_33.2.1 M_33.2.2.1 M_33.2.2.2 15 (o_zeq 41) := ok_zeq dX2_nameBegins_15 (by decide)
theorem k_33_18 : mOk M_33.1 M_33.2.1 M_33.2.2.1 M_33.2.2.2 18 (o_il 4 2) := ok_iload dX2_nameBegins_18
theorem k_33_20 : mOk M_33.1 M_33.2.1 M_33.2.2.1 M_33.2.2.2 20 (o_il 3 1) := ok_iload_n dX2_nameBegins_20 rfl
theorem k_33_21 : mOk M_33.1 M_33.2.1 M_33.2.2.1 M_33.2.2.2 21 (o_clt 45) := ok_clt dX2_nameBegins_21 (by decide)
theorem k_33_24 : mOk M_33.1 M_33.2.1 M_33.2.2.1 M_33.2.2.2 24 (o_al 0 1) := ok_aload_n dX2_nameBegins_24 rfl
theorem k_33_25 : mOk M_33.1 M_33.2.1 M_33.2.2.1 M_33.2.2.2 25 (o_gJ 2 4) := ok_gJ dX2_nameBegins_25 f_RX2_38 rfl
theorem k_33_28 : mOk M_33.1 M_33.2.1 M_33.2.2.1 M_33.2.2.2 28 (oS 2 (s_push (.int 8))) := ok_bipush dX2_nameBegins_28 (by decide)
theorem k_33_30 : mOk M_33.1 M_33.2.1 M_33.2.2.1 M_33.2.2.2 30 (o_il 4 2) := ok_iload dX2_nameBegins_30
theorem k_33_32 : mOk M_33.1 M_33.2.1 M_33.2.2.1 M_33.2.2.2 32 (o_il 3 1) := ok_iload_n dX2_nameBegins_32 rfl
theorem k_33_33 : mOk M_33.1 M_33.2.1 M_33.2.2.1 M_33.2.2.2 33 (oS 1 (s_ii (fun a b => a - b))) := ok_isub dX2_nameBegins_33
theorem k_33_34 : mOk M_33.1 M_33.2.1 M_33.2.2.1 M_33.2.2.2 34 (oS 1 (s_ii (fun a b => a * b))) := ok_imul dX2_nameBegins_34
theorem k_33_35 : mOk M_33.1 M_33.2.1 M_33.2.2.1 M_33.2.2.2 35 (oS 1 (s_li (fun a b => (a.toUInt64 >>> (b.toInt64.toUInt64 &&& Int64.toUInt64 63)).toInt64))) := ok_lushr dX2_nameBegins_35
theorem k_33_36 : mOk M_33.1 M_33.2.1 M_33.2.2.1 M_33.2.2.2 36 (o_ll 1 1) := ok_lload_n dX2_nameBegins_36 rfl
theorem k_33_37 : mOk M_33.1 M_33.2.1 M_33.2.2.1 M_33.2.2.2 37 (oS 1 s_lcmp) := ok_lcmp dX2_nameBegins_37
theorem k_33_38 : mOk M_33.1 M_33.2.1 M_33.2.2.1 M_33.2.2.2 38 (o_zne 45) := ok_zne dX2_nameBegins_38 (by decide)
theorem k_33_41 : mOk M_33.1 M_33.2.1 M_33.2.2.1 M_33.2.2.2 41 (oS 1 (s_push (.int 1))) := ok_iconst dX2_nameBegins_41 (by decide)
theorem k_33_42 : mOk M_33.1 M_33.2.1 M_33.2.2.1 M_33.2.2.2 42 (o_goto 46) := ok_goto dX2_nameBegins_42 (by decide)
theorem k_33_45 : mOk M_33.1 M_33.2.1 M_33.2.2.1 M_33.2.2.2 45 (oS 1 (s_push (.int 0))) := ok_iconst dX2_nameBegins_45 (by decide)
set_option maxRecDepth 20000 in
set_option maxHeartbeats 4000000 in
theorem tk_33 (l : Launch) (H9 : mThr l) (H10 : mSpl l) (pc : Nat) (q : mEnt) (h : tb_33 pc = some q) : EE l 33 pc q := nd h (fun h => nd h (fun h => nd h (fun h => nd h (fun h => lf (P := EE l 33) h k_33_0) (fun h => nd h (fun h => lf (P := EE l 33) h (EE_ca (by decide) (⟨m_990, m_71, ⟨by decide, by decide⟩, by decide +kernel, ⟨by decide, by decide⟩, 108, 1, by decide +kernel, Or.inl ⟨rfl, rfl, dX2_nameBegins_1, m_988, m_989⟩⟩) rfl)) (fun h => lf (P := EE l 33) h k_33_4))) (fun h => nd h (fun h => lf (P := EE l 33) h k_33_5) (fun h => nd h (fun h => lf (P := EE l 33) h k_33_6) (fun h => lf (P := EE l 33) h (EE_ca (by decide) (⟨m_990, m_71, ⟨by decide, by decide⟩, by decide +kernel, ⟨by decide, by decide⟩, 108, 1, by decide +kernel, Or.inl ⟨rfl, rfl, dX2_nameBegins_9, m_988, m_989⟩⟩) rfl))))) (fun h => nd h (fun h => nd h (fun h => lf (P := EE l 33) h k_33_12) (fun h => nd h (fun h => lf (P := EE l 33) h k_33_14) (fun h => lf (P := EE l 33) h k_33_15))) (fun h => nd h (fun h => nd h (fun h => lf (P := EE l 33) h k_33_18) (fun h => lf (P := EE l 33) h k_33_20)) (fun h => nd h (fun h => lf (P := EE l 33) h k_33_21) (fun h => lf (P := EE l 33) h k_33_24))))) (fun h => nd h (fun h => nd h (fun h => nd h (fun h => lf (P := EE l 33) h k_33_25) (fun h => nd h (fun h => lf (P := EE l 33) h k_33_28) (fun h => lf (P := EE l 33) h k_33_30))) (fun h => nd h (fun h => nd h (fun h => lf (P := EE l 33) h k_33_32) (fun h => lf (P := EE l 33) h k_33_33)) (fun h => nd h (fun h => lf (P := EE l 33) h k_33_34) (fun h => lf (P := EE l 33) h k_33_35)))) (fun h => nd h (fun h => nd h (fun h => lf (P := EE l 33) h k_33_36) (fun h => nd h (fun h => lf (P := EE l 33) h k_33_37) (fun h => lf (P := EE l 33) h k_33_38))) (fun h => nd h (fun h => nd h (fun h => lf (P := EE l 33) h k_33_41) (fun h => lf (P := EE l 33) h k_33_42)) (fun h => nd h (fun h => lf (P := EE l 33) h k_33_45) (fun h => lf (P := EE l 33) h (EE_re (Or.inr (Or.inl ⟨rfl, dX2_nameBegins_46, rfl⟩))))))))
theorem dX2_nameInBook_0 : decode cX2_nameInBook 0 = .ok (.aload_n 0, 1) := by decide +kernel
theorem dX2_nameInBook_1 : decode cX2_nameInBook 1 = .ok (.getfield 38, 3) := by decide +kernel
theorem dX2_nameInBook_4 : decode cX2_nameInBook 4 = .ok (.bipush 8, 2) := by decide +kernel
theorem dX2_nameInBook_6 : decode cX2_nameInBook 6 = .ok (.bipush 8, 2) := by decide +kernel
theorem dX2_nameInBook_8 : decode cX2_nameInBook 8 = .ok (.aload_n 0, 1) := by decide +kernel
theorem dX2_nameInBook_9 : decode cX2_nameInBook 9 = .ok (.getfield 38, 3) := by decide +kernel
theorem dX2_nameInBook_12 : decode cX2_nameInBook 12 = .ok (.invokestatic 108, 3) := by decide +kernel
theorem dX2_nameInBook_15 : decode cX2_nameInBook 15 = .ok (.isub, 1) := by decide +kernel
theorem dX2_nameInBook_16 : decode cX2_nameInBook 16 = .ok (.imul, 1) := by decide +kernel
theorem dX2_nameInBook_17 : decode cX2_nameInBook 17 = .ok (.lshl, 1) := by decide +kernel
theorem dX2_nameInBook_18 : decode cX2_nameInBook 18 = .ok (.lreturn, 1) := by decide +kernel
def tb_34 (pc : Nat) : Option mEnt := bif Nat.ble pc 8 then (bif Nat.ble pc 1 then (bif Nat.ble pc 0 then (bif Nat.beq pc 0 then some (.inl (o_al 0 1)) else none) else (bif Nat.beq pc 1 then some (.inl (o_gJ 2 4)) else none)) else (bif Nat.ble pc 4 then (bif Nat.beq pc 4 then some (.inl (oS 2 (s_push (.int 8)))) else none) else (bif Nat.ble pc 6 then (bif Nat.beq pc 6 then some (.inl (oS 2 (s_push (.int 8)))) else none) else (bif Nat.beq pc 8 then some (.inl (o_al 0 1)) else none)))) else (bif Nat.ble pc 15 then (bif Nat.ble pc 9 then (bif Nat.beq pc 9 then some (.inl (o_gJ 2 4)) else none) else (bif Nat.ble pc 12 then (bif Nat.beq pc 12 then some (.inr (2, 32, 1, 0)) else none) else (bif Nat.beq pc 15 then some (.inl (oS 1 (s_ii (fun a b => a - b)))) else none))) else (bif Nat.ble pc 16 then (bif Nat.beq pc 16 then some (.inl (oS 1 (s_ii (fun a b => a * b)))) else none) else (bif Nat.ble pc 17 then (bif Nat.beq pc 17 then some (.inl (oS 1 (s_li (fun a b => a <<< (b.toInt64 &&& 63))))) else none) else (bif Nat.beq pc 18 then some (.inr (0, 0, 0, 1)) else none))))
theorem k_34_0 : mOk M_34.1 M_34.2.1 M_34.2.2.1 M_34.2.2.2 0 (o_al 0 1) := ok_aload_n dX2_nameInBook_0 rfl
theorem k_34_1 : mOk M_34.1 M_34.2.1 M_34.2.2.1 M_34.2.2.2 1 (o_gJ 2 4) := ok_gJ dX2_nameInBook_1 f_RX2_38 rfl
theorem k_34_4 : mOk M_34.1 M_34.2.1 M_34.2.2.1 M_34.2.2.2 4 (oS 2 (s_push (.int 8))) := ok_bipush dX2_nameInBook_4 (by decide)
theorem k_34_6 : mOk M_34.1 M_34.2.1 M_34.2.2.1 M_34.2.2.2 6 (oS 2 (s_push (.int 8))) := ok_bipush dX2_nameInBook_6 (by decide)
theorem k_34_8 : mOk M_34.1 M_34.2.1 M_34.2.2.1 M_34.2.2.2 8 (o_al 0 1) := ok_aload_n dX2_nameInBook_8 rfl
theorem k_34_9 : mOk M_34.1 M_34.2.1 M_34.2.2.1 M_34.2.2.2 9 (o_gJ 2 4) := ok_gJ dX2_nameInBook_9 f_RX2_38 rfl
theorem k_34_15 : mOk M_34.1 M_34.2.1 M_34.2.2.1 M_34.2.2.2 15 (oS 1 (s_ii (fun a b => a - b))) := ok_isub dX2_nameInBook_15
theorem k_34_16 : mOk M_34.1 M_34.2.1 M_34.2.2.1 M_34.2.2.2 16 (oS 1 (s_ii (fun a b => a * b))) := ok_imul dX2_nameInBook_16
theorem k_34_17 : mOk M_34.1 M_34.2.1 M_34.2.2.1 M_34.2.2.2 17 (oS 1 (s_li (fun a b => a <<< (b.toInt64 &&& 63)))) := ok_lshl dX2_nameInBook_17
set_option maxRecDepth 20000 in
set_option maxHeartbeats 4000000 in
theorem tk_34 (l : Launch) (H9 : mThr l) (H10 : mSpl l) (pc : Nat) (q : mEnt) (h : tb_34 pc = some q) : EE l 34 pc q := nd h (fun h => nd h (fun h => nd h (fun h => lf (P := EE l 34) h k_34_0) (fun h => lf (P := EE l 34) h k_34_1)) (fun h => nd h (fun h => lf (P := EE l 34) h k_34_4) (fun h => nd h (fun h => lf (P := EE l 34) h k_34_6) (fun h => lf (P := EE l 34) h k_34_8)))) (fun h => nd h (fun h => nd h (fun h => lf (P := EE l 34) h k_34_9) (fun h => nd h (fun h => lf (P := EE l 34) h (EE_ca (by decide) (⟨m_990, m_71, ⟨by decide, by decide⟩, by decide +kernel, ⟨by decide, by decide⟩, 108, 1, by decide +kernel, Or.inl ⟨rfl, rfl, dX2_nameInBook_12, m_988, m_989⟩⟩) rfl)) (fun h => lf (P := EE l 34) h k_34_15))) (fun h => nd h (fun h => lf (P := EE l 34) h k_34_16) (fun h => nd h (fun h => lf (P := EE l 34) h k_34_17) (fun h => lf (P := EE l 34) h (EE_re (Or.inr (Or.inr (Or.inl ⟨rfl, dX2_nameInBook_18, rfl⟩))))))))
theorem dX2_isNamedAhead_0 : decode cX2_isNamedAhead 0 = .ok (.aload_n 0, 1) := by decide +kernel
theorem dX2_isNamedAhead_1 : decode cX2_isNamedAhead 1 = .ok (.invokevirtual 112, 3) := by decide +kernel
theorem dX2_isNamedAhead_4 : decode cX2_isNamedAhead 4 = .ok (.lstore_n 2, 1) := by decide +kernel
theorem dX2_isNamedAhead_5 : decode cX2_isNamedAhead 5 = .ok (.aload_n 1, 1) := by decide +kernel
theorem dX2_isNamedAhead_6 : decode cX2_isNamedAhead 6 = .ok (.invokevirtual 112, 3) := by decide +kernel
theorem dX2_isNamedAhead_9 : decode cX2_isNamedAhead 9 = .ok (.lstore 4, 2) := by decide +kernel
theorem dX2_isNamedAhead_11 : decode cX2_isNamedAhead 11 = .ok (.lload_n 2, 1) := by decide +kernel
theorem dX2_isNamedAhead_12 : decode cX2_isNamedAhead 12 = .ok (.lload 4, 2) := by decide +kernel
theorem dX2_isNamedAhead_14 : decode cX2_isNamedAhead 14 = .ok (.lcmp, 1) := by decide +kernel
theorem dX2_isNamedAhead_15 : decode cX2_isNamedAhead 15 = .ok (.ifCond .lt 21, 3) := by decide +kernel
theorem dX2_isNamedAhead_18 : decode cX2_isNamedAhead 18 = .ok (.lload_n 2, 1) := by decide +kernel
theorem dX2_isNamedAhead_19 : decode cX2_isNamedAhead 19 = .ok (.lload 4, 2) := by decide +kernel
theorem dX2_isNamedAhead_21 : decode cX2_isNamedAhead 21 = .ok (.lcmp, 1) := by decide +kernel
theorem dX2_isNamedAhead_22 : decode cX2_isNamedAhead 22 = .ok (.ifCond .ne 18, 3) := by decide +kernel
theorem dX2_isNamedAhead_25 : decode cX2_isNamedAhead 25 = .ok (.aload_n 0, 1) := by decide +kernel
theorem dX2_isNamedAhead_26 : decode cX2_isNamedAhead 26 = .ok (.getfield 26, 3) := by decide +kernel
theorem dX2_isNamedAhead_29 : decode cX2_isNamedAhead 29 = .ok (.aload_n 1, 1) := by decide +kernel
theorem dX2_isNamedAhead_30 : decode cX2_isNamedAhead 30 = .ok (.getfield 26, 3) := by decide +kernel
theorem dX2_isNamedAhead_33 : decode cX2_isNamedAhead 33 = .ok (.if_icmp .ge 7, 3) := by decide +kernel
theorem dX2_isNamedAhead_36 : decode cX2_isNamedAhead 36 = .ok (.iconst 1, 1) := by decide +kernel
theorem dX2_isNamedAhead_37 : decode cX2_isNamedAhead 37 = .ok (.goto 4, 3) := by decide +kernel
theorem dX2_isNamedAhead_40 : decode cX2_isNamedAhead 40 = .ok (.iconst 0, 1) := by decide +kernel
theorem dX2_isNamedAhead_41 : decode cX2_isNamedAhead 41 = .ok (.ireturn, 1) := by decide +kernel
def tb_35 (pc : Nat) : Option mEnt := bif Nat.ble pc 18 then (bif Nat.ble pc 6 then (bif Nat.ble pc 1 then (bif Nat.ble pc 0 then (bif Nat.beq pc 0 then some (.inl (o_al 0 1)) else none) else (bif Nat.beq pc 1 then some (.inr (3, 34, 1, 2)) else none)) else (bif Nat.ble pc 4 then (bif Nat.beq pc 4 then some (.inl (o_ls 2 1)) else none) else (bif Nat.ble pc 5 then (bif Nat.beq pc 5 then some (.inl (o_al 1 1)) else none) else (bif Nat.beq pc 6 then some (.inr (3, 34, 1, 2)) else none)))) else (bif Nat.ble pc 12 then (bif Nat.ble pc 9 then (bif Nat.beq pc 9 then some (.inl (o_ls 4 2)) else none) else (bif Nat.ble pc 11 then (bif Nat.beq pc 11 then some (.inl (o_ll 2 1)) else none) else (bif Nat.beq pc 12 then some (.inl (o_ll 4 2)) else none))) else (bif Nat.ble pc 14 then (bif Nat.beq pc 14 then some (.inl (oS 1 s_lcmp)) else none) else (bif Nat.ble pc 15 then (bif Nat.beq pc 15 then some (.inl (o_zlt 36)) else none) else (bif Nat.beq pc 18 then some (.inl (o_ll 2 1)) else none))))) else (bif Nat.ble pc 29 then (bif Nat.ble pc 22 then (bif Nat.ble pc 19 then (bif Nat.beq pc 19 then some (.inl (o_ll 4 2)) else none) else (bif Nat.ble pc 21 then (bif Nat.beq pc 21 then some (.inl (oS 1 s_lcmp)) else none) else (bif Nat.beq pc 22 then some (.inl (o_zne 40)) else none))) else (bif Nat.ble pc 25 then (bif Nat.beq pc 25 then some (.inl (o_al 0 1)) else none) else (bif Nat.ble pc 26 then (bif Nat.beq pc 26 then some (.inl (o_gI 2 0)) else none) else (bif Nat.beq pc 29 then some (.inl (o_al 1 1)) else none)))) else (bif Nat.ble pc 36 then (bif Nat.ble pc 30 then (bif Nat.beq pc 30 then some (.inl (o_gI 2 0)) else none) else (bif Nat.ble pc 33 then (bif Nat.beq pc 33 then some (.inl (o_cge 40)) else none) else (bif Nat.beq pc 36 then some (.inl (oS 1 (s_push (.int 1)))) else none))) else (bif Nat.ble pc 37 then (bif Nat.beq pc 37 then some (.inl (o_goto 41)) else none) else (bif Nat.ble pc 40 then (bif Nat.beq pc 40 then some (.inl (oS 1 (s_push (.int 0)))) else none) else (bif Nat.beq pc 41 then some (.inr (0, 0, 0, 4)) else none)))))
theorem k_35_0 : mOk M_35.1 M_35.2.1 M_35.2.2.1 M_35.2.2.2 0 (o_al 0 1) := ok_aload_n dX2_isNamedAhead_0 rfl
theorem k_35_4 : mOk M_35.1 M_35.2.1 M_35.2.2.1 M_35.2.2.2 4 (o_ls 2 1) := ok_lstore_n dX2_isNamedAhead_4 rfl
theorem k_35_5 : mOk M_35.1 M_35.2.1 M_35.2.2.1 M_35.2.2.2 5 (o_al 1 1) := ok_aload_n dX2_isNamedAhead_5 rfl
theorem k_35_9 : mOk M_35.1 M_35.2.1 M_35.2.2.1 M_35.2.2.2 9 (o_ls 4 2) := ok_lstore dX2_isNamedAhead_9
theorem k_35_11 : mOk M_35.1 M_35.2.1 M_35.2.2.1 M_35.2.2.2 11 (o_ll 2 1) := ok_lload_n dX2_isNamedAhead_11 rfl
theorem k_35_12 : mOk M_35.1 M_35.2.1 M_35.2.2.1 M_35.2.2.2 12 (o_ll 4 2) := ok_lload dX2_isNamedAhead_12
theorem k_35_14 : mOk M_35.1 M_35.2.1 M_35.2.2.1 M_35.2.2.2 14 (oS 1 s_lcmp) := ok_lcmp dX2_isNamedAhead_14
theorem k_35_15 : mOk M_35.1 M_35.2.1 M_35.2.2.1 M_35.2.2.2 15 (o_zlt 36) := ok_zlt dX2_isNamedAhead_15 (by decide)
theorem k_35_18 : mOk M_35.1 M_35.2.1 M_35.2.2.1 M_35.2.2.2 18 (o_ll 2 1) := ok_lload_n dX2_isNamedAhead_18 rfl
theorem k_35_19 : mOk M_35.1 M_35.2.1 M_35.2.2.1 M_35.2.2.2 19 (o_ll 4 2) := ok_lload dX2_isNamedAhead_19
theorem k_35_21 : mOk M_35.1 M_35.2.1 M_35.2.2.1 M_35.2.2.2 21 (oS 1 s_lcmp) := ok_lcmp dX2_isNamedAhead_21
theorem k_35_22 : mOk M_35.1 M_35.2.1 M_35.2.2.1 M_35.2.2.2 22 (o_zne 40) := ok_zne dX2_isNamedAhead_22 (by decide)
theorem k_35_25 : mOk M_35.1 M_35.2.1 M_35.2.2.1 M_35.2.2.2 25 (o_al 0 1) := ok_aload_n dX2_isNamedAhead_25 rfl
theorem k_35_26 : mOk M_35.1 M_35.2.1 M_35.2.2.1 M_35.2.2.2 26 (o_gI 2 0) := ok_gI dX2_isNamedAhead_26 f_RX2_26 (Or.inl rfl)
theorem k_35_29 : mOk M_35.1 M_35.2.1 M_35.2.2.1 M_35.2.2.2 29 (o_al 1 1) := ok_aload_n dX2_isNamedAhead_29 rfl
theorem k_35_30 : mOk M_35.1 M_35.2.1 M_35.2.2.1 M_35.2.2.2 30 (o_gI 2 0) := ok_gI dX2_isNamedAhead_30 f_RX2_26 (Or.inl rfl)
theorem k_35_33 : mOk M_35.1 M_35.2.1 M_35.2.2.1 M_35.2.2.2 33 (o_cge 40) := ok_cge dX2_isNamedAhead_33 (by decide)
theorem k_35_36 : mOk M_35.1 M_35.2.1 M_35.2.2.1 M_35.2.2.2 36 (oS 1 (s_push (.int 1))) := ok_iconst dX2_isNamedAhead_36 (by decide)
theorem k_35_37 : mOk M_35.1 M_35.2.1 M_35.2.2.1 M_35.2.2.2 37 (o_goto 41) := ok_goto dX2_isNamedAhead_37 (by decide)
theorem k_35_40 : mOk M_35.1 M_35.2.1 M_35.2.2.1 M_35.2.2.2 40 (oS 1 (s_push (.int 0))) := ok_iconst dX2_isNamedAhead_40 (by decide)
set_option maxRecDepth 20000 in
set_option maxHeartbeats 4000000 in
theorem tk_35 (l : Launch) (H9 : mThr l) (H10 : mSpl l) (pc : Nat) (q : mEnt) (h : tb_35 pc = some q) : EE l 35 pc q := nd h (fun h => nd h (fun h => nd h (fun h => nd h (fun h => lf (P := EE l 35) h k_35_0) (fun h => lf (P := EE l 35) h (EE_ca (by decide) (⟨m_1002, m_71, ⟨by decide, by decide⟩, by decide +kernel, ⟨by decide, by decide⟩, 112, 0, by decide +kernel, Or.inr (Or.inr (Or.inl ⟨rfl, rfl, dX2_isNamedAhead_1, m_999, m_1001, _, rfl, by decide, m_26⟩))⟩) rfl))) (fun h => nd h (fun h => lf (P := EE l 35) h k_35_4) (fun h => nd h (fun h => lf (P := EE l 35) h k_35_5) (fun h => lf (P := EE l 35) h (EE_ca (by decide) (⟨m_1002, m_71, ⟨by decide, by decide⟩, by decide +kernel, ⟨by decide, by decide⟩, 112, 0, by decide +kernel, Or.inr (Or.inr (Or.inl ⟨rfl, rfl, dX2_isNamedAhead_6, m_999, m_1001, _, rfl, by decide, m_26⟩))⟩) rfl))))) (fun h => nd h (fun h => nd h (fun h => lf (P := EE l 35) h k_35_9) (fun h => nd h (fun h => lf (P := EE l 35) h k_35_11) (fun h => lf (P := EE l 35) h k_35_12))) (fun h => nd h (fun h => lf (P := EE l 35) h k_35_14) (fun h => nd h (fun h => lf (P := EE l 35) h k_35_15) (fun h => lf (P := EE l 35) h k_35_18))))) (fun h => nd h (fun h => nd h (fun h => nd h (fun h => lf (P := EE l 35) h k_35_19) (fun h => nd h (fun h => lf (P := EE l 35) h k_35_21) (fun h => lf (P := EE l 35) h k_35_22))) (fun h => nd h (fun h => lf (P := EE l 35) h k_35_25) (fun h => nd h (fun h => lf (P := EE l 35) h k_35_26) (fun h => lf (P := EE l 35) h k_35_29)))) (fun h => nd h (fun h => nd h (fun h => lf (P := EE l 35) h k_35_30) (fun h => nd h (fun h => lf (P := EE l 35) h k_35_33) (fun h => lf (P := EE l 35) h k_35_36))) (fun h => nd h (fun h => lf (P := EE l 35) h k_35_37) (fun h => nd h (fun h => lf (P := EE l 35) h k_35_40) (fun h => lf (P := EE l 35) h (EE_re (Or.inr (Or.inl ⟨rfl, dX2_isNamedAhead_41, rfl⟩))))))))
theorem dX2_isNearer_0 : decode cX2_isNearer 0 = .ok (.aload_n 0, 1) := by decide +kernel
theorem dX2_isNearer_1 : decode cX2_isNearer 1 = .ok (.iload_n 2, 1) := by decide +kernel
theorem dX2_isNearer_2 : decode cX2_isNearer 2 = .ok (.iload_n 3, 1) := by decide +kernel
theorem dX2_isNearer_3 : decode cX2_isNearer 3 = .ok (.invokevirtual 116, 3) := by decide +kernel
theorem dX2_isNearer_6 : decode cX2_isNearer 6 = .ok (.lstore 4, 2) := by decide +kernel
theorem dX2_isNearer_8 : decode cX2_isNearer 8 = .ok (.aload_n 1, 1) := by decide +kernel
theorem dX2_isNearer_9 : decode cX2_isNearer 9 = .ok (.iload_n 2, 1) := by decide +kernel
theorem dX2_isNearer_10 : decode cX2_isNearer 10 = .ok (.iload_n 3, 1) := by decide +kernel
theorem dX2_isNearer_11 : decode cX2_isNearer 11 = .ok (.invokevirtual 116, 3) := by decide +kernel
theorem dX2_isNearer_14 : decode cX2_isNearer 14 = .ok (.lstore 6, 2) := by decide +kernel
theorem dX2_isNearer_16 : decode cX2_isNearer 16 = .ok (.lload 4, 2) := by decide +kernel
theorem dX2_isNearer_18 : decode cX2_isNearer 18 = .ok (.lload 6, 2) := by decide +kernel
theorem dX2_isNearer_20 : decode cX2_isNearer 20 = .ok (.lcmp, 1) := by decide +kernel
theorem dX2_isNearer_21 : decode cX2_isNearer 21 = .ok (.ifCond .lt 22, 3) := by decide +kernel
theorem dX2_isNearer_24 : decode cX2_isNearer 24 = .ok (.lload 4, 2) := by decide +kernel
theorem dX2_isNearer_26 : decode cX2_isNearer 26 = .ok (.lload 6, 2) := by decide +kernel
theorem dX2_isNearer_28 : decode cX2_isNearer 28 = .ok (.lcmp, 1) := by decide +kernel
theorem dX2_isNearer_29 : decode cX2_isNearer 29 = .ok (.ifCond .ne 18, 3) := by decide +kernel
theorem dX2_isNearer_32 : decode cX2_isNearer 32 = .ok (.aload_n 0, 1) := by decide +kernel
theorem dX2_isNearer_33 : decode cX2_isNearer 33 = .ok (.getfield 26, 3) := by decide +kernel
theorem dX2_isNearer_36 : decode cX2_isNearer 36 = .ok (.aload_n 1, 1) := by decide +kernel
theorem dX2_isNearer_37 : decode cX2_isNearer 37 = .ok (.getfield 26, 3) := by decide +kernel
theorem dX2_isNearer_40 : decode cX2_isNearer 40 = .ok (.if_icmp .ge 7, 3) := by decide +kernel
theorem dX2_isNearer_43 : decode cX2_isNearer 43 = .ok (.iconst 1, 1) := by decide +kernel
theorem dX2_isNearer_44 : decode cX2_isNearer 44 = .ok (.goto 4, 3) := by decide +kernel
theorem dX2_isNearer_47 : decode cX2_isNearer 47 = .ok (.iconst 0, 1) := by decide +kernel
theorem dX2_isNearer_48 : decode cX2_isNearer 48 = .ok (.ireturn, 1) := by decide +kernel
def tb_36 (pc : Nat) : Option mEnt := bif Nat.ble pc 20 then (bif Nat.ble pc 8 then (bif Nat.ble pc 2 then (bif Nat.ble pc 0 then (bif Nat.beq pc 0 then some (.inl (o_al 0 1)) else none) else (bif Nat.ble pc 1 then (bif Nat.beq pc 1 then some (.inl (o_il 2 1)) else none) else (bif Nat.beq pc 2 then some (.inl (o_il 3 1)) else none))) else (bif Nat.ble pc 3 then (bif Nat.beq pc 3 then some (.inr (3, 37, 3, 2)) else none) else (bif Nat.ble pc 6 then (bif Nat.beq pc 6 then some (.inl (o_ls 4 2)) else none) else (bif Nat.beq pc 8 then some (.inl (o_al 1 1)) else none)))) else (bif Nat.ble pc 11 then (bif Nat.ble pc 9 then (bif Nat.beq pc 9 then some (.inl (o_il 2 1)) else none) else (bif Nat.ble pc 10 then (bif Nat.beq pc 10 then some (.inl (o_il 3 1)) else none) else (bif Nat.beq pc 11 then some (.inr (3, 37, 3, 2)) else none))) else (bif Nat.ble pc 16 then (bif Nat.ble pc 14 then (bif Nat.beq pc 14 then some (.inl (o_ls 6 2)) else none) else (bif Nat.beq pc 16 then some (.inl (o_ll 4 2)) else none)) else (bif Nat.ble pc 18 then (bif Nat.beq pc 18 then some (.inl (o_ll 6 2)) else none) else (bif Nat.beq pc 20 then some (.inl (oS 1 s_lcmp)) else none))))) else (bif Nat.ble pc 33 then (bif Nat.ble pc 26 then (bif Nat.ble pc 21 then (bif Nat.beq pc 21 then some (.inl (o_zlt 43)) else none) else (bif Nat.ble pc 24 then (bif Nat.beq pc 24 then some (.inl (o_ll 4 2)) else none) else (bif Nat.beq pc 26 then some (.inl (o_ll 6 2)) else none))) else (bif Nat.ble pc 29 then (bif Nat.ble pc 28 then (bif Nat.beq pc 28 then some (.inl (oS 1 s_lcmp)) else none) else (bif Nat.beq pc 29 then some (.inl (o_zne 47)) else none)) else (bif Nat.ble pc 32 then (bif Nat.beq pc 32 then some (.inl (o_al 0 1)) else none) else (bif Nat.beq pc 33 then some (.inl (o_gI 2 0)) else none)))) else (bif Nat.ble pc 40 then (bif Nat.ble pc 36 then (bif Nat.beq pc 36 then some (.inl (o_al 1 1)) else none) else (bif Nat.ble pc 37 then (bif Nat.beq pc 37 then some (.inl (o_gI 2 0)) else none) else (bif Nat.beq pc 40 then some (.inl (o_cge 47)) else none))) else (bif Nat.ble pc 44 then (bif Nat.ble pc 43 then (bif Nat.beq pc 43 then some (.inl (oS 1 (s_push (.int 1)))) else none) else (bif Nat.beq pc 44 then some (.inl (o_goto 48)) else none)) else (bif Nat.ble pc 47 then (bif Nat.beq pc 47 then some (.inl (oS 1 (s_push (.int 0)))) else none) else (bif Nat.beq pc 48 then some (.inr (0, 0, 0, 4)) else none)))))
theorem k_36_0 : mOk M_36.1 M_36.2.1 M_36.2.2.1 M_36.2.2.2 0 (o_al 0 1) := ok_aload_n dX2_isNearer_0 rfl
theorem k_36_1 : mOk M_36.1 M_36.2.1 M_36.2.2.1 M_36.2.2.2 1 (o_il 2 1) := ok_iload_n dX2_isNearer_1 rfl
theorem k_36_2 : mOk M_36.1 M_36.2.1 M_36.2.2.1 M_36.2.2.2 2 (o_il 3 1) := ok_iload_n dX2_isNearer_2 rfl
theorem k_36_6 : mOk M_36.1 M_36.2.1 M_36.2.2.1 M_36.2.2.2 6 (o_ls 4 2) := ok_lstore dX2_isNearer_6
theorem k_36_8 : mOk M_36.1 M_36.2.1 M_36.2.2.1 M_36.2.2.2 8 (o_al 1 1) := ok_aload_n dX2_isNearer_8 rfl
theorem k_36_9 : mOk M_36.1 M_36.2.1 M_36.2.2.1 M_36.2.2.2 9 (o_il 2 1) := ok_iload_n dX2_isNearer_9 rfl
theorem k_36_10 : mOk M_36.1 M_36.2.1 M_36.2.2.1 M_36.2.2.2 10 (o_il 3 1) := ok_iload_n dX2_isNearer_10 rfl
theorem k_36_14 : mOk M_36.1 M_36.2.1 M_36.2.2.1 M_36.2.2.2 14 (o_ls 6 2) := ok_lstore dX2_isNearer_14
theorem k_36_16 : mOk M_36.1 M_36.2.1 M_36.2.2.1 M_36.2.2.2 16 (o_ll 4 2) := ok_lload dX2_isNearer_16
theorem k_36_18 : mOk M_36.1 M_36.2.1 M_36.2.2.1 M_36.2.2.2 18 (o_ll 6 2) := ok_lload dX2_isNearer_18
theorem k_36_20 : mOk M_36.1 M_36.2.1 M_36.2.2.1 M_36.2.2.2 20 (oS 1 s_lcmp) := ok_lcmp dX2_isNearer_20
theorem k_36_21 : mOk M_36.1 M_36.2.1 M_36.2.2.1 M_36.2.2.2 21 (o_zlt 43) := ok_zlt dX2_isNearer_21 (by decide)
theorem k_36_24 : mOk M_36.1 M_36.2.1 M_36.2.2.1 M_36.2.2.2 24 (o_ll 4 2) := ok_lload dX2_isNearer_24
theorem k_36_26 : mOk M_36.1 M_36.2.1 M_36.2.2.1 M_36.2.2.2 26 (o_ll 6 2) := ok_lload dX2_isNearer_26
theorem k_36_28 : mOk M_36.1 M_36.2.1 M_36.2.2.1 M_36.2.2.2 28 (oS 1 s_lcmp) := ok_lcmp dX2_isNearer_28
theorem k_36_29 : mOk M_36.1 M_36.2.1 M_36.2.2.1 M_36.2.2.2 29 (o_zne 47) := ok_zne dX2_isNearer_29 (by decide)
theorem k_36_32 : mOk M_36.1 M_36.2.1 M_36.2.2.1 M_36.2.2.2 32 (o_al 0 1) := ok_aload_n dX2_isNearer_32 rfl
theorem k_36_33 : mOk M_36.1 M_36.2.1 M_36.2.2.1 M_36.2.2.2 33 (o_gI 2 0) := ok_gI dX2_isNearer_33 f_RX2_26 (Or.inl rfl)
theorem k_36_36 : mOk M_36.1 M_36.2.1 M_36.2.2.1 M_36.2.2.2 36 (o_al 1 1) := ok_aload_n dX2_isNearer_36 rfl
theorem k_36_37 : mOk M_36.1 M_36.2.1 M_36.2.2.1 M_36.2.2.2 37 (o_gI 2 0) := ok_gI dX2_isNearer_37 f_RX2_26 (Or.inl rfl)
theorem k_36_40 : mOk M_36.1 M_36.2.1 M_36.2.2.1 M_36.2.2.2 40 (o_cge 47) := ok_cge dX2_isNearer_40 (by decide)
theorem k_36_43 : mOk M_36.1 M_36.2.1 M_36.2.2.1 M_36.2.2.2 43 (oS 1 (s_push (.int 1))) := ok_iconst dX2_isNearer_43 (by decide)
theorem k_36_44 : mOk M_36.1 M_36.2.1 M_36.2.2.1 M_36.2.2.2 44 (o_goto 48) := ok_goto dX2_isNearer_44 (by decide)
theorem k_36_47 : mOk M_36.1 M_36.2.1 M_36.2.2.1 M_36.2.2.2 47 (oS 1 (s_push (.int 0))) := ok_iconst dX2_isNearer_47 (by decide)
set_option maxRecDepth 20000 in
set_option maxHeartbeats 4000000 in
theorem tk_36 (l : Launch) (H9 : mThr l) (H10 : mSpl l) (pc : Nat) (q : mEnt) (h : tb_36 pc = some q) : EE l 36 pc q := nd h (fun h => nd h (fun h => nd h (fun h => nd h (fun h => lf (P := EE l 36) h k_36_0) (fun h => nd h (fun h => lf (P := EE l 36) h k_36_1) (fun h => lf (P := EE l 36) h k_36_2))) (fun h => nd h (fun h => lf (P := EE l 36) h (EE_ca (by decide) (⟨m_1045, m_71, ⟨by decide, by decide⟩, by decide +kernel, ⟨by decide, by decide⟩, 116, 2, by decide +kernel, Or.inr (Or.inr (Or.inl ⟨rfl, rfl, dX2_isNearer_3, m_1042, m_1044, _, rfl, by decide, m_28⟩))⟩) rfl)) (fun h => nd h (fun h => lf (P := EE l 36) h k_36_6) (fun h => lf (P := EE l 36) h k_36_8)))) (fun h => nd h (fun h => nd h (fun h => lf (P := EE l 36) h k_36_9) (fun h => nd h (fun h => lf (P := EE l 36) h k_36_10) (fun h => lf (P := EE l 36) h (EE_ca (by decide) (⟨m_1045, m_71, ⟨by decide, by decide⟩, by decide +kernel, ⟨by decide, by decide⟩, 116, 2, by decide +kernel, Or.inr (Or.inr (Or.inl ⟨rfl, rfl, dX2_isNearer_11, m_1042, m_1044, _, rfl, by decide, m_28⟩))⟩) rfl)))) (fun h => nd h (fun h => nd h (fun h => lf (P := EE l 36) h k_36_14) (fun h => lf (P := EE l 36) h k_36_16)) (fun h => nd h (fun h => lf (P := EE l 36) h k_36_18) (fun h => lf (P := EE l 36) h k_36_20))))) (fun h => nd h (fun h => nd h (fun h => nd h (fun h => lf (P := EE l 36) h k_36_21) (fun h => nd h (fun h => lf (P := EE l 36) h k_36_24) (fun h => lf (P := EE l 36) h k_36_26))) (fun h => nd h (fun h => nd h (fun h => lf (P := EE l 36) h k_36_28) (fun h => lf (P := EE l 36) h k_36_29)) (fun h => nd h (fun h => lf (P := EE l 36) h k_36_32) (fun h => lf (P := EE l 36) h k_36_33)))) (fun h => nd h (fun h => nd h (fun h => lf (P := EE l 36) h k_36_36) (fun h => nd h (fun h => lf (P := EE l 36) h k_36_37) (fun h => lf (P := EE l 36) h k_36_40))) (fun h => nd h (fun h => nd h (fun h => lf (P := EE l 36) h k_36_43) (fun h => lf (P := EE l 36) h k_36_44)) (fun h => nd h (fun h => lf (P := EE l 36) h k_36_47) (fun h => lf (P := EE l 36) h (EE_re (Or.inr (Or.inl ⟨rfl, dX2_isNearer_48, rfl⟩))))))))
theorem dX2_farness_0 : decode cX2_farness 0 = .ok (.aload_n 0, 1) := by decide +kernel
theorem dX2_farness_1 : decode cX2_farness 1 = .ok (.getfield 9, 3) := by decide +kernel
theorem dX2_farness_4 : decode cX2_farness 4 = .ok (.iconst 0, 1) := by decide +kernel
theorem dX2_farness_5 : decode cX2_farness 5 = .ok (.iaload, 1) := by decide +kernel
theorem dX2_farness_6 : decode cX2_farness 6 = .ok (.i2l, 1) := by decide +kernel
theorem dX2_farness_7 : decode cX2_farness 7 = .ok (.aload_n 0, 1) := by decide +kernel
theorem dX2_farness_8 : decode cX2_farness 8 = .ok (.getfield 9, 3) := by decide +kernel
theorem dX2_farness_11 : decode cX2_farness 11 = .ok (.iconst 0, 1) := by decide +kernel
theorem dX2_farness_12 : decode cX2_farness 12 = .ok (.iaload, 1) := by decide +kernel
theorem dX2_farness_13 : decode cX2_farness 13 = .ok (.i2l, 1) := by decide +kernel
theorem dX2_farness_14 : decode cX2_farness 14 = .ok (.ldc2_w 120, 3) := by decide +kernel
theorem dX2_farness_17 : decode cX2_farness 17 = .ok (.iload_n 1, 1) := by decide +kernel
theorem dX2_farness_18 : decode cX2_farness 18 = .ok (.i2l, 1) := by decide +kernel
theorem dX2_farness_19 : decode cX2_farness 19 = .ok (.lmul, 1) := by decide +kernel
theorem dX2_farness_20 : decode cX2_farness 20 = .ok (.lsub, 1) := by decide +kernel
theorem dX2_farness_21 : decode cX2_farness 21 = .ok (.lmul, 1) := by decide +kernel
theorem dX2_farness_22 : decode cX2_farness 22 = .ok (.aload_n 0, 1) := by decide +kernel
theorem dX2_farness_23 : decode cX2_farness 23 = .ok (.getfield 15, 3) := by decide +kernel
theorem dX2_farness_26 : decode cX2_farness 26 = .ok (.iconst 0, 1) := by decide +kernel
theorem dX2_farness_27 : decode cX2_farness 27 = .ok (.iaload, 1) := by decide +kernel
theorem dX2_farness_28 : decode cX2_farness 28 = .ok (.i2l, 1) := by decide +kernel
theorem dX2_farness_29 : decode cX2_farness 29 = .ok (.aload_n 0, 1) := by decide +kernel
theorem dX2_farness_30 : decode cX2_farness 30 = .ok (.getfield 15, 3) := by decide +kernel
theorem dX2_farness_33 : decode cX2_farness 33 = .ok (.iconst 0, 1) := by decide +kernel
theorem dX2_farness_34 : decode cX2_farness 34 = .ok (.iaload, 1) := by decide +kernel
theorem dX2_farness_35 : decode cX2_farness 35 = .ok (.i2l, 1) := by decide +kernel
theorem dX2_farness_36 : decode cX2_farness 36 = .ok (.ldc2_w 120, 3) := by decide +kernel
theorem dX2_farness_39 : decode cX2_farness 39 = .ok (.iload_n 2, 1) := by decide +kernel
theorem dX2_farness_40 : decode cX2_farness 40 = .ok (.i2l, 1) := by decide +kernel
theorem dX2_farness_41 : decode cX2_farness 41 = .ok (.lmul, 1) := by decide +kernel
theorem dX2_farness_42 : decode cX2_farness 42 = .ok (.lsub, 1) := by decide +kernel
theorem dX2_farness_43 : decode cX2_farness 43 = .ok (.lmul, 1) := by decide +kernel
theorem dX2_farness_44 : decode cX2_farness 44 = .ok (.ladd, 1) := by decide +kernel
theorem dX2_farness_45 : decode cX2_farness 45 = .ok (.lreturn, 1) := by decide +kernel
def tb_37 (pc : Nat) : Option mEnt := bif Nat.ble pc 22 then (bif Nat.ble pc 11 then (bif Nat.ble pc 5 then (bif Nat.ble pc 1 then (bif Nat.ble pc 0 then (bif Nat.beq pc 0 then some (.inl (o_al 0 1)) else none) else (bif Nat.beq pc 1 then some (.inl (o_gP 2 6)) else none)) else (bif Nat.ble pc 4 then (bif Nat.beq pc 4 then some (.inl (oS 1 (s_push (.int 0)))) else none) else (bif Nat.beq pc 5 then some (.inl (o_iald)) else none))) else (bif Nat.ble pc 7 then (bif Nat.ble pc 6 then (bif Nat.beq pc 6 then some (.inl (oS 1 s_i2l)) else none) else (bif Nat.beq pc 7 then some (.inl (o_al 0 1)) else none)) else (bif Nat.ble pc 8 then (bif Nat.beq pc 8 then some (.inl (o_gP 2 6)) else none) else (bif Nat.beq pc 11 then some (.inl (oS 1 (s_push (.int 0)))) else none)))) else (bif Nat.ble pc 17 then (bif Nat.ble pc 13 then (bif Nat.ble pc 12 then (bif Nat.beq pc 12 then some (.inl (o_iald)) else none) else (bif Nat.beq pc 13 then some (.inl (oS 1 s_i2l)) else none)) else (bif Nat.ble pc 14 then (bif Nat.beq pc 14 then some (.inl (oS 3 (s_push (.long 2)))) else none) else (bif Nat.beq pc 17 then some (.inl (o_il 1 1)) else none))) else (bif Nat.ble pc 19 then (bif Nat.ble pc 18 then (bif Nat.beq pc 18 then some (.inl (oS 1 s_i2l)) else none) else (bif Nat.beq pc 19 then some (.inl (oS 1 (s_ll (fun a b => a * b)))) else none)) else (bif Nat.ble pc 20 then (bif Nat.beq pc 20 then some (.inl (oS 1 (s_ll (fun a b => a - b)))) else none) else (bif Nat.ble pc 21 then (bif Nat.beq pc 21 then some (.inl (oS 1 (s_ll (fun a b => a * b)))) else none) else (bif Nat.beq pc 22 then some (.inl (o_al 0 1)) else none)))))) else (bif Nat.ble pc 34 then (bif Nat.ble pc 28 then (bif Nat.ble pc 26 then (bif Nat.ble pc 23 then (bif Nat.beq pc 23 then some (.inl (o_gP 2 7)) else none) else (bif Nat.beq pc 26 then some (.inl (oS 1 (s_push (.int 0)))) else none)) else (bif Nat.ble pc 27 then (bif Nat.beq pc 27 then some (.inl (o_iald)) else none) else (bif Nat.beq pc 28 then some (.inl (oS 1 s_i2l)) else none))) else (bif Nat.ble pc 30 then (bif Nat.ble pc 29 then (bif Nat.beq pc 29 then some (.inl (o_al 0 1)) else none) else (bif Nat.beq pc 30 then some (.inl (o_gP 2 7)) else none)) else (bif Nat.ble pc 33 then (bif Nat.beq pc 33 then some (.inl (oS 1 (s_push (.int 0)))) else none) else (bif Nat.beq pc 34 then some (.inl (o_iald)) else none)))) else (bif Nat.ble pc 40 then (bif Nat.ble pc 36 then (bif Nat.ble pc 35 then (bif Nat.beq pc 35 then some (.inl (oS 1 s_i2l)) else none) else (bif Nat.beq pc 36 then some (.inl (oS 3 (s_push (.long 2)))) else none)) else (bif Nat.ble pc 39 then (bif Nat.beq pc 39 then some (.inl (o_il 2 1)) else none) else (bif Nat.beq pc 40 then some (.inl (oS 1 s_i2l)) else none))) else (bif Nat.ble pc 42 then (bif Nat.ble pc 41 then (bif Nat.beq pc 41 then some (.inl (oS 1 (s_ll (fun a b => a * b)))) else none) else (bif Nat.beq pc 42 then some (.inl (oS 1 (s_ll (fun a b => a - b)))) else none)) else (bif Nat.ble pc 43 then (bif Nat.beq pc 43 then some (.inl (oS 1 (s_ll (fun a b => a * b)))) else none) else (bif Nat.ble pc 44 then (bif Nat.beq pc 44 then some (.inl (oS 1 (s_ll (fun a b => a + b)))) else none) else (bif Nat.beq pc 45 then some (.inr (0, 0, 0, 1)) else none))))))
theorem k_37_0 : mOk M_37.1 M_37.2.1 M_37.2.2.1 M_37.2.2.2 0 (o_al 0 1) := ok_aload_n dX2_farness_0 rfl
theorem k_37_1 : mOk M_37.1 M_37.2.1 M_37.2.2.1 M_37.2.2.2 1 (o_gP 2 6) := ok_gP dX2_farness_1 f_RX2_9 rfl
theorem k_37_4 : mOk M_37.1 M_37.2.1 M_37.2.2.1 M_37.2.2.2 4 (oS 1 (s_push (.int 0))) := ok_iconst dX2_farness_4 (by decide)
theorem k_37_5 : mOk M_37.1 M_37.2.1 M_37.2.2.1 M_37.2.2.2 5 (o_iald) := ok_iald dX2_farness_5
theorem k_37_6 : mOk M_37.1 M_37.2.1 M_37.2.2.1 M_37.2.2.2 6 (oS 1 s_i2l) := ok_i2l dX2_farness_6
theorem k_37_7 : mOk M_37.1 M_37.2.1 M_37.2.2.1 M_37.2.2.2 7 (o_al 0 1) := ok_aload_n dX2_farness_7 rfl
theorem k_37_8 : mOk M_37.1 M_37.2.1 M_37.2.2.1 M_37.2.2.2 8 (o_gP 2 6) := ok_gP dX2_farness_8 f_RX2_9 rfl
theorem k_37_11 : mOk M_37.1 M_37.2.1 M_37.2.2.1 M_37.2.2.2 11 (oS 1 (s_push (.int 0))) := ok_iconst dX2_farness_11 (by decide)
theorem k_37_12 : mOk M_37.1 M_37.2.1 M_37.2.2.1 M_37.2.2.2 12 (o_iald) := ok_iald dX2_farness_12
theorem k_37_13 : mOk M_37.1 M_37.2.1 M_37.2.2.1 M_37.2.2.2 13 (oS 1 s_i2l) := ok_i2l dX2_farness_13
theorem k_37_14 : mOk M_37.1 M_37.2.1 M_37.2.2.1 M_37.2.2.2 14 (oS 3 (s_push (.long 2))) := ok_ldc2 dX2_farness_14 m_1046
theorem k_37_17 : mOk M_37.1 M_37.2.1 M_37.2.2.1 M_37.2.2.2 17 (o_il 1 1) := ok_iload_n dX2_farness_17 rfl
theorem k_37_18 : mOk M_37.1 M_37.2.1 M_37.2.2.1 M_37.2.2.2 18 (oS 1 s_i2l) := ok_i2l dX2_farness_18
theorem k_37_19 : mOk M_37.1 M_37.2.1 M_37.2.2.1 M_37.2.2.2 19 (oS 1 (s_ll (fun a b => a * b))) := ok_lmul dX2_farness_19
theorem k_37_20 : mOk M_37.1 M_37.2.1 M_37.2.2.1 M_37.2.2.2 20 (oS 1 (s_ll (fun a b => a - b))) := ok_lsub dX2_farness_20
theorem k_37_21 : mOk M_37.1 M_37.2.1 M_37.2.2.1 M_37.2.2.2 21 (oS 1 (s_ll (fun a b => a * b))) := ok_lmul dX2_farness_21
theorem k_37_22 : mOk M_37.1 M_37.2.1 M_37.2.2.1 M_37.2.2.2 22 (o_al 0 1) := ok_aload_n dX2_farness_22 rfl
theorem k_37_23 : mOk M_37.1 M_37.2.1 M_37.2.2.1 M_37.2.2.2 23 (o_gP 2 7) := ok_gP dX2_farness_23 f_RX2_15 rfl
theorem k_37_26 : mOk M_37.1 M_37.2.1 M_37.2.2.1 M_37.2.2.2 26 (oS 1 (s_push (.int 0))) := ok_iconst dX2_farness_26 (by decide)
theorem k_37_27 : mOk M_37.1 M_37.2.1 M_37.2.2.1 M_37.2.2.2 27 (o_iald) := ok_iald dX2_farness_27
theorem k_37_28 : mOk M_37.1 M_37.2.1 M_37.2.2.1 M_37.2.2.2 28 (oS 1 s_i2l) := ok_i2l dX2_farness_28
theorem k_37_29 : mOk M_37.1 M_37.2.1 M_37.2.2.1 M_37.2.2.2 29 (o_al 0 1) := ok_aload_n dX2_farness_29 rfl
theorem k_37_30 : mOk M_37.1 M_37.2.1 M_37.2.2.1 M_37.2.2.2 30 (o_gP 2 7) := ok_gP dX2_farness_30 f_RX2_15 rfl
theorem k_37_33 : mOk M_37.1 M_37.2.1 M_37.2.2.1 M_37.2.2.2 33 (oS 1 (s_push (.int 0))) := ok_iconst dX2_farness_33 (by decide)
theorem k_37_34 : mOk M_37.1 M_37.2.1 M_37.2.2.1 M_37.2.2.2 34 (o_iald) := ok_iald dX2_farness_34
theorem k_37_35 : mOk M_37.1 M_37.2.1 M_37.2.2.1 M_37.2.2.2 35 (oS 1 s_i2l) := ok_i2l dX2_farness_35
theorem k_37_36 : mOk M_37.1 M_37.2.1 M_37.2.2.1 M_37.2.2.2 36 (oS 3 (s_push (.long 2))) := ok_ldc2 dX2_farness_36 m_1046
theorem k_37_39 : mOk M_37.1 M_37.2.1 M_37.2.2.1 M_37.2.2.2 39 (o_il 2 1) := ok_iload_n dX2_farness_39 rfl
theorem k_37_40 : mOk M_37.1 M_37.2.1 M_37.2.2.1 M_37.2.2.2 40 (oS 1 s_i2l) := ok_i2l dX2_farness_40
theorem k_37_41 : mOk M_37.1 M_37.2.1 M_37.2.2.1 M_37.2.2.2 41 (oS 1 (s_ll (fun a b => a * b))) := ok_lmul dX2_farness_41
theorem k_37_42 : mOk M_37.1 M_37.2.1 M_37.2.2.1 M_37.2.2.2 42 (oS 1 (s_ll (fun a b => a - b))) := ok_lsub dX2_farness_42
theorem k_37_43 : mOk M_37.1 M_37.2.1 M_37.2.2.1 M_37.2.2.2 43 (oS 1 (s_ll (fun a b => a * b))) := ok_lmul dX2_farness_43
theorem k_37_44 : mOk M_37.1 M_37.2.1 M_37.2.2.1 M_37.2.2.2 44 (oS 1 (s_ll (fun a b => a + b))) := ok_ladd dX2_farness_44
set_option maxRecDepth 20000 in
set_option maxHeartbeats 4000000 in
theorem tk_37 (l : Launch) (H9 : mThr l) (H10 : mSpl l) (pc : Nat) (q : mEnt) (h : tb_37 pc = some q) : EE l 37 pc q := nd h (fun h => nd h (fun h => nd h (fun h => nd h (fun h => nd h (fun h => lf (P := EE l 37) h k_37_0) (fun h => lf (P := EE l 37) h k_37_1)) (fun h => nd h (fun h => lf (P := EE l 37) h k_37_4) (fun h => lf (P := EE l 37) h k_37_5))) (fun h => nd h (fun h => nd h (fun h => lf (P := EE l 37) h k_37_6) (fun h => lf (P := EE l 37) h k_37_7)) (fun h => nd h (fun h => lf (P := EE l 37) h k_37_8) (fun h => lf (P := EE l 37) h k_37_11)))) (fun h => nd h (fun h => nd h (fun h => nd h (fun h => lf (P := EE l 37) h k_37_12) (fun h => lf (P := EE l 37) h k_37_13)) (fun h => nd h (fun h => lf (P := EE l 37) h k_37_14) (fun h => lf (P := EE l 37) h k_37_17))) (fun h => nd h (fun h => nd h (fun h => lf (P := EE l 37) h k_37_18) (fun h => lf (P := EE l 37) h k_37_19)) (fun h => nd h (fun h => lf (P := EE l 37) h k_37_20) (fun h => nd h (fun h => lf (P := EE l 37) h k_37_21) (fun h => lf (P := EE l 37) h k_37_22)))))) (fun h => nd h (fun h => nd h (fun h => nd h (fun h => nd h (fun h => lf (P := EE l 37) h k_37_23) (fun h => lf (P := EE l 37) h k_37_26)) (fun h => nd h (fun h => lf (P := EE l 37) h k_37_27) (fun h => lf (P := EE l 37) h k_37_28))) (fun h => nd h (fun h => nd h (fun h => lf (P := EE l 37) h k_37_29) (fun h => lf (P := EE l 37) h k_37_30)) (fun h => nd h (fun h => lf (P := EE l 37) h k_37_33) (fun h => lf (P := EE l 37) h k_37_34)))) (fun h => nd h (fun h => nd h (fun h => nd h (fun h => lf (P := EE l 37) h k_37_35) (fun h => lf (P := EE l 37) h k_37_36)) (fun h => nd h (fun h => lf (P := EE l 37) h k_37_39) (fun h => lf (P := EE l 37) h k_37_40))) (fun h => nd h (fun h => nd h (fun h => lf (P := EE l 37) h k_37_41) (fun h => lf (P := EE l 37) h k_37_42)) (fun h => nd h (fun h => lf (P := EE l 37) h k_37_43) (fun h => nd h (fun h => lf (P := EE l 37) h k_37_44) (fun h => lf (P := EE l 37) h (EE_re (Or.inr (Or.inr (Or.inl ⟨rfl, dX2_farness_45, rfl⟩))))))))))
theorem dX2_isPointOf_0 : decode cX2_isPointOf 0 = .ok (.aload_n 0, 1) := by decide +kernel
theorem dX2_isPointOf_1 : decode cX2_isPointOf 1 = .ok (.getfield 29, 3) := by decide +kernel
theorem dX2_isPointOf_4 : decode cX2_isPointOf 4 = .ok (.ifCond .ne 15, 3) := by decide +kernel
theorem dX2_isPointOf_7 : decode cX2_isPointOf 7 = .ok (.aload_n 0, 1) := by decide +kernel
theorem dX2_isPointOf_8 : decode cX2_isPointOf 8 = .ok (.getfield 32, 3) := by decide +kernel
theorem dX2_isPointOf_11 : decode cX2_isPointOf 11 = .ok (.iload_n 1, 1) := by decide +kernel
theorem dX2_isPointOf_12 : decode cX2_isPointOf 12 = .ok (.if_icmp .ne 7, 3) := by decide +kernel
theorem dX2_isPointOf_15 : decode cX2_isPointOf 15 = .ok (.iconst 1, 1) := by decide +kernel
theorem dX2_isPointOf_16 : decode cX2_isPointOf 16 = .ok (.goto 4, 3) := by decide +kernel
theorem dX2_isPointOf_19 : decode cX2_isPointOf 19 = .ok (.iconst 0, 1) := by decide +kernel
theorem dX2_isPointOf_20 : decode cX2_isPointOf 20 = .ok (.ireturn, 1) := by decide +kernel
def tb_38 (pc : Nat) : Option mEnt := bif Nat.ble pc 8 then (bif Nat.ble pc 1 then (bif Nat.ble pc 0 then (bif Nat.beq pc 0 then some (.inl (o_al 0 1)) else none) else (bif Nat.beq pc 1 then some (.inl (o_gI 2 1)) else none)) else (bif Nat.ble pc 4 then (bif Nat.beq pc 4 then some (.inl (o_zne 19)) else none) else (bif Nat.ble pc 7 then (bif Nat.beq pc 7 then some (.inl (o_al 0 1)) else none) else (bif Nat.beq pc 8 then some (.inl (o_gI 2 2)) else none)))) else (bif Nat.ble pc 15 then (bif Nat.ble pc 11 then (bif Nat.beq pc 11 then some (.inl (o_il 1 1)) else none) else (bif Nat.ble pc 12 then (bif Nat.beq pc 12 then some (.inl (o_cne 19)) else none) else (bif Nat.beq pc 15 then some (.inl (oS 1 (s_push (.int 1)))) else none))) else (bif Nat.ble pc 16 then (bif Nat.beq pc 16 then some (.inl (o_goto 20)) else none) else (bif Nat.ble pc 19 then (bif Nat.beq pc 19 then some (.inl (oS 1 (s_push (.int 0)))) else none) else (bif Nat.beq pc 20 then some (.inr (0, 0, 0, 4)) else none))))
theorem k_38_0 : mOk M_38.1 M_38.2.1 M_38.2.2.1 M_38.2.2.2 0 (o_al 0 1) := ok_aload_n dX2_isPointOf_0 rfl
theorem k_38_1 : mOk M_38.1 M_38.2.1 M_38.2.2.1 M_38.2.2.2 1 (o_gI 2 1) := ok_gI dX2_isPointOf_1 f_RX2_29 (Or.inl rfl)
theorem k_38_4 : mOk M_38.1 M_38.2.1 M_38.2.2.1 M_38.2.2.2 4 (o_zne 19) := ok_zne dX2_isPointOf_4 (by decide)
theorem k_38_7 : mOk M_38.1 M_38.2.1 M_38.2.2.1 M_38.2.2.2 7 (o_al 0 1) := ok_aload_n dX2_isPointOf_7 rfl
theorem k_38_8 : mOk M_38.1 M_38.2.1 M_38.2.2.1 M_38.2.2.2 8 (o_gI 2 2) := ok_gI dX2_isPointOf_8 f_RX2_32 (Or.inl rfl)
theorem k_38_11 : mOk M_38.1 M_38.2.1 M_38.2.2.1 M_38.2.2.2 11 (o_il 1 1) := ok_iload_n dX2_isPointOf_11 rfl
theorem k_38_12 : mOk M_38.1 M_38.2.1 M_38.2.2.1 M_38.2.2.2 12 (o_cne 19) := ok_cne dX2_isPointOf_12 (by decide)
theorem k_38_15 : mOk M_38.1 M_38.2.1 M_38.2.2.1 M_38.2.2.2 15 (oS 1 (s_push (.int 1))) := ok_iconst dX2_isPointOf_15 (by decide)
theorem k_38_16 : mOk M_38.1 M_38.2.1 M_38.2.2.1 M_38.2.2.2 16 (o_goto 20) := ok_goto dX2_isPointOf_16 (by decide)
theorem k_38_19 : mOk M_38.1 M_38.2.1 M_38.2.2.1 M_38.2.2.2 19 (oS 1 (s_push (.int 0))) := ok_iconst dX2_isPointOf_19 (by decide)
set_option maxRecDepth 20000 in
set_option maxHeartbeats 4000000 in
theorem tk_38 (l : Launch) (H9 : mThr l) (H10 : mSpl l) (pc : Nat) (q : mEnt) (h : tb_38 pc = some q) : EE l 38 pc q := nd h (fun h => nd h (fun h => nd h (fun h => lf (P := EE l 38) h k_38_0) (fun h => lf (P := EE l 38) h k_38_1)) (fun h => nd h (fun h => lf (P := EE l 38) h k_38_4) (fun h => nd h (fun h => lf (P := EE l 38) h k_38_7) (fun h => lf (P := EE l 38) h k_38_8)))) (fun h => nd h (fun h => nd h (fun h => lf (P := EE l 38) h k_38_11) (fun h => nd h (fun h => lf (P := EE l 38) h k_38_12) (fun h => lf (P := EE l 38) h k_38_15))) (fun h => nd h (fun h => lf (P := EE l 38) h k_38_16) (fun h => nd h (fun h => lf (P := EE l 38) h k_38_19) (fun h => lf (P := EE l 38) h (EE_re (Or.inr (Or.inl ⟨rfl, dX2_isPointOf_20, rfl⟩)))))))
