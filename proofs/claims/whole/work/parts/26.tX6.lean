/-! tables of X6 (written by a program) -/
theorem dX6_init_0 : decode cX6_init 0 = .ok (.aload_n 0, 1) := by decide +kernel
theorem dX6_init_1 : decode cX6_init 1 = .ok (.invokespecial 3, 3) := by decide +kernel
theorem dX6_init_4 : decode cX6_init 4 = .ok (.aload_n 0, 1) := by decide +kernel
theorem dX6_init_5 : decode cX6_init 5 = .ok (.iload_n 1, 1) := by decide +kernel
theorem dX6_init_6 : decode cX6_init 6 = .ok (.newarray .int, 2) := by decide +kernel
theorem dX6_init_8 : decode cX6_init 8 = .ok (.putfield 9, 3) := by decide +kernel
theorem dX6_init_11 : decode cX6_init 11 = .ok (.aload_n 0, 1) := by decide +kernel
theorem dX6_init_12 : decode cX6_init 12 = .ok (.iload_n 1, 1) := by decide +kernel
theorem dX6_init_13 : decode cX6_init 13 = .ok (.newarray .int, 2) := by decide +kernel
theorem dX6_init_15 : decode cX6_init 15 = .ok (.putfield 15, 3) := by decide +kernel
theorem dX6_init_18 : decode cX6_init 18 = .ok (.aload_n 0, 1) := by decide +kernel
theorem dX6_init_19 : decode cX6_init 19 = .ok (.iload_n 1, 1) := by decide +kernel
theorem dX6_init_20 : decode cX6_init 20 = .ok (.newarray .boolean, 2) := by decide +kernel
theorem dX6_init_22 : decode cX6_init 22 = .ok (.putfield 18, 3) := by decide +kernel
theorem dX6_init_25 : decode cX6_init 25 = .ok (.return_, 1) := by decide +kernel
def tb_56 (pc : Nat) : Option mEnt := bif Nat.ble pc 11 then (bif Nat.ble pc 4 then (bif Nat.ble pc 0 then (bif Nat.beq pc 0 then some (.inl (o_al 0 1)) else none) else (bif Nat.ble pc 1 then (bif Nat.beq pc 1 then some (.inr (5, 0, 0, 0)) else none) else (bif Nat.beq pc 4 then some (.inl (o_al 0 1)) else none))) else (bif Nat.ble pc 6 then (bif Nat.ble pc 5 then (bif Nat.beq pc 5 then some (.inl (o_il 1 1)) else none) else (bif Nat.beq pc 6 then some (.inl (o_newa 1)) else none)) else (bif Nat.ble pc 8 then (bif Nat.beq pc 8 then some (.inl (o_pP 6 0)) else none) else (bif Nat.beq pc 11 then some (.inl (o_al 0 1)) else none)))) else (bif Nat.ble pc 18 then (bif Nat.ble pc 13 then (bif Nat.ble pc 12 then (bif Nat.beq pc 12 then some (.inl (o_il 1 1)) else none) else (bif Nat.beq pc 13 then some (.inl (o_newa 1)) else none)) else (bif Nat.ble pc 15 then (bif Nat.beq pc 15 then some (.inl (o_pP 6 1)) else none) else (bif Nat.beq pc 18 then some (.inl (o_al 0 1)) else none))) else (bif Nat.ble pc 20 then (bif Nat.ble pc 19 then (bif Nat.beq pc 19 then some (.inl (o_il 1 1)) else none) else (bif Nat.beq pc 20 then some (.inl (o_newa 3)) else none)) else (bif Nat.ble pc 22 then (bif Nat.beq pc 22 then some (.inl (o_pP 6 2)) else none) else (bif Nat.beq pc 25 then some (.inr (0, 0, 0, 3)) else none))))
theorem k_56_0 : mOk M_56.1 M_56.2.1 M_56.2.2.1 M_56.2.2.2 0 (o_al 0 1) := ok_aload_n dX6_init_0 rfl
theorem k_56_4 : mOk M_56.1 M_56.2.1 M_56.2.2.1 M_56.2.2.2 4 (o_al 0 1) := ok_aload_n dX6_init_4 rfl
theorem k_56_5 : mOk M_56.1 M_56.2.1 M_56.2.2.1 M_56.2.2.2 5 (o_il 1 1) := ok_iload_n dX6_init_5 rfl
theorem k_56_6 : mOk M_56.1 M_56.2.1 M_56.2.2.1 M_56.2.2.2 6 (o_newa 1) := ok_newa dX6_init_6 (by decide) m_145 (fun _ => rfl) (fun _ _ h => h) (by decide) rfl
theorem k_56_8 : mOk M_56.1 M_56.2.1 M_56.2.2.1 M_56.2.2.2 8 (o_pP 6 0) := ok_pP dX6_init_8 (mFw_of f_RX6_9_c (Or.inr ⟨rfl, rfl, rfl⟩)) rfl
theorem k_56_11 : mOk M_56.1 M_56.2.1 M_56.2.2.1 M_56.2.2.2 11 (o_al 0 1) := ok_aload_n dX6_init_11 rfl
theorem k_56_12 : mOk M_56.1 M_56.2.1 M_56.2.2.1 M_56.2.2.2 12 (o_il 1 1) := ok_iload_n dX6_init_12 rfl
theorem k_56_13 : mOk M_56.1 M_56.2.1 M_56.2.2.1 M_56.2.2.2 13 (o_newa 1) := ok_newa dX6_init_13 (by decide) m_145 (fun _ => rfl) (fun _ _ h => h) (by decide) rfl
theorem k_56_15 : mOk M_56.1 M_56.2.1 M_56.2.2.1 M_56.2.2.2 15 (o_pP 6 1) := ok_pP dX6_init_15 (mFw_of f_RX6_15_c (Or.inr ⟨rfl, rfl, rfl⟩)) rfl
theorem k_56_18 : mOk M_56.1 M_56.2.1 M_56.2.2.1 M_56.2.2.2 18 (o_al 0 1) := ok_aload_n dX6_init_18 rfl
theorem k_56_19 : mOk M_56.1 M_56.2.1 M_56.2.2.1 M_56.2.2.2 19 (o_il 1 1) := ok_iload_n dX6_init_19 rfl
theorem k_56_20 : mOk M_56.1 M_56.2.1 M_56.2.2.1 M_56.2.2.2 20 (o_newa 3) := ok_newa dX6_init_20 (by decide) m_214 (fun _ => rfl) (fun _ _ h => h) (by decide) rfl
theorem k_56_22 : mOk M_56.1 M_56.2.1 M_56.2.2.1 M_56.2.2.2 22 (o_pP 6 2) := ok_pP dX6_init_22 (mFw_of f_RX6_18_c (Or.inr ⟨rfl, rfl, rfl⟩)) rfl
set_option maxRecDepth 20000 in
set_option maxHeartbeats 4000000 in
theorem tk_56 (l : Launch) (H9 : mThr l) (H10 : mSpl l) (pc : Nat) (q : mEnt) (h : tb_56 pc = some q) : EE l 56 pc q := nd h (fun h => nd h (fun h => nd h (fun h => lf (P := EE l 56) h k_56_0) (fun h => nd h (fun h => lf (P := EE l 56) h (EE_ob (⟨3, dX6_init_1, m_184, m_97, m_98, by decide, by decide⟩))) (fun h => lf (P := EE l 56) h k_56_4))) (fun h => nd h (fun h => nd h (fun h => lf (P := EE l 56) h k_56_5) (fun h => lf (P := EE l 56) h k_56_6)) (fun h => nd h (fun h => lf (P := EE l 56) h k_56_8) (fun h => lf (P := EE l 56) h k_56_11)))) (fun h => nd h (fun h => nd h (fun h => nd h (fun h => lf (P := EE l 56) h k_56_12) (fun h => lf (P := EE l 56) h k_56_13)) (fun h => nd h (fun h => lf (P := EE l 56) h k_56_15) (fun h => lf (P := EE l 56) h k_56_18))) (fun h => nd h (fun h => nd h (fun h => lf (P := EE l 56) h k_56_19) (fun h => lf (P := EE l 56) h k_56_20)) (fun h => nd h (fun h => lf (P := EE l 56) h k_56_22) (fun h => lf (P := EE l 56) h (EE_re (Or.inr (Or.inr (Or.inr (Or.inr ⟨rfl, dX6_init_25, rfl⟩)))))))))
theorem dX6_add_0 : decode cX6_add 0 = .ok (.aload_n 0, 1) := by decide +kernel
theorem dX6_add_1 : decode cX6_add 1 = .ok (.getfield 22, 3) := by decide +kernel
theorem dX6_add_4 : decode cX6_add 4 = .ok (.aload_n 0, 1) := by decide +kernel
theorem dX6_add_5 : decode cX6_add 5 = .ok (.getfield 9, 3) := by decide +kernel
theorem dX6_add_8 : decode cX6_add 8 = .ok (.arraylength, 1) := by decide +kernel
theorem dX6_add_9 : decode cX6_add 9 = .ok (.if_icmp .ge 43, 3) := by decide +kernel
theorem dX6_add_12 : decode cX6_add 12 = .ok (.aload_n 0, 1) := by decide +kernel
theorem dX6_add_13 : decode cX6_add 13 = .ok (.getfield 9, 3) := by decide +kernel
theorem dX6_add_16 : decode cX6_add 16 = .ok (.aload_n 0, 1) := by decide +kernel
theorem dX6_add_17 : decode cX6_add 17 = .ok (.getfield 22, 3) := by decide +kernel
theorem dX6_add_20 : decode cX6_add 20 = .ok (.iload_n 1, 1) := by decide +kernel
theorem dX6_add_21 : decode cX6_add 21 = .ok (.iastore, 1) := by decide +kernel
theorem dX6_add_22 : decode cX6_add 22 = .ok (.aload_n 0, 1) := by decide +kernel
theorem dX6_add_23 : decode cX6_add 23 = .ok (.getfield 15, 3) := by decide +kernel
theorem dX6_add_26 : decode cX6_add 26 = .ok (.aload_n 0, 1) := by decide +kernel
theorem dX6_add_27 : decode cX6_add 27 = .ok (.getfield 22, 3) := by decide +kernel
theorem dX6_add_30 : decode cX6_add 30 = .ok (.iload_n 2, 1) := by decide +kernel
theorem dX6_add_31 : decode cX6_add 31 = .ok (.iastore, 1) := by decide +kernel
theorem dX6_add_32 : decode cX6_add 32 = .ok (.aload_n 0, 1) := by decide +kernel
theorem dX6_add_33 : decode cX6_add 33 = .ok (.getfield 18, 3) := by decide +kernel
theorem dX6_add_36 : decode cX6_add 36 = .ok (.aload_n 0, 1) := by decide +kernel
theorem dX6_add_37 : decode cX6_add 37 = .ok (.getfield 22, 3) := by decide +kernel
theorem dX6_add_40 : decode cX6_add 40 = .ok (.iload_n 3, 1) := by decide +kernel
theorem dX6_add_41 : decode cX6_add 41 = .ok (.bastore, 1) := by decide +kernel
theorem dX6_add_42 : decode cX6_add 42 = .ok (.aload_n 0, 1) := by decide +kernel
theorem dX6_add_43 : decode cX6_add 43 = .ok (.dup, 1) := by decide +kernel
theorem dX6_add_44 : decode cX6_add 44 = .ok (.getfield 22, 3) := by decide +kernel
theorem dX6_add_47 : decode cX6_add 47 = .ok (.iconst 1, 1) := by decide +kernel
theorem dX6_add_48 : decode cX6_add 48 = .ok (.iadd, 1) := by decide +kernel
theorem dX6_add_49 : decode cX6_add 49 = .ok (.putfield 22, 3) := by decide +kernel
theorem dX6_add_52 : decode cX6_add 52 = .ok (.return_, 1) := by decide +kernel
def tb_57 (pc : Nat) : Option mEnt := bif Nat.ble pc 26 then (bif Nat.ble pc 12 then (bif Nat.ble pc 4 then (bif Nat.ble pc 0 then (bif Nat.beq pc 0 then some (.inl (o_al 0 1)) else none) else (bif Nat.ble pc 1 then (bif Nat.beq pc 1 then some (.inl (o_gI 6 3)) else none) else (bif Nat.beq pc 4 then some (.inl (o_al 0 1)) else none))) else (bif Nat.ble pc 8 then (bif Nat.ble pc 5 then (bif Nat.beq pc 5 then some (.inl (o_gP 6 0)) else none) else (bif Nat.beq pc 8 then some (.inl (o_alen)) else none)) else (bif Nat.ble pc 9 then (bif Nat.beq pc 9 then some (.inl (o_cge 52)) else none) else (bif Nat.beq pc 12 then some (.inl (o_al 0 1)) else none)))) else (bif Nat.ble pc 20 then (bif Nat.ble pc 16 then (bif Nat.ble pc 13 then (bif Nat.beq pc 13 then some (.inl (o_gP 6 0)) else none) else (bif Nat.beq pc 16 then some (.inl (o_al 0 1)) else none)) else (bif Nat.ble pc 17 then (bif Nat.beq pc 17 then some (.inl (o_gI 6 3)) else none) else (bif Nat.beq pc 20 then some (.inl (o_il 1 1)) else none))) else (bif Nat.ble pc 22 then (bif Nat.ble pc 21 then (bif Nat.beq pc 21 then some (.inl (o_iast)) else none) else (bif Nat.beq pc 22 then some (.inl (o_al 0 1)) else none)) else (bif Nat.ble pc 23 then (bif Nat.beq pc 23 then some (.inl (o_gP 6 1)) else none) else (bif Nat.beq pc 26 then some (.inl (o_al 0 1)) else none))))) else (bif Nat.ble pc 40 then (bif Nat.ble pc 32 then (bif Nat.ble pc 30 then (bif Nat.ble pc 27 then (bif Nat.beq pc 27 then some (.inl (o_gI 6 3)) else none) else (bif Nat.beq pc 30 then some (.inl (o_il 2 1)) else none)) else (bif Nat.ble pc 31 then (bif Nat.beq pc 31 then some (.inl (o_iast)) else none) else (bif Nat.beq pc 32 then some (.inl (o_al 0 1)) else none))) else (bif Nat.ble pc 36 then (bif Nat.ble pc 33 then (bif Nat.beq pc 33 then some (.inl (o_gP 6 2)) else none) else (bif Nat.beq pc 36 then some (.inl (o_al 0 1)) else none)) else (bif Nat.ble pc 37 then (bif Nat.beq pc 37 then some (.inl (o_gI 6 3)) else none) else (bif Nat.beq pc 40 then some (.inl (o_il 3 1)) else none)))) else (bif Nat.ble pc 44 then (bif Nat.ble pc 42 then (bif Nat.ble pc 41 then (bif Nat.beq pc 41 then some (.inl (o_bast)) else none) else (bif Nat.beq pc 42 then some (.inl (o_al 0 1)) else none)) else (bif Nat.ble pc 43 then (bif Nat.beq pc 43 then some (.inl (oS 1 s_dup)) else none) else (bif Nat.beq pc 44 then some (.inl (o_gI 6 3)) else none))) else (bif Nat.ble pc 48 then (bif Nat.ble pc 47 then (bif Nat.beq pc 47 then some (.inl (oS 1 (s_push (.int 1)))) else none) else (bif Nat.beq pc 48 then some (.inl (oS 1 (s_ii (fun a b => a + b)))) else none)) else (bif Nat.ble pc 49 then (bif Nat.beq pc 49 then some (.inl (o_pI 6 3)) else none) else (bif Nat.beq pc 52 then some (.inr (0, 0, 0, 3)) else none)))))
theorem k_57_0 : mOk M_57.1 M_57.2.1 M_57.2.2.1 M_57.2.2.2 0 (o_al 0 1) := ok_aload_n dX6_add_0 rfl
theorem k_57_1 : mOk M_57.1 M_57.2.1 M_57.2.2.1 M_57.2.2.2 1 (o_gI 6 3) := ok_gI dX6_add_1 f_RX6_22 (Or.inl rfl)
theorem k_57_4 : mOk M_57.1 M_57.2.1 M_57.2.2.1 M_57.2.2.2 4 (o_al 0 1) := ok_aload_n dX6_add_4 rfl
theorem k_57_5 : mOk M_57.1 M_57.2.1 M_57.2.2.1 M_57.2.2.2 5 (o_gP 6 0) := ok_gP dX6_add_5 f_RX6_9 rfl
theorem k_57_8 : mOk M_57.1 M_57.2.1 M_57.2.2.1 M_57.2.2.2 8 (o_alen) := ok_alen dX6_add_8
theorem k_57_9 : mOk M_57.1 M_57.2.1 M_57.2.2.1 M_57.2.2.2 9 (o_cge 52) := ok_cge dX6_add_9 (by decide)
theorem k_57_12 : mOk M_57.1 M_57.2.1 M_57.2.2.1 M_57.2.2.2 12 (o_al 0 1) := ok_aload_n dX6_add_12 rfl
theorem k_57_13 : mOk M_57.1 M_57.2.1 M_57.2.2.1 M_57.2.2.2 13 (o_gP 6 0) := ok_gP dX6_add_13 f_RX6_9 rfl
theorem k_57_16 : mOk M_57.1 M_57.2.1 M_57.2.2.1 M_57.2.2.2 16 (o_al 0 1) := ok_aload_n dX6_add_16 rfl
theorem k_57_17 : mOk M_57.1 M_57.2.1 M_57.2.2.1 M_57.2.2.2 17 (o_gI 6 3) := ok_gI dX6_add_17 f_RX6_22 (Or.inl rfl)
theorem k_57_20 : mOk M_57.1 M_57.2.1 M_57.2.2.1 M_57.2.2.2 20 (o_il 1 1) := ok_iload_n dX6_add_20 rfl
theorem k_57_21 : mOk M_57.1 M_57.2.1 M_57.2.2.1 M_57.2.2.2 21 (o_iast) := ok_iast dX6_add_21
theorem k_57_22 : mOk M_57.1 M_57.2.1 M_57.2.2.1 M_57.2.2.2 22 (o_al 0 1) := ok_aload_n dX6_add_22 rfl
theorem k_57_23 : mOk M_57.1 M_57.2.1 M_57.2.2.1 M_57.2.2.2 23 (o_gP 6 1) := ok_gP dX6_add_23 f_RX6_15 rfl
theorem k_57_26 : mOk M_57.1 M_57.2.1 M_57.2.2.1 M_57.2.2.2 26 (o_al 0 1) := ok_aload_n dX6_add_26 rfl
theorem k_57_27 : mOk M_57.1 M_57.2.1 M_57.2.2.1 M_57.2.2.2 27 (o_gI 6 3) := ok_gI dX6_add_27 f_RX6_22 (Or.inl rfl)
theorem k_57_30 : mOk M_57.1 M_57.2.1 M_57.2.2.1 M_57.2.2.2 30 (o_il 2 1) := ok_iload_n dX6_add_30 rfl
theorem k_57_31 : mOk M_57.1 M_57.2.1 M_57.2.2.1 M_57.2.2.2 31 (o_iast) := ok_iast dX6_add_31
theorem k_57_32 : mOk M_57.1 M_57.2.1 M_57.2.2.1 M_57.2.2.2 32 (o_al 0 1) := ok_aload_n dX6_add_32 rfl
theorem k_57_33 : mOk M_57.1 M_57.2.1 M_57.2.2.1 M_57.2.2.2 33 (o_gP 6 2) := ok_gP dX6_add_33 f_RX6_18 rfl
theorem k_57_36 : mOk M_57.1 M_57.2.1 M_57.2.2.1 M_57.2.2.2 36 (o_al 0 1) := ok_aload_n dX6_add_36 rfl
theorem k_57_37 : mOk M_57.1 M_57.2.1 M_57.2.2.1 M_57.2.2.2 37 (o_gI 6 3) := ok_gI dX6_add_37 f_RX6_22 (Or.inl rfl)
theorem k_57_40 : mOk M_57.1 M_57.2.1 M_57.2.2.1 M_57.2.2.2 40 (o_il 3 1) := ok_iload_n dX6_add_40 rfl
theorem k_57_41 : mOk M_57.1 M_57.2.1 M_57.2.2.1 M_57.2.2.2 41 (o_bast) := ok_bast dX6_add_41
theorem k_57_42 : mOk M_57.1 M_57.2.1 M_57.2.2.1 M_57.2.2.2 42 (o_al 0 1) := ok_aload_n dX6_add_42 rfl
theorem k_57_43 : mOk M_57.1 M_57.2.1 M_57.2.2.1 M_57.2.2.2 43 (oS 1 s_dup) := ok_dup dX6_add_43
theorem k_57_44 : mOk M_57.1 M_57.2.1 M_57.2.2.1 M_57.2.2.2 44 (o_gI 6 3) := ok_gI dX6_add_44 f_RX6_22 (Or.inl rfl)
theorem k_57_47 : mOk M_57.1 M_57.2.1 M_57.2.2.1 M_57.2.2.2 47 (oS 1 (s_push (.int 1))) := ok_iconst dX6_add_47 (by decide)
theorem k_57_48 : mOk M_57.1 M_57.2.1 M_57.2.2.1 M_57.2.2.2 48 (oS 1 (s_ii (fun a b => a + b))) := ok_iadd dX6_add_48
theorem k_57_49 : mOk M_57.1 M_57.2.1 M_57.2.2.1 M_57.2.2.2 49 (o_pI 6 3) := ok_pI dX6_add_49 (mFw_of f_RX6_22_c (Or.inl rfl)) rfl
set_option maxRecDepth 20000 in
set_option maxHeartbeats 4000000 in
theorem tk_57 (l : Launch) (H9 : mThr l) (H10 : mSpl l) (pc : Nat) (q : mEnt) (h : tb_57 pc = some q) : EE l 57 pc q := nd h (fun h => nd h (fun h => nd h (fun h => nd h (fun h => lf (P := EE l 57) h k_57_0) (fun h => nd h (fun h => lf (P := EE l 57) h k_57_1) (fun h => lf (P := EE l 57) h k_57_4))) (fun h => nd h (fun h => nd h (fun h => lf (P := EE l 57) h k_57_5) (fun h => lf (P := EE l 57) h k_57_8)) (fun h => nd h (fun h => lf (P := EE l 57) h k_57_9) (fun h => lf (P := EE l 57) h k_57_12)))) (fun h => nd h (fun h => nd h (fun h => nd h (fun h => lf (P := EE l 57) h k_57_13) (fun h => lf (P := EE l 57) h k_57_16)) (fun h => nd h (fun h => lf (P := EE l 57) h k_57_17) (fun h => lf (P := EE l 57) h k_57_20))) (fun h => nd h (fun h => nd h (fun h => lf (P := EE l 57) h k_57_21) (fun h => lf (P := EE l 57) h k_57_22)) (fun h => nd h (fun h => lf (P := EE l 57) h k_57_23) (fun h => lf (P := EE l 57) h k_57_26))))) (fun h => nd h (fun h => nd h (fun h => nd h (fun h => nd h (fun h => lf (P := EE l 57) h k_57_27) (fun h => lf (P := EE l 57) h k_57_30)) (fun h => nd h (fun h => lf (P := EE l 57) h k_57_31) (fun h => lf (P := EE l 57) h k_57_32))) (fun h => nd h (fun h => nd h (fun h => lf (P := EE l 57) h k_57_33) (fun h => lf (P := EE l 57) h k_57_36)) (fun h => nd h (fun h => lf (P := EE l 57) h k_57_37) (fun h => lf (P := EE l 57) h k_57_40)))) (fun h => nd h (fun h => nd h (fun h => nd h (fun h => lf (P := EE l 57) h k_57_41) (fun h => lf (P := EE l 57) h k_57_42)) (fun h => nd h (fun h => lf (P := EE l 57) h k_57_43) (fun h => lf (P := EE l 57) h k_57_44))) (fun h => nd h (fun h => nd h (fun h => lf (P := EE l 57) h k_57_47) (fun h => lf (P := EE l 57) h k_57_48)) (fun h => nd h (fun h => lf (P := EE l 57) h k_57_49) (fun h => lf (P := EE l 57) h (EE_re (Or.inr (Or.inr (Or.inr (Or.inr ⟨rfl, dX6_add_52, rfl⟩))))))))))
theorem dX6_samePlace_0 : decode cX6_samePlace 0 = .ok (.aload_n 0, 1) := by decide +kernel
theorem dX6_samePlace_1 : decode cX6_samePlace 1 = .ok (.getfield 9, 3) := by decide +kernel
theorem dX6_samePlace_4 : decode cX6_samePlace 4 = .ok (.iload_n 1, 1) := by decide +kernel
theorem dX6_samePlace_5 : decode cX6_samePlace 5 = .ok (.iaload, 1) := by decide +kernel
theorem dX6_samePlace_6 : decode cX6_samePlace 6 = .ok (.aload_n 0, 1) := by decide +kernel
theorem dX6_samePlace_7 : decode cX6_samePlace 7 = .ok (.getfield 9, 3) := by decide +kernel
theorem dX6_samePlace_10 : decode cX6_samePlace 10 = .ok (.iload_n 2, 1) := by decide +kernel
theorem dX6_samePlace_11 : decode cX6_samePlace 11 = .ok (.iaload, 1) := by decide +kernel
theorem dX6_samePlace_12 : decode cX6_samePlace 12 = .ok (.if_icmp .ne 22, 3) := by decide +kernel
theorem dX6_samePlace_15 : decode cX6_samePlace 15 = .ok (.aload_n 0, 1) := by decide +kernel
theorem dX6_samePlace_16 : decode cX6_samePlace 16 = .ok (.getfield 15, 3) := by decide +kernel
theorem dX6_samePlace_19 : decode cX6_samePlace 19 = .ok (.iload_n 1, 1) := by decide +kernel
theorem dX6_samePlace_20 : decode cX6_samePlace 20 = .ok (.iaload, 1) := by decide +kernel
theorem dX6_samePlace_21 : decode cX6_samePlace 21 = .ok (.aload_n 0, 1) := by decide +kernel
theorem dX6_samePlace_22 : decode cX6_samePlace 22 = .ok (.getfield 15, 3) := by decide +kernel
theorem dX6_samePlace_25 : decode cX6_samePlace 25 = .ok (.iload_n 2, 1) := by decide +kernel
theorem dX6_samePlace_26 : decode cX6_samePlace 26 = .ok (.iaload, 1) := by decide +kernel
theorem dX6_samePlace_27 : decode cX6_samePlace 27 = .ok (.if_icmp .ne 7, 3) := by decide +kernel
theorem dX6_samePlace_30 : decode cX6_samePlace 30 = .ok (.iconst 1, 1) := by decide +kernel
theorem dX6_samePlace_31 : decode cX6_samePlace 31 = .ok (.goto 4, 3) := by decide +kernel
theorem dX6_samePlace_34 : decode cX6_samePlace 34 = .ok (.iconst 0, 1) := by decide +kernel
theorem dX6_samePlace_35 : decode cX6_samePlace 35 = .ok (.ireturn, 1) := by decide +kernel
def tb_58 (pc : Nat) : Option mEnt := bif Nat.ble pc 16 then (bif Nat.ble pc 6 then (bif Nat.ble pc 1 then (bif Nat.ble pc 0 then (bif Nat.beq pc 0 then some (.inl (o_al 0 1)) else none) else (bif Nat.beq pc 1 then some (.inl (o_gP 6 0)) else none)) else (bif Nat.ble pc 4 then (bif Nat.beq pc 4 then some (.inl (o_il 1 1)) else none) else (bif Nat.ble pc 5 then (bif Nat.beq pc 5 then some (.inl (o_iald)) else none) else (bif Nat.beq pc 6 then some (.inl (o_al 0 1)) else none)))) else (bif Nat.ble pc 11 then (bif Nat.ble pc 7 then (bif Nat.beq pc 7 then some (.inl (o_gP 6 0)) else none) else (bif Nat.ble pc 10 then (bif Nat.beq pc 10 then some (.inl (o_il 2 1)) else none) else (bif Nat.beq pc 11 then some (.inl (o_iald)) else none))) else (bif Nat.ble pc 12 then (bif Nat.beq pc 12 then some (.inl (o_cne 34)) else none) else (bif Nat.ble pc 15 then (bif Nat.beq pc 15 then some (.inl (o_al 0 1)) else none) else (bif Nat.beq pc 16 then some (.inl (o_gP 6 1)) else none))))) else (bif Nat.ble pc 25 then (bif Nat.ble pc 20 then (bif Nat.ble pc 19 then (bif Nat.beq pc 19 then some (.inl (o_il 1 1)) else none) else (bif Nat.beq pc 20 then some (.inl (o_iald)) else none)) else (bif Nat.ble pc 21 then (bif Nat.beq pc 21 then some (.inl (o_al 0 1)) else none) else (bif Nat.ble pc 22 then (bif Nat.beq pc 22 then some (.inl (o_gP 6 1)) else none) else (bif Nat.beq pc 25 then some (.inl (o_il 2 1)) else none)))) else (bif Nat.ble pc 30 then (bif Nat.ble pc 26 then (bif Nat.beq pc 26 then some (.inl (o_iald)) else none) else (bif Nat.ble pc 27 then (bif Nat.beq pc 27 then some (.inl (o_cne 34)) else none) else (bif Nat.beq pc 30 then some (.inl (oS 1 (s_push (.int 1)))) else none))) else (bif Nat.ble pc 31 then (bif Nat.beq pc 31 then some (.inl (o_goto 35)) else none) else (bif Nat.ble pc 34 then (bif Nat.beq pc 34 then some (.inl (oS 1 (s_push (.int 0)))) else none) else (bif Nat.beq pc 35 then some (.inr (0, 0, 0, 4)) else none)))))
theorem k_58_0 : mOk M_58.1 M_58.2.1 M_58.2.2.1 M_58.2.2.2 0 (o_al 0 1) := ok_aload_n dX6_samePlace_0 rfl
theorem k_58_1 : mOk M_58.1 M_58.2.1 M_58.2.2.1 M_58.2.2.2 1 (o_gP 6 0) := ok_gP dX6_samePlace_1 f_RX6_9 rfl
theorem k_58_4 : mOk M_58.1 M_58.2.1 M_58.2.2.1 M_58.2.2.2 4 (o_il 1 1) := ok_iload_n dX6_samePlace_4 rfl
theorem k_58_5 : mOk M_58.1 M_58.2.1 M_58.2.2.1 M_58.2.2.2 5 (o_iald) := ok_iald dX6_samePlace_5
theorem k_58_6 : mOk M_58.1 M_58.2.1 M_58.2.2.1 M_58.2.2.2 6 (o_al 0 1) := ok_aload_n dX6_samePlace_6 rfl
theorem k_58_7 : mOk M_58.1 M_58.2.1 M_58.2.2.1 M_58.2.2.2 7 (o_gP 6 0) := ok_gP dX6_samePlace_7 f_RX6_9 rfl
theorem k_58_10 : mOk M_58.1 M_58.2.1 M_58.2.2.1 M_58.2.2.2 10 (o_il 2 1) := ok_iload_n dX6_samePlace_10 rfl
theorem k_58_11 : mOk M_58.1 M_58.2.1 M_58.2.2.1 M_58.2.2.2 11 (o_iald) := ok_iald dX6_samePlace_11
theorem k_58_12 : mOk M_58.1 M_58.2.1 M_58.2.2.1 M_58.2.2.2 12 (o_cne 34) := ok_cne dX6_samePlace_12 (by decide)
theorem k_58_15 : mOk M_58.1 M_58.2.1 M_58.2.2.1 M_58.2.2.2 15 (o_al 0 1) := ok_aload_n dX6_samePlace_15 rfl
theorem k_58_16 : mOk M_58.1 M_58.2.1 M_58.2.2.1 M_58.2.2.2 16 (o_gP 6 1) := ok_gP dX6_samePlace_16 f_RX6_15 rfl
theorem k_58_19 : mOk M_58.1 M_58.2.1 M_58.2.2.1 M_58.2.2.2 19 (o_il 1 1) := ok_iload_n dX6_samePlace_19 rfl
theorem k_58_20 : mOk M_58.1 M_58.2.1 M_58.2.2.1 M_58.2.2.2 20 (o_iald) := ok_iald dX6_samePlace_20
theorem k_58_21 : mOk M_58.1 M_58.2.1 M_58.2.2.1 M_58.2.2.2 21 (o_al 0 1) := ok_aload_n dX6_samePlace_21 rfl
theorem k_58_22 : mOk M_58.1 M_58.2.1 M_58.2.2.1 M_58.2.2.2 22 (o_gP 6 1) := ok_gP dX6_samePlace_22 f_RX6_15 rfl
theorem k_58_25 : mOk M_58.1 M_58.2.1 M_58.2.2.1 M_58.2.2.2 25 (o_il 2 1) := ok_iload_n dX6_samePlace_25 rfl
theorem k_58_26 : mOk M_58.1 M_58.2.1 M_58.2.2.1 M_58.2.2.2 26 (o_iald) := ok_iald dX6_samePlace_26
theorem k_58_27 : mOk M_58.1 M_58.2.1 M_58.2.2.1 M_58.2.2.2 27 (o_cne 34) := ok_cne dX6_samePlace_27 (by decide)
theorem k_58_30 : mOk M_58.1 M_58.2.1 M_58.2.2.1 M_58.2.2.2 30 (oS 1 (s_push (.int 1))) := ok_iconst dX6_samePlace_30 (by decide)
theorem k_58_31 : mOk M_58.1 M_58.2.1 M_58.2.2.1 M_58.2.2.2 31 (o_goto 35) := ok_goto dX6_samePlace_31 (by decide)
theorem k_58_34 : mOk M_58.1 M_58.2.1 M_58.2.2.1 M_58.2.2.2 34 (oS 1 (s_push (.int 0))) := ok_iconst dX6_samePlace_34 (by decide)
set_option maxRecDepth 20000 in
set_option maxHeartbeats 4000000 in
theorem tk_58 (l : Launch) (H9 : mThr l) (H10 : mSpl l) (pc : Nat) (q : mEnt) (h : tb_58 pc = some q) : EE l 58 pc q := nd h (fun h => nd h (fun h => nd h (fun h => nd h (fun h => lf (P := EE l 58) h k_58_0) (fun h => lf (P := EE l 58) h k_58_1)) (fun h => nd h (fun h => lf (P := EE l 58) h k_58_4) (fun h => nd h (fun h => lf (P := EE l 58) h k_58_5) (fun h => lf (P := EE l 58) h k_58_6)))) (fun h => nd h (fun h => nd h (fun h => lf (P := EE l 58) h k_58_7) (fun h => nd h (fun h => lf (P := EE l 58) h k_58_10) (fun h => lf (P := EE l 58) h k_58_11))) (fun h => nd h (fun h => lf (P := EE l 58) h k_58_12) (fun h => nd h (fun h => lf (P := EE l 58) h k_58_15) (fun h => lf (P := EE l 58) h k_58_16))))) (fun h => nd h (fun h => nd h (fun h => nd h (fun h => lf (P := EE l 58) h k_58_19) (fun h => lf (P := EE l 58) h k_58_20)) (fun h => nd h (fun h => lf (P := EE l 58) h k_58_21) (fun h => nd h (fun h => lf (P := EE l 58) h k_58_22) (fun h => lf (P := EE l 58) h k_58_25)))) (fun h => nd h (fun h => nd h (fun h => lf (P := EE l 58) h k_58_26) (fun h => nd h (fun h => lf (P := EE l 58) h k_58_27) (fun h => lf (P := EE l 58) h k_58_30))) (fun h => nd h (fun h => lf (P := EE l 58) h k_58_31) (fun h => nd h (fun h => lf (P := EE l 58) h k_58_34) (fun h => lf (P := EE l 58) h (EE_re (Or.inr (Or.inl ⟨rfl, dX6_samePlace_35, rfl⟩))))))))
theorem dX6_move_0 : decode cX6_move 0 = .ok (.aload_n 0, 1) := by decide +kernel
theorem dX6_move_1 : decode cX6_move 1 = .ok (.getfield 9, 3) := by decide +kernel
theorem dX6_move_4 : decode cX6_move 4 = .ok (.iload_n 2, 1) := by decide +kernel
theorem dX6_move_5 : decode cX6_move 5 = .ok (.aload_n 0, 1) := by decide +kernel
theorem dX6_move_6 : decode cX6_move 6 = .ok (.getfield 9, 3) := by decide +kernel
theorem dX6_move_9 : decode cX6_move 9 = .ok (.iload_n 1, 1) := by decide +kernel
theorem dX6_move_10 : decode cX6_move 10 = .ok (.iaload, 1) := by decide +kernel
theorem dX6_move_11 : decode cX6_move 11 = .ok (.iastore, 1) := by decide +kernel
theorem dX6_move_12 : decode cX6_move 12 = .ok (.aload_n 0, 1) := by decide +kernel
theorem dX6_move_13 : decode cX6_move 13 = .ok (.getfield 15, 3) := by decide +kernel
theorem dX6_move_16 : decode cX6_move 16 = .ok (.iload_n 2, 1) := by decide +kernel
theorem dX6_move_17 : decode cX6_move 17 = .ok (.aload_n 0, 1) := by decide +kernel
theorem dX6_move_18 : decode cX6_move 18 = .ok (.getfield 15, 3) := by decide +kernel
theorem dX6_move_21 : decode cX6_move 21 = .ok (.iload_n 1, 1) := by decide +kernel
theorem dX6_move_22 : decode cX6_move 22 = .ok (.iaload, 1) := by decide +kernel
theorem dX6_move_23 : decode cX6_move 23 = .ok (.iastore, 1) := by decide +kernel
theorem dX6_move_24 : decode cX6_move 24 = .ok (.aload_n 0, 1) := by decide +kernel
theorem dX6_move_25 : decode cX6_move 25 = .ok (.getfield 18, 3) := by decide +kernel
theorem dX6_move_28 : decode cX6_move 28 = .ok (.iload_n 2, 1) := by decide +kernel
theorem dX6_move_29 : decode cX6_move 29 = .ok (.aload_n 0, 1) := by decide +kernel
theorem dX6_move_30 : decode cX6_move 30 = .ok (.getfield 18, 3) := by decide +kernel
theorem dX6_move_33 : decode cX6_move 33 = .ok (.iload_n 1, 1) := by decide +kernel
theorem dX6_move_34 : decode cX6_move 34 = .ok (.baload, 1) := by decide +kernel
theorem dX6_move_35 : decode cX6_move 35 = .ok (.bastore, 1) := by decide +kernel
theorem dX6_move_36 : decode cX6_move 36 = .ok (.return_, 1) := by decide +kernel
def tb_59 (pc : Nat) : Option mEnt := bif Nat.ble pc 17 then (bif Nat.ble pc 9 then (bif Nat.ble pc 4 then (bif Nat.ble pc 0 then (bif Nat.beq pc 0 then some (.inl (o_al 0 1)) else none) else (bif Nat.ble pc 1 then (bif Nat.beq pc 1 then some (.inl (o_gP 6 0)) else none) else (bif Nat.beq pc 4 then some (.inl (o_il 2 1)) else none))) else (bif Nat.ble pc 5 then (bif Nat.beq pc 5 then some (.inl (o_al 0 1)) else none) else (bif Nat.ble pc 6 then (bif Nat.beq pc 6 then some (.inl (o_gP 6 0)) else none) else (bif Nat.beq pc 9 then some (.inl (o_il 1 1)) else none)))) else (bif Nat.ble pc 12 then (bif Nat.ble pc 10 then (bif Nat.beq pc 10 then some (.inl (o_iald)) else none) else (bif Nat.ble pc 11 then (bif Nat.beq pc 11 then some (.inl (o_iast)) else none) else (bif Nat.beq pc 12 then some (.inl (o_al 0 1)) else none))) else (bif Nat.ble pc 13 then (bif Nat.beq pc 13 then some (.inl (o_gP 6 1)) else none) else (bif Nat.ble pc 16 then (bif Nat.beq pc 16 then some (.inl (o_il 2 1)) else none) else (bif Nat.beq pc 17 then some (.inl (o_al 0 1)) else none))))) else (bif Nat.ble pc 25 then (bif Nat.ble pc 22 then (bif Nat.ble pc 18 then (bif Nat.beq pc 18 then some (.inl (o_gP 6 1)) else none) else (bif Nat.ble pc 21 then (bif Nat.beq pc 21 then some (.inl (o_il 1 1)) else none) else (bif Nat.beq pc 22 then some (.inl (o_iald)) else none))) else (bif Nat.ble pc 23 then (bif Nat.beq pc 23 then some (.inl (o_iast)) else none) else (bif Nat.ble pc 24 then (bif Nat.beq pc 24 then some (.inl (o_al 0 1)) else none) else (bif Nat.beq pc 25 then some (.inl (o_gP 6 2)) else none)))) else (bif Nat.ble pc 30 then (bif Nat.ble pc 28 then (bif Nat.beq pc 28 then some (.inl (o_il 2 1)) else none) else (bif Nat.ble pc 29 then (bif Nat.beq pc 29 then some (.inl (o_al 0 1)) else none) else (bif Nat.beq pc 30 then some (.inl (o_gP 6 2)) else none))) else (bif Nat.ble pc 34 then (bif Nat.ble pc 33 then (bif Nat.beq pc 33 then some (.inl (o_il 1 1)) else none) else (bif Nat.beq pc 34 then some (.inl (o_bald)) else none)) else (bif Nat.ble pc 35 then (bif Nat.beq pc 35 then some (.inl (o_bast)) else none) else (bif Nat.beq pc 36 then some (.inr (0, 0, 0, 3)) else none)))))
theorem k_59_0 : mOk M_59.1 M_59.2.1 M_59.2.2.1 M_59.2.2.2 0 (o_al 0 1) := ok_aload_n dX6_move_0 rfl
theorem k_59_1 : mOk M_59.1 M_59.2.1 M_59.2.2.1 M_59.2.2.2 1 (o_gP 6 0) := ok_gP dX6_move_1 f_RX6_9 rfl
theorem k_59_4 : mOk M_59.1 M_59.2.1 M_59.2.2.1 M_59.2.2.2 4 (o_il 2 1) := ok_iload_n dX6_move_4 rfl
theorem k_59_5 : mOk M_59.1 M_59.2.1 M_59.2.2.1 M_59.2.2.2 5 (o_al 0 1) := ok_aload_n dX6_move_5 rfl
theorem k_59_6 : mOk M_59.1 M_59.2.1 M_59.2.2.1 M_59.2.2.2 6 (o_gP 6 0) := ok_gP dX6_move_6 f_RX6_9 rfl
theorem k_59_9 : mOk M_59.1 M_59.2.1 M_59.2.2.1 M_59.2.2.2 9 (o_il 1 1) := ok_iload_n dX6_move_9 rfl
theorem k_59_10 : mOk M_59.1 M_59.2.1 M_59.2.2.1 M_59.2.2.2 10 (o_iald) := ok_iald dX6_move_10
theorem k_59_11 : mOk M_59.1 M_59.2.1 M_59.2.2.1 M_59.2.2.2 11 (o_iast) := ok_iast dX6_move_11
theorem k_59_12 : mOk M_59.1 M_59.2.1 M_59.2.2.1 M_59.2.2.2 12 (o_al 0 1) := ok_aload_n dX6_move_12 rfl
theorem k_59_13 : mOk M_59.1 M_59.2.1 M_59.2.2.1 M_59.2.2.2 13 (o_gP 6 1) := ok_gP dX6_move_13 f_RX6_15 rfl
theorem k_59_16 : mOk M_59.1 M_59.2.1 M_59.2.2.1 M_59.2.2.2 16 (o_il 2 1) := ok_iload_n dX6_move_16 rfl
theorem k_59_17 : mOk M_59.1 M_59.2.1 M_59.2.2.1 M_59.2.2.2 17 (o_al 0 1) := ok_aload_n dX6_move_17 rfl
theorem k_59_18 : mOk M_59.1 M_59.2.1 M_59.2.2.1 M_59.2.2.2 18 (o_gP 6 1) := ok_gP dX6_move_18 f_RX6_15 rfl
theorem k_59_21 : mOk M_59.1 M_59.2.1 M_59.2.2.1 M_59.2.2.2 21 (o_il 1 1) := ok_iload_n dX6_move_21 rfl
theorem k_59_22 : mOk M_59.1 M_59.2.1 M_59.2.2.1 M_59.2.2.2 22 (o_iald) := ok_iald dX6_move_22
theorem k_59_23 : mOk M_59.1 M_59.2.1 M_59.2.2.1 M_59.2.2.2 23 (o_iast) := ok_iast dX6_move_23
theorem k_59_24 : mOk M_59.1 M_59.2.1 M_59.2.2.1 M_59.2.2.2 24 (o_al 0 1) := ok_aload_n dX6_move_24 rfl
theorem k_59_25 : mOk M_59.1 M_59.2.1 M_59.2.2.1 M_59.2.2.2 25 (o_gP 6 2) := ok_gP dX6_move_25 f_RX6_18 rfl
theorem k_59_28 : mOk M_59.1 M_59.2.1 M_59.2.2.1 M_59.2.2.2 28 (o_il 2 1) := ok_iload_n dX6_move_28 rfl
theorem k_59_29 : mOk M_59.1 M_59.2.1 M_59.2.2.1 M_59.2.2.2 29 (o_al 0 1) := ok_aload_n dX6_move_29 rfl
theorem k_59_30 : mOk M_59.1 M_59.2.1 M_59.2.2.1 M_59.2.2.2 30 (o_gP 6 2) := ok_gP dX6_move_30 f_RX6_18 rfl
theorem k_59_33 : mOk M_59.1 M_59.2.1 M_59.2.2.1 M_59.2.2.2 33 (o_il 1 1) := ok_iload_n dX6_move_33 rfl
theorem k_59_34 : mOk M_59.1 M_59.2.1 M_59.2.2.1 M_59.2.2.2 34 (o_bald) := ok_bald dX6_move_34
theorem k_59_35 : mOk M_59.1 M_59.2.1 M_59.2.2.1 M_59.2.2.2 35 (o_bast) := ok_bast dX6_move_35
set_option maxRecDepth 20000 in
set_option maxHeartbeats 4000000 in
theorem tk_59 (l : Launch) (H9 : mThr l) (H10 : mSpl l) (pc : Nat) (q : mEnt) (h : tb_59 pc = some q) : EE l 59 pc q := nd h (fun h => nd h (fun h => nd h (fun h => nd h (fun h => lf (P := EE l 59) h k_59_0) (fun h => nd h (fun h => lf (P := EE l 59) h k_59_1) (fun h => lf (P := EE l 59) h k_59_4))) (fun h => nd h (fun h => lf (P := EE l 59) h k_59_5) (fun h => nd h (fun h => lf (P := EE l 59) h k_59_6) (fun h => lf (P := EE l 59) h k_59_9)))) (fun h => nd h (fun h => nd h (fun h => lf (P := EE l 59) h k_59_10) (fun h => nd h (fun h => lf (P := EE l 59) h k_59_11) (fun h => lf (P := EE l 59) h k_59_12))) (fun h => nd h (fun h => lf (P := EE l 59) h k_59_13) (fun h => nd h (fun h => lf (P := EE l 59) h k_59_16) (fun h => lf (P := EE l 59) h k_59_17))))) (fun h => nd h (fun h => nd h (fun h => nd h (fun h => lf (P := EE l 59) h k_59_18) (fun h => nd h (fun h => lf (P := EE l 59) h k_59_21) (fun h => lf (P := EE l 59) h k_59_22))) (fun h => nd h (fun h => lf (P := EE l 59) h k_59_23) (fun h => nd h (fun h => lf (P := EE l 59) h k_59_24) (fun h => lf (P := EE l 59) h k_59_25)))) (fun h => nd h (fun h => nd h (fun h => lf (P := EE l 59) h k_59_28) (fun h => nd h (fun h => lf (P := EE l 59) h k_59_29) (fun h => lf (P := EE l 59) h k_59_30))) (fun h => nd h (fun h => nd h (fun h => lf (P := EE l 59) h k_59_33) (fun h => lf (P := EE l 59) h k_59_34)) (fun h => nd h (fun h => lf (P := EE l 59) h k_59_35) (fun h => lf (P := EE l 59) h (EE_re (Or.inr (Or.inr (Or.inr (Or.inr ⟨rfl, dX6_move_36, rfl⟩))))))))))
theorem dX6_tidy_0 : decode cX6_tidy 0 = .ok (.aload_n 0, 1) := by decide +kernel
theorem dX6_tidy_1 : decode cX6_tidy 1 = .ok (.invokevirtual 26, 3) := by decide +kernel
theorem dX6_tidy_4 : decode cX6_tidy 4 = .ok (.iload_n 1, 1) := by decide +kernel
theorem dX6_tidy_5 : decode cX6_tidy 5 = .ok (.iconst 1, 1) := by decide +kernel
theorem dX6_tidy_6 : decode cX6_tidy 6 = .ok (.if_icmp .ne 7, 3) := by decide +kernel
theorem dX6_tidy_9 : decode cX6_tidy 9 = .ok (.aload_n 0, 1) := by decide +kernel
theorem dX6_tidy_10 : decode cX6_tidy 10 = .ok (.invokevirtual 29, 3) := by decide +kernel
theorem dX6_tidy_13 : decode cX6_tidy 13 = .ok (.iload_n 1, 1) := by decide +kernel
theorem dX6_tidy_14 : decode cX6_tidy 14 = .ok (.iconst 2, 1) := by decide +kernel
theorem dX6_tidy_15 : decode cX6_tidy 15 = .ok (.if_icmp .ne 35, 3) := by decide +kernel
theorem dX6_tidy_18 : decode cX6_tidy 18 = .ok (.aload_n 0, 1) := by decide +kernel
theorem dX6_tidy_19 : decode cX6_tidy 19 = .ok (.getfield 22, 3) := by decide +kernel
theorem dX6_tidy_22 : decode cX6_tidy 22 = .ok (.iconst 1, 1) := by decide +kernel
theorem dX6_tidy_23 : decode cX6_tidy 23 = .ok (.if_icmp .le 27, 3) := by decide +kernel
theorem dX6_tidy_26 : decode cX6_tidy 26 = .ok (.aload_n 0, 1) := by decide +kernel
theorem dX6_tidy_27 : decode cX6_tidy 27 = .ok (.iconst 0, 1) := by decide +kernel
theorem dX6_tidy_28 : decode cX6_tidy 28 = .ok (.aload_n 0, 1) := by decide +kernel
theorem dX6_tidy_29 : decode cX6_tidy 29 = .ok (.getfield 22, 3) := by decide +kernel
theorem dX6_tidy_32 : decode cX6_tidy 32 = .ok (.iconst 1, 1) := by decide +kernel
theorem dX6_tidy_33 : decode cX6_tidy 33 = .ok (.isub, 1) := by decide +kernel
theorem dX6_tidy_34 : decode cX6_tidy 34 = .ok (.invokevirtual 32, 3) := by decide +kernel
theorem dX6_tidy_37 : decode cX6_tidy 37 = .ok (.ifCond .eq 13, 3) := by decide +kernel
theorem dX6_tidy_40 : decode cX6_tidy 40 = .ok (.aload_n 0, 1) := by decide +kernel
theorem dX6_tidy_41 : decode cX6_tidy 41 = .ok (.dup, 1) := by decide +kernel
theorem dX6_tidy_42 : decode cX6_tidy 42 = .ok (.getfield 22, 3) := by decide +kernel
theorem dX6_tidy_45 : decode cX6_tidy 45 = .ok (.iconst 1, 1) := by decide +kernel
theorem dX6_tidy_46 : decode cX6_tidy 46 = .ok (.isub, 1) := by decide +kernel
theorem dX6_tidy_47 : decode cX6_tidy 47 = .ok (.putfield 22, 3) := by decide +kernel
theorem dX6_tidy_50 : decode cX6_tidy 50 = .ok (.aload_n 0, 1) := by decide +kernel
theorem dX6_tidy_51 : decode cX6_tidy 51 = .ok (.getfield 22, 3) := by decide +kernel
theorem dX6_tidy_54 : decode cX6_tidy 54 = .ok (.iload_n 1, 1) := by decide +kernel
theorem dX6_tidy_55 : decode cX6_tidy 55 = .ok (.iconst 1, 1) := by decide +kernel
theorem dX6_tidy_56 : decode cX6_tidy 56 = .ok (.iadd, 1) := by decide +kernel
theorem dX6_tidy_57 : decode cX6_tidy 57 = .ok (.if_icmp .ge 8, 3) := by decide +kernel
theorem dX6_tidy_60 : decode cX6_tidy 60 = .ok (.aload_n 0, 1) := by decide +kernel
theorem dX6_tidy_61 : decode cX6_tidy 61 = .ok (.iconst 0, 1) := by decide +kernel
theorem dX6_tidy_62 : decode cX6_tidy 62 = .ok (.putfield 22, 3) := by decide +kernel
theorem dX6_tidy_65 : decode cX6_tidy 65 = .ok (.return_, 1) := by decide +kernel
def tb_60 (pc : Nat) : Option mEnt := bif Nat.ble pc 32 then (bif Nat.ble pc 14 then (bif Nat.ble pc 5 then (bif Nat.ble pc 1 then (bif Nat.ble pc 0 then (bif Nat.beq pc 0 then some (.inl (o_al 0 1)) else none) else (bif Nat.beq pc 1 then some (.inr (3, 61, 1, 6)) else none)) else (bif Nat.ble pc 4 then (bif Nat.beq pc 4 then some (.inl (o_il 1 1)) else none) else (bif Nat.beq pc 5 then some (.inl (oS 1 (s_push (.int 1)))) else none))) else (bif Nat.ble pc 9 then (bif Nat.ble pc 6 then (bif Nat.beq pc 6 then some (.inl (o_cne 13)) else none) else (bif Nat.beq pc 9 then some (.inl (o_al 0 1)) else none)) else (bif Nat.ble pc 10 then (bif Nat.beq pc 10 then some (.inr (3, 62, 1, 6)) else none) else (bif Nat.ble pc 13 then (bif Nat.beq pc 13 then some (.inl (o_il 1 1)) else none) else (bif Nat.beq pc 14 then some (.inl (oS 1 (s_push (.int 2)))) else none))))) else (bif Nat.ble pc 23 then (bif Nat.ble pc 18 then (bif Nat.ble pc 15 then (bif Nat.beq pc 15 then some (.inl (o_cne 50)) else none) else (bif Nat.beq pc 18 then some (.inl (o_al 0 1)) else none)) else (bif Nat.ble pc 19 then (bif Nat.beq pc 19 then some (.inl (o_gI 6 3)) else none) else (bif Nat.ble pc 22 then (bif Nat.beq pc 22 then some (.inl (oS 1 (s_push (.int 1)))) else none) else (bif Nat.beq pc 23 then some (.inl (o_cle 50)) else none)))) else (bif Nat.ble pc 27 then (bif Nat.ble pc 26 then (bif Nat.beq pc 26 then some (.inl (o_al 0 1)) else none) else (bif Nat.beq pc 27 then some (.inl (oS 1 (s_push (.int 0)))) else none)) else (bif Nat.ble pc 28 then (bif Nat.beq pc 28 then some (.inl (o_al 0 1)) else none) else (bif Nat.ble pc 29 then (bif Nat.beq pc 29 then some (.inl (o_gI 6 3)) else none) else (bif Nat.beq pc 32 then some (.inl (oS 1 (s_push (.int 1)))) else none)))))) else (bif Nat.ble pc 47 then (bif Nat.ble pc 40 then (bif Nat.ble pc 34 then (bif Nat.ble pc 33 then (bif Nat.beq pc 33 then some (.inl (oS 1 (s_ii (fun a b => a - b)))) else none) else (bif Nat.beq pc 34 then some (.inr (3, 58, 3, 6)) else none)) else (bif Nat.ble pc 37 then (bif Nat.beq pc 37 then some (.inl (o_zeq 50)) else none) else (bif Nat.beq pc 40 then some (.inl (o_al 0 1)) else none))) else (bif Nat.ble pc 42 then (bif Nat.ble pc 41 then (bif Nat.beq pc 41 then some (.inl (oS 1 s_dup)) else none) else (bif Nat.beq pc 42 then some (.inl (o_gI 6 3)) else none)) else (bif Nat.ble pc 45 then (bif Nat.beq pc 45 then some (.inl (oS 1 (s_push (.int 1)))) else none) else (bif Nat.ble pc 46 then (bif Nat.beq pc 46 then some (.inl (oS 1 (s_ii (fun a b => a - b)))) else none) else (bif Nat.beq pc 47 then some (.inl (o_pI 6 3)) else none))))) else (bif Nat.ble pc 56 then (bif Nat.ble pc 51 then (bif Nat.ble pc 50 then (bif Nat.beq pc 50 then some (.inl (o_al 0 1)) else none) else (bif Nat.beq pc 51 then some (.inl (o_gI 6 3)) else none)) else (bif Nat.ble pc 54 then (bif Nat.beq pc 54 then some (.inl (o_il 1 1)) else none) else (bif Nat.ble pc 55 then (bif Nat.beq pc 55 then some (.inl (oS 1 (s_push (.int 1)))) else none) else (bif Nat.beq pc 56 then some (.inl (oS 1 (s_ii (fun a b => a + b)))) else none)))) else (bif Nat.ble pc 60 then (bif Nat.ble pc 57 then (bif Nat.beq pc 57 then some (.inl (o_cge 65)) else none) else (bif Nat.beq pc 60 then some (.inl (o_al 0 1)) else none)) else (bif Nat.ble pc 61 then (bif Nat.beq pc 61 then some (.inl (oS 1 (s_push (.int 0)))) else none) else (bif Nat.ble pc 62 then (bif Nat.beq pc 62 then some (.inl (o_pI 6 3)) else none) else (bif Nat.beq pc 65 then some (.inr (0, 0, 0, 3)) else none))))))
theorem k_60_0 : mOk M_60.1 M_60.2.1 M_60.2.2.1 M_60.2.2.2 0 (o_al 0 1) := ok_aload_n dX6_tidy_0 rfl
theorem k_60_4 : mOk M_60.1 M_60.2.1 M_60.2.2.1 M_60.2.2.2 4 (o_il 1 1) := ok_iload_n dX6_tidy_4 rfl
theorem k_60_5 : mOk M_60.1 M_60.2.1 M_60.2.2.1 M_60.2.2.2 5 (oS 1 (s_push (.int 1))) := ok_iconst dX6_tidy_5 (by decide)
theorem k_60_6 : mOk M_60.1 M_60.2.1 M_60.2.2.1 M_60.2.2.2 6 (o_cne 13) := ok_cne dX6_tidy_6 (by decide)
theorem k_60_9 : mOk M_60.1 M_60.2.1 M_60.2.2.1 M_60.2.2.2 9 (o_al 0 1) := ok_aload_n dX6_tidy_9 rfl
theorem k_60_13 : mOk M_60.1 M_60.2.1 M_60.2.2.1 M_60.2.2.2 13 (o_il 1 1) := ok_iload_n dX6_tidy_13 rfl
theorem k_60_14 : mOk M_60.1 M_60.2.1 M_60.2.2.1 M_60.2.2.2 14 (oS 1 (s_push (.int 2))) := ok_iconst dX6_tidy_14 (by decide)
theorem k_60_15 : mOk M_60.1 M_60.2.1 M_60.2.2.1 M_60.2.2.2 15 (o_cne 50) := ok_cne dX6_tidy_15 (by decide)
theorem k_60_18 : mOk M_60.1 M_60.2.1 M_60.2.2.1 M_60.2.2.2 18 (o_al 0 1) := ok_aload_n dX6_tidy_18 rfl
theorem k_60_19 : mOk M_60.1 M_60.2.1 M_60.2.2.1 M_60.2.2.2 19 (o_gI 6 3) := ok_gI dX6_tidy_19 f_RX6_22 (Or.inl rfl)
theorem k_60_22 : mOk M_60.1 M_60.2.1 M_60.2.2.1 M_60.2.2.2 22 (oS 1 (s_push (.int 1))) := ok_iconst dX6_tidy_22 (by decide)
theorem k_60_23 : mOk M_60.1 M_60.2.1 M_60.2.2.1 M_60.2.2.2 23 (o_cle 50) := ok_cle dX6_tidy_23 (by decide)
theorem k_60_26 : mOk M_60.1 M_60.2.1 M_60.2.2.1 M_60.2.2.2 26 (o_al 0 1) := ok_aload_n dX6_tidy_26 rfl
theorem k_60_27 : mOk M_60.1 M_60.2.1 M_60.2.2.1 M_60.2.2.2 27 (oS 1 (s_push (.int 0))) := ok_iconst dX6_tidy_27 (by decide)
theorem k_60_28 : mOk M_60.1 M_60.2.1 M_60.2.2.1 M_60.2.2.2 28 (o_al 0 1) := ok_aload_n dX6_tidy_28 rfl
theorem k_60_29 : mOk M_60.1 M_60.2.1 M_60.2.2.1 M_60.2.2.2 29 (o_gI 6 3) := ok_gI dX6_tidy_29 f_RX6_22 (Or.inl rfl)
theorem k_60_32 : mOk M_60.1 M_60.2.1 M_60.2.2.1 M_60.2.2.2 32 (oS 1 (s_push (.int 1))) := ok_iconst dX6_tidy_32 (by decide)
theorem k_60_33 : mOk M_60.1 M_60.2.1 M_60.2.2.1 M_60.2.2.2 33 (oS 1 (s_ii (fun a b => a - b))) := ok_isub dX6_tidy_33
theorem k_60_37 : mOk M_60.1 M_60.2.1 M_60.2.2.1 M_60.2.2.2 37 (o_zeq 50) := ok_zeq dX6_tidy_37 (by decide)
theorem k_60_40 : mOk M_60.1 M_60.2.1 M_60.2.2.1 M_60.2.2.2 40 (o_al 0 1) := ok_aload_n dX6_tidy_40 rfl
theorem k_60_41 : mOk M_60.1 M_60.2.1 M_60.2.2.1 M_60.2.2.2 41 (oS 1 s_dup) := ok_dup dX6_tidy_41
theorem k_60_42 : mOk M_60.1 M_60.2.1 M_60.2.2.1 M_60.2.2.2 42 (o_gI 6 3) := ok_gI dX6_tidy_42 f_RX6_22 (Or.inl rfl)
theorem k_60_45 : mOk M_60.1 M_60.2.1 M_60.2.2.1 M_60.2.2.2 45 (oS 1 (s_push (.int 1))) := ok_iconst dX6_tidy_45 (by decide)
theorem k_60_46 : mOk M_60.1 M_60.2.1 M_60.2.2.1 M_60.2.2.2 46 (oS 1 (s_ii (fun a b => a - b))) := ok_isub dX6_tidy_46
theorem k_60_47 : mOk M_60.1 M_60.2.1 M_60.2.2.1 M_60.2.2.2 47 (o_pI 6 3) := ok_pI dX6_tidy_47 (mFw_of f_RX6_22_c (Or.inl rfl)) rfl
theorem k_60_50 : mOk M_60.1 M_60.2.1 M_60.2.2.1 M_60.2.2.2 50 (o_al 0 1) := ok_aload_n dX6_tidy_50 rfl
theorem k_60_51 : mOk M_60.1 M_60.2.1 M_60.2.2.1 M_60.2.2.2 51 (o_gI 6 3) := ok_gI dX6_tidy_51 f_RX6_22 (Or.inl rfl)
theorem k_60_54 : mOk M_60.1 M_60.2.1 M_60.2.2.1 M_60.2.2.2 54 (o_il 1 1) := ok_iload_n dX6_tidy_54 rfl
theorem k_60_55 : mOk M_60.1 M_60.2.1 M_60.2.2.1 M_60.2.2.2 55 (oS 1 (s_push (.int 1))) := ok_iconst dX6_tidy_55 (by decide)
theorem k_60_56 : mOk M_60.1 M_60.2.1 M_60.2.2.1 M_60.2.2.2 56 (oS 1 (s_ii (fun a b => a + b))) := ok_iadd dX6_tidy_56
theorem k_60_57 : mOk M_60.1 M_60.2.1 M_60.2.2.1 M_60.2.2.2 57 (o_cge 65) := ok_cge dX6_tidy_57 (by decide)
theorem k_60_60 : mOk M_60.1 M_60.2.1 M_60.2.2.1 M_60.2.2.2 60 (o_al 0 1) := ok_aload_n dX6_tidy_60 rfl
theorem k_60_61 : mOk M_60.1 M_60.2.1 M_60.2.2.1 M_60.2.2.2 61 (oS 1 (s_push (.int 0))) := ok_iconst dX6_tidy_61 (by decide)
theorem k_60_62 : mOk M_60.1 M_60.2.1 M_60.2.2.1 M_60.2.2.2 62 (o_pI 6 3) := ok_pI dX6_tidy_62 (mFw_of f_RX6_22_c (Or.inl rfl)) rfl
set_option maxRecDepth 20000 in
set_option maxHeartbeats 4000000 in
theorem tk_60 (l : Launch) (H9 : mThr l) (H10 : mSpl l) (pc : Nat) (q : mEnt) (h : tb_60 pc = some q) : EE l 60 pc q := nd h (fun h => nd h (fun h => nd h (fun h => nd h (fun h => nd h (fun h => lf (P := EE l 60) h k_60_0) (fun h => lf (P := EE l 60) h (EE_ca (by decide) (⟨m_767, m_75, ⟨by decide, by decide⟩, by decide +kernel, ⟨by decide, by decide⟩, 26, 0, by decide +kernel, Or.inr (Or.inr (Or.inl ⟨rfl, rfl, dX6_tidy_1, m_764, m_766, _, rfl, by decide, m_16⟩))⟩) rfl))) (fun h => nd h (fun h => lf (P := EE l 60) h k_60_4) (fun h => lf (P := EE l 60) h k_60_5))) (fun h => nd h (fun h => nd h (fun h => lf (P := EE l 60) h k_60_6) (fun h => lf (P := EE l 60) h k_60_9)) (fun h => nd h (fun h => lf (P := EE l 60) h (EE_ca (by decide) (⟨m_776, m_75, ⟨by decide, by decide⟩, by decide +kernel, ⟨by decide, by decide⟩, 29, 0, by decide +kernel, Or.inr (Or.inr (Or.inl ⟨rfl, rfl, dX6_tidy_10, m_773, m_775, _, rfl, by decide, m_17⟩))⟩) rfl)) (fun h => nd h (fun h => lf (P := EE l 60) h k_60_13) (fun h => lf (P := EE l 60) h k_60_14))))) (fun h => nd h (fun h => nd h (fun h => nd h (fun h => lf (P := EE l 60) h k_60_15) (fun h => lf (P := EE l 60) h k_60_18)) (fun h => nd h (fun h => lf (P := EE l 60) h k_60_19) (fun h => nd h (fun h => lf (P := EE l 60) h k_60_22) (fun h => lf (P := EE l 60) h k_60_23)))) (fun h => nd h (fun h => nd h (fun h => lf (P := EE l 60) h k_60_26) (fun h => lf (P := EE l 60) h k_60_27)) (fun h => nd h (fun h => lf (P := EE l 60) h k_60_28) (fun h => nd h (fun h => lf (P := EE l 60) h k_60_29) (fun h => lf (P := EE l 60) h k_60_32)))))) (fun h => nd h (fun h => nd h (fun h => nd h (fun h => nd h (fun h => lf (P := EE l 60) h k_60_33) (fun h => lf (P := EE l 60) h (EE_ca (by decide) (⟨m_771, m_75, ⟨by decide, by decide⟩, by decide +kernel, ⟨by decide, by decide⟩, 32, 2, by decide +kernel, Or.inr (Or.inr (Or.inl ⟨rfl, rfl, dX6_tidy_34, m_768, m_769, _, rfl, by decide, m_770⟩))⟩) rfl))) (fun h => nd h (fun h => lf (P := EE l 60) h k_60_37) (fun h => lf (P := EE l 60) h k_60_40))) (fun h => nd h (fun h => nd h (fun h => lf (P := EE l 60) h k_60_41) (fun h => lf (P := EE l 60) h k_60_42)) (fun h => nd h (fun h => lf (P := EE l 60) h k_60_45) (fun h => nd h (fun h => lf (P := EE l 60) h k_60_46) (fun h => lf (P := EE l 60) h k_60_47))))) (fun h => nd h (fun h => nd h (fun h => nd h (fun h => lf (P := EE l 60) h k_60_50) (fun h => lf (P := EE l 60) h k_60_51)) (fun h => nd h (fun h => lf (P := EE l 60) h k_60_54) (fun h => nd h (fun h => lf (P := EE l 60) h k_60_55) (fun h => lf (P := EE l 60) h k_60_56)))) (fun h => nd h (fun h => nd h (fun h => lf (P := EE l 60) h k_60_57) (fun h => lf (P := EE l 60) h k_60_60)) (fun h => nd h (fun h => lf (P := EE l 60) h k_60_61) (fun h => nd h (fun h => lf (P := EE l 60) h k_60_62) (fun h => lf (P := EE l 60) h (EE_re (Or.inr (Or.inr (Or.inr (Or.inr ⟨rfl, dX6_tidy_65, rfl⟩)))))))))))
theorem dX6_mergeRepeats_0 : decode cX6_mergeRepeats 0 = .ok (.iconst 0, 1) := by decide +kernel
theorem dX6_mergeRepeats_1 : decode cX6_mergeRepeats 1 = .ok (.istore_n 1, 1) := by decide +kernel
theorem dX6_mergeRepeats_2 : decode cX6_mergeRepeats 2 = .ok (.iconst 0, 1) := by decide +kernel
theorem dX6_mergeRepeats_3 : decode cX6_mergeRepeats 3 = .ok (.istore_n 2, 1) := by decide +kernel
theorem dX6_mergeRepeats_4 : decode cX6_mergeRepeats 4 = .ok (.iload_n 2, 1) := by decide +kernel
theorem dX6_mergeRepeats_5 : decode cX6_mergeRepeats 5 = .ok (.aload_n 0, 1) := by decide +kernel
theorem dX6_mergeRepeats_6 : decode cX6_mergeRepeats 6 = .ok (.getfield 22, 3) := by decide +kernel
theorem dX6_mergeRepeats_9 : decode cX6_mergeRepeats 9 = .ok (.if_icmp .ge 42, 3) := by decide +kernel
theorem dX6_mergeRepeats_12 : decode cX6_mergeRepeats 12 = .ok (.aload_n 0, 1) := by decide +kernel
theorem dX6_mergeRepeats_13 : decode cX6_mergeRepeats 13 = .ok (.getfield 18, 3) := by decide +kernel
theorem dX6_mergeRepeats_16 : decode cX6_mergeRepeats 16 = .ok (.iload_n 2, 1) := by decide +kernel
theorem dX6_mergeRepeats_17 : decode cX6_mergeRepeats 17 = .ok (.baload, 1) := by decide +kernel
theorem dX6_mergeRepeats_18 : decode cX6_mergeRepeats 18 = .ok (.ifCond .ne 18, 3) := by decide +kernel
theorem dX6_mergeRepeats_21 : decode cX6_mergeRepeats 21 = .ok (.iload_n 1, 1) := by decide +kernel
theorem dX6_mergeRepeats_22 : decode cX6_mergeRepeats 22 = .ok (.ifCond .eq 14, 3) := by decide +kernel
theorem dX6_mergeRepeats_25 : decode cX6_mergeRepeats 25 = .ok (.aload_n 0, 1) := by decide +kernel
theorem dX6_mergeRepeats_26 : decode cX6_mergeRepeats 26 = .ok (.iload_n 2, 1) := by decide +kernel
theorem dX6_mergeRepeats_27 : decode cX6_mergeRepeats 27 = .ok (.iload_n 1, 1) := by decide +kernel
theorem dX6_mergeRepeats_28 : decode cX6_mergeRepeats 28 = .ok (.iconst 1, 1) := by decide +kernel
theorem dX6_mergeRepeats_29 : decode cX6_mergeRepeats 29 = .ok (.isub, 1) := by decide +kernel
theorem dX6_mergeRepeats_30 : decode cX6_mergeRepeats 30 = .ok (.invokevirtual 32, 3) := by decide +kernel
theorem dX6_mergeRepeats_33 : decode cX6_mergeRepeats 33 = .ok (.ifCond .ne 12, 3) := by decide +kernel
theorem dX6_mergeRepeats_36 : decode cX6_mergeRepeats 36 = .ok (.aload_n 0, 1) := by decide +kernel
theorem dX6_mergeRepeats_37 : decode cX6_mergeRepeats 37 = .ok (.iload_n 2, 1) := by decide +kernel
theorem dX6_mergeRepeats_38 : decode cX6_mergeRepeats 38 = .ok (.iload_n 1, 1) := by decide +kernel
theorem dX6_mergeRepeats_39 : decode cX6_mergeRepeats 39 = .ok (.invokevirtual 36, 3) := by decide +kernel
theorem dX6_mergeRepeats_42 : decode cX6_mergeRepeats 42 = .ok (.iinc 1 1, 3) := by decide +kernel
theorem dX6_mergeRepeats_45 : decode cX6_mergeRepeats 45 = .ok (.iinc 2 1, 3) := by decide +kernel
theorem dX6_mergeRepeats_48 : decode cX6_mergeRepeats 48 = .ok (.goto (-44), 3) := by decide +kernel
theorem dX6_mergeRepeats_51 : decode cX6_mergeRepeats 51 = .ok (.aload_n 0, 1) := by decide +kernel
theorem dX6_mergeRepeats_52 : decode cX6_mergeRepeats 52 = .ok (.iload_n 1, 1) := by decide +kernel
theorem dX6_mergeRepeats_53 : decode cX6_mergeRepeats 53 = .ok (.putfield 22, 3) := by decide +kernel
theorem dX6_mergeRepeats_56 : decode cX6_mergeRepeats 56 = .ok (.return_, 1) := by decide +kernel
def tb_61 (pc : Nat) : Option mEnt := bif Nat.ble pc 25 then (bif Nat.ble pc 9 then (bif Nat.ble pc 3 then (bif Nat.ble pc 1 then (bif Nat.ble pc 0 then (bif Nat.beq pc 0 then some (.inl (oS 1 (s_push (.int 0)))) else none) else (bif Nat.beq pc 1 then some (.inl (o_is 1 1)) else none)) else (bif Nat.ble pc 2 then (bif Nat.beq pc 2 then some (.inl (oS 1 (s_push (.int 0)))) else none) else (bif Nat.beq pc 3 then some (.inl (o_is 2 1)) else none))) else (bif Nat.ble pc 5 then (bif Nat.ble pc 4 then (bif Nat.beq pc 4 then some (.inl (o_il 2 1)) else none) else (bif Nat.beq pc 5 then some (.inl (o_al 0 1)) else none)) else (bif Nat.ble pc 6 then (bif Nat.beq pc 6 then some (.inl (o_gI 6 3)) else none) else (bif Nat.beq pc 9 then some (.inl (o_cge 51)) else none)))) else (bif Nat.ble pc 17 then (bif Nat.ble pc 13 then (bif Nat.ble pc 12 then (bif Nat.beq pc 12 then some (.inl (o_al 0 1)) else none) else (bif Nat.beq pc 13 then some (.inl (o_gP 6 2)) else none)) else (bif Nat.ble pc 16 then (bif Nat.beq pc 16 then some (.inl (o_il 2 1)) else none) else (bif Nat.beq pc 17 then some (.inl (o_bald)) else none))) else (bif Nat.ble pc 21 then (bif Nat.ble pc 18 then (bif Nat.beq pc 18 then some (.inl (o_zne 36)) else none) else (bif Nat.beq pc 21 then some (.inl (o_il 1 1)) else none)) else (bif Nat.ble pc 22 then (bif Nat.beq pc 22 then some (.inl (o_zeq 36)) else none) else (bif Nat.beq pc 25 then some (.inl (o_al 0 1)) else none))))) else (bif Nat.ble pc 37 then (bif Nat.ble pc 29 then (bif Nat.ble pc 27 then (bif Nat.ble pc 26 then (bif Nat.beq pc 26 then some (.inl (o_il 2 1)) else none) else (bif Nat.beq pc 27 then some (.inl (o_il 1 1)) else none)) else (bif Nat.ble pc 28 then (bif Nat.beq pc 28 then some (.inl (oS 1 (s_push (.int 1)))) else none) else (bif Nat.beq pc 29 then some (.inl (oS 1 (s_ii (fun a b => a - b)))) else none))) else (bif Nat.ble pc 33 then (bif Nat.ble pc 30 then (bif Nat.beq pc 30 then some (.inr (3, 58, 3, 6)) else none) else (bif Nat.beq pc 33 then some (.inl (o_zne 45)) else none)) else (bif Nat.ble pc 36 then (bif Nat.beq pc 36 then some (.inl (o_al 0 1)) else none) else (bif Nat.beq pc 37 then some (.inl (o_il 2 1)) else none)))) else (bif Nat.ble pc 45 then (bif Nat.ble pc 39 then (bif Nat.ble pc 38 then (bif Nat.beq pc 38 then some (.inl (o_il 1 1)) else none) else (bif Nat.beq pc 39 then some (.inr (3, 59, 3, 6)) else none)) else (bif Nat.ble pc 42 then (bif Nat.beq pc 42 then some (.inl (o_inc 1 1)) else none) else (bif Nat.beq pc 45 then some (.inl (o_inc 2 1)) else none))) else (bif Nat.ble pc 51 then (bif Nat.ble pc 48 then (bif Nat.beq pc 48 then some (.inl (o_goto 4)) else none) else (bif Nat.beq pc 51 then some (.inl (o_al 0 1)) else none)) else (bif Nat.ble pc 52 then (bif Nat.beq pc 52 then some (.inl (o_il 1 1)) else none) else (bif Nat.ble pc 53 then (bif Nat.beq pc 53 then some (.inl (o_pI 6 3)) else none) else (bif Nat.beq pc 56 then some (.inr (0, 0, 0, 3)) else none))))))
theorem k_61_0 : mOk M_61.1 M_61.2.1 M_61.2.2.1 M_61.2.2.2 0 (oS 1 (s_push (.int 0))) := ok_iconst dX6_mergeRepeats_0 (by decide)
theorem k_61_1 : mOk M_61.1 M_61.2.1 M_61.2.2.1 M_61.2.2.2 1 (o_is 1 1) := ok_istore_n dX6_mergeRepeats_1 rfl
theorem k_61_2 : mOk M_61.1 M_61.2.1 M_61.2.2.1 M_61.2.2.2 2 (oS 1 (s_push (.int 0))) := ok_iconst dX6_mergeRepeats_2 (by decide)
theorem k_61_3 : mOk M_61.1 M_61.2.1 M_61.2.2.1 M_61.2.2.2 3 (o_is 2 1) := ok_istore_n dX6_mergeRepeats_3 rfl
theorem k_61_4 : mOk M_61.1 M_61.2.1 M_61.2.2.1 M_61.2.2.2 4 (o_il 2 1) := ok_iload_n dX6_mergeRepeats_4 rfl
theorem k_61_5 : mOk M_61.1 M_61.2.1 M_61.2.2.1 M_61.2.2.2 5 (o_al 0 1) := ok_aload_n dX6_mergeRepeats_5 rfl
theorem k_61_6 : mOk M_61.1 M_61.2.1 M_61.2.2.1 M_61.2.2.2 6 (o_gI 6 3) := ok_gI dX6_mergeRepeats_6 f_RX6_22 (Or.inl rfl)
theorem k_61_9 : mOk M_61.1 M_61.2.1 M_61.2.2.1 M_61.2.2.2 9 (o_cge 51) := ok_cge dX6_mergeRepeats_9 (by decide)
theorem k_61_12 : mOk M_61.1 M_61.2.1 M_61.2.2.1 M_61.2.2.2 12 (o_al 0 1) := ok_aload_n dX6_mergeRepeats_12 rfl
theorem k_61_13 : mOk M_61.1 M_61.2.1 M_61.2.2.1 M_61.2.2.2 13 (o_gP 6 2) := ok_gP dX6_mergeRepeats_13 f_RX6_18 rfl
theorem k_61_16 : mOk M_61.1 M_61.2.1 M_61.2.2.1 M_61.2.2.2 16 (o_il 2 1) := ok_iload_n dX6_mergeRepeats_16 rfl
theorem k_61_17 : mOk M_61.1 M_61.2.1 M_61.2.2.1 M_61.2.2.2 17 (o_bald) := ok_bald dX6_mergeRepeats_17
theorem k_61_18 : mOk M_61.1 M_61.2.1 M_61.2.2.1 M_61.2.2.2 18 (o_zne 36) := ok_zne dX6_mergeRepeats_18 (by decide)
theorem k_61_21 : mOk M_61.1 M_61.2.1 M_61.2.2.1 M_61.2.2.2 21 (o_il 1 1) := ok_iload_n dX6_mergeRepeats_21 rfl
theorem k_61_22 : mOk M_61.1 M_61.2.1 M_61.2.2.1 M_61.2.2.2 22 (o_zeq 36) := ok_zeq dX6_mergeRepeats_22 (by decide)
theorem k_61_25 : mOk M_61.1 M_61.2.1 M_61.2.2.1 M_61.2.2.2 25 (o_al 0 1) := ok_aload_n dX6_mergeRepeats_25 rfl
theorem k_61_26 : mOk M_61.1 M_61.2.1 M_61.2.2.1 M_61.2.2.2 26 (o_il 2 1) := ok_iload_n dX6_mergeRepeats_26 rfl
theorem k_61_27 : mOk M_61.1 M_61.2.1 M_61.2.2.1 M_61.2.2.2 27 (o_il 1 1) := ok_iload_n dX6_mergeRepeats_27 rfl
theorem k_61_28 : mOk M_61.1 M_61.2.1 M_61.2.2.1 M_61.2.2.2 28 (oS 1 (s_push (.int 1))) := ok_iconst dX6_mergeRepeats_28 (by decide)
theorem k_61_29 : mOk M_61.1 M_61.2.1 M_61.2.2.1 M_61.2.2.2 29 (oS 1 (s_ii (fun a b => a - b))) := ok_isub dX6_mergeRepeats_29
theorem k_61_33 : mOk M_61.1 M_61.2.1 M_61.2.2.1 M_61.2.2.2 33 (o_zne 45) := ok_zne dX6_mergeRepeats_33 (by decide)
theorem k_61_36 : mOk M_61.1 M_61.2.1 M_61.2.2.1 M_61.2.2.2 36 (o_al 0 1) := ok_aload_n dX6_mergeRepeats_36 rfl
theorem k_61_37 : mOk M_61.1 M_61.2.1 M_61.2.2.1 M_61.2.2.2 37 (o_il 2 1) := ok_iload_n dX6_mergeRepeats_37 rfl
theorem k_61_38 : mOk M_61.1 M_61.2.1 M_61.2.2.1 M_61.2.2.2 38 (o_il 1 1) := ok_iload_n dX6_mergeRepeats_38 rfl
theorem k_61_42 : mOk M_61.1 M_61.2.1 M_61.2.2.1 M_61.2.2.2 42 (o_inc 1 1) := ok_iinc dX6_mergeRepeats_42 (by decide)
theorem k_61_45 : mOk M_61.1 M_61.2.1 M_61.2.2.1 M_61.2.2.2 45 (o_inc 2 1) := ok_iinc dX6_mergeRepeats_45 (by decide)
theorem k_61_48 : mOk M_61.1 M_61.2.1 M_61.2.2.1 M_61.2.2.2 48 (o_goto 4) := ok_goto dX6_mergeRepeats_48 (by decide)
theorem k_61_51 : mOk M_61.1 M_61.2.1 M_61.2.2.1 M_61.2.2.2 51 (o_al 0 1) := ok_aload_n dX6_mergeRepeats_51 rfl
theorem k_61_52 : mOk M_61.1 M_61.2.1 M_61.2.2.1 M_61.2.2.2 52 (o_il 1 1) := ok_iload_n dX6_mergeRepeats_52 rfl
theorem k_61_53 : mOk M_61.1 M_61.2.1 M_61.2.2.1 M_61.2.2.2 53 (o_pI 6 3) := ok_pI dX6_mergeRepeats_53 (mFw_of f_RX6_22_c (Or.inl rfl)) rfl
set_option maxRecDepth 20000 in
set_option maxHeartbeats 4000000 in
theorem tk_61 (l : Launch) (H9 : mThr l) (H10 : mSpl l) (pc : Nat) (q : mEnt) (h : tb_61 pc = some q) : EE l 61 pc q := nd h (fun h => nd h (fun h => nd h (fun h => nd h (fun h => nd h (fun h => lf (P := EE l 61) h k_61_0) (fun h => lf (P := EE l 61) h k_61_1)) (fun h => nd h (fun h => lf (P := EE l 61) h k_61_2) (fun h => lf (P := EE l 61) h k_61_3))) (fun h => nd h (fun h => nd h (fun h => lf (P := EE l 61) h k_61_4) (fun h => lf (P := EE l 61) h k_61_5)) (fun h => nd h (fun h => lf (P := EE l 61) h k_61_6) (fun h => lf (P := EE l 61) h k_61_9)))) (fun h => nd h (fun h => nd h (fun h => nd h (fun h => lf (P := EE l 61) h k_61_12) (fun h => lf (P := EE l 61) h k_61_13)) (fun h => nd h (fun h => lf (P := EE l 61) h k_61_16) (fun h => lf (P := EE l 61) h k_61_17))) (fun h => nd h (fun h => nd h (fun h => lf (P := EE l 61) h k_61_18) (fun h => lf (P := EE l 61) h k_61_21)) (fun h => nd h (fun h => lf (P := EE l 61) h k_61_22) (fun h => lf (P := EE l 61) h k_61_25))))) (fun h => nd h (fun h => nd h (fun h => nd h (fun h => nd h (fun h => lf (P := EE l 61) h k_61_26) (fun h => lf (P := EE l 61) h k_61_27)) (fun h => nd h (fun h => lf (P := EE l 61) h k_61_28) (fun h => lf (P := EE l 61) h k_61_29))) (fun h => nd h (fun h => nd h (fun h => lf (P := EE l 61) h (EE_ca (by decide) (⟨m_771, m_75, ⟨by decide, by decide⟩, by decide +kernel, ⟨by decide, by decide⟩, 32, 2, by decide +kernel, Or.inr (Or.inr (Or.inl ⟨rfl, rfl, dX6_mergeRepeats_30, m_768, m_769, _, rfl, by decide, m_770⟩))⟩) rfl)) (fun h => lf (P := EE l 61) h k_61_33)) (fun h => nd h (fun h => lf (P := EE l 61) h k_61_36) (fun h => lf (P := EE l 61) h k_61_37)))) (fun h => nd h (fun h => nd h (fun h => nd h (fun h => lf (P := EE l 61) h k_61_38) (fun h => lf (P := EE l 61) h (EE_ca (by decide) (⟨m_759, m_75, ⟨by decide, by decide⟩, by decide +kernel, ⟨by decide, by decide⟩, 36, 2, by decide +kernel, Or.inr (Or.inr (Or.inl ⟨rfl, rfl, dX6_mergeRepeats_39, m_772, m_757, _, rfl, by decide, m_758⟩))⟩) rfl))) (fun h => nd h (fun h => lf (P := EE l 61) h k_61_42) (fun h => lf (P := EE l 61) h k_61_45))) (fun h => nd h (fun h => nd h (fun h => lf (P := EE l 61) h k_61_48) (fun h => lf (P := EE l 61) h k_61_51)) (fun h => nd h (fun h => lf (P := EE l 61) h k_61_52) (fun h => nd h (fun h => lf (P := EE l 61) h k_61_53) (fun h => lf (P := EE l 61) h (EE_re (Or.inr (Or.inr (Or.inr (Or.inr ⟨rfl, dX6_mergeRepeats_56, rfl⟩)))))))))))
theorem dX6_removeLoneCorners_0 : decode cX6_removeLoneCorners 0 = .ok (.iconst 0, 1) := by decide +kernel
theorem dX6_removeLoneCorners_1 : decode cX6_removeLoneCorners 1 = .ok (.istore_n 1, 1) := by decide +kernel
theorem dX6_removeLoneCorners_2 : decode cX6_removeLoneCorners 2 = .ok (.iconst 0, 1) := by decide +kernel
theorem dX6_removeLoneCorners_3 : decode cX6_removeLoneCorners 3 = .ok (.istore_n 2, 1) := by decide +kernel
theorem dX6_removeLoneCorners_4 : decode cX6_removeLoneCorners 4 = .ok (.iload_n 2, 1) := by decide +kernel
theorem dX6_removeLoneCorners_5 : decode cX6_removeLoneCorners 5 = .ok (.aload_n 0, 1) := by decide +kernel
theorem dX6_removeLoneCorners_6 : decode cX6_removeLoneCorners 6 = .ok (.getfield 22, 3) := by decide +kernel
theorem dX6_removeLoneCorners_9 : decode cX6_removeLoneCorners 9 = .ok (.if_icmp .ge 58, 3) := by decide +kernel
theorem dX6_removeLoneCorners_12 : decode cX6_removeLoneCorners 12 = .ok (.iload_n 2, 1) := by decide +kernel
theorem dX6_removeLoneCorners_13 : decode cX6_removeLoneCorners 13 = .ok (.iconst 1, 1) := by decide +kernel
theorem dX6_removeLoneCorners_14 : decode cX6_removeLoneCorners 14 = .ok (.iadd, 1) := by decide +kernel
theorem dX6_removeLoneCorners_15 : decode cX6_removeLoneCorners 15 = .ok (.aload_n 0, 1) := by decide +kernel
theorem dX6_removeLoneCorners_16 : decode cX6_removeLoneCorners 16 = .ok (.getfield 22, 3) := by decide +kernel
theorem dX6_removeLoneCorners_19 : decode cX6_removeLoneCorners 19 = .ok (.if_icmp .eq 14, 3) := by decide +kernel
theorem dX6_removeLoneCorners_22 : decode cX6_removeLoneCorners 22 = .ok (.aload_n 0, 1) := by decide +kernel
theorem dX6_removeLoneCorners_23 : decode cX6_removeLoneCorners 23 = .ok (.getfield 18, 3) := by decide +kernel
theorem dX6_removeLoneCorners_26 : decode cX6_removeLoneCorners 26 = .ok (.iload_n 2, 1) := by decide +kernel
theorem dX6_removeLoneCorners_27 : decode cX6_removeLoneCorners 27 = .ok (.iconst 1, 1) := by decide +kernel
theorem dX6_removeLoneCorners_28 : decode cX6_removeLoneCorners 28 = .ok (.iadd, 1) := by decide +kernel
theorem dX6_removeLoneCorners_29 : decode cX6_removeLoneCorners 29 = .ok (.baload, 1) := by decide +kernel
theorem dX6_removeLoneCorners_30 : decode cX6_removeLoneCorners 30 = .ok (.ifCond .eq 7, 3) := by decide +kernel
theorem dX6_removeLoneCorners_33 : decode cX6_removeLoneCorners 33 = .ok (.iconst 1, 1) := by decide +kernel
theorem dX6_removeLoneCorners_34 : decode cX6_removeLoneCorners 34 = .ok (.goto 4, 3) := by decide +kernel
theorem dX6_removeLoneCorners_37 : decode cX6_removeLoneCorners 37 = .ok (.iconst 0, 1) := by decide +kernel
theorem dX6_removeLoneCorners_38 : decode cX6_removeLoneCorners 38 = .ok (.istore_n 3, 1) := by decide +kernel
theorem dX6_removeLoneCorners_39 : decode cX6_removeLoneCorners 39 = .ok (.aload_n 0, 1) := by decide +kernel
theorem dX6_removeLoneCorners_40 : decode cX6_removeLoneCorners 40 = .ok (.getfield 18, 3) := by decide +kernel
theorem dX6_removeLoneCorners_43 : decode cX6_removeLoneCorners 43 = .ok (.iload_n 2, 1) := by decide +kernel
theorem dX6_removeLoneCorners_44 : decode cX6_removeLoneCorners 44 = .ok (.baload, 1) := by decide +kernel
theorem dX6_removeLoneCorners_45 : decode cX6_removeLoneCorners 45 = .ok (.ifCond .eq 7, 3) := by decide +kernel
theorem dX6_removeLoneCorners_48 : decode cX6_removeLoneCorners 48 = .ok (.iload_n 3, 1) := by decide +kernel
theorem dX6_removeLoneCorners_49 : decode cX6_removeLoneCorners 49 = .ok (.ifCond .ne 12, 3) := by decide +kernel
theorem dX6_removeLoneCorners_52 : decode cX6_removeLoneCorners 52 = .ok (.aload_n 0, 1) := by decide +kernel
theorem dX6_removeLoneCorners_53 : decode cX6_removeLoneCorners 53 = .ok (.iload_n 2, 1) := by decide +kernel
theorem dX6_removeLoneCorners_54 : decode cX6_removeLoneCorners 54 = .ok (.iload_n 1, 1) := by decide +kernel
theorem dX6_removeLoneCorners_55 : decode cX6_removeLoneCorners 55 = .ok (.invokevirtual 36, 3) := by decide +kernel
theorem dX6_removeLoneCorners_58 : decode cX6_removeLoneCorners 58 = .ok (.iinc 1 1, 3) := by decide +kernel
theorem dX6_removeLoneCorners_61 : decode cX6_removeLoneCorners 61 = .ok (.iinc 2 1, 3) := by decide +kernel
theorem dX6_removeLoneCorners_64 : decode cX6_removeLoneCorners 64 = .ok (.goto (-60), 3) := by decide +kernel
theorem dX6_removeLoneCorners_67 : decode cX6_removeLoneCorners 67 = .ok (.aload_n 0, 1) := by decide +kernel
theorem dX6_removeLoneCorners_68 : decode cX6_removeLoneCorners 68 = .ok (.iload_n 1, 1) := by decide +kernel
theorem dX6_removeLoneCorners_69 : decode cX6_removeLoneCorners 69 = .ok (.putfield 22, 3) := by decide +kernel
theorem dX6_removeLoneCorners_72 : decode cX6_removeLoneCorners 72 = .ok (.return_, 1) := by decide +kernel
def tb_62 (pc : Nat) : Option mEnt := bif Nat.ble pc 30 then (bif Nat.ble pc 13 then (bif Nat.ble pc 4 then (bif Nat.ble pc 1 then (bif Nat.ble pc 0 then (bif Nat.beq pc 0 then some (.inl (oS 1 (s_push (.int 0)))) else none) else (bif Nat.beq pc 1 then some (.inl (o_is 1 1)) else none)) else (bif Nat.ble pc 2 then (bif Nat.beq pc 2 then some (.inl (oS 1 (s_push (.int 0)))) else none) else (bif Nat.ble pc 3 then (bif Nat.beq pc 3 then some (.inl (o_is 2 1)) else none) else (bif Nat.beq pc 4 then some (.inl (o_il 2 1)) else none)))) else (bif Nat.ble pc 6 then (bif Nat.ble pc 5 then (bif Nat.beq pc 5 then some (.inl (o_al 0 1)) else none) else (bif Nat.beq pc 6 then some (.inl (o_gI 6 3)) else none)) else (bif Nat.ble pc 9 then (bif Nat.beq pc 9 then some (.inl (o_cge 67)) else none) else (bif Nat.ble pc 12 then (bif Nat.beq pc 12 then some (.inl (o_il 2 1)) else none) else (bif Nat.beq pc 13 then some (.inl (oS 1 (s_push (.int 1)))) else none))))) else (bif Nat.ble pc 22 then (bif Nat.ble pc 15 then (bif Nat.ble pc 14 then (bif Nat.beq pc 14 then some (.inl (oS 1 (s_ii (fun a b => a + b)))) else none) else (bif Nat.beq pc 15 then some (.inl (o_al 0 1)) else none)) else (bif Nat.ble pc 16 then (bif Nat.beq pc 16 then some (.inl (o_gI 6 3)) else none) else (bif Nat.ble pc 19 then (bif Nat.beq pc 19 then some (.inl (o_ceq 33)) else none) else (bif Nat.beq pc 22 then some (.inl (o_al 0 1)) else none)))) else (bif Nat.ble pc 27 then (bif Nat.ble pc 23 then (bif Nat.beq pc 23 then some (.inl (o_gP 6 2)) else none) else (bif Nat.ble pc 26 then (bif Nat.beq pc 26 then some (.inl (o_il 2 1)) else none) else (bif Nat.beq pc 27 then some (.inl (oS 1 (s_push (.int 1)))) else none))) else (bif Nat.ble pc 28 then (bif Nat.beq pc 28 then some (.inl (oS 1 (s_ii (fun a b => a + b)))) else none) else (bif Nat.ble pc 29 then (bif Nat.beq pc 29 then some (.inl (o_bald)) else none) else (bif Nat.beq pc 30 then some (.inl (o_zeq 37)) else none)))))) else (bif Nat.ble pc 49 then (bif Nat.ble pc 39 then (bif Nat.ble pc 34 then (bif Nat.ble pc 33 then (bif Nat.beq pc 33 then some (.inl (oS 1 (s_push (.int 1)))) else none) else (bif Nat.beq pc 34 then some (.inl (o_goto 38)) else none)) else (bif Nat.ble pc 37 then (bif Nat.beq pc 37 then some (.inl (oS 1 (s_push (.int 0)))) else none) else (bif Nat.ble pc 38 then (bif Nat.beq pc 38 then some (.inl (o_is 3 1)) else none) else (bif Nat.beq pc 39 then some (.inl (o_al 0 1)) else none)))) else (bif Nat.ble pc 44 then (bif Nat.ble pc 40 then (bif Nat.beq pc 40 then some (.inl (o_gP 6 2)) else none) else (bif Nat.ble pc 43 then (bif Nat.beq pc 43 then some (.inl (o_il 2 1)) else none) else (bif Nat.beq pc 44 then some (.inl (o_bald)) else none))) else (bif Nat.ble pc 45 then (bif Nat.beq pc 45 then some (.inl (o_zeq 52)) else none) else (bif Nat.ble pc 48 then (bif Nat.beq pc 48 then some (.inl (o_il 3 1)) else none) else (bif Nat.beq pc 49 then some (.inl (o_zne 61)) else none))))) else (bif Nat.ble pc 58 then (bif Nat.ble pc 53 then (bif Nat.ble pc 52 then (bif Nat.beq pc 52 then some (.inl (o_al 0 1)) else none) else (bif Nat.beq pc 53 then some (.inl (o_il 2 1)) else none)) else (bif Nat.ble pc 54 then (bif Nat.beq pc 54 then some (.inl (o_il 1 1)) else none) else (bif Nat.ble pc 55 then (bif Nat.beq pc 55 then some (.inr (3, 59, 3, 6)) else none) else (bif Nat.beq pc 58 then some (.inl (o_inc 1 1)) else none)))) else (bif Nat.ble pc 67 then (bif Nat.ble pc 61 then (bif Nat.beq pc 61 then some (.inl (o_inc 2 1)) else none) else (bif Nat.ble pc 64 then (bif Nat.beq pc 64 then some (.inl (o_goto 4)) else none) else (bif Nat.beq pc 67 then some (.inl (o_al 0 1)) else none))) else (bif Nat.ble pc 68 then (bif Nat.beq pc 68 then some (.inl (o_il 1 1)) else none) else (bif Nat.ble pc 69 then (bif Nat.beq pc 69 then some (.inl (o_pI 6 3)) else none) else (bif Nat.beq pc 72 then some (.inr (0, 0, 0, 3)) else none))))))
theorem k_62_0 : mOk M_62.1 M_62.2.1 M_62.2.2.1 M_62.2.2.2 0 (oS 1 (s_push (.int 0))) := ok_iconst dX6_removeLoneCorners_0 (by decide)
theorem k_62_1 : mOk M_62.1 M_62.2.1 M_62.2.2.1 M_62.2.2.2 1 (o_is 1 1) := ok_istore_n dX6_removeLoneCorners_1 rfl
theorem k_62_2 : mOk M_62.1 M_62.2.1 M_62.2.2.1 M_62.2.2.2 2 (oS 1 (s_push (.int 0))) := ok_iconst dX6_removeLoneCorners_2 (by decide)
theorem k_62_3 : mOk M_62.1 M_62.2.1 M_62.2.2.1 M_62.2.2.2 3 (o_is 2 1) := ok_istore_n dX6_removeLoneCorners_3 rfl
theorem k_62_4 : mOk M_62.1 M_62.2.1 M_62.2.2.1 M_62.2.2.2 4 (o_il 2 1) := ok_iload_n dX6_removeLoneCorners_4 rfl
theorem k_62_5 : mOk M_62.1 M_62.2.1 M_62.2.2.1 M_62.2.2.2 5 (o_al 0 1) := ok_aload_n dX6_removeLoneCorners_5 rfl
theorem k_62_6 : mOk M_62.1 M_62.2.1 M_62.2.2.1 M_62.2.2.2 6 (o_gI 6 3) := ok_gI dX6_removeLoneCorners_6 f_RX6_22 (Or.inl rfl)
theorem k_62_9 : mOk M_62.1 M_62.2.1 M_62.2.2.1 M_62.2.2.2 9 (o_cge 67) := ok_cge dX6_removeLoneCorners_9 (by decide)
theorem k_62_12 : mOk M_62.1 M_62.2.1 M_62.2.2.1 M_62.2.2.2 12 (o_il 2 1) := ok_iload_n dX6_removeLoneCorners_12 rfl
theorem k_62_13 : mOk M_62.1 M_62.2.1 M_62.2.2.1 M_62.2.2.2 13 (oS 1 (s_push (.int 1))) := ok_iconst dX6_removeLoneCorners_13 (by decide)
theorem k_62_14 : mOk M_62.1 M_62.2.1 M_62.2.2.1 M_62.2.2.2 14 (oS 1 (s_ii (fun a b => a + b))) := ok_iadd dX6_removeLoneCorners_14
theorem k_62_15 : mOk M_62.1 M_62.2.1 M_62.2.2.1 M_62.2.2.2 15 (o_al 0 1) := ok_aload_n dX6_removeLoneCorners_15 rfl
theorem k_62_16 : mOk M_62.1 M_62.2.1 M_62.2.2.1 M_62.2.2.2 16 (o_gI 6 3) := ok_gI dX6_removeLoneCorners_16 f_RX6_22 (Or.inl rfl)
theorem k_62_19 : mOk M_62.1 M_62.2.1 M_62.2.2.1 M_62.2.2.2 19 (o_ceq 33) := ok_ceq dX6_removeLoneCorners_19 (by decide)
theorem k_62_22 : mOk M_62.1 M_62.2.1 M_62.2.2.1 M_62.2.2.2 22 (o_al 0 1) := ok_aload_n dX6_removeLoneCorners_22 rfl
theorem k_62_23 : mOk M_62.1 M_62.2.1 M_62.2.2.1 M_62.2.2.2 23 (o_gP 6 2) := ok_gP dX6_removeLoneCorners_23 f_RX6_18 rfl
theorem k_62_26 : mOk M_62.1 M_62.2.1 M_62.2.2.1 M_62.2.2.2 26 (o_il 2 1) := ok_iload_n dX6_removeLoneCorners_26 rfl
theorem k_62_27 : mOk M_62.1 M_62.2.1 M_62.2.2.1 M_62.2.2.2 27 (oS 1 (s_push (.int 1))) := ok_iconst dX6_removeLoneCorners_27 (by decide)
theorem k_62_28 : mOk M_62.1 M_62.2.1 M_62.2.2.1 M_62.2.2.2 28 (oS 1 (s_ii (fun a b => a + b))) := ok_iadd dX6_removeLoneCorners_28
theorem k_62_29 : mOk M_62.1 M_62.2.1 M_62.2.2.1 M_62.2.2.2 29 (o_bald) := ok_bald dX6_removeLoneCorners_29
theorem k_62_30 : mOk M_62.1 M_62.2.1 M_62.2.2.1 M_62.2.2.2 30 (o_zeq 37) := ok_zeq dX6_removeLoneCorners_30 (by decide)
theorem k_62_33 : mOk M_62.1 M_62.2.1 M_62.2.2.1 M_62.2.2.2 33 (oS 1 (s_push (.int 1))) := ok_iconst dX6_removeLoneCorners_33 (by decide)
theorem k_62_34 : mOk M_62.1 M_62.2.1 M_62.2.2.1 M_62.2.2.2 34 (o_goto 38) := ok_goto dX6_removeLoneCorners_34 (by decide)
theorem k_62_37 : mOk M_62.1 M_62.2.1 M_62.2.2.1 M_62.2.2.2 37 (oS 1 (s_push (.int 0))) := ok_iconst dX6_removeLoneCorners_37 (by decide)
theorem k_62_38 : mOk M_62.1 M_62.2.1 M_62.2.2.1 M_62.2.2.2 38 (o_is 3 1) := ok_istore_n dX6_removeLoneCorners_38 rfl
theorem k_62_39 : mOk M_62.1 M_62.2.1 M_62.2.2.1 M_62.2.2.2 39 (o_al 0 1) := ok_aload_n dX6_removeLoneCorners_39 rfl
theorem k_62_40 : mOk M_62.1 M_62.2.1 M_62.2.2.1 M_62.2.2.2 40 (o_gP 6 2) := ok_gP dX6_removeLoneCorners_40 f_RX6_18 rfl
theorem k_62_43 : mOk M_62.1 M_62.2.1 M_62.2.2.1 M_62.2.2.2 43 (o_il 2 1) := ok_iload_n dX6_removeLoneCorners_43 rfl
theorem k_62_44 : mOk M_62.1 M_62.2.1 M_62.2.2.1 M_62.2.2.2 44 (o_bald) := ok_bald dX6_removeLoneCorners_44
theorem k_62_45 : mOk M_62.1 M_62.2.1 M_62.2.2.1 M_62.2.2.2 45 (o_zeq 52) := ok_zeq dX6_removeLoneCorners_45 (by decide)
theorem k_62_48 : mOk M_62.1 M_62.2.1 M_62.2.2.1 M_62.2.2.2 48 (o_il 3 1) := ok_iload_n dX6_removeLoneCorners_48 rfl
theorem k_62_49 : mOk M_62.1 M_62.2.1 M_62.2.2.1 M_62.2.2.2 49 (o_zne 61) := ok_zne dX6_removeLoneCorners_49 (by decide)
theorem k_62_52 : mOk M_62.1 M_62.2.1 M_62.2.2.1 M_62.2.2.2 52 (o_al 0 1) := ok_aload_n dX6_removeLoneCorners_52 rfl
theorem k_62_53 : mOk M_62.1 M_62.2.1 M_62.2.2.1 M_62.2.2.2 53 (o_il 2 1) := ok_iload_n dX6_removeLoneCorners_53 rfl
theorem k_62_54 : mOk M_62.1 M_62.2.1 M_62.2.2.1 M_62.2.2.2 54 (o_il 1 1) := ok_iload_n dX6_removeLoneCorners_54 rfl
theorem k_62_58 : mOk M_62.1 M_62.2.1 M_62.2.2.1 M_62.2.2.2 58 (o_inc 1 1) := ok_iinc dX6_removeLoneCorners_58 (by decide)
theorem k_62_61 : mOk M_62.1 M_62.2.1 M_62.2.2.1 M_62.2.2.2 61 (o_inc 2 1) := ok_iinc dX6_removeLoneCorners_61 (by decide)
theorem k_62_64 : mOk M_62.1 M_62.2.1 M_62.2.2.1 M_62.2.2.2 64 (o_goto 4) := ok_goto dX6_removeLoneCorners_64 (by decide)
theorem k_62_67 : mOk M_62.1 M_62.2.1 M_62.2.2.1 M_62.2.2.2 67 (o_al 0 1) := ok_aload_n dX6_removeLoneCorners_67 rfl
theorem k_62_68 : mOk M_62.1 M_62.2.1 M_62.2.2.1 M_62.2.2.2 68 (o_il 1 1) := ok_iload_n dX6_removeLoneCorners_68 rfl
theorem k_62_69 : mOk M_62.1 M_62.2.1 M_62.2.2.1 M_62.2.2.2 69 (o_pI 6 3) := ok_pI dX6_removeLoneCorners_69 (mFw_of f_RX6_22_c (Or.inl rfl)) rfl
set_option maxRecDepth 20000 in
set_option maxHeartbeats 4000000 in
theorem tk_62 (l : Launch) (H9 : mThr l) (H10 : mSpl l) (pc : Nat) (q : mEnt) (h : tb_62 pc = some q) : EE l 62 pc q := nd h (fun h => nd h (fun h => nd h (fun h => nd h (fun h => nd h (fun h => lf (P := EE l 62) h k_62_0) (fun h => lf (P := EE l 62) h k_62_1)) (fun h => nd h (fun h => lf (P := EE l 62) h k_62_2) (fun h => nd h (fun h => lf (P := EE l 62) h k_62_3) (fun h => lf (P := EE l 62) h k_62_4)))) (fun h => nd h (fun h => nd h (fun h => lf (P := EE l 62) h k_62_5) (fun h => lf (P := EE l 62) h k_62_6)) (fun h => nd h (fun h => lf (P := EE l 62) h k_62_9) (fun h => nd h (fun h => lf (P := EE l 62) h k_62_12) (fun h => lf (P := EE l 62) h k_62_13))))) (fun h => nd h (fun h => nd h (fun h => nd h (fun h => lf (P := EE l 62) h k_62_14) (fun h => lf (P := EE l 62) h k_62_15)) (fun h => nd h (fun h => lf (P := EE l 62) h k_62_16) (fun h => nd h (fun h => lf (P := EE l 62) h k_62_19) (fun h => lf (P := EE l 62) h k_62_22)))) (fun h => nd h (fun h => nd h (fun h => lf (P := EE l 62) h k_62_23) (fun h => nd h (fun h => lf (P := EE l 62) h k_62_26) (fun h => lf (P := EE l 62) h k_62_27))) (fun h => nd h (fun h => lf (P := EE l 62) h k_62_28) (fun h => nd h (fun h => lf (P := EE l 62) h k_62_29) (fun h => lf (P := EE l 62) h k_62_30)))))) (fun h => nd h (fun h => nd h (fun h => nd h (fun h => nd h (fun h => lf (P := EE l 62) h k_62_33) (fun h => lf (P := EE l 62) h k_62_34)) (fun h => nd h (fun h => lf (P := EE l 62) h k_62_37) (fun h => nd h (fun h => lf (P := EE l 62) h k_62_38) (fun h => lf (P := EE l 62) h k_62_39)))) (fun h => nd h (fun h => nd h (fun h => lf (P := EE l 62) h k_62_40) (fun h => nd h (fun h => lf (P := EE l 62) h k_62_43) (fun h => lf (P := EE l 62) h k_62_44))) (fun h => nd h (fun h => lf (P := EE l 62) h k_62_45) (fun h => nd h (fun h => lf (P := EE l 62) h k_62_48) (fun h => lf (P := EE l 62) h k_62_49))))) (fun h => nd h (fun h => nd h (fun h => nd h (fun h => lf (P := EE l 62) h k_62_52) (fun h => lf (P := EE l 62) h k_62_53)) (fun h => nd h (fun h => lf (P := EE l 62) h k_62_54) (fun h => nd h (fun h => lf (P := EE l 62) h (EE_ca (by decide) (⟨m_759, m_75, ⟨by decide, by decide⟩, by decide +kernel, ⟨by decide, by decide⟩, 36, 2, by decide +kernel, Or.inr (Or.inr (Or.inl ⟨rfl, rfl, dX6_removeLoneCorners_55, m_772, m_757, _, rfl, by decide, m_758⟩))⟩) rfl)) (fun h => lf (P := EE l 62) h k_62_58)))) (fun h => nd h (fun h => nd h (fun h => lf (P := EE l 62) h k_62_61) (fun h => nd h (fun h => lf (P := EE l 62) h k_62_64) (fun h => lf (P := EE l 62) h k_62_67))) (fun h => nd h (fun h => lf (P := EE l 62) h k_62_68) (fun h => nd h (fun h => lf (P := EE l 62) h k_62_69) (fun h => lf (P := EE l 62) h (EE_re (Or.inr (Or.inr (Or.inr (Or.inr ⟨rfl, dX6_removeLoneCorners_72, rfl⟩)))))))))))
theorem dX6_pieces_0 : decode cX6_pieces 0 = .ok (.iconst 0, 1) := by decide +kernel
theorem dX6_pieces_1 : decode cX6_pieces 1 = .ok (.istore_n 1, 1) := by decide +kernel
theorem dX6_pieces_2 : decode cX6_pieces 2 = .ok (.iconst 0, 1) := by decide +kernel
theorem dX6_pieces_3 : decode cX6_pieces 3 = .ok (.istore_n 2, 1) := by decide +kernel
theorem dX6_pieces_4 : decode cX6_pieces 4 = .ok (.iload_n 2, 1) := by decide +kernel
theorem dX6_pieces_5 : decode cX6_pieces 5 = .ok (.aload_n 0, 1) := by decide +kernel
theorem dX6_pieces_6 : decode cX6_pieces 6 = .ok (.getfield 22, 3) := by decide +kernel
theorem dX6_pieces_9 : decode cX6_pieces 9 = .ok (.if_icmp .ge 21, 3) := by decide +kernel
theorem dX6_pieces_12 : decode cX6_pieces 12 = .ok (.aload_n 0, 1) := by decide +kernel
theorem dX6_pieces_13 : decode cX6_pieces 13 = .ok (.getfield 18, 3) := by decide +kernel
theorem dX6_pieces_16 : decode cX6_pieces 16 = .ok (.iload_n 2, 1) := by decide +kernel
theorem dX6_pieces_17 : decode cX6_pieces 17 = .ok (.baload, 1) := by decide +kernel
theorem dX6_pieces_18 : decode cX6_pieces 18 = .ok (.ifCond .eq 6, 3) := by decide +kernel
theorem dX6_pieces_21 : decode cX6_pieces 21 = .ok (.iinc 1 1, 3) := by decide +kernel
theorem dX6_pieces_24 : decode cX6_pieces 24 = .ok (.iinc 2 1, 3) := by decide +kernel
theorem dX6_pieces_27 : decode cX6_pieces 27 = .ok (.goto (-23), 3) := by decide +kernel
theorem dX6_pieces_30 : decode cX6_pieces 30 = .ok (.iload_n 1, 1) := by decide +kernel
theorem dX6_pieces_31 : decode cX6_pieces 31 = .ok (.ireturn, 1) := by decide +kernel
def tb_63 (pc : Nat) : Option mEnt := bif Nat.ble pc 12 then (bif Nat.ble pc 3 then (bif Nat.ble pc 1 then (bif Nat.ble pc 0 then (bif Nat.beq pc 0 then some (.inl (oS 1 (s_push (.int 0)))) else none) else (bif Nat.beq pc 1 then some (.inl (o_is 1 1)) else none)) else (bif Nat.ble pc 2 then (bif Nat.beq pc 2 then some (.inl (oS 1 (s_push (.int 0)))) else none) else (bif Nat.beq pc 3 then some (.inl (o_is 2 1)) else none))) else (bif Nat.ble pc 5 then (bif Nat.ble pc 4 then (bif Nat.beq pc 4 then some (.inl (o_il 2 1)) else none) else (bif Nat.beq pc 5 then some (.inl (o_al 0 1)) else none)) else (bif Nat.ble pc 6 then (bif Nat.beq pc 6 then some (.inl (o_gI 6 3)) else none) else (bif Nat.ble pc 9 then (bif Nat.beq pc 9 then some (.inl (o_cge 30)) else none) else (bif Nat.beq pc 12 then some (.inl (o_al 0 1)) else none))))) else (bif Nat.ble pc 18 then (bif Nat.ble pc 16 then (bif Nat.ble pc 13 then (bif Nat.beq pc 13 then some (.inl (o_gP 6 2)) else none) else (bif Nat.beq pc 16 then some (.inl (o_il 2 1)) else none)) else (bif Nat.ble pc 17 then (bif Nat.beq pc 17 then some (.inl (o_bald)) else none) else (bif Nat.beq pc 18 then some (.inl (o_zeq 24)) else none))) else (bif Nat.ble pc 24 then (bif Nat.ble pc 21 then (bif Nat.beq pc 21 then some (.inl (o_inc 1 1)) else none) else (bif Nat.beq pc 24 then some (.inl (o_inc 2 1)) else none)) else (bif Nat.ble pc 27 then (bif Nat.beq pc 27 then some (.inl (o_goto 4)) else none) else (bif Nat.ble pc 30 then (bif Nat.beq pc 30 then some (.inl (o_il 1 1)) else none) else (bif Nat.beq pc 31 then some (.inr (0, 0, 0, 0)) else none)))))
theorem k_63_0 : mOk M_63.1 M_63.2.1 M_63.2.2.1 M_63.2.2.2 0 (oS 1 (s_push (.int 0))) := ok_iconst dX6_pieces_0 (by decide)
theorem k_63_1 : mOk M_63.1 M_63.2.1 M_63.2.2.1 M_63.2.2.2 1 (o_is 1 1) := ok_istore_n dX6_pieces_1 rfl
theorem k_63_2 : mOk M_63.1 M_63.2.1 M_63.2.2.1 M_63.2.2.2 2 (oS 1 (s_push (.int 0))) := ok_iconst dX6_pieces_2 (by decide)
theorem k_63_3 : mOk M_63.1 M_63.2.1 M_63.2.2.1 M_63.2.2.2 3 (o_is 2 1) := ok_istore_n dX6_pieces_3 rfl
theorem k_63_4 : mOk M_63.1 M_63.2.1 M_63.2.2.1 M_63.2.2.2 4 (o_il 2 1) := ok_iload_n dX6_pieces_4 rfl
theorem k_63_5 : mOk M_63.1 M_63.2.1 M_63.2.2.1 M_63.2.2.2 5 (o_al 0 1) := ok_aload_n dX6_pieces_5 rfl
theorem k_63_6 : mOk M_63.1 M_63.2.1 M_63.2.2.1 M_63.2.2.2 6 (o_gI 6 3) := ok_gI dX6_pieces_6 f_RX6_22 (Or.inl rfl)
theorem k_63_9 : mOk M_63.1 M_63.2.1 M_63.2.2.1 M_63.2.2.2 9 (o_cge 30) := ok_cge dX6_pieces_9 (by decide)
theorem k_63_12 : mOk M_63.1 M_63.2.1 M_63.2.2.1 M_63.2.2.2 12 (o_al 0 1) := ok_aload_n dX6_pieces_12 rfl
theorem k_63_13 : mOk M_63.1 M_63.2.1 M_63.2.2.1 M_63.2.2.2 13 (o_gP 6 2) := ok_gP dX6_pieces_13 f_RX6_18 rfl
theorem k_63_16 : mOk M_63.1 M_63.2.1 M_63.2.2.1 M_63.2.2.2 16 (o_il 2 1) := ok_iload_n dX6_pieces_16 rfl
theorem k_63_17 : mOk M_63.1 M_63.2.1 M_63.2.2.1 M_63.2.2.2 17 (o_bald) := ok_bald dX6_pieces_17
theorem k_63_18 : mOk M_63.1 M_63.2.1 M_63.2.2.1 M_63.2.2.2 18 (o_zeq 24) := ok_zeq dX6_pieces_18 (by decide)
theorem k_63_21 : mOk M_63.1 M_63.2.1 M_63.2.2.1 M_63.2.2.2 21 (o_inc 1 1) := ok_iinc dX6_pieces_21 (by decide)
theorem k_63_24 : mOk M_63.1 M_63.2.1 M_63.2.2.1 M_63.2.2.2 24 (o_inc 2 1) := ok_iinc dX6_pieces_24 (by decide)
theorem k_63_27 : mOk M_63.1 M_63.2.1 M_63.2.2.1 M_63.2.2.2 27 (o_goto 4) := ok_goto dX6_pieces_27 (by decide)
theorem k_63_30 : mOk M_63.1 M_63.2.1 M_63.2.2.1 M_63.2.2.2 30 (o_il 1 1) := ok_iload_n dX6_pieces_30 rfl
set_option maxRecDepth 20000 in
set_option maxHeartbeats 4000000 in
theorem tk_63 (l : Launch) (H9 : mThr l) (H10 : mSpl l) (pc : Nat) (q : mEnt) (h : tb_63 pc = some q) : EE l 63 pc q := nd h (fun h => nd h (fun h => nd h (fun h => nd h (fun h => lf (P := EE l 63) h k_63_0) (fun h => lf (P := EE l 63) h k_63_1)) (fun h => nd h (fun h => lf (P := EE l 63) h k_63_2) (fun h => lf (P := EE l 63) h k_63_3))) (fun h => nd h (fun h => nd h (fun h => lf (P := EE l 63) h k_63_4) (fun h => lf (P := EE l 63) h k_63_5)) (fun h => nd h (fun h => lf (P := EE l 63) h k_63_6) (fun h => nd h (fun h => lf (P := EE l 63) h k_63_9) (fun h => lf (P := EE l 63) h k_63_12))))) (fun h => nd h (fun h => nd h (fun h => nd h (fun h => lf (P := EE l 63) h k_63_13) (fun h => lf (P := EE l 63) h k_63_16)) (fun h => nd h (fun h => lf (P := EE l 63) h k_63_17) (fun h => lf (P := EE l 63) h k_63_18))) (fun h => nd h (fun h => nd h (fun h => lf (P := EE l 63) h k_63_21) (fun h => lf (P := EE l 63) h k_63_24)) (fun h => nd h (fun h => lf (P := EE l 63) h k_63_27) (fun h => nd h (fun h => lf (P := EE l 63) h k_63_30) (fun h => lf (P := EE l 63) h (EE_re (Or.inl ⟨rfl, dX6_pieces_31, rfl⟩)))))))
theorem dX6_pieceSize_0 : decode cX6_pieceSize 0 = .ok (.iconst 1, 1) := by decide +kernel
theorem dX6_pieceSize_1 : decode cX6_pieceSize 1 = .ok (.istore_n 2, 1) := by decide +kernel
theorem dX6_pieceSize_2 : decode cX6_pieceSize 2 = .ok (.iload_n 1, 1) := by decide +kernel
theorem dX6_pieceSize_3 : decode cX6_pieceSize 3 = .ok (.iconst 1, 1) := by decide +kernel
theorem dX6_pieceSize_4 : decode cX6_pieceSize 4 = .ok (.iadd, 1) := by decide +kernel
theorem dX6_pieceSize_5 : decode cX6_pieceSize 5 = .ok (.istore_n 3, 1) := by decide +kernel
theorem dX6_pieceSize_6 : decode cX6_pieceSize 6 = .ok (.iload_n 3, 1) := by decide +kernel
theorem dX6_pieceSize_7 : decode cX6_pieceSize 7 = .ok (.aload_n 0, 1) := by decide +kernel
theorem dX6_pieceSize_8 : decode cX6_pieceSize 8 = .ok (.getfield 22, 3) := by decide +kernel
theorem dX6_pieceSize_11 : decode cX6_pieceSize 11 = .ok (.if_icmp .ge 21, 3) := by decide +kernel
theorem dX6_pieceSize_14 : decode cX6_pieceSize 14 = .ok (.aload_n 0, 1) := by decide +kernel
theorem dX6_pieceSize_15 : decode cX6_pieceSize 15 = .ok (.getfield 18, 3) := by decide +kernel
theorem dX6_pieceSize_18 : decode cX6_pieceSize 18 = .ok (.iload_n 3, 1) := by decide +kernel
theorem dX6_pieceSize_19 : decode cX6_pieceSize 19 = .ok (.baload, 1) := by decide +kernel
theorem dX6_pieceSize_20 : decode cX6_pieceSize 20 = .ok (.ifCond .ne 12, 3) := by decide +kernel
theorem dX6_pieceSize_23 : decode cX6_pieceSize 23 = .ok (.iinc 2 1, 3) := by decide +kernel
theorem dX6_pieceSize_26 : decode cX6_pieceSize 26 = .ok (.iinc 3 1, 3) := by decide +kernel
theorem dX6_pieceSize_29 : decode cX6_pieceSize 29 = .ok (.goto (-23), 3) := by decide +kernel
theorem dX6_pieceSize_32 : decode cX6_pieceSize 32 = .ok (.iload_n 2, 1) := by decide +kernel
theorem dX6_pieceSize_33 : decode cX6_pieceSize 33 = .ok (.ireturn, 1) := by decide +kernel
def tb_64 (pc : Nat) : Option mEnt := bif Nat.ble pc 11 then (bif Nat.ble pc 4 then (bif Nat.ble pc 1 then (bif Nat.ble pc 0 then (bif Nat.beq pc 0 then some (.inl (oS 1 (s_push (.int 1)))) else none) else (bif Nat.beq pc 1 then some (.inl (o_is 2 1)) else none)) else (bif Nat.ble pc 2 then (bif Nat.beq pc 2 then some (.inl (o_il 1 1)) else none) else (bif Nat.ble pc 3 then (bif Nat.beq pc 3 then some (.inl (oS 1 (s_push (.int 1)))) else none) else (bif Nat.beq pc 4 then some (.inl (oS 1 (s_ii (fun a b => a + b)))) else none)))) else (bif Nat.ble pc 6 then (bif Nat.ble pc 5 then (bif Nat.beq pc 5 then some (.inl (o_is 3 1)) else none) else (bif Nat.beq pc 6 then some (.inl (o_il 3 1)) else none)) else (bif Nat.ble pc 7 then (bif Nat.beq pc 7 then some (.inl (o_al 0 1)) else none) else (bif Nat.ble pc 8 then (bif Nat.beq pc 8 then some (.inl (o_gI 6 3)) else none) else (bif Nat.beq pc 11 then some (.inl (o_cge 32)) else none))))) else (bif Nat.ble pc 20 then (bif Nat.ble pc 15 then (bif Nat.ble pc 14 then (bif Nat.beq pc 14 then some (.inl (o_al 0 1)) else none) else (bif Nat.beq pc 15 then some (.inl (o_gP 6 2)) else none)) else (bif Nat.ble pc 18 then (bif Nat.beq pc 18 then some (.inl (o_il 3 1)) else none) else (bif Nat.ble pc 19 then (bif Nat.beq pc 19 then some (.inl (o_bald)) else none) else (bif Nat.beq pc 20 then some (.inl (o_zne 32)) else none)))) else (bif Nat.ble pc 26 then (bif Nat.ble pc 23 then (bif Nat.beq pc 23 then some (.inl (o_inc 2 1)) else none) else (bif Nat.beq pc 26 then some (.inl (o_inc 3 1)) else none)) else (bif Nat.ble pc 29 then (bif Nat.beq pc 29 then some (.inl (o_goto 6)) else none) else (bif Nat.ble pc 32 then (bif Nat.beq pc 32 then some (.inl (o_il 2 1)) else none) else (bif Nat.beq pc 33 then some (.inr (0, 0, 0, 0)) else none)))))
theorem k_64_0 : mOk M_64.1 M_64.2.1 M_64.2.2.1 M_64.2.2.2 0 (oS 1 (s_push (.int 1))) := ok_iconst dX6_pieceSize_0 (by decide)
theorem k_64_1 : mOk M_64.1 M_64.2.1 M_64.2.2.1 M_64.2.2.2 1 (o_is 2 1) := ok_istore_n dX6_pieceSize_1 rfl
theorem k_64_2 : mOk M_64.1 M_64.2.1 M_64.2.2.1 M_64.2.2.2 2 (o_il 1 1) := ok_iload_n dX6_pieceSize_2 rfl
theorem k_64_3 : mOk M_64.1 M_64.2.1 M_64.2.2.1 M_64.2.2.2 3 (oS 1 (s_push (.int 1))) := ok_iconst dX6_pieceSize_3 (by decide)
theorem k_64_4 : mOk M_64.1 M_64.2.1 M_64.2.2.1 M_64.2.2.2 4 (oS 1 (s_ii (fun a b => a + b))) := ok_iadd dX6_pieceSize_4
theorem k_64_5 : mOk M_64.1 M_64.2.1 M_64.2.2.1 M_64.2.2.2 5 (o_is 3 1) := ok_istore_n dX6_pieceSize_5 rfl
theorem k_64_6 : mOk M_64.1 M_64.2.1 M_64.2.2.1 M_64.2.2.2 6 (o_il 3 1) := ok_iload_n dX6_pieceSize_6 rfl
theorem k_64_7 : mOk M_64.1 M_64.2.1 M_64.2.2.1 M_64.2.2.2 7 (o_al 0 1) := ok_aload_n dX6_pieceSize_7 rfl
theorem k_64_8 : mOk M_64.1 M_64.2.1 M_64.2.2.1 M_64.2.2.2 8 (o_gI 6 3) := ok_gI dX6_pieceSize_8 f_RX6_22 (Or.inl rfl)
theorem k_64_11 : mOk M_64.1 M_64.2.1 M_64.2.2.1 M_64.2.2.2 11 (o_cge 32) := ok_cge dX6_pieceSize_11 (by decide)
theorem k_64_14 : mOk M_64.1 M_64.2.1 M_64.2.2.1 M_64.2.2.2 14 (o_al 0 1) := ok_aload_n dX6_pieceSize_14 rfl
theorem k_64_15 : mOk M_64.1 M_64.2.1 M_64.2.2.1 M_64.2.2.2 15 (o_gP 6 2) := ok_gP dX6_pieceSize_15 f_RX6_18 rfl
theorem k_64_18 : mOk M_64.1 M_64.2.1 M_64.2.2.1 M_64.2.2.2 18 (o_il 3 1) := ok_iload_n dX6_pieceSize_18 rfl
theorem k_64_19 : mOk M_64.1 M_64.2.1 M_64.2.2.1 M_64.2.2.2 19 (o_bald) := ok_bald dX6_pieceSize_19
theorem k_64_20 : mOk M_64.1 M_64.2.1 M_64.2.2.1 M_64.2.2.2 20 (o_zne 32) := ok_zne dX6_pieceSize_20 (by decide)
theorem k_64_23 : mOk M_64.1 M_64.2.1 M_64.2.2.1 M_64.2.2.2 23 (o_inc 2 1) := ok_iinc dX6_pieceSize_23 (by decide)
theorem k_64_26 : mOk M_64.1 M_64.2.1 M_64.2.2.1 M_64.2.2.2 26 (o_inc 3 1) := ok_iinc dX6_pieceSize_26 (by decide)
theorem k_64_29 : mOk M_64.1 M_64.2.1 M_64.2.2.1 M_64.2.2.2 29 (o_goto 6) := ok_goto dX6_pieceSize_29 (by decide)
theorem k_64_32 : mOk M_64.1 M_64.2.1 M_64.2.2.1 M_64.2.2.2 32 (o_il 2 1) := ok_iload_n dX6_pieceSize_32 rfl
set_option maxRecDepth 20000 in
set_option maxHeartbeats 4000000 in
theorem tk_64 (l : Launch) (H9 : mThr l) (H10 : mSpl l) (pc : Nat) (q : mEnt) (h : tb_64 pc = some q) : EE l 64 pc q := nd h (fun h => nd h (fun h => nd h (fun h => nd h (fun h => lf (P := EE l 64) h k_64_0) (fun h => lf (P := EE l 64) h k_64_1)) (fun h => nd h (fun h => lf (P := EE l 64) h k_64_2) (fun h => nd h (fun h => lf (P := EE l 64) h k_64_3) (fun h => lf (P := EE l 64) h k_64_4)))) (fun h => nd h (fun h => nd h (fun h => lf (P := EE l 64) h k_64_5) (fun h => lf (P := EE l 64) h k_64_6)) (fun h => nd h (fun h => lf (P := EE l 64) h k_64_7) (fun h => nd h (fun h => lf (P := EE l 64) h k_64_8) (fun h => lf (P := EE l 64) h k_64_11))))) (fun h => nd h (fun h => nd h (fun h => nd h (fun h => lf (P := EE l 64) h k_64_14) (fun h => lf (P := EE l 64) h k_64_15)) (fun h => nd h (fun h => lf (P := EE l 64) h k_64_18) (fun h => nd h (fun h => lf (P := EE l 64) h k_64_19) (fun h => lf (P := EE l 64) h k_64_20)))) (fun h => nd h (fun h => nd h (fun h => lf (P := EE l 64) h k_64_23) (fun h => lf (P := EE l 64) h k_64_26)) (fun h => nd h (fun h => lf (P := EE l 64) h k_64_29) (fun h => nd h (fun h => lf (P := EE l 64) h k_64_32) (fun h => lf (P := EE l 64) h (EE_re (Or.inl ⟨rfl, dX6_pieceSize_33, rfl⟩)))))))
theorem dX6_measure_0 : decode cX6_measure 0 = .ok (.aload_n 0, 1) := by decide +kernel
theorem dX6_measure_1 : decode cX6_measure 1 = .ok (.sipush 4096, 3) := by decide +kernel
theorem dX6_measure_4 : decode cX6_measure 4 = .ok (.putfield 40, 3) := by decide +kernel
theorem dX6_measure_7 : decode cX6_measure 7 = .ok (.aload_n 0, 1) := by decide +kernel
theorem dX6_measure_8 : decode cX6_measure 8 = .ok (.sipush 4096, 3) := by decide +kernel
theorem dX6_measure_11 : decode cX6_measure 11 = .ok (.putfield 43, 3) := by decide +kernel
theorem dX6_measure_14 : decode cX6_measure 14 = .ok (.aload_n 0, 1) := by decide +kernel
theorem dX6_measure_15 : decode cX6_measure 15 = .ok (.iconst 0, 1) := by decide +kernel
theorem dX6_measure_16 : decode cX6_measure 16 = .ok (.putfield 46, 3) := by decide +kernel
theorem dX6_measure_19 : decode cX6_measure 19 = .ok (.aload_n 0, 1) := by decide +kernel
theorem dX6_measure_20 : decode cX6_measure 20 = .ok (.iconst 0, 1) := by decide +kernel
theorem dX6_measure_21 : decode cX6_measure 21 = .ok (.putfield 49, 3) := by decide +kernel
theorem dX6_measure_24 : decode cX6_measure 24 = .ok (.iconst 0, 1) := by decide +kernel
theorem dX6_measure_25 : decode cX6_measure 25 = .ok (.istore_n 1, 1) := by decide +kernel
theorem dX6_measure_26 : decode cX6_measure 26 = .ok (.iload_n 1, 1) := by decide +kernel
theorem dX6_measure_27 : decode cX6_measure 27 = .ok (.aload_n 0, 1) := by decide +kernel
theorem dX6_measure_28 : decode cX6_measure 28 = .ok (.getfield 22, 3) := by decide +kernel
theorem dX6_measure_31 : decode cX6_measure 31 = .ok (.if_icmp .ge 77, 3) := by decide +kernel
theorem dX6_measure_34 : decode cX6_measure 34 = .ok (.aload_n 0, 1) := by decide +kernel
theorem dX6_measure_35 : decode cX6_measure 35 = .ok (.aload_n 0, 1) := by decide +kernel
theorem dX6_measure_36 : decode cX6_measure 36 = .ok (.getfield 40, 3) := by decide +kernel
theorem dX6_measure_39 : decode cX6_measure 39 = .ok (.aload_n 0, 1) := by decide +kernel
theorem dX6_measure_40 : decode cX6_measure 40 = .ok (.getfield 9, 3) := by decide +kernel
theorem dX6_measure_43 : decode cX6_measure 43 = .ok (.iload_n 1, 1) := by decide +kernel
theorem dX6_measure_44 : decode cX6_measure 44 = .ok (.iaload, 1) := by decide +kernel
theorem dX6_measure_45 : decode cX6_measure 45 = .ok (.invokestatic 52, 3) := by decide +kernel
theorem dX6_measure_48 : decode cX6_measure 48 = .ok (.putfield 40, 3) := by decide +kernel
theorem dX6_measure_51 : decode cX6_measure 51 = .ok (.aload_n 0, 1) := by decide +kernel
theorem dX6_measure_52 : decode cX6_measure 52 = .ok (.aload_n 0, 1) := by decide +kernel
theorem dX6_measure_53 : decode cX6_measure 53 = .ok (.getfield 46, 3) := by decide +kernel
theorem dX6_measure_56 : decode cX6_measure 56 = .ok (.aload_n 0, 1) := by decide +kernel
theorem dX6_measure_57 : decode cX6_measure 57 = .ok (.getfield 9, 3) := by decide +kernel
theorem dX6_measure_60 : decode cX6_measure 60 = .ok (.iload_n 1, 1) := by decide +kernel
theorem dX6_measure_61 : decode cX6_measure 61 = .ok (.iaload, 1) := by decide +kernel
theorem dX6_measure_62 : decode cX6_measure 62 = .ok (.invokestatic 58, 3) := by decide +kernel
theorem dX6_measure_65 : decode cX6_measure 65 = .ok (.putfield 46, 3) := by decide +kernel
theorem dX6_measure_68 : decode cX6_measure 68 = .ok (.aload_n 0, 1) := by decide +kernel
theorem dX6_measure_69 : decode cX6_measure 69 = .ok (.aload_n 0, 1) := by decide +kernel
theorem dX6_measure_70 : decode cX6_measure 70 = .ok (.getfield 43, 3) := by decide +kernel
theorem dX6_measure_73 : decode cX6_measure 73 = .ok (.aload_n 0, 1) := by decide +kernel
theorem dX6_measure_74 : decode cX6_measure 74 = .ok (.getfield 15, 3) := by decide +kernel
theorem dX6_measure_77 : decode cX6_measure 77 = .ok (.iload_n 1, 1) := by decide +kernel
theorem dX6_measure_78 : decode cX6_measure 78 = .ok (.iaload, 1) := by decide +kernel
theorem dX6_measure_79 : decode cX6_measure 79 = .ok (.invokestatic 52, 3) := by decide +kernel
theorem dX6_measure_82 : decode cX6_measure 82 = .ok (.putfield 43, 3) := by decide +kernel
theorem dX6_measure_85 : decode cX6_measure 85 = .ok (.aload_n 0, 1) := by decide +kernel
theorem dX6_measure_86 : decode cX6_measure 86 = .ok (.aload_n 0, 1) := by decide +kernel
theorem dX6_measure_87 : decode cX6_measure 87 = .ok (.getfield 49, 3) := by decide +kernel
theorem dX6_measure_90 : decode cX6_measure 90 = .ok (.aload_n 0, 1) := by decide +kernel
theorem dX6_measure_91 : decode cX6_measure 91 = .ok (.getfield 15, 3) := by decide +kernel
theorem dX6_measure_94 : decode cX6_measure 94 = .ok (.iload_n 1, 1) := by decide +kernel
theorem dX6_measure_95 : decode cX6_measure 95 = .ok (.iaload, 1) := by decide +kernel
theorem dX6_measure_96 : decode cX6_measure 96 = .ok (.invokestatic 58, 3) := by decide +kernel
theorem dX6_measure_99 : decode cX6_measure 99 = .ok (.putfield 49, 3) := by decide +kernel
theorem dX6_measure_102 : decode cX6_measure 102 = .ok (.iinc 1 1, 3) := by decide +kernel
theorem dX6_measure_105 : decode cX6_measure 105 = .ok (.goto (-79), 3) := by decide +kernel
theorem dX6_measure_108 : decode cX6_measure 108 = .ok (.return_, 1) := by decide +kernel
def tb_65 (pc : Nat) : Option mEnt := bif Nat.ble pc 51 then (bif Nat.ble pc 25 then (bif Nat.ble pc 14 then (bif Nat.ble pc 4 then (bif Nat.ble pc 0 then (bif Nat.beq pc 0 then some (.inl (o_al 0 1)) else none) else (bif Nat.ble pc 1 then (bif Nat.beq pc 1 then some (.inl (oS 3 (s_push (.int 4096)))) else none) else (bif Nat.beq pc 4 then some (.inl (o_pI 6 4)) else none))) else (bif Nat.ble pc 8 then (bif Nat.ble pc 7 then (bif Nat.beq pc 7 then some (.inl (o_al 0 1)) else none) else (bif Nat.beq pc 8 then some (.inl (oS 3 (s_push (.int 4096)))) else none)) else (bif Nat.ble pc 11 then (bif Nat.beq pc 11 then some (.inl (o_pI 6 6)) else none) else (bif Nat.beq pc 14 then some (.inl (o_al 0 1)) else none)))) else (bif Nat.ble pc 19 then (bif Nat.ble pc 15 then (bif Nat.beq pc 15 then some (.inl (oS 1 (s_push (.int 0)))) else none) else (bif Nat.ble pc 16 then (bif Nat.beq pc 16 then some (.inl (o_pI 6 5)) else none) else (bif Nat.beq pc 19 then some (.inl (o_al 0 1)) else none))) else (bif Nat.ble pc 21 then (bif Nat.ble pc 20 then (bif Nat.beq pc 20 then some (.inl (oS 1 (s_push (.int 0)))) else none) else (bif Nat.beq pc 21 then some (.inl (o_pI 6 7)) else none)) else (bif Nat.ble pc 24 then (bif Nat.beq pc 24 then some (.inl (oS 1 (s_push (.int 0)))) else none) else (bif Nat.beq pc 25 then some (.inl (o_is 1 1)) else none))))) else (bif Nat.ble pc 36 then (bif Nat.ble pc 28 then (bif Nat.ble pc 26 then (bif Nat.beq pc 26 then some (.inl (o_il 1 1)) else none) else (bif Nat.ble pc 27 then (bif Nat.beq pc 27 then some (.inl (o_al 0 1)) else none) else (bif Nat.beq pc 28 then some (.inl (o_gI 6 3)) else none))) else (bif Nat.ble pc 34 then (bif Nat.ble pc 31 then (bif Nat.beq pc 31 then some (.inl (o_cge 108)) else none) else (bif Nat.beq pc 34 then some (.inl (o_al 0 1)) else none)) else (bif Nat.ble pc 35 then (bif Nat.beq pc 35 then some (.inl (o_al 0 1)) else none) else (bif Nat.beq pc 36 then some (.inl (o_gI 6 4)) else none)))) else (bif Nat.ble pc 43 then (bif Nat.ble pc 39 then (bif Nat.beq pc 39 then some (.inl (o_al 0 1)) else none) else (bif Nat.ble pc 40 then (bif Nat.beq pc 40 then some (.inl (o_gP 6 0)) else none) else (bif Nat.beq pc 43 then some (.inl (o_il 1 1)) else none))) else (bif Nat.ble pc 45 then (bif Nat.ble pc 44 then (bif Nat.beq pc 44 then some (.inl (o_iald)) else none) else (bif Nat.beq pc 45 then some (.inr (2, 184, 2, 0)) else none)) else (bif Nat.ble pc 48 then (bif Nat.beq pc 48 then some (.inl (o_pI 6 4)) else none) else (bif Nat.beq pc 51 then some (.inl (o_al 0 1)) else none)))))) else (bif Nat.ble pc 77 then (bif Nat.ble pc 62 then (bif Nat.ble pc 56 then (bif Nat.ble pc 52 then (bif Nat.beq pc 52 then some (.inl (o_al 0 1)) else none) else (bif Nat.ble pc 53 then (bif Nat.beq pc 53 then some (.inl (o_gI 6 5)) else none) else (bif Nat.beq pc 56 then some (.inl (o_al 0 1)) else none))) else (bif Nat.ble pc 60 then (bif Nat.ble pc 57 then (bif Nat.beq pc 57 then some (.inl (o_gP 6 0)) else none) else (bif Nat.beq pc 60 then some (.inl (o_il 1 1)) else none)) else (bif Nat.ble pc 61 then (bif Nat.beq pc 61 then some (.inl (o_iald)) else none) else (bif Nat.beq pc 62 then some (.inr (2, 183, 2, 0)) else none)))) else (bif Nat.ble pc 69 then (bif Nat.ble pc 65 then (bif Nat.beq pc 65 then some (.inl (o_pI 6 5)) else none) else (bif Nat.ble pc 68 then (bif Nat.beq pc 68 then some (.inl (o_al 0 1)) else none) else (bif Nat.beq pc 69 then some (.inl (o_al 0 1)) else none))) else (bif Nat.ble pc 73 then (bif Nat.ble pc 70 then (bif Nat.beq pc 70 then some (.inl (o_gI 6 6)) else none) else (bif Nat.beq pc 73 then some (.inl (o_al 0 1)) else none)) else (bif Nat.ble pc 74 then (bif Nat.beq pc 74 then some (.inl (o_gP 6 1)) else none) else (bif Nat.beq pc 77 then some (.inl (o_il 1 1)) else none))))) else (bif Nat.ble pc 90 then (bif Nat.ble pc 82 then (bif Nat.ble pc 78 then (bif Nat.beq pc 78 then some (.inl (o_iald)) else none) else (bif Nat.ble pc 79 then (bif Nat.beq pc 79 then some (.inr (2, 184, 2, 0)) else none) else (bif Nat.beq pc 82 then some (.inl (o_pI 6 6)) else none))) else (bif Nat.ble pc 86 then (bif Nat.ble pc 85 then (bif Nat.beq pc 85 then some (.inl (o_al 0 1)) else none) else (bif Nat.beq pc 86 then some (.inl (o_al 0 1)) else none)) else (bif Nat.ble pc 87 then (bif Nat.beq pc 87 then some (.inl (o_gI 6 7)) else none) else (bif Nat.beq pc 90 then some (.inl (o_al 0 1)) else none)))) else (bif Nat.ble pc 96 then (bif Nat.ble pc 94 then (bif Nat.ble pc 91 then (bif Nat.beq pc 91 then some (.inl (o_gP 6 1)) else none) else (bif Nat.beq pc 94 then some (.inl (o_il 1 1)) else none)) else (bif Nat.ble pc 95 then (bif Nat.beq pc 95 then some (.inl (o_iald)) else none) else (bif Nat.beq pc 96 then some (.inr (2, 183, 2, 0)) else none))) else (bif Nat.ble pc 102 then (bif Nat.ble pc 99 then (bif Nat.beq pc 99 then some (.inl (o_pI 6 7)) else none) else (bif Nat.beq pc 102 then some (.inl (o_inc 1 1)) else none)) else (bif Nat.ble pc 105 then (bif Nat.beq pc 105 then some (.inl (o_goto 26)) else none) else (bif Nat.beq pc 108 then some (.inr (0, 0, 0, 3)) else none))))))
theorem k_65_0 : mOk M_65.1 M_65.2.1 M_65.2.2.1 M_65.2.2.2 0 (o_al 0 1) := ok_aload_n dX6_measure_0 rfl
theorem k_65_1 : mOk M_65.1 M_65.2.1 M_65.2.2.1 M_65.2.2.2 1 (oS 3 (s_push (.int 4096))) := ok_sipush dX6_measure_1 (by decide)
theorem k_65_4 : mOk M_65.1 M_65.2.1 M_65.2.2.1 M_65.2.2.2 4 (o_pI 6 4) := ok_pI dX6_measure_4 (mFw_of f_RX6_40_c (Or.inl rfl)) rfl
theorem k_65_7 : mOk M_65.1 M_65.2.1 M_65.2.2.1 M_65.2.2.2 7 (o_al 0 1) := ok_aload_n dX6_measure_7 rfl
theorem k_65_8 : mOk M_65.1 M_65.2.1 M_65.2.2.1 M_65.2.2.2 8 (oS 3 (s_push (.int 4096))) := ok_sipush dX6_measure_8 (by decide)
theorem k_65_11 : mOk M_65.1 M_65.2.1 M_65.2.2.1 M_65.2.2.2 11 (o_pI 6 6) := ok_pI dX6_measure_11 (mFw_of f_RX6_43_c (Or.inl rfl)) rfl
theorem k_65_14 : mOk M_65.1 M_65.2.1 M_65.2.2.1 M_65.2.2.2 14 (o_al 0 1) := ok_aload_n dX6_measure_14 rfl
theorem k_65_15 : mOk M_65.1 M_65.2.1 M_65.2.2.1 M_65.2.2.2 15 (oS 1 (s_push (.int 0))) := ok_iconst dX6_measure_15 (by decide)
theorem k_65_16 : mOk M_65.1 M_65.2.1 M_65.2.2.1 M_65.2.2.2 16 (o_pI 6 5) := ok_pI dX6_measure_16 (mFw_of f_RX6_46_c (Or.inl rfl)) rfl
theorem k_65_19 : mOk M_65.1 M_65.2.1 M_65.2.2.1 M_65.2.2.2 19 (o_al 0 1) := ok_aload_n dX6_measure_19 rfl
theorem k_65_20 : mOk M_65.1 M_65.2.1 M_65.2.2.1 M_65.2.2.2 20 (oS 1 (s_push (.int 0))) := ok_iconst dX6_measure_20 (by decide)
theorem k_65_21 : mOk M_65.1 M_65.2.1 M_65.2.2.1 M_65.2.2.2 21 (o_pI 6 7) := ok_pI dX6_measure_21 (mFw_of f_RX6_49_c (Or.inl rfl)) rfl
theorem k_65_24 : mOk M_65.1 M_65.2.1 M_65.2.2.1 M_65.2.2.2 24 (oS 1 (s_push (.int 0))) := ok_iconst dX6_measure_24 (by decide)
theorem k_65_25 : mOk M_65.1 M_65.2.1 M_65.2.2.1 M_65.2.2.2 25 (o_is 1 1) := ok_istore_n dX6_measure_25 rfl
theorem k_65_26 : mOk M_65.1 M_65.2.1 M_65.2.2.1 M_65.2.2.2 26 (o_il 1 1) := ok_iload_n dX6_measure_26 rfl
theorem k_65_27 : mOk M_65.1 M_65.2.1 M_65.2.2.1 M_65.2.2.2 27 (o_al 0 1) := ok_aload_n dX6_measure_27 rfl
theorem k_65_28 : mOk M_65.1 M_65.2.1 M_65.2.2.1 M_65.2.2.2 28 (o_gI 6 3) := ok_gI dX6_measure_28 f_RX6_22 (Or.inl rfl)
theorem k_65_31 : mOk M_65.1 M_65.2.1 M_65.2.2.1 M_65.2.2.2 31 (o_cge 108) := ok_cge dX6_measure_31 (by decide)
theorem k_65_34 : mOk M_65.1 M_65.2.1 M_65.2.2.1 M_65.2.2.2 34 (o_al 0 1) := ok_aload_n dX6_measure_34 rfl
theorem k_65_35 : mOk M_65.1 M_65.2.1 M_65.2.2.1 M_65.2.2.2 35 (o_al 0 1) := ok_aload_n dX6_measure_35 rfl
theorem k_65_36 : mOk M_65.1 M_65.2.1 M_65.2.2.1 M_65.2.2.2 36 (o_gI 6 4) := ok_gI dX6_measure_36 f_RX6_40 (Or.inl rfl)
theorem k_65_39 : mOk M_65.1 M_65.2.1 M_65.2.2.1 M_65.2.2.2 39 (o_al 0 1) := ok_aload_n dX6_measure_39 rfl
theorem k_65_40 : mOk M_65.1 M_65.2.1 M_65.2.2.1 M_65.2.2.2 40 (o_gP 6 0) := ok_gP dX6_measure_40 f_RX6_9 rfl
theorem k_65_43 : mOk M_65.1 M_65.2.1 M_65.2.2.1 M_65.2.2.2 43 (o_il 1 1) := ok_iload_n dX6_measure_43 rfl
theorem k_65_44 : mOk M_65.1 M_65.2.1 M_65.2.2.1 M_65.2.2.2 44 (o_iald) := ok_iald dX6_measure_44
theorem k_65_48 : mOk M_65.1 M_65.2.1 M_65.2.2.1 M_65.2.2.2 48 (o_pI 6 4) := ok_pI dX6_measure_48 (mFw_of f_RX6_40_c (Or.inl rfl)) rfl
theorem k_65_51 : mOk M_65.1 M_65.2.1 M_65.2.2.1 M_65.2.2.2 51 (o_al 0 1) := ok_aload_n dX6_measure_51 rfl
theorem k_65_52 : mOk M_65.1 M_65.2.1 M_65.2.2.1 M_65.2.2.2 52 (o_al 0 1) := ok_aload_n dX6_measure_52 rfl
theorem k_65_53 : mOk M_65.1 M_65.2.1 M_65.2.2.1 M_65.2.2.2 53 (o_gI 6 5) := ok_gI dX6_measure_53 f_RX6_46 (Or.inl rfl)
theorem k_65_56 : mOk M_65.1 M_65.2.1 M_65.2.2.1 M_65.2.2.2 56 (o_al 0 1) := ok_aload_n dX6_measure_56 rfl
theorem k_65_57 : mOk M_65.1 M_65.2.1 M_65.2.2.1 M_65.2.2.2 57 (o_gP 6 0) := ok_gP dX6_measure_57 f_RX6_9 rfl
theorem k_65_60 : mOk M_65.1 M_65.2.1 M_65.2.2.1 M_65.2.2.2 60 (o_il 1 1) := ok_iload_n dX6_measure_60 rfl
theorem k_65_61 : mOk M_65.1 M_65.2.1 M_65.2.2.1 M_65.2.2.2 61 (o_iald) := ok_iald dX6_measure_61
theorem k_65_65 : mOk M_65.1 M_65.2.1 M_65.2.2.1 M_65.2.2.2 65 (o_pI 6 5) := ok_pI dX6_measure_65 (mFw_of f_RX6_46_c (Or.inl rfl)) rfl
theorem k_65_68 : mOk M_65.1 M_65.2.1 M_65.2.2.1 M_65.2.2.2 68 (o_al 0 1) := ok_aload_n dX6_measure_68 rfl
theorem k_65_69 : mOk M_65.1 M_65.2.1 M_65.2.2.1 M_65.2.2.2 69 (o_al 0 1) := ok_aload_n dX6_measure_69 rfl
theorem k_65_70 : mOk M_65.1 M_65.2.1 M_65.2.2.1 M_65.2.2.2 70 (o_gI 6 6) := ok_gI dX6_measure_70 f_RX6_43 (Or.inl rfl)
theorem k_65_73 : mOk M_65.1 M_65.2.1 M_65.2.2.1 M_65.2.2.2 73 (o_al 0 1) := ok_aload_n dX6_measure_73 rfl
theorem k_65_74 : mOk M_65.1 M_65.2.1 M_65.2.2.1 M_65.2.2.2 74 (o_gP 6 1) := ok_gP dX6_measure_74 f_RX6_15 rfl
theorem k_65_77 : mOk M_65.1 M_65.2.1 M_65.2.2.1 M_65.2.2.2 77 (o_il 1 1) := ok_iload_n dX6_measure_77 rfl
theorem k_65_78 : mOk M_65.1 M_65.2.1 M_65.2.2.1 M_65.2.2.2 78 (o_iald) := ok_iald dX6_measure_78
theorem k_65_82 : mOk M_65.1 M_65.2.1 M_65.2.2.1 M_65.2.2.2 82 (o_pI 6 6) := ok_pI dX6_measure_82 (mFw_of f_RX6_43_c (Or.inl rfl)) rfl
theorem k_65_85 : mOk M_65.1 M_65.2.1 M_65.2.2.1 M_65.2.2.2 85 (o_al 0 1) := ok_aload_n dX6_measure_85 rfl
theorem k_65_86 : mOk M_65.1 M_65.2.1 M_65.2.2.1 M_65.2.2.2 86 (o_al 0 1) := ok_aload_n dX6_measure_86 rfl
theorem k_65_87 : mOk M_65.1 M_65.2.1 M_65.2.2.1 M_65.2.2.2 87 (o_gI 6 7) := ok_gI dX6_measure_87 f_RX6_49 (Or.inl rfl)
theorem k_65_90 : mOk M_65.1 M_65.2.1 M_65.2.2.1 M_65.2.2.2 90 (o_al 0 1) := ok_aload_n dX6_measure_90 rfl
theorem k_65_91 : mOk M_65.1 M_65.2.1 M_65.2.2.1 M_65.2.2.2 91 (o_gP 6 1) := ok_gP dX6_measure_91 f_RX6_15 rfl
theorem k_65_94 : mOk M_65.1 M_65.2.1 M_65.2.2.1 M_65.2.2.2 94 (o_il 1 1) := ok_iload_n dX6_measure_94 rfl
theorem k_65_95 : mOk M_65.1 M_65.2.1 M_65.2.2.1 M_65.2.2.2 95 (o_iald) := ok_iald dX6_measure_95
theorem k_65_99 : mOk M_65.1 M_65.2.1 M_65.2.2.1 M_65.2.2.2 99 (o_pI 6 7) := ok_pI dX6_measure_99 (mFw_of f_RX6_49_c (Or.inl rfl)) rfl
theorem k_65_102 : mOk M_65.1 M_65.2.1 M_65.2.2.1 M_65.2.2.2 102 (o_inc 1 1) := ok_iinc dX6_measure_102 (by decide)
theorem k_65_105 : mOk M_65.1 M_65.2.1 M_65.2.2.1 M_65.2.2.2 105 (o_goto 26) := ok_goto dX6_measure_105 (by decide)
set_option maxRecDepth 20000 in
set_option maxHeartbeats 4000000 in
theorem tk_65 (l : Launch) (H9 : mThr l) (H10 : mSpl l) (pc : Nat) (q : mEnt) (h : tb_65 pc = some q) : EE l 65 pc q := nd h (fun h => nd h (fun h => nd h (fun h => nd h (fun h => nd h (fun h => lf (P := EE l 65) h k_65_0) (fun h => nd h (fun h => lf (P := EE l 65) h k_65_1) (fun h => lf (P := EE l 65) h k_65_4))) (fun h => nd h (fun h => nd h (fun h => lf (P := EE l 65) h k_65_7) (fun h => lf (P := EE l 65) h k_65_8)) (fun h => nd h (fun h => lf (P := EE l 65) h k_65_11) (fun h => lf (P := EE l 65) h k_65_14)))) (fun h => nd h (fun h => nd h (fun h => lf (P := EE l 65) h k_65_15) (fun h => nd h (fun h => lf (P := EE l 65) h k_65_16) (fun h => lf (P := EE l 65) h k_65_19))) (fun h => nd h (fun h => nd h (fun h => lf (P := EE l 65) h k_65_20) (fun h => lf (P := EE l 65) h k_65_21)) (fun h => nd h (fun h => lf (P := EE l 65) h k_65_24) (fun h => lf (P := EE l 65) h k_65_25))))) (fun h => nd h (fun h => nd h (fun h => nd h (fun h => lf (P := EE l 65) h k_65_26) (fun h => nd h (fun h => lf (P := EE l 65) h k_65_27) (fun h => lf (P := EE l 65) h k_65_28))) (fun h => nd h (fun h => nd h (fun h => lf (P := EE l 65) h k_65_31) (fun h => lf (P := EE l 65) h k_65_34)) (fun h => nd h (fun h => lf (P := EE l 65) h k_65_35) (fun h => lf (P := EE l 65) h k_65_36)))) (fun h => nd h (fun h => nd h (fun h => lf (P := EE l 65) h k_65_39) (fun h => nd h (fun h => lf (P := EE l 65) h k_65_40) (fun h => lf (P := EE l 65) h k_65_43))) (fun h => nd h (fun h => nd h (fun h => lf (P := EE l 65) h k_65_44) (fun h => lf (P := EE l 65) h (EE_ca (by decide) (⟨m_600, m_82, ⟨by decide, by decide⟩, by decide +kernel, ⟨by decide, by decide⟩, 52, 2, by decide +kernel, Or.inl ⟨rfl, rfl, dX6_measure_45, m_781, m_599⟩⟩) rfl))) (fun h => nd h (fun h => lf (P := EE l 65) h k_65_48) (fun h => lf (P := EE l 65) h k_65_51)))))) (fun h => nd h (fun h => nd h (fun h => nd h (fun h => nd h (fun h => lf (P := EE l 65) h k_65_52) (fun h => nd h (fun h => lf (P := EE l 65) h k_65_53) (fun h => lf (P := EE l 65) h k_65_56))) (fun h => nd h (fun h => nd h (fun h => lf (P := EE l 65) h k_65_57) (fun h => lf (P := EE l 65) h k_65_60)) (fun h => nd h (fun h => lf (P := EE l 65) h k_65_61) (fun h => lf (P := EE l 65) h (EE_ca (by decide) (⟨m_603, m_82, ⟨by decide, by decide⟩, by decide +kernel, ⟨by decide, by decide⟩, 58, 2, by decide +kernel, Or.inl ⟨rfl, rfl, dX6_measure_62, m_782, m_602⟩⟩) rfl))))) (fun h => nd h (fun h => nd h (fun h => lf (P := EE l 65) h k_65_65) (fun h => nd h (fun h => lf (P := EE l 65) h k_65_68) (fun h => lf (P := EE l 65) h k_65_69))) (fun h => nd h (fun h => nd h (fun h => lf (P := EE l 65) h k_65_70) (fun h => lf (P := EE l 65) h k_65_73)) (fun h => nd h (fun h => lf (P := EE l 65) h k_65_74) (fun h => lf (P := EE l 65) h k_65_77))))) (fun h => nd h (fun h => nd h (fun h => nd h (fun h => lf (P := EE l 65) h k_65_78) (fun h => nd h (fun h => lf (P := EE l 65) h (EE_ca (by decide) (⟨m_600, m_82, ⟨by decide, by decide⟩, by decide +kernel, ⟨by decide, by decide⟩, 52, 2, by decide +kernel, Or.inl ⟨rfl, rfl, dX6_measure_79, m_781, m_599⟩⟩) rfl)) (fun h => lf (P := EE l 65) h k_65_82))) (fun h => nd h (fun h => nd h (fun h => lf (P := EE l 65) h k_65_85) (fun h => lf (P := EE l 65) h k_65_86)) (fun h => nd h (fun h => lf (P := EE l 65) h k_65_87) (fun h => lf (P := EE l 65) h k_65_90)))) (fun h => nd h (fun h => nd h (fun h => nd h (fun h => lf (P := EE l 65) h k_65_91) (fun h => lf (P := EE l 65) h k_65_94)) (fun h => nd h (fun h => lf (P := EE l 65) h k_65_95) (fun h => lf (P := EE l 65) h (EE_ca (by decide) (⟨m_603, m_82, ⟨by decide, by decide⟩, by decide +kernel, ⟨by decide, by decide⟩, 58, 2, by decide +kernel, Or.inl ⟨rfl, rfl, dX6_measure_96, m_782, m_602⟩⟩) rfl)))) (fun h => nd h (fun h => nd h (fun h => lf (P := EE l 65) h k_65_99) (fun h => lf (P := EE l 65) h k_65_102)) (fun h => nd h (fun h => lf (P := EE l 65) h k_65_105) (fun h => lf (P := EE l 65) h (EE_re (Or.inr (Or.inr (Or.inr (Or.inr ⟨rfl, dX6_measure_108, rfl⟩)))))))))))
theorem dX6_misses_0 : decode cX6_misses 0 = .ok (.aload_n 0, 1) := by decide +kernel
theorem dX6_misses_1 : decode cX6_misses 1 = .ok (.getfield 46, 3) := by decide +kernel
theorem dX6_misses_4 : decode cX6_misses 4 = .ok (.iload_n 1, 1) := by decide +kernel
theorem dX6_misses_5 : decode cX6_misses 5 = .ok (.bipush 8, 2) := by decide +kernel
theorem dX6_misses_7 : decode cX6_misses 7 = .ok (.isub, 1) := by decide +kernel
theorem dX6_misses_8 : decode cX6_misses 8 = .ok (.if_icmp .lt 44, 3) := by decide +kernel
theorem dX6_misses_11 : decode cX6_misses 11 = .ok (.aload_n 0, 1) := by decide +kernel
theorem dX6_misses_12 : decode cX6_misses 12 = .ok (.getfield 40, 3) := by decide +kernel
theorem dX6_misses_15 : decode cX6_misses 15 = .ok (.iload_n 1, 1) := by decide +kernel
theorem dX6_misses_16 : decode cX6_misses 16 = .ok (.sipush 256, 3) := by decide +kernel
theorem dX6_misses_19 : decode cX6_misses 19 = .ok (.iadd, 1) := by decide +kernel
theorem dX6_misses_20 : decode cX6_misses 20 = .ok (.bipush 8, 2) := by decide +kernel
theorem dX6_misses_22 : decode cX6_misses 22 = .ok (.iadd, 1) := by decide +kernel
theorem dX6_misses_23 : decode cX6_misses 23 = .ok (.if_icmp .gt 29, 3) := by decide +kernel
theorem dX6_misses_26 : decode cX6_misses 26 = .ok (.aload_n 0, 1) := by decide +kernel
theorem dX6_misses_27 : decode cX6_misses 27 = .ok (.getfield 49, 3) := by decide +kernel
theorem dX6_misses_30 : decode cX6_misses 30 = .ok (.iload_n 2, 1) := by decide +kernel
theorem dX6_misses_31 : decode cX6_misses 31 = .ok (.bipush 8, 2) := by decide +kernel
theorem dX6_misses_33 : decode cX6_misses 33 = .ok (.isub, 1) := by decide +kernel
theorem dX6_misses_34 : decode cX6_misses 34 = .ok (.if_icmp .lt 18, 3) := by decide +kernel
theorem dX6_misses_37 : decode cX6_misses 37 = .ok (.aload_n 0, 1) := by decide +kernel
theorem dX6_misses_38 : decode cX6_misses 38 = .ok (.getfield 43, 3) := by decide +kernel
theorem dX6_misses_41 : decode cX6_misses 41 = .ok (.iload_n 2, 1) := by decide +kernel
theorem dX6_misses_42 : decode cX6_misses 42 = .ok (.sipush 256, 3) := by decide +kernel
theorem dX6_misses_45 : decode cX6_misses 45 = .ok (.iadd, 1) := by decide +kernel
theorem dX6_misses_46 : decode cX6_misses 46 = .ok (.bipush 8, 2) := by decide +kernel
theorem dX6_misses_48 : decode cX6_misses 48 = .ok (.iadd, 1) := by decide +kernel
theorem dX6_misses_49 : decode cX6_misses 49 = .ok (.if_icmp .le 7, 3) := by decide +kernel
theorem dX6_misses_52 : decode cX6_misses 52 = .ok (.iconst 1, 1) := by decide +kernel
theorem dX6_misses_53 : decode cX6_misses 53 = .ok (.goto 4, 3) := by decide +kernel
theorem dX6_misses_56 : decode cX6_misses 56 = .ok (.iconst 0, 1) := by decide +kernel
theorem dX6_misses_57 : decode cX6_misses 57 = .ok (.ireturn, 1) := by decide +kernel
def tb_66 (pc : Nat) : Option mEnt := bif Nat.ble pc 27 then (bif Nat.ble pc 12 then (bif Nat.ble pc 5 then (bif Nat.ble pc 1 then (bif Nat.ble pc 0 then (bif Nat.beq pc 0 then some (.inl (o_al 0 1)) else none) else (bif Nat.beq pc 1 then some (.inl (o_gI 6 5)) else none)) else (bif Nat.ble pc 4 then (bif Nat.beq pc 4 then some (.inl (o_il 1 1)) else none) else (bif Nat.beq pc 5 then some (.inl (oS 2 (s_push (.int 8)))) else none))) else (bif Nat.ble pc 8 then (bif Nat.ble pc 7 then (bif Nat.beq pc 7 then some (.inl (oS 1 (s_ii (fun a b => a - b)))) else none) else (bif Nat.beq pc 8 then some (.inl (o_clt 52)) else none)) else (bif Nat.ble pc 11 then (bif Nat.beq pc 11 then some (.inl (o_al 0 1)) else none) else (bif Nat.beq pc 12 then some (.inl (o_gI 6 4)) else none)))) else (bif Nat.ble pc 20 then (bif Nat.ble pc 16 then (bif Nat.ble pc 15 then (bif Nat.beq pc 15 then some (.inl (o_il 1 1)) else none) else (bif Nat.beq pc 16 then some (.inl (oS 3 (s_push (.int 256)))) else none)) else (bif Nat.ble pc 19 then (bif Nat.beq pc 19 then some (.inl (oS 1 (s_ii (fun a b => a + b)))) else none) else (bif Nat.beq pc 20 then some (.inl (oS 2 (s_push (.int 8)))) else none))) else (bif Nat.ble pc 23 then (bif Nat.ble pc 22 then (bif Nat.beq pc 22 then some (.inl (oS 1 (s_ii (fun a b => a + b)))) else none) else (bif Nat.beq pc 23 then some (.inl (o_cgt 52)) else none)) else (bif Nat.ble pc 26 then (bif Nat.beq pc 26 then some (.inl (o_al 0 1)) else none) else (bif Nat.beq pc 27 then some (.inl (o_gI 6 7)) else none))))) else (bif Nat.ble pc 42 then (bif Nat.ble pc 34 then (bif Nat.ble pc 31 then (bif Nat.ble pc 30 then (bif Nat.beq pc 30 then some (.inl (o_il 2 1)) else none) else (bif Nat.beq pc 31 then some (.inl (oS 2 (s_push (.int 8)))) else none)) else (bif Nat.ble pc 33 then (bif Nat.beq pc 33 then some (.inl (oS 1 (s_ii (fun a b => a - b)))) else none) else (bif Nat.beq pc 34 then some (.inl (o_clt 52)) else none))) else (bif Nat.ble pc 38 then (bif Nat.ble pc 37 then (bif Nat.beq pc 37 then some (.inl (o_al 0 1)) else none) else (bif Nat.beq pc 38 then some (.inl (o_gI 6 6)) else none)) else (bif Nat.ble pc 41 then (bif Nat.beq pc 41 then some (.inl (o_il 2 1)) else none) else (bif Nat.beq pc 42 then some (.inl (oS 3 (s_push (.int 256)))) else none)))) else (bif Nat.ble pc 49 then (bif Nat.ble pc 46 then (bif Nat.ble pc 45 then (bif Nat.beq pc 45 then some (.inl (oS 1 (s_ii (fun a b => a + b)))) else none) else (bif Nat.beq pc 46 then some (.inl (oS 2 (s_push (.int 8)))) else none)) else (bif Nat.ble pc 48 then (bif Nat.beq pc 48 then some (.inl (oS 1 (s_ii (fun a b => a + b)))) else none) else (bif Nat.beq pc 49 then some (.inl (o_cle 56)) else none))) else (bif Nat.ble pc 53 then (bif Nat.ble pc 52 then (bif Nat.beq pc 52 then some (.inl (oS 1 (s_push (.int 1)))) else none) else (bif Nat.beq pc 53 then some (.inl (o_goto 57)) else none)) else (bif Nat.ble pc 56 then (bif Nat.beq pc 56 then some (.inl (oS 1 (s_push (.int 0)))) else none) else (bif Nat.beq pc 57 then some (.inr (0, 0, 0, 4)) else none)))))
theorem k_66_0 : mOk M_66.1 M_66.2.1 M_66.2.2.1 M_66.2.2.2 0 (o_al 0 1) := ok_aload_n dX6_misses_0 rfl
theorem k_66_1 : mOk M_66.1 M_66.2.1 M_66.2.2.1 M_66.2.2.2 1 (o_gI 6 5) := ok_gI dX6_misses_1 f_RX6_46 (Or.inl rfl)
theorem k_66_4 : mOk M_66.1 M_66.2.1 M_66.2.2.1 M_66.2.2.2 4 (o_il 1 1) := ok_iload_n dX6_misses_4 rfl
theorem k_66_5 : mOk M_66.1 M_66.2.1 M_66.2.2.1 M_66.2.2.2 5 (oS 2 (s_push (.int 8))) := ok_bipush dX6_misses_5 (by decide)
theorem k_66_7 : mOk M_66.1 M_66.2.1 M_66.2.2.1 M_66.2.2.2 7 (oS 1 (s_ii (fun a b => a - b))) := ok_isub dX6_misses_7
theorem k_66_8 : mOk M_66.1 M_66.2.1 M_66.2.2.1 M_66.2.2.2 8 (o_clt 52) := ok_clt dX6_misses_8 (by decide)
theorem k_66_11 : mOk M_66.1 M_66.2.1 M_66.2.2.1 M_66.2.2.2 11 (o_al 0 1) := ok_aload_n dX6_misses_11 rfl
theorem k_66_12 : mOk M_66.1 M_66.2.1 M_66.2.2.1 M_66.2.2.2 12 (o_gI 6 4) := ok_gI dX6_misses_12 f_RX6_40 (Or.inl rfl)
theorem k_66_15 : mOk M_66.1 M_66.2.1 M_66.2.2.1 M_66.2.2.2 15 (o_il 1 1) := ok_iload_n dX6_misses_15 rfl
theorem k_66_16 : mOk M_66.1 M_66.2.1 M_66.2.2.1 M_66.2.2.2 16 (oS 3 (s_push (.int 256))) := ok_sipush dX6_misses_16 (by decide)
theorem k_66_19 : mOk M_66.1 M_66.2.1 M_66.2.2.1 M_66.2.2.2 19 (oS 1 (s_ii (fun a b => a + b))) := ok_iadd dX6_misses_19
theorem k_66_20 : mOk M_66.1 M_66.2.1 M_66.2.2.1 M_66.2.2.2 20 (oS 2 (s_push (.int 8))) := ok_bipush dX6_misses_20 (by decide)
theorem k_66_22 : mOk M_66.1 M_66.2.1 M_66.2.2.1 M_66.2.2.2 22 (oS 1 (s_ii (fun a b => a + b))) := ok_iadd dX6_misses_22
theorem k_66_23 : mOk M_66.1 M_66.2.1 M_66.2.2.1 M_66.2.2.2 23 (o_cgt 52) := ok_cgt dX6_misses_23 (by decide)
theorem k_66_26 : mOk M_66.1 M_66.2.1 M_66.2.2.1 M_66.2.2.2 26 (o_al 0 1) := ok_aload_n dX6_misses_26 rfl
theorem k_66_27 : mOk M_66.1 M_66.2.1 M_66.2.2.1 M_66.2.2.2 27 (o_gI 6 7) := ok_gI dX6_misses_27 f_RX6_49 (Or.inl rfl)
theorem k_66_30 : mOk M_66.1 M_66.2.1 M_66.2.2.1 M_66.2.2.2 30 (o_il 2 1) := ok_iload_n dX6_misses_30 rfl
theorem k_66_31 : mOk M_66.1 M_66.2.1 M_66.2.2.1 M_66.2.2.2 31 (oS 2 (s_push (.int 8))) := ok_bipush dX6_misses_31 (by decide)
theorem k_66_33 : mOk M_66.1 M_66.2.1 M_66.2.2.1 M_66.2.2.2 33 (oS 1 (s_ii (fun a b => a - b))) := ok_isub dX6_misses_33
theorem k_66_34 : mOk M_66.1 M_66.2.1 M_66.2.2.1 M_66.2.2.2 34 (o_clt 52) := ok_clt dX6_misses_34 (by decide)
theorem k_66_37 : mOk M_66.1 M_66.2.1 M_66.2.2.1 M_66.2.2.2 37 (o_al 0 1) := ok_aload_n dX6_misses_37 rfl
theorem k_66_38 : mOk M_66.1 M_66.2.1 M_66.2.2.1 M_66.2.2.2 38 (o_gI 6 6) := ok_gI dX6_misses_38 f_RX6_43 (Or.inl rfl)
theorem k_66_41 : mOk M_66.1 M_66.2.1 M_66.2.2.1 M_66.2.2.2 41 (o_il 2 1) := ok_iload_n dX6_misses_41 rfl
theorem k_66_42 : mOk M_66.1 M_66.2.1 M_66.2.2.1 M_66.2.2.2 42 (oS 3 (s_push (.int 256))) := ok_sipush dX6_misses_42 (by decide)
theorem k_66_45 : mOk M_66.1 M_66.2.1 M_66.2.2.1 M_66.2.2.2 45 (oS 1 (s_ii (fun a b => a + b))) := ok_iadd dX6_misses_45
theorem k_66_46 : mOk M_66.1 M_66.2.1 M_66.2.2.1 M_66.2.2.2 46 (oS 2 (s_push (.int 8))) := ok_bipush dX6_misses_46 (by decide)
theorem k_66_48 : mOk M_66.1 M_66.2.1 M_66.2.2.1 M_66.2.2.2 48 (oS 1 (s_ii (fun a b => a + b))) := ok_iadd dX6_misses_48
theorem k_66_49 : mOk M_66.1 M_66.2.1 M_66.2.2.1 M_66.2.2.2 49 (o_cle 56) := ok_cle dX6_misses_49 (by decide)
theorem k_66_52 : mOk M_66.1 M_66.2.1 M_66.2.2.1 M_66.2.2.2 52 (oS 1 (s_push (.int 1))) := ok_iconst dX6_misses_52 (by decide)
theorem k_66_53 : mOk M_66.1 M_66.2.1 M_66.2.2.1 M_66.2.2.2 53 (o_goto 57) := ok_goto dX6_misses_53 (by decide)
theorem k_66_56 : mOk M_66.1 M_66.2.1 M_66.2.2.1 M_66.2.2.2 56 (oS 1 (s_push (.int 0))) := ok_iconst dX6_misses_56 (by decide)
set_option maxRecDepth 20000 in
set_option maxHeartbeats 4000000 in
theorem tk_66 (l : Launch) (H9 : mThr l) (H10 : mSpl l) (pc : Nat) (q : mEnt) (h : tb_66 pc = some q) : EE l 66 pc q := nd h (fun h => nd h (fun h => nd h (fun h => nd h (fun h => nd h (fun h => lf (P := EE l 66) h k_66_0) (fun h => lf (P := EE l 66) h k_66_1)) (fun h => nd h (fun h => lf (P := EE l 66) h k_66_4) (fun h => lf (P := EE l 66) h k_66_5))) (fun h => nd h (fun h => nd h (fun h => lf (P := EE l 66) h k_66_7) (fun h => lf (P := EE l 66) h k_66_8)) (fun h => nd h (fun h => lf (P := EE l 66) h k_66_11) (fun h => lf (P := EE l 66) h k_66_12)))) (fun h => nd h (fun h => nd h (fun h => nd h (fun h => lf (P := EE l 66) h k_66_15) (fun h => lf (P := EE l 66) h k_66_16)) (fun h => nd h (fun h => lf (P := EE l 66) h k_66_19) (fun h => lf (P := EE l 66) h k_66_20))) (fun h => nd h (fun h => nd h (fun h => lf (P := EE l 66) h k_66_22) (fun h => lf (P := EE l 66) h k_66_23)) (fun h => nd h (fun h => lf (P := EE l 66) h k_66_26) (fun h => lf (P := EE l 66) h k_66_27))))) (fun h => nd h (fun h => nd h (fun h => nd h (fun h => nd h (fun h => lf (P := EE l 66) h k_66_30) (fun h => lf (P := EE l 66) h k_66_31)) (fun h => nd h (fun h => lf (P := EE l 66) h k_66_33) (fun h => lf (P := EE l 66) h k_66_34))) (fun h => nd h (fun h => nd h (fun h => lf (P := EE l 66) h k_66_37) (fun h => lf (P := EE l 66) h k_66_38)) (fun h => nd h (fun h => lf (P := EE l 66) h k_66_41) (fun h => lf (P := EE l 66) h k_66_42)))) (fun h => nd h (fun h => nd h (fun h => nd h (fun h => lf (P := EE l 66) h k_66_45) (fun h => lf (P := EE l 66) h k_66_46)) (fun h => nd h (fun h => lf (P := EE l 66) h k_66_48) (fun h => lf (P := EE l 66) h k_66_49))) (fun h => nd h (fun h => nd h (fun h => lf (P := EE l 66) h k_66_52) (fun h => lf (P := EE l 66) h k_66_53)) (fun h => nd h (fun h => lf (P := EE l 66) h k_66_56) (fun h => lf (P := EE l 66) h (EE_re (Or.inr (Or.inl ⟨rfl, dX6_misses_57, rfl⟩))))))))
theorem dX6_copyFrom_0 : decode cX6_copyFrom 0 = .ok (.aload_n 0, 1) := by decide +kernel
theorem dX6_copyFrom_1 : decode cX6_copyFrom 1 = .ok (.iconst 0, 1) := by decide +kernel
theorem dX6_copyFrom_2 : decode cX6_copyFrom 2 = .ok (.putfield 22, 3) := by decide +kernel
theorem dX6_copyFrom_5 : decode cX6_copyFrom 5 = .ok (.iconst 0, 1) := by decide +kernel
theorem dX6_copyFrom_6 : decode cX6_copyFrom 6 = .ok (.istore_n 2, 1) := by decide +kernel
theorem dX6_copyFrom_7 : decode cX6_copyFrom 7 = .ok (.iload_n 2, 1) := by decide +kernel
theorem dX6_copyFrom_8 : decode cX6_copyFrom 8 = .ok (.aload_n 1, 1) := by decide +kernel
theorem dX6_copyFrom_9 : decode cX6_copyFrom 9 = .ok (.getfield 22, 3) := by decide +kernel
theorem dX6_copyFrom_12 : decode cX6_copyFrom 12 = .ok (.if_icmp .ge 31, 3) := by decide +kernel
theorem dX6_copyFrom_15 : decode cX6_copyFrom 15 = .ok (.aload_n 0, 1) := by decide +kernel
theorem dX6_copyFrom_16 : decode cX6_copyFrom 16 = .ok (.aload_n 1, 1) := by decide +kernel
theorem dX6_copyFrom_17 : decode cX6_copyFrom 17 = .ok (.getfield 9, 3) := by decide +kernel
theorem dX6_copyFrom_20 : decode cX6_copyFrom 20 = .ok (.iload_n 2, 1) := by decide +kernel
theorem dX6_copyFrom_21 : decode cX6_copyFrom 21 = .ok (.iaload, 1) := by decide +kernel
theorem dX6_copyFrom_22 : decode cX6_copyFrom 22 = .ok (.aload_n 1, 1) := by decide +kernel
theorem dX6_copyFrom_23 : decode cX6_copyFrom 23 = .ok (.getfield 15, 3) := by decide +kernel
theorem dX6_copyFrom_26 : decode cX6_copyFrom 26 = .ok (.iload_n 2, 1) := by decide +kernel
theorem dX6_copyFrom_27 : decode cX6_copyFrom 27 = .ok (.iaload, 1) := by decide +kernel
theorem dX6_copyFrom_28 : decode cX6_copyFrom 28 = .ok (.aload_n 1, 1) := by decide +kernel
theorem dX6_copyFrom_29 : decode cX6_copyFrom 29 = .ok (.getfield 18, 3) := by decide +kernel
theorem dX6_copyFrom_32 : decode cX6_copyFrom 32 = .ok (.iload_n 2, 1) := by decide +kernel
theorem dX6_copyFrom_33 : decode cX6_copyFrom 33 = .ok (.baload, 1) := by decide +kernel
theorem dX6_copyFrom_34 : decode cX6_copyFrom 34 = .ok (.invokevirtual 61, 3) := by decide +kernel
theorem dX6_copyFrom_37 : decode cX6_copyFrom 37 = .ok (.iinc 2 1, 3) := by decide +kernel
theorem dX6_copyFrom_40 : decode cX6_copyFrom 40 = .ok (.goto (-33), 3) := by decide +kernel
theorem dX6_copyFrom_43 : decode cX6_copyFrom 43 = .ok (.return_, 1) := by decide +kernel
def tb_67 (pc : Nat) : Option mEnt := bif Nat.ble pc 20 then (bif Nat.ble pc 7 then (bif Nat.ble pc 2 then (bif Nat.ble pc 0 then (bif Nat.beq pc 0 then some (.inl (o_al 0 1)) else none) else (bif Nat.ble pc 1 then (bif Nat.beq pc 1 then some (.inl (oS 1 (s_push (.int 0)))) else none) else (bif Nat.beq pc 2 then some (.inl (o_pI 6 3)) else none))) else (bif Nat.ble pc 5 then (bif Nat.beq pc 5 then some (.inl (oS 1 (s_push (.int 0)))) else none) else (bif Nat.ble pc 6 then (bif Nat.beq pc 6 then some (.inl (o_is 2 1)) else none) else (bif Nat.beq pc 7 then some (.inl (o_il 2 1)) else none)))) else (bif Nat.ble pc 12 then (bif Nat.ble pc 8 then (bif Nat.beq pc 8 then some (.inl (o_al 1 1)) else none) else (bif Nat.ble pc 9 then (bif Nat.beq pc 9 then some (.inl (o_gI 6 3)) else none) else (bif Nat.beq pc 12 then some (.inl (o_cge 43)) else none))) else (bif Nat.ble pc 16 then (bif Nat.ble pc 15 then (bif Nat.beq pc 15 then some (.inl (o_al 0 1)) else none) else (bif Nat.beq pc 16 then some (.inl (o_al 1 1)) else none)) else (bif Nat.ble pc 17 then (bif Nat.beq pc 17 then some (.inl (o_gP 6 0)) else none) else (bif Nat.beq pc 20 then some (.inl (o_il 2 1)) else none))))) else (bif Nat.ble pc 28 then (bif Nat.ble pc 23 then (bif Nat.ble pc 21 then (bif Nat.beq pc 21 then some (.inl (o_iald)) else none) else (bif Nat.ble pc 22 then (bif Nat.beq pc 22 then some (.inl (o_al 1 1)) else none) else (bif Nat.beq pc 23 then some (.inl (o_gP 6 1)) else none))) else (bif Nat.ble pc 26 then (bif Nat.beq pc 26 then some (.inl (o_il 2 1)) else none) else (bif Nat.ble pc 27 then (bif Nat.beq pc 27 then some (.inl (o_iald)) else none) else (bif Nat.beq pc 28 then some (.inl (o_al 1 1)) else none)))) else (bif Nat.ble pc 33 then (bif Nat.ble pc 29 then (bif Nat.beq pc 29 then some (.inl (o_gP 6 2)) else none) else (bif Nat.ble pc 32 then (bif Nat.beq pc 32 then some (.inl (o_il 2 1)) else none) else (bif Nat.beq pc 33 then some (.inl (o_bald)) else none))) else (bif Nat.ble pc 37 then (bif Nat.ble pc 34 then (bif Nat.beq pc 34 then some (.inr (3, 57, 4, 6)) else none) else (bif Nat.beq pc 37 then some (.inl (o_inc 2 1)) else none)) else (bif Nat.ble pc 40 then (bif Nat.beq pc 40 then some (.inl (o_goto 7)) else none) else (bif Nat.beq pc 43 then some (.inr (0, 0, 0, 3)) else none)))))
theorem k_67_0 : mOk M_67.1 M_67.2.1 M_67.2.2.1 M_67.2.2.2 0 (o_al 0 1) := ok_aload_n dX6_copyFrom_0 rfl
theorem k_67_1 : mOk M_67.1 M_67.2.1 M_67.2.2.1 M_67.2.2.2 1 (oS 1 (s_push (.int 0))) := ok_iconst dX6_copyFrom_1 (by decide)
theorem k_67_2 : mOk M_67.1 M_67.2.1 M_67.2.2.1 M_67.2.2.2 2 (o_pI 6 3) := ok_pI dX6_copyFrom_2 (mFw_of f_RX6_22_c (Or.inl rfl)) rfl
theorem k_67_5 : mOk M_67.1 M_67.2.1 M_67.2.2.1 M_67.2.2.2 5 (oS 1 (s_push (.int 0))) := ok_iconst dX6_copyFrom_5 (by decide)
theorem k_67_6 : mOk M_67.1 M_67.2.1 M_67.2.2.1 M_67.2.2.2 6 (o_is 2 1) := ok_istore_n dX6_copyFrom_6 rfl
theorem k_67_7 : mOk M_67.1 M_67.2.1 M_67.2.2.1 M_67.2.2.2 7 (o_il 2 1) := ok_iload_n dX6_copyFrom_7 rfl
theorem k_67_8 : mOk M_67.1 M_67.2.1 M_67.2.2.1 M_67.2.2.2 8 (o_al 1 1) := ok_aload_n dX6_copyFrom_8 rfl
theorem k_67_9 : mOk M_67.1 M_67.2.1 M_67.2.2.1 M_67.2.2.2 9 (o_gI 6 3) := ok_gI dX6_copyFrom_9 f_RX6_22 (Or.inl rfl)
theorem k_67_12 : mOk M_67.1 M_67.2.1 M_67.2.2.1 M_67.2.2.2 12 (o_cge 43) := ok_cge dX6_copyFrom_12 (by decide)
theorem k_67_15 : mOk M_67.1 M_67.2.1 M_67.2.2.1 M_67.2.2.2 15 (o_al 0 1) := ok_aload_n dX6_copyFrom_15 rfl
theorem k_67_16 : mOk M_67.1 M_67.2.1 M_67.2.2.1 M_67.2.2.2 16 (o_al 1 1) := ok_aload_n dX6_copyFrom_16 rfl
theorem k_67_17 : mOk M_67.1 M_67.2.1 M_67.2.2.1 M_67.2.2.2 17 (o_gP 6 0) := ok_gP dX6_copyFrom_17 f_RX6_9 rfl
theorem k_67_20 : mOk M_67.1 M_67.2.1 M_67.2.2.1 M_67.2.2.2 20 (o_il 2 1) := ok_iload_n dX6_copyFrom_20 rfl
theorem k_67_21 : mOk M_67.1 M_67.2.1 M_67.2.2.1 M_67.2.2.2 21 (o_iald) := ok_iald dX6_copyFrom_21
theorem k_67_22 : mOk M_67.1 M_67.2.1 M_67.2.2.1 M_67.2.2.2 22 (o_al 1 1) := ok_aload_n dX6_copyFrom_22 rfl
theorem k_67_23 : mOk M_67.1 M_67.2.1 M_67.2.2.1 M_67.2.2.2 23 (o_gP 6 1) := ok_gP dX6_copyFrom_23 f_RX6_15 rfl
theorem k_67_26 : mOk M_67.1 M_67.2.1 M_67.2.2.1 M_67.2.2.2 26 (o_il 2 1) := ok_iload_n dX6_copyFrom_26 rfl
theorem k_67_27 : mOk M_67.1 M_67.2.1 M_67.2.2.1 M_67.2.2.2 27 (o_iald) := ok_iald dX6_copyFrom_27
theorem k_67_28 : mOk M_67.1 M_67.2.1 M_67.2.2.1 M_67.2.2.2 28 (o_al 1 1) := ok_aload_n dX6_copyFrom_28 rfl
theorem k_67_29 : mOk M_67.1 M_67.2.1 M_67.2.2.1 M_67.2.2.2 29 (o_gP 6 2) := ok_gP dX6_copyFrom_29 f_RX6_18 rfl
theorem k_67_32 : mOk M_67.1 M_67.2.1 M_67.2.2.1 M_67.2.2.2 32 (o_il 2 1) := ok_iload_n dX6_copyFrom_32 rfl
theorem k_67_33 : mOk M_67.1 M_67.2.1 M_67.2.2.1 M_67.2.2.2 33 (o_bald) := ok_bald dX6_copyFrom_33
theorem k_67_37 : mOk M_67.1 M_67.2.1 M_67.2.2.1 M_67.2.2.2 37 (o_inc 2 1) := ok_iinc dX6_copyFrom_37 (by decide)
theorem k_67_40 : mOk M_67.1 M_67.2.1 M_67.2.2.1 M_67.2.2.2 40 (o_goto 7) := ok_goto dX6_copyFrom_40 (by decide)
set_option maxRecDepth 20000 in
set_option maxHeartbeats 4000000 in
theorem tk_67 (l : Launch) (H9 : mThr l) (H10 : mSpl l) (pc : Nat) (q : mEnt) (h : tb_67 pc = some q) : EE l 67 pc q := nd h (fun h => nd h (fun h => nd h (fun h => nd h (fun h => lf (P := EE l 67) h k_67_0) (fun h => nd h (fun h => lf (P := EE l 67) h k_67_1) (fun h => lf (P := EE l 67) h k_67_2))) (fun h => nd h (fun h => lf (P := EE l 67) h k_67_5) (fun h => nd h (fun h => lf (P := EE l 67) h k_67_6) (fun h => lf (P := EE l 67) h k_67_7)))) (fun h => nd h (fun h => nd h (fun h => lf (P := EE l 67) h k_67_8) (fun h => nd h (fun h => lf (P := EE l 67) h k_67_9) (fun h => lf (P := EE l 67) h k_67_12))) (fun h => nd h (fun h => nd h (fun h => lf (P := EE l 67) h k_67_15) (fun h => lf (P := EE l 67) h k_67_16)) (fun h => nd h (fun h => lf (P := EE l 67) h k_67_17) (fun h => lf (P := EE l 67) h k_67_20))))) (fun h => nd h (fun h => nd h (fun h => nd h (fun h => lf (P := EE l 67) h k_67_21) (fun h => nd h (fun h => lf (P := EE l 67) h k_67_22) (fun h => lf (P := EE l 67) h k_67_23))) (fun h => nd h (fun h => lf (P := EE l 67) h k_67_26) (fun h => nd h (fun h => lf (P := EE l 67) h k_67_27) (fun h => lf (P := EE l 67) h k_67_28)))) (fun h => nd h (fun h => nd h (fun h => lf (P := EE l 67) h k_67_29) (fun h => nd h (fun h => lf (P := EE l 67) h k_67_32) (fun h => lf (P := EE l 67) h k_67_33))) (fun h => nd h (fun h => nd h (fun h => lf (P := EE l 67) h (EE_ca (by decide) (⟨m_735, m_75, ⟨by decide, by decide⟩, by decide +kernel, ⟨by decide, by decide⟩, 61, 3, by decide +kernel, Or.inr (Or.inr (Or.inl ⟨rfl, rfl, dX6_copyFrom_34, m_799, m_733, _, rfl, by decide, m_734⟩))⟩) rfl)) (fun h => lf (P := EE l 67) h k_67_37)) (fun h => nd h (fun h => lf (P := EE l 67) h k_67_40) (fun h => lf (P := EE l 67) h (EE_re (Or.inr (Or.inr (Or.inr (Or.inr ⟨rfl, dX6_copyFrom_43, rfl⟩))))))))))
theorem dX6_cutFrom_0 : decode cX6_cutFrom 0 = .ok (.aload_n 0, 1) := by decide +kernel
theorem dX6_cutFrom_1 : decode cX6_cutFrom 1 = .ok (.iconst 0, 1) := by decide +kernel
theorem dX6_cutFrom_2 : decode cX6_cutFrom 2 = .ok (.putfield 22, 3) := by decide +kernel
theorem dX6_cutFrom_5 : decode cX6_cutFrom 5 = .ok (.iconst 0, 1) := by decide +kernel
theorem dX6_cutFrom_6 : decode cX6_cutFrom 6 = .ok (.istore 4, 2) := by decide +kernel
theorem dX6_cutFrom_8 : decode cX6_cutFrom 8 = .ok (.iconst 0, 1) := by decide +kernel
theorem dX6_cutFrom_9 : decode cX6_cutFrom 9 = .ok (.istore 5, 2) := by decide +kernel
theorem dX6_cutFrom_11 : decode cX6_cutFrom 11 = .ok (.iload 5, 2) := by decide +kernel
theorem dX6_cutFrom_13 : decode cX6_cutFrom 13 = .ok (.aload_n 1, 1) := by decide +kernel
theorem dX6_cutFrom_14 : decode cX6_cutFrom 14 = .ok (.getfield 22, 3) := by decide +kernel
theorem dX6_cutFrom_17 : decode cX6_cutFrom 17 = .ok (.if_icmp .ge 137, 3) := by decide +kernel
theorem dX6_cutFrom_20 : decode cX6_cutFrom 20 = .ok (.aload_n 2, 1) := by decide +kernel
theorem dX6_cutFrom_21 : decode cX6_cutFrom 21 = .ok (.aload_n 1, 1) := by decide +kernel
theorem dX6_cutFrom_22 : decode cX6_cutFrom 22 = .ok (.getfield 9, 3) := by decide +kernel
theorem dX6_cutFrom_25 : decode cX6_cutFrom 25 = .ok (.iload 5, 2) := by decide +kernel
theorem dX6_cutFrom_27 : decode cX6_cutFrom 27 = .ok (.iaload, 1) := by decide +kernel
theorem dX6_cutFrom_28 : decode cX6_cutFrom 28 = .ok (.aload_n 1, 1) := by decide +kernel
theorem dX6_cutFrom_29 : decode cX6_cutFrom 29 = .ok (.getfield 15, 3) := by decide +kernel
theorem dX6_cutFrom_32 : decode cX6_cutFrom 32 = .ok (.iload 5, 2) := by decide +kernel
theorem dX6_cutFrom_34 : decode cX6_cutFrom 34 = .ok (.iaload, 1) := by decide +kernel
theorem dX6_cutFrom_35 : decode cX6_cutFrom 35 = .ok (.invokevirtual 65, 3) := by decide +kernel
theorem dX6_cutFrom_38 : decode cX6_cutFrom 38 = .ok (.istore 6, 2) := by decide +kernel
theorem dX6_cutFrom_40 : decode cX6_cutFrom 40 = .ok (.iload 5, 2) := by decide +kernel
theorem dX6_cutFrom_42 : decode cX6_cutFrom 42 = .ok (.ifCond .le 53, 3) := by decide +kernel
theorem dX6_cutFrom_45 : decode cX6_cutFrom 45 = .ok (.aload_n 1, 1) := by decide +kernel
theorem dX6_cutFrom_46 : decode cX6_cutFrom 46 = .ok (.getfield 18, 3) := by decide +kernel
theorem dX6_cutFrom_49 : decode cX6_cutFrom 49 = .ok (.iload 5, 2) := by decide +kernel
theorem dX6_cutFrom_51 : decode cX6_cutFrom 51 = .ok (.baload, 1) := by decide +kernel
theorem dX6_cutFrom_52 : decode cX6_cutFrom 52 = .ok (.ifCond .ne 43, 3) := by decide +kernel
theorem dX6_cutFrom_55 : decode cX6_cutFrom 55 = .ok (.iload 6, 2) := by decide +kernel
theorem dX6_cutFrom_57 : decode cX6_cutFrom 57 = .ok (.iload 4, 2) := by decide +kernel
theorem dX6_cutFrom_59 : decode cX6_cutFrom 59 = .ok (.if_icmp .eq 36, 3) := by decide +kernel
theorem dX6_cutFrom_62 : decode cX6_cutFrom 62 = .ok (.aload_n 0, 1) := by decide +kernel
theorem dX6_cutFrom_63 : decode cX6_cutFrom 63 = .ok (.aload_n 1, 1) := by decide +kernel
theorem dX6_cutFrom_64 : decode cX6_cutFrom 64 = .ok (.iload 5, 2) := by decide +kernel
theorem dX6_cutFrom_66 : decode cX6_cutFrom 66 = .ok (.iconst 1, 1) := by decide +kernel
theorem dX6_cutFrom_67 : decode cX6_cutFrom 67 = .ok (.isub, 1) := by decide +kernel
theorem dX6_cutFrom_68 : decode cX6_cutFrom 68 = .ok (.iload 5, 2) := by decide +kernel
theorem dX6_cutFrom_70 : decode cX6_cutFrom 70 = .ok (.aload_n 2, 1) := by decide +kernel
theorem dX6_cutFrom_71 : decode cX6_cutFrom 71 = .ok (.iload_n 3, 1) := by decide +kernel
theorem dX6_cutFrom_72 : decode cX6_cutFrom 72 = .ok (.ifCond .eq 18, 3) := by decide +kernel
theorem dX6_cutFrom_75 : decode cX6_cutFrom 75 = .ok (.aload_n 0, 1) := by decide +kernel
theorem dX6_cutFrom_76 : decode cX6_cutFrom 76 = .ok (.getfield 22, 3) := by decide +kernel
theorem dX6_cutFrom_79 : decode cX6_cutFrom 79 = .ok (.ifCond .ne 7, 3) := by decide +kernel
theorem dX6_cutFrom_82 : decode cX6_cutFrom 82 = .ok (.iconst 1, 1) := by decide +kernel
theorem dX6_cutFrom_83 : decode cX6_cutFrom 83 = .ok (.goto 9, 3) := by decide +kernel
theorem dX6_cutFrom_86 : decode cX6_cutFrom 86 = .ok (.iconst 0, 1) := by decide +kernel
theorem dX6_cutFrom_87 : decode cX6_cutFrom 87 = .ok (.goto 5, 3) := by decide +kernel
theorem dX6_cutFrom_90 : decode cX6_cutFrom 90 = .ok (.iload 6, 2) := by decide +kernel
theorem dX6_cutFrom_92 : decode cX6_cutFrom 92 = .ok (.invokevirtual 70, 3) := by decide +kernel
theorem dX6_cutFrom_95 : decode cX6_cutFrom 95 = .ok (.iload 6, 2) := by decide +kernel
theorem dX6_cutFrom_97 : decode cX6_cutFrom 97 = .ok (.ifCond .eq 47, 3) := by decide +kernel
theorem dX6_cutFrom_100 : decode cX6_cutFrom 100 = .ok (.aload_n 0, 1) := by decide +kernel
theorem dX6_cutFrom_101 : decode cX6_cutFrom 101 = .ok (.aload_n 1, 1) := by decide +kernel
theorem dX6_cutFrom_102 : decode cX6_cutFrom 102 = .ok (.getfield 9, 3) := by decide +kernel
theorem dX6_cutFrom_105 : decode cX6_cutFrom 105 = .ok (.iload 5, 2) := by decide +kernel
theorem dX6_cutFrom_107 : decode cX6_cutFrom 107 = .ok (.iaload, 1) := by decide +kernel
theorem dX6_cutFrom_108 : decode cX6_cutFrom 108 = .ok (.aload_n 1, 1) := by decide +kernel
theorem dX6_cutFrom_109 : decode cX6_cutFrom 109 = .ok (.getfield 15, 3) := by decide +kernel
theorem dX6_cutFrom_112 : decode cX6_cutFrom 112 = .ok (.iload 5, 2) := by decide +kernel
theorem dX6_cutFrom_114 : decode cX6_cutFrom 114 = .ok (.iaload, 1) := by decide +kernel
theorem dX6_cutFrom_115 : decode cX6_cutFrom 115 = .ok (.iload_n 3, 1) := by decide +kernel
theorem dX6_cutFrom_116 : decode cX6_cutFrom 116 = .ok (.ifCond .eq 18, 3) := by decide +kernel
theorem dX6_cutFrom_119 : decode cX6_cutFrom 119 = .ok (.aload_n 0, 1) := by decide +kernel
theorem dX6_cutFrom_120 : decode cX6_cutFrom 120 = .ok (.getfield 22, 3) := by decide +kernel
theorem dX6_cutFrom_123 : decode cX6_cutFrom 123 = .ok (.ifCond .ne 7, 3) := by decide +kernel
theorem dX6_cutFrom_126 : decode cX6_cutFrom 126 = .ok (.iconst 1, 1) := by decide +kernel
theorem dX6_cutFrom_127 : decode cX6_cutFrom 127 = .ok (.goto 14, 3) := by decide +kernel
theorem dX6_cutFrom_130 : decode cX6_cutFrom 130 = .ok (.iconst 0, 1) := by decide +kernel
theorem dX6_cutFrom_131 : decode cX6_cutFrom 131 = .ok (.goto 10, 3) := by decide +kernel
theorem dX6_cutFrom_134 : decode cX6_cutFrom 134 = .ok (.aload_n 1, 1) := by decide +kernel
theorem dX6_cutFrom_135 : decode cX6_cutFrom 135 = .ok (.getfield 18, 3) := by decide +kernel
theorem dX6_cutFrom_138 : decode cX6_cutFrom 138 = .ok (.iload 5, 2) := by decide +kernel
theorem dX6_cutFrom_140 : decode cX6_cutFrom 140 = .ok (.baload, 1) := by decide +kernel
theorem dX6_cutFrom_141 : decode cX6_cutFrom 141 = .ok (.invokevirtual 61, 3) := by decide +kernel
theorem dX6_cutFrom_144 : decode cX6_cutFrom 144 = .ok (.iload 6, 2) := by decide +kernel
theorem dX6_cutFrom_146 : decode cX6_cutFrom 146 = .ok (.istore 4, 2) := by decide +kernel
theorem dX6_cutFrom_148 : decode cX6_cutFrom 148 = .ok (.iinc 5 1, 3) := by decide +kernel
theorem dX6_cutFrom_151 : decode cX6_cutFrom 151 = .ok (.goto (-140), 3) := by decide +kernel
theorem dX6_cutFrom_154 : decode cX6_cutFrom 154 = .ok (.iload_n 3, 1) := by decide +kernel
theorem dX6_cutFrom_155 : decode cX6_cutFrom 155 = .ok (.ifCond .eq 56, 3) := by decide +kernel
theorem dX6_cutFrom_158 : decode cX6_cutFrom 158 = .ok (.aload_n 1, 1) := by decide +kernel
theorem dX6_cutFrom_159 : decode cX6_cutFrom 159 = .ok (.getfield 22, 3) := by decide +kernel
theorem dX6_cutFrom_162 : decode cX6_cutFrom 162 = .ok (.ifCond .le 49, 3) := by decide +kernel
theorem dX6_cutFrom_165 : decode cX6_cutFrom 165 = .ok (.aload_n 2, 1) := by decide +kernel
theorem dX6_cutFrom_166 : decode cX6_cutFrom 166 = .ok (.aload_n 1, 1) := by decide +kernel
theorem dX6_cutFrom_167 : decode cX6_cutFrom 167 = .ok (.getfield 9, 3) := by decide +kernel
theorem dX6_cutFrom_170 : decode cX6_cutFrom 170 = .ok (.iconst 0, 1) := by decide +kernel
theorem dX6_cutFrom_171 : decode cX6_cutFrom 171 = .ok (.iaload, 1) := by decide +kernel
theorem dX6_cutFrom_172 : decode cX6_cutFrom 172 = .ok (.aload_n 1, 1) := by decide +kernel
theorem dX6_cutFrom_173 : decode cX6_cutFrom 173 = .ok (.getfield 15, 3) := by decide +kernel
theorem dX6_cutFrom_176 : decode cX6_cutFrom 176 = .ok (.iconst 0, 1) := by decide +kernel
theorem dX6_cutFrom_177 : decode cX6_cutFrom 177 = .ok (.iaload, 1) := by decide +kernel
theorem dX6_cutFrom_178 : decode cX6_cutFrom 178 = .ok (.invokevirtual 65, 3) := by decide +kernel
theorem dX6_cutFrom_181 : decode cX6_cutFrom 181 = .ok (.iload 4, 2) := by decide +kernel
theorem dX6_cutFrom_183 : decode cX6_cutFrom 183 = .ok (.if_icmp .eq 28, 3) := by decide +kernel
theorem dX6_cutFrom_186 : decode cX6_cutFrom 186 = .ok (.aload_n 0, 1) := by decide +kernel
theorem dX6_cutFrom_187 : decode cX6_cutFrom 187 = .ok (.aload_n 1, 1) := by decide +kernel
theorem dX6_cutFrom_188 : decode cX6_cutFrom 188 = .ok (.aload_n 1, 1) := by decide +kernel
theorem dX6_cutFrom_189 : decode cX6_cutFrom 189 = .ok (.getfield 22, 3) := by decide +kernel
theorem dX6_cutFrom_192 : decode cX6_cutFrom 192 = .ok (.iconst 1, 1) := by decide +kernel
theorem dX6_cutFrom_193 : decode cX6_cutFrom 193 = .ok (.isub, 1) := by decide +kernel
theorem dX6_cutFrom_194 : decode cX6_cutFrom 194 = .ok (.iconst 0, 1) := by decide +kernel
theorem dX6_cutFrom_195 : decode cX6_cutFrom 195 = .ok (.aload_n 2, 1) := by decide +kernel
theorem dX6_cutFrom_196 : decode cX6_cutFrom 196 = .ok (.aload_n 0, 1) := by decide +kernel
theorem dX6_cutFrom_197 : decode cX6_cutFrom 197 = .ok (.getfield 22, 3) := by decide +kernel
theorem dX6_cutFrom_200 : decode cX6_cutFrom 200 = .ok (.ifCond .ne 7, 3) := by decide +kernel
theorem dX6_cutFrom_203 : decode cX6_cutFrom 203 = .ok (.iconst 1, 1) := by decide +kernel
theorem dX6_cutFrom_204 : decode cX6_cutFrom 204 = .ok (.goto 4, 3) := by decide +kernel
theorem dX6_cutFrom_207 : decode cX6_cutFrom 207 = .ok (.iconst 0, 1) := by decide +kernel
theorem dX6_cutFrom_208 : decode cX6_cutFrom 208 = .ok (.invokevirtual 70, 3) := by decide +kernel
theorem dX6_cutFrom_211 : decode cX6_cutFrom 211 = .ok (.return_, 1) := by decide +kernel
def tb_68 (pc : Nat) : Option mEnt := bif Nat.ble pc 105 then (bif Nat.ble pc 51 then (bif Nat.ble pc 22 then (bif Nat.ble pc 9 then (bif Nat.ble pc 2 then (bif Nat.ble pc 0 then (bif Nat.beq pc 0 then some (.inl (o_al 0 1)) else none) else (bif Nat.ble pc 1 then (bif Nat.beq pc 1 then some (.inl (oS 1 (s_push (.int 0)))) else none) else (bif Nat.beq pc 2 then some (.inl (o_pI 6 3)) else none))) else (bif Nat.ble pc 6 then (bif Nat.ble pc 5 then (bif Nat.beq pc 5 then some (.inl (oS 1 (s_push (.int 0)))) else none) else (bif Nat.beq pc 6 then some (.inl (o_is 4 2)) else none)) else (bif Nat.ble pc 8 then (bif Nat.beq pc 8 then some (.inl (oS 1 (s_push (.int 0)))) else none) else (bif Nat.beq pc 9 then some (.inl (o_is 5 2)) else none)))) else (bif Nat.ble pc 14 then (bif Nat.ble pc 11 then (bif Nat.beq pc 11 then some (.inl (o_il 5 2)) else none) else (bif Nat.ble pc 13 then (bif Nat.beq pc 13 then some (.inl (o_al 1 1)) else none) else (bif Nat.beq pc 14 then some (.inl (o_gI 6 3)) else none))) else (bif Nat.ble pc 20 then (bif Nat.ble pc 17 then (bif Nat.beq pc 17 then some (.inl (o_cge 154)) else none) else (bif Nat.beq pc 20 then some (.inl (o_al 2 1)) else none)) else (bif Nat.ble pc 21 then (bif Nat.beq pc 21 then some (.inl (o_al 1 1)) else none) else (bif Nat.beq pc 22 then some (.inl (o_gP 6 0)) else none))))) else (bif Nat.ble pc 35 then (bif Nat.ble pc 28 then (bif Nat.ble pc 25 then (bif Nat.beq pc 25 then some (.inl (o_il 5 2)) else none) else (bif Nat.ble pc 27 then (bif Nat.beq pc 27 then some (.inl (o_iald)) else none) else (bif Nat.beq pc 28 then some (.inl (o_al 1 1)) else none))) else (bif Nat.ble pc 32 then (bif Nat.ble pc 29 then (bif Nat.beq pc 29 then some (.inl (o_gP 6 1)) else none) else (bif Nat.beq pc 32 then some (.inl (o_il 5 2)) else none)) else (bif Nat.ble pc 34 then (bif Nat.beq pc 34 then some (.inl (o_iald)) else none) else (bif Nat.beq pc 35 then some (.inr (3, 79, 3, 8)) else none)))) else (bif Nat.ble pc 42 then (bif Nat.ble pc 38 then (bif Nat.beq pc 38 then some (.inl (o_is 6 2)) else none) else (bif Nat.ble pc 40 then (bif Nat.beq pc 40 then some (.inl (o_il 5 2)) else none) else (bif Nat.beq pc 42 then some (.inl (o_zle 95)) else none))) else (bif Nat.ble pc 46 then (bif Nat.ble pc 45 then (bif Nat.beq pc 45 then some (.inl (o_al 1 1)) else none) else (bif Nat.beq pc 46 then some (.inl (o_gP 6 2)) else none)) else (bif Nat.ble pc 49 then (bif Nat.beq pc 49 then some (.inl (o_il 5 2)) else none) else (bif Nat.beq pc 51 then some (.inl (o_bald)) else none)))))) else (bif Nat.ble pc 75 then (bif Nat.ble pc 64 then (bif Nat.ble pc 57 then (bif Nat.ble pc 52 then (bif Nat.beq pc 52 then some (.inl (o_zne 95)) else none) else (bif Nat.ble pc 55 then (bif Nat.beq pc 55 then some (.inl (o_il 6 2)) else none) else (bif Nat.beq pc 57 then some (.inl (o_il 4 2)) else none))) else (bif Nat.ble pc 62 then (bif Nat.ble pc 59 then (bif Nat.beq pc 59 then some (.inl (o_ceq 95)) else none) else (bif Nat.beq pc 62 then some (.inl (o_al 0 1)) else none)) else (bif Nat.ble pc 63 then (bif Nat.beq pc 63 then some (.inl (o_al 1 1)) else none) else (bif Nat.beq pc 64 then some (.inl (o_il 5 2)) else none)))) else (bif Nat.ble pc 68 then (bif Nat.ble pc 66 then (bif Nat.beq pc 66 then some (.inl (oS 1 (s_push (.int 1)))) else none) else (bif Nat.ble pc 67 then (bif Nat.beq pc 67 then some (.inl (oS 1 (s_ii (fun a b => a - b)))) else none) else (bif Nat.beq pc 68 then some (.inl (o_il 5 2)) else none))) else (bif Nat.ble pc 71 then (bif Nat.ble pc 70 then (bif Nat.beq pc 70 then some (.inl (o_al 2 1)) else none) else (bif Nat.beq pc 71 then some (.inl (o_il 3 1)) else none)) else (bif Nat.ble pc 72 then (bif Nat.beq pc 72 then some (.inl (o_zeq 90)) else none) else (bif Nat.beq pc 75 then some (.inl (o_al 0 1)) else none))))) else (bif Nat.ble pc 90 then (bif Nat.ble pc 82 then (bif Nat.ble pc 76 then (bif Nat.beq pc 76 then some (.inl (o_gI 6 3)) else none) else (bif Nat.ble pc 79 then (bif Nat.beq pc 79 then some (.inl (o_zne 86)) else none) else (bif Nat.beq pc 82 then some (.inl (oS 1 (s_push (.int 1)))) else none))) else (bif Nat.ble pc 86 then (bif Nat.ble pc 83 then (bif Nat.beq pc 83 then some (.inl (o_goto 92)) else none) else (bif Nat.beq pc 86 then some (.inl (oS 1 (s_push (.int 0)))) else none)) else (bif Nat.ble pc 87 then (bif Nat.beq pc 87 then some (.inl (o_goto 92)) else none) else (bif Nat.beq pc 90 then some (.inl (o_il 6 2)) else none)))) else (bif Nat.ble pc 97 then (bif Nat.ble pc 92 then (bif Nat.beq pc 92 then some (.inr (3, 69, 6, 6)) else none) else (bif Nat.ble pc 95 then (bif Nat.beq pc 95 then some (.inl (o_il 6 2)) else none) else (bif Nat.beq pc 97 then some (.inl (o_zeq 144)) else none))) else (bif Nat.ble pc 101 then (bif Nat.ble pc 100 then (bif Nat.beq pc 100 then some (.inl (o_al 0 1)) else none) else (bif Nat.beq pc 101 then some (.inl (o_al 1 1)) else none)) else (bif Nat.ble pc 102 then (bif Nat.beq pc 102 then some (.inl (o_gP 6 0)) else none) else (bif Nat.beq pc 105 then some (.inl (o_il 5 2)) else none))))))) else (bif Nat.ble pc 162 then (bif Nat.ble pc 131 then (bif Nat.ble pc 116 then (bif Nat.ble pc 109 then (bif Nat.ble pc 107 then (bif Nat.beq pc 107 then some (.inl (o_iald)) else none) else (bif Nat.ble pc 108 then (bif Nat.beq pc 108 then some (.inl (o_al 1 1)) else none) else (bif Nat.beq pc 109 then some (.inl (o_gP 6 1)) else none))) else (bif Nat.ble pc 114 then (bif Nat.ble pc 112 then (bif Nat.beq pc 112 then some (.inl (o_il 5 2)) else none) else (bif Nat.beq pc 114 then some (.inl (o_iald)) else none)) else (bif Nat.ble pc 115 then (bif Nat.beq pc 115 then some (.inl (o_il 3 1)) else none) else (bif Nat.beq pc 116 then some (.inl (o_zeq 134)) else none)))) else (bif Nat.ble pc 123 then (bif Nat.ble pc 119 then (bif Nat.beq pc 119 then some (.inl (o_al 0 1)) else none) else (bif Nat.ble pc 120 then (bif Nat.beq pc 120 then some (.inl (o_gI 6 3)) else none) else (bif Nat.beq pc 123 then some (.inl (o_zne 130)) else none))) else (bif Nat.ble pc 127 then (bif Nat.ble pc 126 then (bif Nat.beq pc 126 then some (.inl (oS 1 (s_push (.int 1)))) else none) else (bif Nat.beq pc 127 then some (.inl (o_goto 141)) else none)) else (bif Nat.ble pc 130 then (bif Nat.beq pc 130 then some (.inl (oS 1 (s_push (.int 0)))) else none) else (bif Nat.beq pc 131 then some (.inl (o_goto 141)) else none))))) else (bif Nat.ble pc 146 then (bif Nat.ble pc 138 then (bif Nat.ble pc 134 then (bif Nat.beq pc 134 then some (.inl (o_al 1 1)) else none) else (bif Nat.ble pc 135 then (bif Nat.beq pc 135 then some (.inl (o_gP 6 2)) else none) else (bif Nat.beq pc 138 then some (.inl (o_il 5 2)) else none))) else (bif Nat.ble pc 141 then (bif Nat.ble pc 140 then (bif Nat.beq pc 140 then some (.inl (o_bald)) else none) else (bif Nat.beq pc 141 then some (.inr (3, 57, 4, 6)) else none)) else (bif Nat.ble pc 144 then (bif Nat.beq pc 144 then some (.inl (o_il 6 2)) else none) else (bif Nat.beq pc 146 then some (.inl (o_is 4 2)) else none)))) else (bif Nat.ble pc 154 then (bif Nat.ble pc 148 then (bif Nat.beq pc 148 then some (.inl (o_inc 5 1)) else none) else (bif Nat.ble pc 151 then (bif Nat.beq pc 151 then some (.inl (o_goto 11)) else none) else (bif Nat.beq pc 154 then some (.inl (o_il 3 1)) else none))) else (bif Nat.ble pc 158 then (bif Nat.ble pc 155 then (bif Nat.beq pc 155 then some (.inl (o_zeq 211)) else none) else (bif Nat.beq pc 158 then some (.inl (o_al 1 1)) else none)) else (bif Nat.ble pc 159 then (bif Nat.beq pc 159 then some (.inl (o_gI 6 3)) else none) else (bif Nat.beq pc 162 then some (.inl (o_zle 211)) else none)))))) else (bif Nat.ble pc 187 then (bif Nat.ble pc 173 then (bif Nat.ble pc 167 then (bif Nat.ble pc 165 then (bif Nat.beq pc 165 then some (.inl (o_al 2 1)) else none) else (bif Nat.ble pc 166 then (bif Nat.beq pc 166 then some (.inl (o_al 1 1)) else none) else (bif Nat.beq pc 167 then some (.inl (o_gP 6 0)) else none))) else (bif Nat.ble pc 171 then (bif Nat.ble pc 170 then (bif Nat.beq pc 170 then some (.inl (oS 1 (s_push (.int 0)))) else none) else (bif Nat.beq pc 171 then some (.inl (o_iald)) else none)) else (bif Nat.ble pc 172 then (bif Nat.beq pc 172 then some (.inl (o_al 1 1)) else none) else (bif Nat.beq pc 173 then some (.inl (o_gP 6 1)) else none)))) else (bif Nat.ble pc 178 then (bif Nat.ble pc 176 then (bif Nat.beq pc 176 then some (.inl (oS 1 (s_push (.int 0)))) else none) else (bif Nat.ble pc 177 then (bif Nat.beq pc 177 then some (.inl (o_iald)) else none) else (bif Nat.beq pc 178 then some (.inr (3, 79, 3, 8)) else none))) else (bif Nat.ble pc 183 then (bif Nat.ble pc 181 then (bif Nat.beq pc 181 then some (.inl (o_il 4 2)) else none) else (bif Nat.beq pc 183 then some (.inl (o_ceq 211)) else none)) else (bif Nat.ble pc 186 then (bif Nat.beq pc 186 then some (.inl (o_al 0 1)) else none) else (bif Nat.beq pc 187 then some (.inl (o_al 1 1)) else none))))) else (bif Nat.ble pc 196 then (bif Nat.ble pc 192 then (bif Nat.ble pc 188 then (bif Nat.beq pc 188 then some (.inl (o_al 1 1)) else none) else (bif Nat.ble pc 189 then (bif Nat.beq pc 189 then some (.inl (o_gI 6 3)) else none) else (bif Nat.beq pc 192 then some (.inl (oS 1 (s_push (.int 1)))) else none))) else (bif Nat.ble pc 194 then (bif Nat.ble pc 193 then (bif Nat.beq pc 193 then some (.inl (oS 1 (s_ii (fun a b => a - b)))) else none) else (bif Nat.beq pc 194 then some (.inl (oS 1 (s_push (.int 0)))) else none)) else (bif Nat.ble pc 195 then (bif Nat.beq pc 195 then some (.inl (o_al 2 1)) else none) else (bif Nat.beq pc 196 then some (.inl (o_al 0 1)) else none)))) else (bif Nat.ble pc 203 then (bif Nat.ble pc 197 then (bif Nat.beq pc 197 then some (.inl (o_gI 6 3)) else none) else (bif Nat.ble pc 200 then (bif Nat.beq pc 200 then some (.inl (o_zne 207)) else none) else (bif Nat.beq pc 203 then some (.inl (oS 1 (s_push (.int 1)))) else none))) else (bif Nat.ble pc 207 then (bif Nat.ble pc 204 then (bif Nat.beq pc 204 then some (.inl (o_goto 208)) else none) else (bif Nat.beq pc 207 then some (.inl (oS 1 (s_push (.int 0)))) else none)) else (bif Nat.ble pc 208 then (bif Nat.beq pc 208 then some (.inr (3, 69, 6, 6)) else none) else (bif Nat.beq pc 211 then some (.inr (0, 0, 0, 3)) else none)))))))
theorem k_68_0 : mOk M_68.1 M_68.2.1 M_68.2.2.1 M_68.2.2.2 0 (o_al 0 1) := ok_aload_n dX6_cutFrom_0 rfl
theorem k_68_1 : mOk M_68.1 M_68.2.1 M_68.2.2.1 M_68.2.2.2 1 (oS 1 (s_push (.int 0))) := ok_iconst dX6_cutFrom_1 (by decide)
theorem k_68_2 : mOk M_68.1 M_68.2.1 M_68.2.2.1 M_68.2.2.2 2 (o_pI 6 3) := ok_pI dX6_cutFrom_2 (mFw_of f_RX6_22_c (Or.inl rfl)) rfl
theorem k_68_5 : mOk M_68.1 M_68.2.1 M_68.2.2.1 M_68.2.2.2 5 (oS 1 (s_push (.int 0))) := ok_iconst dX6_cutFrom_5 (by decide)
theorem k_68_6 : mOk M_68.1 M_68.2.1 M_68.2.2.1 M_68.2.2.2 6 (o_is 4 2) := ok_istore dX6_cutFrom_6
theorem k_68_8 : mOk M_68.1 M_68.2.1 M_68.2.2.1 M_68.2.2.2 8 (oS 1 (s_push (.int 0))) := ok_iconst dX6_cutFrom_8 (by decide)
theorem k_68_9 : mOk M_68.1 M_68.2.1 M_68.2.2.1 M_68.2.2.2 9 (o_is 5 2) := ok_istore dX6_cutFrom_9
theorem k_68_11 : mOk M_68.1 M_68.2.1 M_68.2.2.1 M_68.2.2.2 11 (o_il 5 2) := ok_iload dX6_cutFrom_11
theorem k_68_13 : mOk M_68.1 M_68.2.1 M_68.2.2.1 M_68.2.2.2 13 (o_al 1 1) := ok_aload_n dX6_cutFrom_13 rfl
theorem k_68_14 : mOk M_68.1 M_68.2.1 M_68.2.2.1 M_68.2.2.2 14 (o_gI 6 3) := ok_gI dX6_cutFrom_14 f_RX6_22 (Or.inl rfl)
theorem k_68_17 : mOk M_68.1 M_68.2.1 M_68.2.2.1 M_68.2.2.2 17 (o_cge 154) := ok_cge dX6_cutFrom_17 (by decide)
theorem k_68_20 : mOk M_68.1 M_68.2.1 M_68.2.2.1 M_68.2.2.2 20 (o_al 2 1) := ok_aload_n dX6_cutFrom_20 rfl
theorem k_68_21 : mOk M_68.1 M_68.2.1 M_68.2.2.1 M_68.2.2.2 21 (o_al 1 1) := ok_aload_n dX6_cutFrom_21 rfl
theorem k_68_22 : mOk M_68.1 M_68.2.1 M_68.2.2.1 M_68.2.2.2 22 (o_gP 6 0) := ok_gP dX6_cutFrom_22 f_RX6_9 rfl
theorem k_68_25 : mOk M_68.1 M_68.2.1 M_68.2.2.1 M_68.2.2.2 25 (o_il 5 2) := ok_iload dX6_cutFrom_25
theorem k_68_27 : mOk M_68.1 M_68.2.1 M_68.2.2.1 M_68.2.2.2 27 (o_iald) := ok_iald dX6_cutFrom_27
theorem k_68_28 : mOk M_68.1 M_68.2.1 M_68.2.2.1 M_68.2.2.2 28 (o_al 1 1) := ok_aload_n dX6_cutFrom_28 rfl
theorem k_68_29 : mOk M_68.1 M_68.2.1 M_68.2.2.1 M_68.2.2.2 29 (o_gP 6 1) := ok_gP dX6_cutFrom_29 f_RX6_15 rfl
theorem k_68_32 : mOk M_68.1 M_68.2.1 M_68.2.2.1 M_68.2.2.2 32 (o_il 5 2) := ok_iload dX6_cutFrom_32
theorem k_68_34 : mOk M_68.1 M_68.2.1 M_68.2.2.1 M_68.2.2.2 34 (o_iald) := ok_iald dX6_cutFrom_34
theorem k_68_38 : mOk M_68.1 M_68.2.1 M_68.2.2.1 M_68.2.2.2 38 (o_is 6 2) := ok_istore dX6_cutFrom_38
theorem k_68_40 : mOk M_68.1 M_68.2.1 M_68.2.2.1 M_68.2.2.2 40 (o_il 5 2) := ok_iload dX6_cutFrom_40
theorem k_68_42 : mOk M_68.1 M_68.2.1 M_68.2.2.1 M_68.2.2.2 42 (o_zle 95) := ok_zle dX6_cutFrom_42 (by decide)
theorem k_68_45 : mOk M_68.1 M_68.2.1 M_68.2.2.1 M_68.2.2.2 45 (o_al 1 1) := ok_aload_n dX6_cutFrom_45 rfl
theorem k_68_46 : mOk M_68.1 M_68.2.1 M_68.2.2.1 M_68.2.2.2 46 (o_gP 6 2) := ok_gP dX6_cutFrom_46 f_RX6_18 rfl
theorem k_68_49 : mOk M_68.1 M_68.2.1 M_68.2.2.1 M_68.2.2.2 49 (o_il 5 2) := ok_iload dX6_cutFrom_49
theorem k_68_51 : mOk M_68.1 M_68.2.1 M_68.2.2.1 M_68.2.2.2 51 (o_bald) := ok_bald dX6_cutFrom_51
theorem k_68_52 : mOk M_68.1 M_68.2.1 M_68.2.2.1 M_68.2.2.2 52 (o_zne 95) := ok_zne dX6_cutFrom_52 (by decide)
theorem k_68_55 : mOk M_68.1 M_68.2.1 M_68.2.2.1 M_68.2.2.2 55 (o_il 6 2) := ok_iload dX6_cutFrom_55
theorem k_68_57 : mOk M_68.1 M_68.2.1 M_68.2.2.1 M_68.2.2.2 57 (o_il 4 2) := ok_iload dX6_cutFrom_57
theorem k_68_59 : mOk M_68.1 M_68.2.1 M_68.2.2.1 M_68.2.2.2 59 (o_ceq 95) := ok_ceq dX6_cutFrom_59 (by decide)
theorem k_68_62 : mOk M_68.1 M_68.2.1 M_68.2.2.1 M_68.2.2.2 62 (o_al 0 1) := ok_aload_n dX6_cutFrom_62 rfl
theorem k_68_63 : mOk M_68.1 M_68.2.1 M_68.2.2.1 M_68.2.2.2 63 (o_al 1 1) := ok_aload_n dX6_cutFrom_63 rfl
theorem k_68_64 : mOk M_68.1 M_68.2.1 M_68.2.2.1 M_68.2.2.2 64 (o_il 5 2) := ok_iload dX6_cutFrom_64
theorem k_68_66 : mOk M_68.1 M_68.2.1 M_68.2.2.1 M_68.2.2.2 66 (oS 1 (s_push (.int 1))) := ok_iconst dX6_cutFrom_66 (by decide)
theorem k_68_67 : mOk M_68.1 M_68.2.1 M_68.2.2.1 M_68.2.2.2 67 (oS 1 (s_ii (fun a b => a - b))) := ok_isub dX6_cutFrom_67
theorem k_68_68 : mOk M_68.1 M_68.2.1 M_68.2.2.1 M_68.2.2.2 68 (o_il 5 2) := ok_iload dX6_cutFrom_68
theorem k_68_70 : mOk M_68.1 M_68.2.1 M_68.2.2.1 M_68.2.2.2 70 (o_al 2 1) := ok_aload_n dX6_cutFrom_70 rfl
theorem k_68_71 : mOk M_68.1 M_68.2.1 M_68.2.2.1 M_68.2.2.2 71 (o_il 3 1) := ok_iload_n dX6_cutFrom_71 rfl
theorem k_68_72 : mOk M_68.1 M_68.2.1 M_68.2.2.1 M_68.2.2.2 72 (o_zeq 90) := ok_zeq dX6_cutFrom_72 (by decide)
theorem k_68_75 : mOk M_68.1 M_68.2.1 M_68.2.2.1 M_68.2.2.2 75 (o_al 0 1) := ok_aload_n dX6_cutFrom_75 rfl
theorem k_68_76 : mOk M_68.1 M_68.2.1 M_68.2.2.1 M_68.2.2.2 76 (o_gI 6 3) := ok_gI dX6_cutFrom_76 f_RX6_22 (Or.inl rfl)
theorem k_68_79 : mOk M_68.1 M_68.2.1 M_68.2.2.1 M_68.2.2.2 79 (o_zne 86) := ok_zne dX6_cutFrom_79 (by decide)
theorem k_68_82 : mOk M_68.1 M_68.2.1 M_68.2.2.1 M_68.2.2.2 82 (oS 1 (s_push (.int 1))) := ok_iconst dX6_cutFrom_82 (by decide)
theorem k_68_83 : mOk M_68.1 M_68.2.1 M_68.2.2.1 M_68.2.2.2 83 (o_goto 92) := ok_goto dX6_cutFrom_83 (by decide)
theorem k_68_86 : mOk M_68.1 M_68.2.1 M_68.2.2.1 M_68.2.2.2 86 (oS 1 (s_push (.int 0))) := ok_iconst dX6_cutFrom_86 (by decide)
theorem k_68_87 : mOk M_68.1 M_68.2.1 M_68.2.2.1 M_68.2.2.2 87 (o_goto 92) := ok_goto dX6_cutFrom_87 (by decide)
theorem k_68_90 : mOk M_68.1 M_68.2.1 M_68.2.2.1 M_68.2.2.2 90 (o_il 6 2) := ok_iload dX6_cutFrom_90
theorem k_68_95 : mOk M_68.1 M_68.2.1 M_68.2.2.1 M_68.2.2.2 95 (o_il 6 2) := ok_iload dX6_cutFrom_95
theorem k_68_97 : mOk M_68.1 M_68.2.1 M_68.2.2.1 M_68.2.2.2 97 (o_zeq 144) := ok_zeq dX6_cutFrom_97 (by decide)
theorem k_68_100 : mOk M_68.1 M_68.2.1 M_68.2.2.1 M_68.2.2.2 100 (o_al 0 1) := ok_aload_n dX6_cutFrom_100 rfl
theorem k_68_101 : mOk M_68.1 M_68.2.1 M_68.2.2.1 M_68.2.2.2 101 (o_al 1 1) := ok_aload_n dX6_cutFrom_101 rfl
theorem k_68_102 : mOk M_68.1 M_68.2.1 M_68.2.2.1 M_68.2.2.2 102 (o_gP 6 0) := ok_gP dX6_cutFrom_102 f_RX6_9 rfl
theorem k_68_105 : mOk M_68.1 M_68.2.1 M_68.2.2.1 M_68.2.2.2 105 (o_il 5 2) := ok_iload dX6_cutFrom_105
theorem k_68_107 : mOk M_68.1 M_68.2.1 M_68.2.2.1 M_68.2.2.2 107 (o_iald) := ok_iald dX6_cutFrom_107
theorem k_68_108 : mOk M_68.1 M_68.2.1 M_68.2.2.1 M_68.2.2.2 108 (o_al 1 1) := ok_aload_n dX6_cutFrom_108 rfl
theorem k_68_109 : mOk M_68.1 M_68.2.1 M_68.2.2.1 M_68.2.2.2 109 (o_gP 6 1) := ok_gP dX6_cutFrom_109 f_RX6_15 rfl
theorem k_68_112 : mOk M_68.1 M_68.2.1 M_68.2.2.1 M_68.2.2.2 112 (o_il 5 2) := ok_iload dX6_cutFrom_112
theorem k_68_114 : mOk M_68.1 M_68.2.1 M_68.2.2.1 M_68.2.2.2 114 (o_iald) := ok_iald dX6_cutFrom_114
theorem k_68_115 : mOk M_68.1 M_68.2.1 M_68.2.2.1 M_68.2.2.2 115 (o_il 3 1) := ok_iload_n dX6_cutFrom_115 rfl
theorem k_68_116 : mOk M_68.1 M_68.2.1 M_68.2.2.1 M_68.2.2.2 116 (o_zeq 134) := ok_zeq dX6_cutFrom_116 (by decide)
theorem k_68_119 : mOk M_68.1 M_68.2.1 M_68.2.2.1 M_68.2.2.2 119 (o_al 0 1) := ok_aload_n dX6_cutFrom_119 rfl
theorem k_68_120 : mOk M_68.1 M_68.2.1 M_68.2.2.1 M_68.2.2.2 120 (o_gI 6 3) := ok_gI dX6_cutFrom_120 f_RX6_22 (Or.inl rfl)
theorem k_68_123 : mOk M_68.1 M_68.2.1 M_68.2.2.1 M_68.2.2.2 123 (o_zne 130) := ok_zne dX6_cutFrom_123 (by decide)
theorem k_68_126 : mOk M_68.1 M_68.2.1 M_68.2.2.1 M_68.2.2.2 126 (oS 1 (s_push (.int 1))) := ok_iconst dX6_cutFrom_126 (by decide)
theorem k_68_127 : mOk M_68.1 M_68.2.1 M_68.2.2.1 M_68.2.2.2 127 (o_goto 141) := ok_goto dX6_cutFrom_127 (by decide)
theorem k_68_130 : mOk M_68.1 M_68.2.1 M_68.2.2.1 M_68.2.2.2 130 (oS 1 (s_push (.int 0))) := ok_iconst dX6_cutFrom_130 (by decide)
theorem k_68_131 : mOk M_68.1 M_68.2.1 M_68.2.2.1 M_68.2.2.2 131 (o_goto 141) := ok_goto dX6_cutFrom_131 (by decide)
theorem k_68_134 : mOk M_68.1 M_68.2.1 M_68.2.2.1 M_68.2.2.2 134 (o_al 1 1) := ok_aload_n dX6_cutFrom_134 rfl
theorem k_68_135 : mOk M_68.1 M_68.2.1 M_68.2.2.1 M_68.2.2.2 135 (o_gP 6 2) := ok_gP dX6_cutFrom_135 f_RX6_18 rfl
theorem k_68_138 : mOk M_68.1 M_68.2.1 M_68.2.2.1 M_68.2.2.2 138 (o_il 5 2) := ok_iload dX6_cutFrom_138
theorem k_68_140 : mOk M_68.1 M_68.2.1 M_68.2.2.1 M_68.2.2.2 140 (o_bald) := ok_bald dX6_cutFrom_140
theorem k_68_144 : mOk M_68.1 M_68.2.1 M_68.2.2.1 M_68.2.2.2 144 (o_il 6 2) := ok_iload dX6_cutFrom_144
theorem k_68_146 : mOk M_68.1 M_68.2.1 M_68.2.2.1 M_68.2.2.2 146 (o_is 4 2) := ok_istore dX6_cutFrom_146
theorem k_68_148 : mOk M_68.1 M_68.2.1 M_68.2.2.1 M_68.2.2.2 148 (o_inc 5 1) := ok_iinc dX6_cutFrom_148 (by decide)
theorem k_68_151 : mOk M_68.1 M_68.2.1 M_68.2.2.1 M_68.2.2.2 151 (o_goto 11) := ok_goto dX6_cutFrom_151 (by decide)
theorem k_68_154 : mOk M_68.1 M_68.2.1 M_68.2.2.1 M_68.2.2.2 154 (o_il 3 1) := ok_iload_n dX6_cutFrom_154 rfl
theorem k_68_155 : mOk M_68.1 M_68.2.1 M_68.2.2.1 M_68.2.2.2 155 (o_zeq 211) := ok_zeq dX6_cutFrom_155 (by decide)
theorem k_68_158 : mOk M_68.1 M_68.2.1 M_68.2.2.1 M_68.2.2.2 158 (o_al 1 1) := ok_aload_n dX6_cutFrom_158 rfl
theorem k_68_159 : mOk M_68.1 M_68.2.1 M_68.2.2.1 M_68.2.2.2 159 (o_gI 6 3) := ok_gI dX6_cutFrom_159 f_RX6_22 (Or.inl rfl)
theorem k_68_162 : mOk M_68.1 M_68.2.1 M_68.2.2.1 M_68.2.2.2 162 (o_zle 211) := ok_zle dX6_cutFrom_162 (by decide)
theorem k_68_165 : mOk M_68.1 M_68.2.1 M_68.2.2.1 M_68.2.2.2 165 (o_al 2 1) := ok_aload_n dX6_cutFrom_165 rfl
theorem k_68_166 : mOk M_68.1 M_68.2.1 M_68.2.2.1 M_68.2.2.2 166 (o_al 1 1) := ok_aload_n dX6_cutFrom_166 rfl
theorem k_68_167 : mOk M_68.1 M_68.2.1 M_68.2.2.1 M_68.2.2.2 167 (o_gP 6 0) := ok_gP dX6_cutFrom_167 f_RX6_9 rfl
theorem k_68_170 : mOk M_68.1 M_68.2.1 M_68.2.2.1 M_68.2.2.2 170 (oS 1 (s_push (.int 0))) := ok_iconst dX6_cutFrom_170 (by decide)
theorem k_68_171 : mOk M_68.1 M_68.2.1 M_68.2.2.1 M_68.2.2.2 171 (o_iald) := ok_iald dX6_cutFrom_171
theorem k_68_172 : mOk M_68.1 M_68.2.1 M_68.2.2.1 M_68.2.2.2 172 (o_al 1 1) := ok_aload_n dX6_cutFrom_172 rfl
theorem k_68_173 : mOk M_68.1 M_68.2.1 M_68.2.2.1 M_68.2.2.2 173 (o_gP 6 1) := ok_gP dX6_cutFrom_173 f_RX6_15 rfl
theorem k_68_176 : mOk M_68.1 M_68.2.1 M_68.2.2.1 M_68.2.2.2 176 (oS 1 (s_push (.int 0))) := ok_iconst dX6_cutFrom_176 (by decide)
theorem k_68_177 : mOk M_68.1 M_68.2.1 M_68.2.2.1 M_68.2.2.2 177 (o_iald) := ok_iald dX6_cutFrom_177
theorem k_68_181 : mOk M_68.1 M_68.2.1 M_68.2.2.1 M_68.2.2.2 181 (o_il 4 2) := ok_iload dX6_cutFrom_181
theorem k_68_183 : mOk M_68.1 M_68.2.1 M_68.2.2.1 M_68.2.2.2 183 (o_ceq 211) := ok_ceq dX6_cutFrom_183 (by decide)
theorem k_68_186 : mOk M_68.1 M_68.2.1 M_68.2.2.1 M_68.2.2.2 186 (o_al 0 1) := ok_aload_n dX6_cutFrom_186 rfl
theorem k_68_187 : mOk M_68.1 M_68.2.1 M_68.2.2.1 M_68.2.2.2 187 (o_al 1 1) := ok_aload_n dX6_cutFrom_187 rfl
theorem k_68_188 : mOk M_68.1 M_68.2.1 M_68.2.2.1 M_68.2.2.2 188 (o_al 1 1) := ok_aload_n dX6_cutFrom_188 rfl
theorem k_68_189 : mOk M_68.1 M_68.2.1 M_68.2.2.1 M_68.2.2.2 189 (o_gI 6 3) := ok_gI dX6_cutFrom_189 f_RX6_22 (Or.inl rfl)
theorem k_68_192 : mOk M_68.1 M_68.2.1 M_68.2.2.1 M_68.2.2.2 192 (oS 1 (s_push (.int 1))) := ok_iconst dX6_cutFrom_192 (by decide)
theorem k_68_193 : mOk M_68.1 M_68.2.1 M_68.2.2.1 M_68.2.2.2 193 (oS 1 (s_ii (fun a b => a - b))) := ok_isub dX6_cutFrom_193
theorem k_68_194 : mOk M_68.1 M_68.2.1 M_68.2.2.1 M_68.2.2.2 194 (oS 1 (s_push (.int 0))) := ok_iconst dX6_cutFrom_194 (by decide)
theorem k_68_195 : mOk M_68.1 M_68.2.1 M_68.2.2.1 M_68.2.2.2 195 (o_al 2 1) := ok_aload_n dX6_cutFrom_195 rfl
theorem k_68_196 : mOk M_68.1 M_68.2.1 M_68.2.2.1 M_68.2.2.2 196 (o_al 0 1) := ok_aload_n dX6_cutFrom_196 rfl
theorem k_68_197 : mOk M_68.1 M_68.2.1 M_68.2.2.1 M_68.2.2.2 197 (o_gI 6 3) := ok_gI dX6_cutFrom_197 f_RX6_22 (Or.inl rfl)
theorem k_68_200 : mOk M_68.1 M_68.2.1 M_68.2.2.1 M_68.2.2.2 200 (o_zne 207) := ok_zne dX6_cutFrom_200 (by decide)
theorem k_68_203 : mOk M_68.1 M_68.2.1 M_68.2.2.1 M_68.2.2.2 203 (oS 1 (s_push (.int 1))) := ok_iconst dX6_cutFrom_203 (by decide)
theorem k_68_204 : mOk M_68.1 M_68.2.1 M_68.2.2.1 M_68.2.2.2 204 (o_goto 208) := ok_goto dX6_cutFrom_204 (by decide)
theorem k_68_207 : mOk M_68.1 M_68.2.1 M_68.2.2.1 M_68.2.2.2 207 (oS 1 (s_push (.int 0))) := ok_iconst dX6_cutFrom_207 (by decide)
set_option maxRecDepth 20000 in
set_option maxHeartbeats 4000000 in
theorem tk_68 (l : Launch) (H9 : mThr l) (H10 : mSpl l) (pc : Nat) (q : mEnt) (h : tb_68 pc = some q) : EE l 68 pc q := nd h (fun h => nd h (fun h => nd h (fun h => nd h (fun h => nd h (fun h => nd h (fun h => lf (P := EE l 68) h k_68_0) (fun h => nd h (fun h => lf (P := EE l 68) h k_68_1) (fun h => lf (P := EE l 68) h k_68_2))) (fun h => nd h (fun h => nd h (fun h => lf (P := EE l 68) h k_68_5) (fun h => lf (P := EE l 68) h k_68_6)) (fun h => nd h (fun h => lf (P := EE l 68) h k_68_8) (fun h => lf (P := EE l 68) h k_68_9)))) (fun h => nd h (fun h => nd h (fun h => lf (P := EE l 68) h k_68_11) (fun h => nd h (fun h => lf (P := EE l 68) h k_68_13) (fun h => lf (P := EE l 68) h k_68_14))) (fun h => nd h (fun h => nd h (fun h => lf (P := EE l 68) h k_68_17) (fun h => lf (P := EE l 68) h k_68_20)) (fun h => nd h (fun h => lf (P := EE l 68) h k_68_21) (fun h => lf (P := EE l 68) h k_68_22))))) (fun h => nd h (fun h => nd h (fun h => nd h (fun h => lf (P := EE l 68) h k_68_25) (fun h => nd h (fun h => lf (P := EE l 68) h k_68_27) (fun h => lf (P := EE l 68) h k_68_28))) (fun h => nd h (fun h => nd h (fun h => lf (P := EE l 68) h k_68_29) (fun h => lf (P := EE l 68) h k_68_32)) (fun h => nd h (fun h => lf (P := EE l 68) h k_68_34) (fun h => lf (P := EE l 68) h (EE_ca (by decide) (⟨m_811, m_76, ⟨by decide, by decide⟩, by decide +kernel, ⟨by decide, by decide⟩, 65, 2, by decide +kernel, Or.inr (Or.inr (Or.inl ⟨rfl, rfl, dX6_cutFrom_35, m_808, m_809, _, rfl, by decide, m_810⟩))⟩) rfl))))) (fun h => nd h (fun h => nd h (fun h => lf (P := EE l 68) h k_68_38) (fun h => nd h (fun h => lf (P := EE l 68) h k_68_40) (fun h => lf (P := EE l 68) h k_68_42))) (fun h => nd h (fun h => nd h (fun h => lf (P := EE l 68) h k_68_45) (fun h => lf (P := EE l 68) h k_68_46)) (fun h => nd h (fun h => lf (P := EE l 68) h k_68_49) (fun h => lf (P := EE l 68) h k_68_51)))))) (fun h => nd h (fun h => nd h (fun h => nd h (fun h => nd h (fun h => lf (P := EE l 68) h k_68_52) (fun h => nd h (fun h => lf (P := EE l 68) h k_68_55) (fun h => lf (P := EE l 68) h k_68_57))) (fun h => nd h (fun h => nd h (fun h => lf (P := EE l 68) h k_68_59) (fun h => lf (P := EE l 68) h k_68_62)) (fun h => nd h (fun h => lf (P := EE l 68) h k_68_63) (fun h => lf (P := EE l 68) h k_68_64)))) (fun h => nd h (fun h => nd h (fun h => lf (P := EE l 68) h k_68_66) (fun h => nd h (fun h => lf (P := EE l 68) h k_68_67) (fun h => lf (P := EE l 68) h k_68_68))) (fun h => nd h (fun h => nd h (fun h => lf (P := EE l 68) h k_68_70) (fun h => lf (P := EE l 68) h k_68_71)) (fun h => nd h (fun h => lf (P := EE l 68) h k_68_72) (fun h => lf (P := EE l 68) h k_68_75))))) (fun h => nd h (fun h => nd h (fun h => nd h (fun h => lf (P := EE l 68) h k_68_76) (fun h => nd h (fun h => lf (P := EE l 68) h k_68_79) (fun h => lf (P := EE l 68) h k_68_82))) (fun h => nd h (fun h => nd h (fun h => lf (P := EE l 68) h k_68_83) (fun h => lf (P := EE l 68) h k_68_86)) (fun h => nd h (fun h => lf (P := EE l 68) h k_68_87) (fun h => lf (P := EE l 68) h k_68_90)))) (fun h => nd h (fun h => nd h (fun h => lf (P := EE l 68) h (EE_ca (by decide) (⟨m_815, m_75, ⟨by decide, by decide⟩, by decide +kernel, ⟨by decide, by decide⟩, 70, 5, by decide +kernel, Or.inr (Or.inr (Or.inl ⟨rfl, rfl, dX6_cutFrom_92, m_812, m_814, _, rfl, by decide, m_19⟩))⟩) rfl)) (fun h => nd h (fun h => lf (P := EE l 68) h k_68_95) (fun h => lf (P := EE l 68) h k_68_97))) (fun h => nd h (fun h => nd h (fun h => lf (P := EE l 68) h k_68_100) (fun h => lf (P := EE l 68) h k_68_101)) (fun h => nd h (fun h => lf (P := EE l 68) h k_68_102) (fun h => lf (P := EE l 68) h k_68_105))))))) (fun h => nd h (fun h => nd h (fun h => nd h (fun h => nd h (fun h => nd h (fun h => lf (P := EE l 68) h k_68_107) (fun h => nd h (fun h => lf (P := EE l 68) h k_68_108) (fun h => lf (P := EE l 68) h k_68_109))) (fun h => nd h (fun h => nd h (fun h => lf (P := EE l 68) h k_68_112) (fun h => lf (P := EE l 68) h k_68_114)) (fun h => nd h (fun h => lf (P := EE l 68) h k_68_115) (fun h => lf (P := EE l 68) h k_68_116)))) (fun h => nd h (fun h => nd h (fun h => lf (P := EE l 68) h k_68_119) (fun h => nd h (fun h => lf (P := EE l 68) h k_68_120) (fun h => lf (P := EE l 68) h k_68_123))) (fun h => nd h (fun h => nd h (fun h => lf (P := EE l 68) h k_68_126) (fun h => lf (P := EE l 68) h k_68_127)) (fun h => nd h (fun h => lf (P := EE l 68) h k_68_130) (fun h => lf (P := EE l 68) h k_68_131))))) (fun h => nd h (fun h => nd h (fun h => nd h (fun h => lf (P := EE l 68) h k_68_134) (fun h => nd h (fun h => lf (P := EE l 68) h k_68_135) (fun h => lf (P := EE l 68) h k_68_138))) (fun h => nd h (fun h => nd h (fun h => lf (P := EE l 68) h k_68_140) (fun h => lf (P := EE l 68) h (EE_ca (by decide) (⟨m_735, m_75, ⟨by decide, by decide⟩, by decide +kernel, ⟨by decide, by decide⟩, 61, 3, by decide +kernel, Or.inr (Or.inr (Or.inl ⟨rfl, rfl, dX6_cutFrom_141, m_799, m_733, _, rfl, by decide, m_734⟩))⟩) rfl))) (fun h => nd h (fun h => lf (P := EE l 68) h k_68_144) (fun h => lf (P := EE l 68) h k_68_146)))) (fun h => nd h (fun h => nd h (fun h => lf (P := EE l 68) h k_68_148) (fun h => nd h (fun h => lf (P := EE l 68) h k_68_151) (fun h => lf (P := EE l 68) h k_68_154))) (fun h => nd h (fun h => nd h (fun h => lf (P := EE l 68) h k_68_155) (fun h => lf (P := EE l 68) h k_68_158)) (fun h => nd h (fun h => lf (P := EE l 68) h k_68_159) (fun h => lf (P := EE l 68) h k_68_162)))))) (fun h => nd h (fun h => nd h (fun h => nd h (fun h => nd h (fun h => lf (P := EE l 68) h k_68_165) (fun h => nd h (fun h => lf (P := EE l 68) h k_68_166) (fun h => lf (P := EE l 68) h k_68_167))) (fun h => nd h (fun h => nd h (fun h => lf (P := EE l 68) h k_68_170) (fun h => lf (P := EE l 68) h k_68_171)) (fun h => nd h (fun h => lf (P := EE l 68) h k_68_172) (fun h => lf (P := EE l 68) h k_68_173)))) (fun h => nd h (fun h => nd h (fun h => lf (P := EE l 68) h k_68_176) (fun h => nd h (fun h => lf (P := EE l 68) h k_68_177) (fun h => lf (P := EE l 68) h (EE_ca (by decide) (⟨m_811, m_76, ⟨by decide, by decide⟩, by decide +kernel, ⟨by decide, by decide⟩, 65, 2, by decide +kernel, Or.inr (Or.inr (Or.inl ⟨rfl, rfl, dX6_cutFrom_178, m_808, m_809, _, rfl, by decide, m_810⟩))⟩) rfl)))) (fun h => nd h (fun h => nd h (fun h => lf (P := EE l 68) h k_68_181) (fun h => lf (P := EE l 68) h k_68_183)) (fun h => nd h (fun h => lf (P := EE l 68) h k_68_186) (fun h => lf (P := EE l 68) h k_68_187))))) (fun h => nd h (fun h => nd h (fun h => nd h (fun h => lf (P := EE l 68) h k_68_188) (fun h => nd h (fun h => lf (P := EE l 68) h k_68_189) (fun h => lf (P := EE l 68) h k_68_192))) (fun h => nd h (fun h => nd h (fun h => lf (P := EE l 68) h k_68_193) (fun h => lf (P := EE l 68) h k_68_194)) (fun h => nd h (fun h => lf (P := EE l 68) h k_68_195) (fun h => lf (P := EE l 68) h k_68_196)))) (fun h => nd h (fun h => nd h (fun h => lf (P := EE l 68) h k_68_197) (fun h => nd h (fun h => lf (P := EE l 68) h k_68_200) (fun h => lf (P := EE l 68) h k_68_203))) (fun h => nd h (fun h => nd h (fun h => lf (P := EE l 68) h k_68_204) (fun h => lf (P := EE l 68) h k_68_207)) (fun h => nd h (fun h => lf (P := EE l 68) h (EE_ca (by decide) (⟨m_815, m_75, ⟨by decide, by decide⟩, by decide +kernel, ⟨by decide, by decide⟩, 70, 5, by decide +kernel, Or.inr (Or.inr (Or.inl ⟨rfl, rfl, dX6_cutFrom_208, m_812, m_814, _, rfl, by decide, m_19⟩))⟩) rfl)) (fun h => lf (P := EE l 68) h (EE_re (Or.inr (Or.inr (Or.inr (Or.inr ⟨rfl, dX6_cutFrom_211, rfl⟩))))))))))))
theorem dX6_putOnBorder_0 : decode cX6_putOnBorder 0 = .ok (.aload 4, 2) := by decide +kernel
theorem dX6_putOnBorder_2 : decode cX6_putOnBorder 2 = .ok (.getfield 74, 3) := by decide +kernel
theorem dX6_putOnBorder_5 : decode cX6_putOnBorder 5 = .ok (.ifCond .eq 50, 3) := by decide +kernel
theorem dX6_putOnBorder_8 : decode cX6_putOnBorder 8 = .ok (.aload 4, 2) := by decide +kernel
theorem dX6_putOnBorder_10 : decode cX6_putOnBorder 10 = .ok (.aload_n 1, 1) := by decide +kernel
theorem dX6_putOnBorder_11 : decode cX6_putOnBorder 11 = .ok (.getfield 9, 3) := by decide +kernel
theorem dX6_putOnBorder_14 : decode cX6_putOnBorder 14 = .ok (.iload_n 2, 1) := by decide +kernel
theorem dX6_putOnBorder_15 : decode cX6_putOnBorder 15 = .ok (.iaload, 1) := by decide +kernel
theorem dX6_putOnBorder_16 : decode cX6_putOnBorder 16 = .ok (.aload_n 1, 1) := by decide +kernel
theorem dX6_putOnBorder_17 : decode cX6_putOnBorder 17 = .ok (.getfield 15, 3) := by decide +kernel
theorem dX6_putOnBorder_20 : decode cX6_putOnBorder 20 = .ok (.iload_n 2, 1) := by decide +kernel
theorem dX6_putOnBorder_21 : decode cX6_putOnBorder 21 = .ok (.iaload, 1) := by decide +kernel
theorem dX6_putOnBorder_22 : decode cX6_putOnBorder 22 = .ok (.aload_n 1, 1) := by decide +kernel
theorem dX6_putOnBorder_23 : decode cX6_putOnBorder 23 = .ok (.getfield 9, 3) := by decide +kernel
theorem dX6_putOnBorder_26 : decode cX6_putOnBorder 26 = .ok (.iload_n 3, 1) := by decide +kernel
theorem dX6_putOnBorder_27 : decode cX6_putOnBorder 27 = .ok (.iaload, 1) := by decide +kernel
theorem dX6_putOnBorder_28 : decode cX6_putOnBorder 28 = .ok (.aload_n 1, 1) := by decide +kernel
theorem dX6_putOnBorder_29 : decode cX6_putOnBorder 29 = .ok (.getfield 15, 3) := by decide +kernel
theorem dX6_putOnBorder_32 : decode cX6_putOnBorder 32 = .ok (.iload_n 3, 1) := by decide +kernel
theorem dX6_putOnBorder_33 : decode cX6_putOnBorder 33 = .ok (.iaload, 1) := by decide +kernel
theorem dX6_putOnBorder_34 : decode cX6_putOnBorder 34 = .ok (.invokevirtual 78, 3) := by decide +kernel
theorem dX6_putOnBorder_37 : decode cX6_putOnBorder 37 = .ok (.istore 6, 2) := by decide +kernel
theorem dX6_putOnBorder_39 : decode cX6_putOnBorder 39 = .ok (.aload_n 0, 1) := by decide +kernel
theorem dX6_putOnBorder_40 : decode cX6_putOnBorder 40 = .ok (.aload 4, 2) := by decide +kernel
theorem dX6_putOnBorder_42 : decode cX6_putOnBorder 42 = .ok (.getfield 82, 3) := by decide +kernel
theorem dX6_putOnBorder_45 : decode cX6_putOnBorder 45 = .ok (.iload 6, 2) := by decide +kernel
theorem dX6_putOnBorder_47 : decode cX6_putOnBorder 47 = .ok (.iload 5, 2) := by decide +kernel
theorem dX6_putOnBorder_49 : decode cX6_putOnBorder 49 = .ok (.invokevirtual 61, 3) := by decide +kernel
theorem dX6_putOnBorder_52 : decode cX6_putOnBorder 52 = .ok (.goto 47, 3) := by decide +kernel
theorem dX6_putOnBorder_55 : decode cX6_putOnBorder 55 = .ok (.aload 4, 2) := by decide +kernel
theorem dX6_putOnBorder_57 : decode cX6_putOnBorder 57 = .ok (.aload_n 1, 1) := by decide +kernel
theorem dX6_putOnBorder_58 : decode cX6_putOnBorder 58 = .ok (.getfield 15, 3) := by decide +kernel
theorem dX6_putOnBorder_61 : decode cX6_putOnBorder 61 = .ok (.iload_n 2, 1) := by decide +kernel
theorem dX6_putOnBorder_62 : decode cX6_putOnBorder 62 = .ok (.iaload, 1) := by decide +kernel
theorem dX6_putOnBorder_63 : decode cX6_putOnBorder 63 = .ok (.aload_n 1, 1) := by decide +kernel
theorem dX6_putOnBorder_64 : decode cX6_putOnBorder 64 = .ok (.getfield 9, 3) := by decide +kernel
theorem dX6_putOnBorder_67 : decode cX6_putOnBorder 67 = .ok (.iload_n 2, 1) := by decide +kernel
theorem dX6_putOnBorder_68 : decode cX6_putOnBorder 68 = .ok (.iaload, 1) := by decide +kernel
theorem dX6_putOnBorder_69 : decode cX6_putOnBorder 69 = .ok (.aload_n 1, 1) := by decide +kernel
theorem dX6_putOnBorder_70 : decode cX6_putOnBorder 70 = .ok (.getfield 15, 3) := by decide +kernel
theorem dX6_putOnBorder_73 : decode cX6_putOnBorder 73 = .ok (.iload_n 3, 1) := by decide +kernel
theorem dX6_putOnBorder_74 : decode cX6_putOnBorder 74 = .ok (.iaload, 1) := by decide +kernel
theorem dX6_putOnBorder_75 : decode cX6_putOnBorder 75 = .ok (.aload_n 1, 1) := by decide +kernel
theorem dX6_putOnBorder_76 : decode cX6_putOnBorder 76 = .ok (.getfield 9, 3) := by decide +kernel
theorem dX6_putOnBorder_79 : decode cX6_putOnBorder 79 = .ok (.iload_n 3, 1) := by decide +kernel
theorem dX6_putOnBorder_80 : decode cX6_putOnBorder 80 = .ok (.iaload, 1) := by decide +kernel
theorem dX6_putOnBorder_81 : decode cX6_putOnBorder 81 = .ok (.invokevirtual 78, 3) := by decide +kernel
theorem dX6_putOnBorder_84 : decode cX6_putOnBorder 84 = .ok (.istore 6, 2) := by decide +kernel
theorem dX6_putOnBorder_86 : decode cX6_putOnBorder 86 = .ok (.aload_n 0, 1) := by decide +kernel
theorem dX6_putOnBorder_87 : decode cX6_putOnBorder 87 = .ok (.iload 6, 2) := by decide +kernel
theorem dX6_putOnBorder_89 : decode cX6_putOnBorder 89 = .ok (.aload 4, 2) := by decide +kernel
theorem dX6_putOnBorder_91 : decode cX6_putOnBorder 91 = .ok (.getfield 82, 3) := by decide +kernel
theorem dX6_putOnBorder_94 : decode cX6_putOnBorder 94 = .ok (.iload 5, 2) := by decide +kernel
theorem dX6_putOnBorder_96 : decode cX6_putOnBorder 96 = .ok (.invokevirtual 61, 3) := by decide +kernel
theorem dX6_putOnBorder_99 : decode cX6_putOnBorder 99 = .ok (.return_, 1) := by decide +kernel
def tb_69 (pc : Nat) : Option mEnt := bif Nat.ble pc 47 then (bif Nat.ble pc 22 then (bif Nat.ble pc 11 then (bif Nat.ble pc 5 then (bif Nat.ble pc 0 then (bif Nat.beq pc 0 then some (.inl (o_al 4 2)) else none) else (bif Nat.ble pc 2 then (bif Nat.beq pc 2 then some (.inl (o_gI 8 0)) else none) else (bif Nat.beq pc 5 then some (.inl (o_zeq 55)) else none))) else (bif Nat.ble pc 8 then (bif Nat.beq pc 8 then some (.inl (o_al 4 2)) else none) else (bif Nat.ble pc 10 then (bif Nat.beq pc 10 then some (.inl (o_al 1 1)) else none) else (bif Nat.beq pc 11 then some (.inl (o_gP 6 0)) else none)))) else (bif Nat.ble pc 16 then (bif Nat.ble pc 14 then (bif Nat.beq pc 14 then some (.inl (o_il 2 1)) else none) else (bif Nat.ble pc 15 then (bif Nat.beq pc 15 then some (.inl (o_iald)) else none) else (bif Nat.beq pc 16 then some (.inl (o_al 1 1)) else none))) else (bif Nat.ble pc 20 then (bif Nat.ble pc 17 then (bif Nat.beq pc 17 then some (.inl (o_gP 6 1)) else none) else (bif Nat.beq pc 20 then some (.inl (o_il 2 1)) else none)) else (bif Nat.ble pc 21 then (bif Nat.beq pc 21 then some (.inl (o_iald)) else none) else (bif Nat.beq pc 22 then some (.inl (o_al 1 1)) else none))))) else (bif Nat.ble pc 33 then (bif Nat.ble pc 27 then (bif Nat.ble pc 23 then (bif Nat.beq pc 23 then some (.inl (o_gP 6 0)) else none) else (bif Nat.ble pc 26 then (bif Nat.beq pc 26 then some (.inl (o_il 3 1)) else none) else (bif Nat.beq pc 27 then some (.inl (o_iald)) else none))) else (bif Nat.ble pc 29 then (bif Nat.ble pc 28 then (bif Nat.beq pc 28 then some (.inl (o_al 1 1)) else none) else (bif Nat.beq pc 29 then some (.inl (o_gP 6 1)) else none)) else (bif Nat.ble pc 32 then (bif Nat.beq pc 32 then some (.inl (o_il 3 1)) else none) else (bif Nat.beq pc 33 then some (.inl (o_iald)) else none)))) else (bif Nat.ble pc 39 then (bif Nat.ble pc 34 then (bif Nat.beq pc 34 then some (.inr (3, 80, 5, 8)) else none) else (bif Nat.ble pc 37 then (bif Nat.beq pc 37 then some (.inl (o_is 6 2)) else none) else (bif Nat.beq pc 39 then some (.inl (o_al 0 1)) else none))) else (bif Nat.ble pc 42 then (bif Nat.ble pc 40 then (bif Nat.beq pc 40 then some (.inl (o_al 4 2)) else none) else (bif Nat.beq pc 42 then some (.inl (o_gI 8 2)) else none)) else (bif Nat.ble pc 45 then (bif Nat.beq pc 45 then some (.inl (o_il 6 2)) else none) else (bif Nat.beq pc 47 then some (.inl (o_il 5 2)) else none)))))) else (bif Nat.ble pc 73 then (bif Nat.ble pc 62 then (bif Nat.ble pc 55 then (bif Nat.ble pc 49 then (bif Nat.beq pc 49 then some (.inr (3, 57, 4, 6)) else none) else (bif Nat.ble pc 52 then (bif Nat.beq pc 52 then some (.inl (o_goto 99)) else none) else (bif Nat.beq pc 55 then some (.inl (o_al 4 2)) else none))) else (bif Nat.ble pc 58 then (bif Nat.ble pc 57 then (bif Nat.beq pc 57 then some (.inl (o_al 1 1)) else none) else (bif Nat.beq pc 58 then some (.inl (o_gP 6 1)) else none)) else (bif Nat.ble pc 61 then (bif Nat.beq pc 61 then some (.inl (o_il 2 1)) else none) else (bif Nat.beq pc 62 then some (.inl (o_iald)) else none)))) else (bif Nat.ble pc 67 then (bif Nat.ble pc 63 then (bif Nat.beq pc 63 then some (.inl (o_al 1 1)) else none) else (bif Nat.ble pc 64 then (bif Nat.beq pc 64 then some (.inl (o_gP 6 0)) else none) else (bif Nat.beq pc 67 then some (.inl (o_il 2 1)) else none))) else (bif Nat.ble pc 69 then (bif Nat.ble pc 68 then (bif Nat.beq pc 68 then some (.inl (o_iald)) else none) else (bif Nat.beq pc 69 then some (.inl (o_al 1 1)) else none)) else (bif Nat.ble pc 70 then (bif Nat.beq pc 70 then some (.inl (o_gP 6 1)) else none) else (bif Nat.beq pc 73 then some (.inl (o_il 3 1)) else none))))) else (bif Nat.ble pc 84 then (bif Nat.ble pc 76 then (bif Nat.ble pc 74 then (bif Nat.beq pc 74 then some (.inl (o_iald)) else none) else (bif Nat.ble pc 75 then (bif Nat.beq pc 75 then some (.inl (o_al 1 1)) else none) else (bif Nat.beq pc 76 then some (.inl (o_gP 6 0)) else none))) else (bif Nat.ble pc 80 then (bif Nat.ble pc 79 then (bif Nat.beq pc 79 then some (.inl (o_il 3 1)) else none) else (bif Nat.beq pc 80 then some (.inl (o_iald)) else none)) else (bif Nat.ble pc 81 then (bif Nat.beq pc 81 then some (.inr (3, 80, 5, 8)) else none) else (bif Nat.beq pc 84 then some (.inl (o_is 6 2)) else none)))) else (bif Nat.ble pc 89 then (bif Nat.ble pc 86 then (bif Nat.beq pc 86 then some (.inl (o_al 0 1)) else none) else (bif Nat.ble pc 87 then (bif Nat.beq pc 87 then some (.inl (o_il 6 2)) else none) else (bif Nat.beq pc 89 then some (.inl (o_al 4 2)) else none))) else (bif Nat.ble pc 94 then (bif Nat.ble pc 91 then (bif Nat.beq pc 91 then some (.inl (o_gI 8 2)) else none) else (bif Nat.beq pc 94 then some (.inl (o_il 5 2)) else none)) else (bif Nat.ble pc 96 then (bif Nat.beq pc 96 then some (.inr (3, 57, 4, 6)) else none) else (bif Nat.beq pc 99 then some (.inr (0, 0, 0, 3)) else none))))))
theorem k_69_0 : mOk M_69.1 M_69.2.1 M_69.2.2.1 M_69.2.2.2 0 (o_al 4 2) := ok_aload dX6_putOnBorder_0
theorem k_69_2 : mOk M_69.1 M_69.2.1 M_69.2.2.1 M_69.2.2.2 2 (o_gI 8 0) := ok_gI dX6_putOnBorder_2 f_RX6_74 (Or.inr rfl)
theorem k_69_5 : mOk M_69.1 M_69.2.1 M_69.2.2.1 M_69.2.2.2 5 (o_zeq 55) := ok_zeq dX6_putOnBorder_5 (by decide)
theorem k_69_8 : mOk M_69.1 M_69.2.1 M_69.2.2.1 M_69.2.2.2 8 (o_al 4 2) := ok_aload dX6_putOnBorder_8
theorem k_69_10 : mOk M_69.1 M_69.2.1 M_69.2.2.1 M_69.2.2.2 10 (o_al 1 1) := ok_aload_n dX6_putOnBorder_10 rfl
theorem k_69_11 : mOk M_69.1 M_69.2.1 M_69.2.2.1 M_69.2.2.2 11 (o_gP 6 0) := ok_gP dX6_putOnBorder_11 f_RX6_9 rfl
theorem k_69_14 : mOk M_69.1 M_69.2.1 M_69.2.2.1 M_69.2.2.2 14 (o_il 2 1) := ok_iload_n dX6_putOnBorder_14 rfl
theorem k_69_15 : mOk M_69.1 M_69.2.1 M_69.2.2.1 M_69.2.2.2 15 (o_iald) := ok_iald dX6_putOnBorder_15
theorem k_69_16 : mOk M_69.1 M_69.2.1 M_69.2.2.1 M_69.2.2.2 16 (o_al 1 1) := ok_aload_n dX6_putOnBorder_16 rfl
theorem k_69_17 : mOk M_69.1 M_69.2.1 M_69.2.2.1 M_69.2.2.2 17 (o_gP 6 1) := ok_gP dX6_putOnBorder_17 f_RX6_15 rfl
theorem k_69_20 : mOk M_69.1 M_69.2.1 M_69.2.2.1 M_69.2.2.2 20 (o_il 2 1) := ok_iload_n dX6_putOnBorder_20 rfl
theorem k_69_21 : mOk M_69.1 M_69.2.1 M_69.2.2.1 M_69.2.2.2 21 (o_iald) := ok_iald dX6_putOnBorder_21
theorem k_69_22 : mOk M_69.1 M_69.2.1 M_69.2.2.1 M_69.2.2.2 22 (o_al 1 1) := ok_aload_n dX6_putOnBorder_22 rfl
theorem k_69_23 : mOk M_69.1 M_69.2.1 M_69.2.2.1 M_69.2.2.2 23 (o_gP 6 0) := ok_gP dX6_putOnBorder_23 f_RX6_9 rfl
theorem k_69_26 : mOk M_69.1 M_69.2.1 M_69.2.2.1 M_69.2.2.2 26 (o_il 3 1) := ok_iload_n dX6_putOnBorder_26 rfl
theorem k_69_27 : mOk M_69.1 M_69.2.1 M_69.2.2.1 M_69.2.2.2 27 (o_iald) := ok_iald dX6_putOnBorder_27
theorem k_69_28 : mOk M_69.1 M_69.2.1 M_69.2.2.1 M_69.2.2.2 28 (o_al 1 1) := ok_aload_n dX6_putOnBorder_28 rfl
theorem k_69_29 : mOk M_69.1 M_69.2.1 M_69.2.2.1 M_69.2.2.2 29 (o_gP 6 1) := ok_gP dX6_putOnBorder_29 f_RX6_15 rfl
theorem k_69_32 : mOk M_69.1 M_69.2.1 M_69.2.2.1 M_69.2.2.2 32 (o_il 3 1) := ok_iload_n dX6_putOnBorder_32 rfl
theorem k_69_33 : mOk M_69.1 M_69.2.1 M_69.2.2.1 M_69.2.2.2 33 (o_iald) := ok_iald dX6_putOnBorder_33
theorem k_69_37 : mOk M_69.1 M_69.2.1 M_69.2.2.1 M_69.2.2.2 37 (o_is 6 2) := ok_istore dX6_putOnBorder_37
theorem k_69_39 : mOk M_69.1 M_69.2.1 M_69.2.2.1 M_69.2.2.2 39 (o_al 0 1) := ok_aload_n dX6_putOnBorder_39 rfl
theorem k_69_40 : mOk M_69.1 M_69.2.1 M_69.2.2.1 M_69.2.2.2 40 (o_al 4 2) := ok_aload dX6_putOnBorder_40
theorem k_69_42 : mOk M_69.1 M_69.2.1 M_69.2.2.1 M_69.2.2.2 42 (o_gI 8 2) := ok_gI dX6_putOnBorder_42 f_RX6_82 (Or.inl rfl)
theorem k_69_45 : mOk M_69.1 M_69.2.1 M_69.2.2.1 M_69.2.2.2 45 (o_il 6 2) := ok_iload dX6_putOnBorder_45
theorem k_69_47 : mOk M_69.1 M_69.2.1 M_69.2.2.1 M_69.2.2.2 47 (o_il 5 2) := ok_iload dX6_putOnBorder_47
theorem k_69_52 : mOk M_69.1 M_69.2.1 M_69.2.2.1 M_69.2.2.2 52 (o_goto 99) := ok_goto dX6_putOnBorder_52 (by decide)
theorem k_69_55 : mOk M_69.1 M_69.2.1 M_69.2.2.1 M_69.2.2.2 55 (o_al 4 2) := ok_aload dX6_putOnBorder_55
theorem k_69_57 : mOk M_69.1 M_69.2.1 M_69.2.2.1 M_69.2.2.2 57 (o_al 1 1) := ok_aload_n dX6_putOnBorder_57 rfl
theorem k_69_58 : mOk M_69.1 M_69.2.1 M_69.2.2.1 M_69.2.2.2 58 (o_gP 6 1) := ok_gP dX6_putOnBorder_58 f_RX6_15 rfl
theorem k_69_61 : mOk M_69.1 M_69.2.1 M_69.2.2.1 M_69.2.2.2 61 (o_il 2 1) := ok_iload_n dX6_putOnBorder_61 rfl
theorem k_69_62 : mOk M_69.1 M_69.2.1 M_69.2.2.1 M_69.2.2.2 62 (o_iald) := ok_iald dX6_putOnBorder_62
theorem k_69_63 : mOk M_69.1 M_69.2.1 M_69.2.2.1 M_69.2.2.2 63 (o_al 1 1) := ok_aload_n dX6_putOnBorder_63 rfl
theorem k_69_64 : mOk M_69.1 M_69.2.1 M_69.2.2.1 M_69.2.2.2 64 (o_gP 6 0) := ok_gP dX6_putOnBorder_64 f_RX6_9 rfl
theorem k_69_67 : mOk M_69.1 M_69.2.1 M_69.2.2.1 M_69.2.2.2 67 (o_il 2 1) := ok_iload_n dX6_putOnBorder_67 rfl
theorem k_69_68 : mOk M_69.1 M_69.2.1 M_69.2.2.1 M_69.2.2.2 68 (o_iald) := ok_iald dX6_putOnBorder_68
theorem k_69_69 : mOk M_69.1 M_69.2.1 M_69.2.2.1 M_69.2.2.2 69 (o_al 1 1) := ok_aload_n dX6_putOnBorder_69 rfl
theorem k_69_70 : mOk M_69.1 M_69.2.1 M_69.2.2.1 M_69.2.2.2 70 (o_gP 6 1) := ok_gP dX6_putOnBorder_70 f_RX6_15 rfl
theorem k_69_73 : mOk M_69.1 M_69.2.1 M_69.2.2.1 M_69.2.2.2 73 (o_il 3 1) := ok_iload_n dX6_putOnBorder_73 rfl
theorem k_69_74 : mOk M_69.1 M_69.2.1 M_69.2.2.1 M_69.2.2.2 74 (o_iald) := ok_iald dX6_putOnBorder_74
theorem k_69_75 : mOk M_69.1 M_69.2.1 M_69.2.2.1 M_69.2.2.2 75 (o_al 1 1) := ok_aload_n dX6_putOnBorder_75 rfl
theorem k_69_76 : mOk M_69.1 M_69.2.1 M_69.2.2.1 M_69.2.2.2 76 (o_gP 6 0) := ok_gP dX6_putOnBorder_76 f_RX6_9 rfl
theorem k_69_79 : mOk M_69.1 M_69.2.1 M_69.2.2.1 M_69.2.2.2 79 (o_il 3 1) := ok_iload_n dX6_putOnBorder_79 rfl
theorem k_69_80 : mOk M_69.1 M_69.2.1 M_69.2.2.1 M_69.2.2.2 80 (o_iald) := ok_iald dX6_putOnBorder_80
theorem k_69_84 : mOk M_69.1 M_69.2.1 M_69.2.2.1 M_69.2.2.2 84 (o_is 6 2) := ok_istore dX6_putOnBorder_84
theorem k_69_86 : mOk M_69.1 M_69.2.1 M_69.2.2.1 M_69.2.2.2 86 (o_al 0 1) := ok_aload_n dX6_putOnBorder_86 rfl
theorem k_69_87 : mOk M_69.1 M_69.2.1 M_69.2.2.1 M_69.2.2.2 87 (o_il 6 2) := ok_iload dX6_putOnBorder_87
theorem k_69_89 : mOk M_69.1 M_69.2.1 M_69.2.2.1 M_69.2.2.2 89 (o_al 4 2) := ok_aload dX6_putOnBorder_89
theorem k_69_91 : mOk M_69.1 M_69.2.1 M_69.2.2.1 M_69.2.2.2 91 (o_gI 8 2) := ok_gI dX6_putOnBorder_91 f_RX6_82 (Or.inl rfl)
theorem k_69_94 : mOk M_69.1 M_69.2.1 M_69.2.2.1 M_69.2.2.2 94 (o_il 5 2) := ok_iload dX6_putOnBorder_94
set_option maxRecDepth 20000 in
set_option maxHeartbeats 4000000 in
theorem tk_69 (l : Launch) (H9 : mThr l) (H10 : mSpl l) (pc : Nat) (q : mEnt) (h : tb_69 pc = some q) : EE l 69 pc q := nd h (fun h => nd h (fun h => nd h (fun h => nd h (fun h => nd h (fun h => lf (P := EE l 69) h k_69_0) (fun h => nd h (fun h => lf (P := EE l 69) h k_69_2) (fun h => lf (P := EE l 69) h k_69_5))) (fun h => nd h (fun h => lf (P := EE l 69) h k_69_8) (fun h => nd h (fun h => lf (P := EE l 69) h k_69_10) (fun h => lf (P := EE l 69) h k_69_11)))) (fun h => nd h (fun h => nd h (fun h => lf (P := EE l 69) h k_69_14) (fun h => nd h (fun h => lf (P := EE l 69) h k_69_15) (fun h => lf (P := EE l 69) h k_69_16))) (fun h => nd h (fun h => nd h (fun h => lf (P := EE l 69) h k_69_17) (fun h => lf (P := EE l 69) h k_69_20)) (fun h => nd h (fun h => lf (P := EE l 69) h k_69_21) (fun h => lf (P := EE l 69) h k_69_22))))) (fun h => nd h (fun h => nd h (fun h => nd h (fun h => lf (P := EE l 69) h k_69_23) (fun h => nd h (fun h => lf (P := EE l 69) h k_69_26) (fun h => lf (P := EE l 69) h k_69_27))) (fun h => nd h (fun h => nd h (fun h => lf (P := EE l 69) h k_69_28) (fun h => lf (P := EE l 69) h k_69_29)) (fun h => nd h (fun h => lf (P := EE l 69) h k_69_32) (fun h => lf (P := EE l 69) h k_69_33)))) (fun h => nd h (fun h => nd h (fun h => lf (P := EE l 69) h (EE_ca (by decide) (⟨m_819, m_76, ⟨by decide, by decide⟩, by decide +kernel, ⟨by decide, by decide⟩, 78, 4, by decide +kernel, Or.inr (Or.inr (Or.inl ⟨rfl, rfl, dX6_putOnBorder_34, m_816, m_817, _, rfl, by decide, m_818⟩))⟩) rfl)) (fun h => nd h (fun h => lf (P := EE l 69) h k_69_37) (fun h => lf (P := EE l 69) h k_69_39))) (fun h => nd h (fun h => nd h (fun h => lf (P := EE l 69) h k_69_40) (fun h => lf (P := EE l 69) h k_69_42)) (fun h => nd h (fun h => lf (P := EE l 69) h k_69_45) (fun h => lf (P := EE l 69) h k_69_47)))))) (fun h => nd h (fun h => nd h (fun h => nd h (fun h => nd h (fun h => lf (P := EE l 69) h (EE_ca (by decide) (⟨m_735, m_75, ⟨by decide, by decide⟩, by decide +kernel, ⟨by decide, by decide⟩, 61, 3, by decide +kernel, Or.inr (Or.inr (Or.inl ⟨rfl, rfl, dX6_putOnBorder_49, m_799, m_733, _, rfl, by decide, m_734⟩))⟩) rfl)) (fun h => nd h (fun h => lf (P := EE l 69) h k_69_52) (fun h => lf (P := EE l 69) h k_69_55))) (fun h => nd h (fun h => nd h (fun h => lf (P := EE l 69) h k_69_57) (fun h => lf (P := EE l 69) h k_69_58)) (fun h => nd h (fun h => lf (P := EE l 69) h k_69_61) (fun h => lf (P := EE l 69) h k_69_62)))) (fun h => nd h (fun h => nd h (fun h => lf (P := EE l 69) h k_69_63) (fun h => nd h (fun h => lf (P := EE l 69) h k_69_64) (fun h => lf (P := EE l 69) h k_69_67))) (fun h => nd h (fun h => nd h (fun h => lf (P := EE l 69) h k_69_68) (fun h => lf (P := EE l 69) h k_69_69)) (fun h => nd h (fun h => lf (P := EE l 69) h k_69_70) (fun h => lf (P := EE l 69) h k_69_73))))) (fun h => nd h (fun h => nd h (fun h => nd h (fun h => lf (P := EE l 69) h k_69_74) (fun h => nd h (fun h => lf (P := EE l 69) h k_69_75) (fun h => lf (P := EE l 69) h k_69_76))) (fun h => nd h (fun h => nd h (fun h => lf (P := EE l 69) h k_69_79) (fun h => lf (P := EE l 69) h k_69_80)) (fun h => nd h (fun h => lf (P := EE l 69) h (EE_ca (by decide) (⟨m_819, m_76, ⟨by decide, by decide⟩, by decide +kernel, ⟨by decide, by decide⟩, 78, 4, by decide +kernel, Or.inr (Or.inr (Or.inl ⟨rfl, rfl, dX6_putOnBorder_81, m_816, m_817, _, rfl, by decide, m_818⟩))⟩) rfl)) (fun h => lf (P := EE l 69) h k_69_84)))) (fun h => nd h (fun h => nd h (fun h => lf (P := EE l 69) h k_69_86) (fun h => nd h (fun h => lf (P := EE l 69) h k_69_87) (fun h => lf (P := EE l 69) h k_69_89))) (fun h => nd h (fun h => nd h (fun h => lf (P := EE l 69) h k_69_91) (fun h => lf (P := EE l 69) h k_69_94)) (fun h => nd h (fun h => lf (P := EE l 69) h (EE_ca (by decide) (⟨m_735, m_75, ⟨by decide, by decide⟩, by decide +kernel, ⟨by decide, by decide⟩, 61, 3, by decide +kernel, Or.inr (Or.inr (Or.inl ⟨rfl, rfl, dX6_putOnBorder_96, m_799, m_733, _, rfl, by decide, m_734⟩))⟩) rfl)) (fun h => lf (P := EE l 69) h (EE_re (Or.inr (Or.inr (Or.inr (Or.inr ⟨rfl, dX6_putOnBorder_99, rfl⟩)))))))))))
