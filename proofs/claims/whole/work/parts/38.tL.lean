/-! tables of L (written by a program) -/
theorem dL_feature_0 : decode cL_feature 0 = .ok (.aload 7, 2) := by decide +kernel
theorem dL_feature_2 : decode cL_feature 2 = .ok (.iconst 0, 1) := by decide +kernel
theorem dL_feature_3 : decode cL_feature 3 = .ok (.aload_n 0, 1) := by decide +kernel
theorem dL_feature_4 : decode cL_feature 4 = .ok (.iload_n 1, 1) := by decide +kernel
theorem dL_feature_5 : decode cL_feature 5 = .ok (.iload_n 2, 1) := by decide +kernel
theorem dL_feature_6 : decode cL_feature 6 = .ok (.iload_n 3, 1) := by decide +kernel
theorem dL_feature_7 : decode cL_feature 7 = .ok (.iload 4, 2) := by decide +kernel
theorem dL_feature_9 : decode cL_feature 9 = .ok (.lload 5, 2) := by decide +kernel
theorem dL_feature_11 : decode cL_feature 11 = .ok (.invokevirtual 7, 3) := by decide +kernel
theorem dL_feature_14 : decode cL_feature 14 = .ok (.i2l, 1) := by decide +kernel
theorem dL_feature_15 : decode cL_feature 15 = .ok (.lastore, 1) := by decide +kernel
theorem dL_feature_16 : decode cL_feature 16 = .ok (.goto 11, 3) := by decide +kernel
theorem dL_feature_19 : decode cL_feature 19 = .ok (.astore 8, 2) := by decide +kernel
theorem dL_feature_21 : decode cL_feature 21 = .ok (.iconst 1, 1) := by decide +kernel
theorem dL_feature_22 : decode cL_feature 22 = .ok (.ireturn, 1) := by decide +kernel
theorem dL_feature_23 : decode cL_feature 23 = .ok (.astore 8, 2) := by decide +kernel
theorem dL_feature_25 : decode cL_feature 25 = .ok (.iconst 2, 1) := by decide +kernel
theorem dL_feature_26 : decode cL_feature 26 = .ok (.ireturn, 1) := by decide +kernel
theorem dL_feature_27 : decode cL_feature 27 = .ok (.iconst 0, 1) := by decide +kernel
theorem dL_feature_28 : decode cL_feature 28 = .ok (.ireturn, 1) := by decide +kernel
def tb_185 (pc : Nat) : Option mEnt := bif Nat.ble pc 14 then (bif Nat.ble pc 5 then (bif Nat.ble pc 2 then (bif Nat.ble pc 0 then (bif Nat.beq pc 0 then some (.inl (o_al 7 2)) else none) else (bif Nat.beq pc 2 then some (.inl (oS 1 (s_push (.int 0)))) else none)) else (bif Nat.ble pc 3 then (bif Nat.beq pc 3 then some (.inl (o_al 0 1)) else none) else (bif Nat.ble pc 4 then (bif Nat.beq pc 4 then some (.inl (o_il 1 1)) else none) else (bif Nat.beq pc 5 then some (.inl (o_il 2 1)) else none)))) else (bif Nat.ble pc 7 then (bif Nat.ble pc 6 then (bif Nat.beq pc 6 then some (.inl (o_il 3 1)) else none) else (bif Nat.beq pc 7 then some (.inl (o_il 4 2)) else none)) else (bif Nat.ble pc 9 then (bif Nat.beq pc 9 then some (.inl (o_ll 5 2)) else none) else (bif Nat.ble pc 11 then (bif Nat.beq pc 11 then some (.inr (10, 93, 6, 10)) else none) else (bif Nat.beq pc 14 then some (.inl (oS 1 s_i2l)) else none))))) else (bif Nat.ble pc 22 then (bif Nat.ble pc 16 then (bif Nat.ble pc 15 then (bif Nat.beq pc 15 then some (.inl (o_last)) else none) else (bif Nat.beq pc 16 then some (.inl (o_goto 27)) else none)) else (bif Nat.ble pc 19 then (bif Nat.beq pc 19 then some (.inl (o_as 8 2)) else none) else (bif Nat.ble pc 21 then (bif Nat.beq pc 21 then some (.inl (oS 1 (s_push (.int 1)))) else none) else (bif Nat.beq pc 22 then some (.inr (0, 0, 0, 0)) else none)))) else (bif Nat.ble pc 25 then (bif Nat.ble pc 23 then (bif Nat.beq pc 23 then some (.inl (o_as 8 2)) else none) else (bif Nat.beq pc 25 then some (.inl (oS 1 (s_push (.int 2)))) else none)) else (bif Nat.ble pc 26 then (bif Nat.beq pc 26 then some (.inr (0, 0, 0, 0)) else none) else (bif Nat.ble pc 27 then (bif Nat.beq pc 27 then some (.inl (oS 1 (s_push (.int 0)))) else none) else (bif Nat.beq pc 28 then some (.inr (0, 0, 0, 0)) else none)))))
theorem k_185_0 : mOk M_185.1 M_185.2.1 M_185.2.2.1 M_185.2.2.2 0 (o_al 7 2) := ok_aload dL_feature_0
theorem k_185_2 : mOk M_185.1 M_185.2.1 M_185.2.2.1 M_185.2.2.2 2 (oS 1 (s_push (.int 0))) := ok_iconst dL_feature_2 (by decide)
theorem k_185_3 : mOk M_185.1 M_185.2.1 M_185.2.2.1 M_185.2.2.2 3 (o_al 0 1) := ok_aload_n dL_feature_3 rfl
theorem k_185_4 : mOk M_185.1 M_185.2.1 M_185.2.2.1 M_185.2.2.2 4 (o_il 1 1) := ok_iload_n dL_feature_4 rfl
theorem k_185_5 : mOk M_185.1 M_185.2.1 M_185.2.2.1 M_185.2.2.2 5 (o_il 2 1) := ok_iload_n dL_feature_5 rfl
theorem k_185_6 : mOk M_185.1 M_185.2.1 M_185.2.2.1 M_185.2.2.2 6 (o_il 3 1) := ok_iload_n dL_feature_6 rfl
theorem k_185_7 : mOk M_185.1 M_185.2.1 M_185.2.2.1 M_185.2.2.2 7 (o_il 4 2) := ok_iload dL_feature_7
theorem k_185_9 : mOk M_185.1 M_185.2.1 M_185.2.2.1 M_185.2.2.2 9 (o_ll 5 2) := ok_lload dL_feature_9
theorem k_185_14 : mOk M_185.1 M_185.2.1 M_185.2.2.1 M_185.2.2.2 14 (oS 1 s_i2l) := ok_i2l dL_feature_14
theorem k_185_15 : mOk M_185.1 M_185.2.1 M_185.2.2.1 M_185.2.2.2 15 (o_last) := ok_last dL_feature_15
theorem k_185_16 : mOk M_185.1 M_185.2.1 M_185.2.2.1 M_185.2.2.2 16 (o_goto 27) := ok_goto dL_feature_16 (by decide)
theorem k_185_19 : mOk M_185.1 M_185.2.1 M_185.2.2.1 M_185.2.2.2 19 (o_as 8 2) := ok_astore dL_feature_19
theorem k_185_21 : mOk M_185.1 M_185.2.1 M_185.2.2.1 M_185.2.2.2 21 (oS 1 (s_push (.int 1))) := ok_iconst dL_feature_21 (by decide)
theorem k_185_23 : mOk M_185.1 M_185.2.1 M_185.2.2.1 M_185.2.2.2 23 (o_as 8 2) := ok_astore dL_feature_23
theorem k_185_25 : mOk M_185.1 M_185.2.1 M_185.2.2.1 M_185.2.2.2 25 (oS 1 (s_push (.int 2))) := ok_iconst dL_feature_25 (by decide)
theorem k_185_27 : mOk M_185.1 M_185.2.1 M_185.2.2.1 M_185.2.2.2 27 (oS 1 (s_push (.int 0))) := ok_iconst dL_feature_27 (by decide)
set_option maxRecDepth 20000 in
set_option maxHeartbeats 4000000 in
theorem tk_185 (l : Launch) (H9 : mThr l) (H10 : mSpl l) (pc : Nat) (q : mEnt) (h : tb_185 pc = some q) : EE l 185 pc q := nd h (fun h => nd h (fun h => nd h (fun h => nd h (fun h => lf (P := EE l 185) h k_185_0) (fun h => lf (P := EE l 185) h k_185_2)) (fun h => nd h (fun h => lf (P := EE l 185) h k_185_3) (fun h => nd h (fun h => lf (P := EE l 185) h k_185_4) (fun h => lf (P := EE l 185) h k_185_5)))) (fun h => nd h (fun h => nd h (fun h => lf (P := EE l 185) h k_185_6) (fun h => lf (P := EE l 185) h k_185_7)) (fun h => nd h (fun h => lf (P := EE l 185) h k_185_9) (fun h => nd h (fun h => lf (P := EE l 185) h (EE_sp H10 (by decide) (by decide))) (fun h => lf (P := EE l 185) h k_185_14))))) (fun h => nd h (fun h => nd h (fun h => nd h (fun h => lf (P := EE l 185) h k_185_15) (fun h => lf (P := EE l 185) h k_185_16)) (fun h => nd h (fun h => lf (P := EE l 185) h k_185_19) (fun h => nd h (fun h => lf (P := EE l 185) h k_185_21) (fun h => lf (P := EE l 185) h (EE_re (Or.inl ⟨rfl, dL_feature_22, rfl⟩)))))) (fun h => nd h (fun h => nd h (fun h => lf (P := EE l 185) h k_185_23) (fun h => lf (P := EE l 185) h k_185_25)) (fun h => nd h (fun h => lf (P := EE l 185) h (EE_re (Or.inl ⟨rfl, dL_feature_26, rfl⟩))) (fun h => nd h (fun h => lf (P := EE l 185) h k_185_27) (fun h => lf (P := EE l 185) h (EE_re (Or.inl ⟨rfl, dL_feature_28, rfl⟩)))))))
theorem dL_tile_0 : decode cL_tile 0 = .ok (.aload 5, 2) := by decide +kernel
theorem dL_tile_2 : decode cL_tile 2 = .ok (.iconst 0, 1) := by decide +kernel
theorem dL_tile_3 : decode cL_tile 3 = .ok (.aload_n 0, 1) := by decide +kernel
theorem dL_tile_4 : decode cL_tile 4 = .ok (.iload_n 1, 1) := by decide +kernel
theorem dL_tile_5 : decode cL_tile 5 = .ok (.iload_n 2, 1) := by decide +kernel
theorem dL_tile_6 : decode cL_tile 6 = .ok (.iload_n 3, 1) := by decide +kernel
theorem dL_tile_7 : decode cL_tile 7 = .ok (.iload 4, 2) := by decide +kernel
theorem dL_tile_9 : decode cL_tile 9 = .ok (.invokevirtual 17, 3) := by decide +kernel
theorem dL_tile_12 : decode cL_tile 12 = .ok (.i2l, 1) := by decide +kernel
theorem dL_tile_13 : decode cL_tile 13 = .ok (.lastore, 1) := by decide +kernel
theorem dL_tile_14 : decode cL_tile 14 = .ok (.goto 7, 3) := by decide +kernel
theorem dL_tile_17 : decode cL_tile 17 = .ok (.astore 6, 2) := by decide +kernel
theorem dL_tile_19 : decode cL_tile 19 = .ok (.iconst 1, 1) := by decide +kernel
theorem dL_tile_20 : decode cL_tile 20 = .ok (.ireturn, 1) := by decide +kernel
theorem dL_tile_21 : decode cL_tile 21 = .ok (.iconst 0, 1) := by decide +kernel
theorem dL_tile_22 : decode cL_tile 22 = .ok (.ireturn, 1) := by decide +kernel
def tb_186 (pc : Nat) : Option mEnt := bif Nat.ble pc 9 then (bif Nat.ble pc 4 then (bif Nat.ble pc 2 then (bif Nat.ble pc 0 then (bif Nat.beq pc 0 then some (.inl (o_al 5 2)) else none) else (bif Nat.beq pc 2 then some (.inl (oS 1 (s_push (.int 0)))) else none)) else (bif Nat.ble pc 3 then (bif Nat.beq pc 3 then some (.inl (o_al 0 1)) else none) else (bif Nat.beq pc 4 then some (.inl (o_il 1 1)) else none))) else (bif Nat.ble pc 6 then (bif Nat.ble pc 5 then (bif Nat.beq pc 5 then some (.inl (o_il 2 1)) else none) else (bif Nat.beq pc 6 then some (.inl (o_il 3 1)) else none)) else (bif Nat.ble pc 7 then (bif Nat.beq pc 7 then some (.inl (o_il 4 2)) else none) else (bif Nat.beq pc 9 then some (.inr (10, 96, 5, 10)) else none)))) else (bif Nat.ble pc 17 then (bif Nat.ble pc 13 then (bif Nat.ble pc 12 then (bif Nat.beq pc 12 then some (.inl (oS 1 s_i2l)) else none) else (bif Nat.beq pc 13 then some (.inl (o_last)) else none)) else (bif Nat.ble pc 14 then (bif Nat.beq pc 14 then some (.inl (o_goto 21)) else none) else (bif Nat.beq pc 17 then some (.inl (o_as 6 2)) else none))) else (bif Nat.ble pc 20 then (bif Nat.ble pc 19 then (bif Nat.beq pc 19 then some (.inl (oS 1 (s_push (.int 1)))) else none) else (bif Nat.beq pc 20 then some (.inr (0, 0, 0, 0)) else none)) else (bif Nat.ble pc 21 then (bif Nat.beq pc 21 then some (.inl (oS 1 (s_push (.int 0)))) else none) else (bif Nat.beq pc 22 then some (.inr (0, 0, 0, 0)) else none))))
theorem k_186_0 : mOk M_186.1 M_186.2.1 M_186.2.2.1 M_186.2.2.2 0 (o_al 5 2) := ok_aload dL_tile_0
theorem k_186_2 : mOk M_186.1 M_186.2.1 M_186.2.2.1 M_186.2.2.2 2 (oS 1 (s_push (.int 0))) := ok_iconst dL_tile_2 (by decide)
theorem k_186_3 : mOk M_186.1 M_186.2.1 M_186.2.2.1 M_186.2.2.2 3 (o_al 0 1) := ok_aload_n dL_tile_3 rfl
theorem k_186_4 : mOk M_186.1 M_186.2.1 M_186.2.2.1 M_186.2.2.2 4 (o_il 1 1) := ok_iload_n dL_tile_4 rfl
theorem k_186_5 : mOk M_186.1 M_186.2.1 M_186.2.2.1 M_186.2.2.2 5 (o_il 2 1) := ok_iload_n dL_tile_5 rfl
theorem k_186_6 : mOk M_186.1 M_186.2.1 M_186.2.2.1 M_186.2.2.2 6 (o_il 3 1) := ok_iload_n dL_tile_6 rfl
theorem k_186_7 : mOk M_186.1 M_186.2.1 M_186.2.2.1 M_186.2.2.2 7 (o_il 4 2) := ok_iload dL_tile_7
theorem k_186_12 : mOk M_186.1 M_186.2.1 M_186.2.2.1 M_186.2.2.2 12 (oS 1 s_i2l) := ok_i2l dL_tile_12
theorem k_186_13 : mOk M_186.1 M_186.2.1 M_186.2.2.1 M_186.2.2.2 13 (o_last) := ok_last dL_tile_13
theorem k_186_14 : mOk M_186.1 M_186.2.1 M_186.2.2.1 M_186.2.2.2 14 (o_goto 21) := ok_goto dL_tile_14 (by decide)
theorem k_186_17 : mOk M_186.1 M_186.2.1 M_186.2.2.1 M_186.2.2.2 17 (o_as 6 2) := ok_astore dL_tile_17
theorem k_186_19 : mOk M_186.1 M_186.2.1 M_186.2.2.1 M_186.2.2.2 19 (oS 1 (s_push (.int 1))) := ok_iconst dL_tile_19 (by decide)
theorem k_186_21 : mOk M_186.1 M_186.2.1 M_186.2.2.1 M_186.2.2.2 21 (oS 1 (s_push (.int 0))) := ok_iconst dL_tile_21 (by decide)
set_option maxRecDepth 20000 in
set_option maxHeartbeats 4000000 in
theorem tk_186 (l : Launch) (H9 : mThr l) (H10 : mSpl l) (pc : Nat) (q : mEnt) (h : tb_186 pc = some q) : EE l 186 pc q := nd h (fun h => nd h (fun h => nd h (fun h => nd h (fun h => lf (P := EE l 186) h k_186_0) (fun h => lf (P := EE l 186) h k_186_2)) (fun h => nd h (fun h => lf (P := EE l 186) h k_186_3) (fun h => lf (P := EE l 186) h k_186_4))) (fun h => nd h (fun h => nd h (fun h => lf (P := EE l 186) h k_186_5) (fun h => lf (P := EE l 186) h k_186_6)) (fun h => nd h (fun h => lf (P := EE l 186) h k_186_7) (fun h => lf (P := EE l 186) h (EE_sp H10 (by decide) (by decide)))))) (fun h => nd h (fun h => nd h (fun h => nd h (fun h => lf (P := EE l 186) h k_186_12) (fun h => lf (P := EE l 186) h k_186_13)) (fun h => nd h (fun h => lf (P := EE l 186) h k_186_14) (fun h => lf (P := EE l 186) h k_186_17))) (fun h => nd h (fun h => nd h (fun h => lf (P := EE l 186) h k_186_19) (fun h => lf (P := EE l 186) h (EE_re (Or.inl ⟨rfl, dL_tile_20, rfl⟩)))) (fun h => nd h (fun h => lf (P := EE l 186) h k_186_21) (fun h => lf (P := EE l 186) h (EE_re (Or.inl ⟨rfl, dL_tile_22, rfl⟩))))))
theorem dL_region_0 : decode cL_region 0 = .ok (.aload_n 0, 1) := by decide +kernel
theorem dL_region_1 : decode cL_region 1 = .ok (.iload_n 1, 1) := by decide +kernel
theorem dL_region_2 : decode cL_region 2 = .ok (.iload_n 2, 1) := by decide +kernel
theorem dL_region_3 : decode cL_region 3 = .ok (.iload_n 3, 1) := by decide +kernel
theorem dL_region_4 : decode cL_region 4 = .ok (.iload 4, 2) := by decide +kernel
theorem dL_region_6 : decode cL_region 6 = .ok (.iload 5, 2) := by decide +kernel
theorem dL_region_8 : decode cL_region 8 = .ok (.invokevirtual 23, 3) := by decide +kernel
theorem dL_region_11 : decode cL_region 11 = .ok (.goto 7, 3) := by decide +kernel
theorem dL_region_14 : decode cL_region 14 = .ok (.astore 6, 2) := by decide +kernel
theorem dL_region_16 : decode cL_region 16 = .ok (.iconst 1, 1) := by decide +kernel
theorem dL_region_17 : decode cL_region 17 = .ok (.ireturn, 1) := by decide +kernel
theorem dL_region_18 : decode cL_region 18 = .ok (.iconst 0, 1) := by decide +kernel
theorem dL_region_19 : decode cL_region 19 = .ok (.ireturn, 1) := by decide +kernel
def tb_187 (pc : Nat) : Option mEnt := bif Nat.ble pc 6 then (bif Nat.ble pc 2 then (bif Nat.ble pc 0 then (bif Nat.beq pc 0 then some (.inl (o_al 0 1)) else none) else (bif Nat.ble pc 1 then (bif Nat.beq pc 1 then some (.inl (o_il 1 1)) else none) else (bif Nat.beq pc 2 then some (.inl (o_il 2 1)) else none))) else (bif Nat.ble pc 3 then (bif Nat.beq pc 3 then some (.inl (o_il 3 1)) else none) else (bif Nat.ble pc 4 then (bif Nat.beq pc 4 then some (.inl (o_il 4 2)) else none) else (bif Nat.beq pc 6 then some (.inl (o_il 5 2)) else none)))) else (bif Nat.ble pc 14 then (bif Nat.ble pc 8 then (bif Nat.beq pc 8 then some (.inr (10, 98, 6, 10)) else none) else (bif Nat.ble pc 11 then (bif Nat.beq pc 11 then some (.inl (o_goto 18)) else none) else (bif Nat.beq pc 14 then some (.inl (o_as 6 2)) else none))) else (bif Nat.ble pc 17 then (bif Nat.ble pc 16 then (bif Nat.beq pc 16 then some (.inl (oS 1 (s_push (.int 1)))) else none) else (bif Nat.beq pc 17 then some (.inr (0, 0, 0, 0)) else none)) else (bif Nat.ble pc 18 then (bif Nat.beq pc 18 then some (.inl (oS 1 (s_push (.int 0)))) else none) else (bif Nat.beq pc 19 then some (.inr (0, 0, 0, 0)) else none))))
theorem k_187_0 : mOk M_187.1 M_187.2.1 M_187.2.2.1 M_187.2.2.2 0 (o_al 0 1) := ok_aload_n dL_region_0 rfl
theorem k_187_1 : mOk M_187.1 M_187.2.1 M_187.2.2.1 M_187.2.2.2 1 (o_il 1 1) := ok_iload_n dL_region_1 rfl
theorem k_187_2 : mOk M_187.1 M_187.2.1 M_187.2.2.1 M_187.2.2.2 2 (o_il 2 1) := ok_iload_n dL_region_2 rfl
theorem k_187_3 : mOk M_187.1 M_187.2.1 M_187.2.2.1 M_187.2.2.2 3 (o_il 3 1) := ok_iload_n dL_region_3 rfl
theorem k_187_4 : mOk M_187.1 M_187.2.1 M_187.2.2.1 M_187.2.2.2 4 (o_il 4 2) := ok_iload dL_region_4
theorem k_187_6 : mOk M_187.1 M_187.2.1 M_187.2.2.1 M_187.2.2.2 6 (o_il 5 2) := ok_iload dL_region_6
theorem k_187_11 : mOk M_187.1 M_187.2.1 M_187.2.2.1 M_187.2.2.2 11 (o_goto 18) := ok_goto dL_region_11 (by decide)
theorem k_187_14 : mOk M_187.1 M_187.2.1 M_187.2.2.1 M_187.2.2.2 14 (o_as 6 2) := ok_astore dL_region_14
theorem k_187_16 : mOk M_187.1 M_187.2.1 M_187.2.2.1 M_187.2.2.2 16 (oS 1 (s_push (.int 1))) := ok_iconst dL_region_16 (by decide)
theorem k_187_18 : mOk M_187.1 M_187.2.1 M_187.2.2.1 M_187.2.2.2 18 (oS 1 (s_push (.int 0))) := ok_iconst dL_region_18 (by decide)
set_option maxRecDepth 20000 in
set_option maxHeartbeats 4000000 in
theorem tk_187 (l : Launch) (H9 : mThr l) (H10 : mSpl l) (pc : Nat) (q : mEnt) (h : tb_187 pc = some q) : EE l 187 pc q := nd h (fun h => nd h (fun h => nd h (fun h => lf (P := EE l 187) h k_187_0) (fun h => nd h (fun h => lf (P := EE l 187) h k_187_1) (fun h => lf (P := EE l 187) h k_187_2))) (fun h => nd h (fun h => lf (P := EE l 187) h k_187_3) (fun h => nd h (fun h => lf (P := EE l 187) h k_187_4) (fun h => lf (P := EE l 187) h k_187_6)))) (fun h => nd h (fun h => nd h (fun h => lf (P := EE l 187) h (EE_sp H10 (by decide) (by decide))) (fun h => nd h (fun h => lf (P := EE l 187) h k_187_11) (fun h => lf (P := EE l 187) h k_187_14))) (fun h => nd h (fun h => nd h (fun h => lf (P := EE l 187) h k_187_16) (fun h => lf (P := EE l 187) h (EE_re (Or.inl ⟨rfl, dL_region_17, rfl⟩)))) (fun h => nd h (fun h => lf (P := EE l 187) h k_187_18) (fun h => lf (P := EE l 187) h (EE_re (Or.inl ⟨rfl, dL_region_19, rfl⟩))))))
theorem dL_extract_0 : decode cL_extract 0 = .ok (.aload_n 2, 1) := by decide +kernel
theorem dL_extract_1 : decode cL_extract 1 = .ok (.iconst 0, 1) := by decide +kernel
theorem dL_extract_2 : decode cL_extract 2 = .ok (.aload_n 0, 1) := by decide +kernel
theorem dL_extract_3 : decode cL_extract 3 = .ok (.iload_n 1, 1) := by decide +kernel
theorem dL_extract_4 : decode cL_extract 4 = .ok (.invokevirtual 27, 3) := by decide +kernel
theorem dL_extract_7 : decode cL_extract 7 = .ok (.i2l, 1) := by decide +kernel
theorem dL_extract_8 : decode cL_extract 8 = .ok (.lastore, 1) := by decide +kernel
theorem dL_extract_9 : decode cL_extract 9 = .ok (.goto 9, 3) := by decide +kernel
theorem dL_extract_12 : decode cL_extract 12 = .ok (.astore_n 3, 1) := by decide +kernel
theorem dL_extract_13 : decode cL_extract 13 = .ok (.iconst 1, 1) := by decide +kernel
theorem dL_extract_14 : decode cL_extract 14 = .ok (.ireturn, 1) := by decide +kernel
theorem dL_extract_15 : decode cL_extract 15 = .ok (.astore_n 3, 1) := by decide +kernel
theorem dL_extract_16 : decode cL_extract 16 = .ok (.iconst 2, 1) := by decide +kernel
theorem dL_extract_17 : decode cL_extract 17 = .ok (.ireturn, 1) := by decide +kernel
theorem dL_extract_18 : decode cL_extract 18 = .ok (.iconst 0, 1) := by decide +kernel
theorem dL_extract_19 : decode cL_extract 19 = .ok (.ireturn, 1) := by decide +kernel
def tb_188 (pc : Nat) : Option mEnt := bif Nat.ble pc 9 then (bif Nat.ble pc 3 then (bif Nat.ble pc 1 then (bif Nat.ble pc 0 then (bif Nat.beq pc 0 then some (.inl (o_al 2 1)) else none) else (bif Nat.beq pc 1 then some (.inl (oS 1 (s_push (.int 0)))) else none)) else (bif Nat.ble pc 2 then (bif Nat.beq pc 2 then some (.inl (o_al 0 1)) else none) else (bif Nat.beq pc 3 then some (.inl (o_il 1 1)) else none))) else (bif Nat.ble pc 7 then (bif Nat.ble pc 4 then (bif Nat.beq pc 4 then some (.inr (10, 99, 2, 10)) else none) else (bif Nat.beq pc 7 then some (.inl (oS 1 s_i2l)) else none)) else (bif Nat.ble pc 8 then (bif Nat.beq pc 8 then some (.inl (o_last)) else none) else (bif Nat.beq pc 9 then some (.inl (o_goto 18)) else none)))) else (bif Nat.ble pc 15 then (bif Nat.ble pc 13 then (bif Nat.ble pc 12 then (bif Nat.beq pc 12 then some (.inl (o_as 3 1)) else none) else (bif Nat.beq pc 13 then some (.inl (oS 1 (s_push (.int 1)))) else none)) else (bif Nat.ble pc 14 then (bif Nat.beq pc 14 then some (.inr (0, 0, 0, 0)) else none) else (bif Nat.beq pc 15 then some (.inl (o_as 3 1)) else none))) else (bif Nat.ble pc 17 then (bif Nat.ble pc 16 then (bif Nat.beq pc 16 then some (.inl (oS 1 (s_push (.int 2)))) else none) else (bif Nat.beq pc 17 then some (.inr (0, 0, 0, 0)) else none)) else (bif Nat.ble pc 18 then (bif Nat.beq pc 18 then some (.inl (oS 1 (s_push (.int 0)))) else none) else (bif Nat.beq pc 19 then some (.inr (0, 0, 0, 0)) else none))))
theorem k_188_0 : mOk M_188.1 M_188.2.1 M_188.2.2.1 M_188.2.2.2 0 (o_al 2 1) := ok_aload_n dL_extract_0 rfl
theorem k_188_1 : mOk M_188.1 M_188.2.1 M_188.2.2.1 M_188.2.2.2 1 (oS 1 (s_push (.int 0))) := ok_iconst dL_extract_1 (by decide)
theorem k_188_2 : mOk M_188.1 M_188.2.1 M_188.2.2.1 M_188.2.2.2 2 (o_al 0 1) := ok_aload_n dL_extract_2 rfl
theorem k_188_3 : mOk M_188.1 M_188.2.1 M_188.2.2.1 M_188.2.2.2 3 (o_il 1 1) := ok_iload_n dL_extract_3 rfl
theorem k_188_7 : mOk M_188.1 M_188.2.1 M_188.2.2.1 M_188.2.2.2 7 (oS 1 s_i2l) := ok_i2l dL_extract_7
theorem k_188_8 : mOk M_188.1 M_188.2.1 M_188.2.2.1 M_188.2.2.2 8 (o_last) := ok_last dL_extract_8
theorem k_188_9 : mOk M_188.1 M_188.2.1 M_188.2.2.1 M_188.2.2.2 9 (o_goto 18) := ok_goto dL_extract_9 (by decide)
theorem k_188_12 : mOk M_188.1 M_188.2.1 M_188.2.2.1 M_188.2.2.2 12 (o_as 3 1) := ok_astore_n dL_extract_12 rfl
theorem k_188_13 : mOk M_188.1 M_188.2.1 M_188.2.2.1 M_188.2.2.2 13 (oS 1 (s_push (.int 1))) := ok_iconst dL_extract_13 (by decide)
theorem k_188_15 : mOk M_188.1 M_188.2.1 M_188.2.2.1 M_188.2.2.2 15 (o_as 3 1) := ok_astore_n dL_extract_15 rfl
theorem k_188_16 : mOk M_188.1 M_188.2.1 M_188.2.2.1 M_188.2.2.2 16 (oS 1 (s_push (.int 2))) := ok_iconst dL_extract_16 (by decide)
theorem k_188_18 : mOk M_188.1 M_188.2.1 M_188.2.2.1 M_188.2.2.2 18 (oS 1 (s_push (.int 0))) := ok_iconst dL_extract_18 (by decide)
set_option maxRecDepth 20000 in
set_option maxHeartbeats 4000000 in
theorem tk_188 (l : Launch) (H9 : mThr l) (H10 : mSpl l) (pc : Nat) (q : mEnt) (h : tb_188 pc = some q) : EE l 188 pc q := nd h (fun h => nd h (fun h => nd h (fun h => nd h (fun h => lf (P := EE l 188) h k_188_0) (fun h => lf (P := EE l 188) h k_188_1)) (fun h => nd h (fun h => lf (P := EE l 188) h k_188_2) (fun h => lf (P := EE l 188) h k_188_3))) (fun h => nd h (fun h => nd h (fun h => lf (P := EE l 188) h (EE_sp H10 (by decide) (by decide))) (fun h => lf (P := EE l 188) h k_188_7)) (fun h => nd h (fun h => lf (P := EE l 188) h k_188_8) (fun h => lf (P := EE l 188) h k_188_9)))) (fun h => nd h (fun h => nd h (fun h => nd h (fun h => lf (P := EE l 188) h k_188_12) (fun h => lf (P := EE l 188) h k_188_13)) (fun h => nd h (fun h => lf (P := EE l 188) h (EE_re (Or.inl ⟨rfl, dL_extract_14, rfl⟩))) (fun h => lf (P := EE l 188) h k_188_15))) (fun h => nd h (fun h => nd h (fun h => lf (P := EE l 188) h k_188_16) (fun h => lf (P := EE l 188) h (EE_re (Or.inl ⟨rfl, dL_extract_17, rfl⟩)))) (fun h => nd h (fun h => lf (P := EE l 188) h k_188_18) (fun h => lf (P := EE l 188) h (EE_re (Or.inl ⟨rfl, dL_extract_19, rfl⟩))))))
theorem dL_difference_0 : decode cL_difference 0 = .ok (.aload_n 3, 1) := by decide +kernel
theorem dL_difference_1 : decode cL_difference 1 = .ok (.iconst 0, 1) := by decide +kernel
theorem dL_difference_2 : decode cL_difference 2 = .ok (.aload_n 0, 1) := by decide +kernel
theorem dL_difference_3 : decode cL_difference 3 = .ok (.iload_n 1, 1) := by decide +kernel
theorem dL_difference_4 : decode cL_difference 4 = .ok (.iload_n 2, 1) := by decide +kernel
theorem dL_difference_5 : decode cL_difference 5 = .ok (.invokevirtual 31, 3) := by decide +kernel
theorem dL_difference_8 : decode cL_difference 8 = .ok (.i2l, 1) := by decide +kernel
theorem dL_difference_9 : decode cL_difference 9 = .ok (.lastore, 1) := by decide +kernel
theorem dL_difference_10 : decode cL_difference 10 = .ok (.goto 11, 3) := by decide +kernel
theorem dL_difference_13 : decode cL_difference 13 = .ok (.astore 4, 2) := by decide +kernel
theorem dL_difference_15 : decode cL_difference 15 = .ok (.iconst 1, 1) := by decide +kernel
theorem dL_difference_16 : decode cL_difference 16 = .ok (.ireturn, 1) := by decide +kernel
theorem dL_difference_17 : decode cL_difference 17 = .ok (.astore 4, 2) := by decide +kernel
theorem dL_difference_19 : decode cL_difference 19 = .ok (.iconst 2, 1) := by decide +kernel
theorem dL_difference_20 : decode cL_difference 20 = .ok (.ireturn, 1) := by decide +kernel
theorem dL_difference_21 : decode cL_difference 21 = .ok (.iconst 0, 1) := by decide +kernel
theorem dL_difference_22 : decode cL_difference 22 = .ok (.ireturn, 1) := by decide +kernel
def tb_189 (pc : Nat) : Option mEnt := bif Nat.ble pc 9 then (bif Nat.ble pc 3 then (bif Nat.ble pc 1 then (bif Nat.ble pc 0 then (bif Nat.beq pc 0 then some (.inl (o_al 3 1)) else none) else (bif Nat.beq pc 1 then some (.inl (oS 1 (s_push (.int 0)))) else none)) else (bif Nat.ble pc 2 then (bif Nat.beq pc 2 then some (.inl (o_al 0 1)) else none) else (bif Nat.beq pc 3 then some (.inl (o_il 1 1)) else none))) else (bif Nat.ble pc 5 then (bif Nat.ble pc 4 then (bif Nat.beq pc 4 then some (.inl (o_il 2 1)) else none) else (bif Nat.beq pc 5 then some (.inr (10, 103, 3, 10)) else none)) else (bif Nat.ble pc 8 then (bif Nat.beq pc 8 then some (.inl (oS 1 s_i2l)) else none) else (bif Nat.beq pc 9 then some (.inl (o_last)) else none)))) else (bif Nat.ble pc 16 then (bif Nat.ble pc 13 then (bif Nat.ble pc 10 then (bif Nat.beq pc 10 then some (.inl (o_goto 21)) else none) else (bif Nat.beq pc 13 then some (.inl (o_as 4 2)) else none)) else (bif Nat.ble pc 15 then (bif Nat.beq pc 15 then some (.inl (oS 1 (s_push (.int 1)))) else none) else (bif Nat.beq pc 16 then some (.inr (0, 0, 0, 0)) else none))) else (bif Nat.ble pc 19 then (bif Nat.ble pc 17 then (bif Nat.beq pc 17 then some (.inl (o_as 4 2)) else none) else (bif Nat.beq pc 19 then some (.inl (oS 1 (s_push (.int 2)))) else none)) else (bif Nat.ble pc 20 then (bif Nat.beq pc 20 then some (.inr (0, 0, 0, 0)) else none) else (bif Nat.ble pc 21 then (bif Nat.beq pc 21 then some (.inl (oS 1 (s_push (.int 0)))) else none) else (bif Nat.beq pc 22 then some (.inr (0, 0, 0, 0)) else none)))))
theorem k_189_0 : mOk M_189.1 M_189.2.1 M_189.2.2.1 M_189.2.2.2 0 (o_al 3 1) := ok_aload_n dL_difference_0 rfl
theorem k_189_1 : mOk M_189.1 M_189.2.1 M_189.2.2.1 M_189.2.2.2 1 (oS 1 (s_push (.int 0))) := ok_iconst dL_difference_1 (by decide)
theorem k_189_2 : mOk M_189.1 M_189.2.1 M_189.2.2.1 M_189.2.2.2 2 (o_al 0 1) := ok_aload_n dL_difference_2 rfl
theorem k_189_3 : mOk M_189.1 M_189.2.1 M_189.2.2.1 M_189.2.2.2 3 (o_il 1 1) := ok_iload_n dL_difference_3 rfl
theorem k_189_4 : mOk M_189.1 M_189.2.1 M_189.2.2.1 M_189.2.2.2 4 (o_il 2 1) := ok_iload_n dL_difference_4 rfl
theorem k_189_8 : mOk M_189.1 M_189.2.1 M_189.2.2.1 M_189.2.2.2 8 (oS 1 s_i2l) := ok_i2l dL_difference_8
theorem k_189_9 : mOk M_189.1 M_189.2.1 M_189.2.2.1 M_189.2.2.2 9 (o_last) := ok_last dL_difference_9
theorem k_189_10 : mOk M_189.1 M_189.2.1 M_189.2.2.1 M_189.2.2.2 10 (o_goto 21) := ok_goto dL_difference_10 (by decide)
theorem k_189_13 : mOk M_189.1 M_189.2.1 M_189.2.2.1 M_189.2.2.2 13 (o_as 4 2) := ok_astore dL_difference_13
theorem k_189_15 : mOk M_189.1 M_189.2.1 M_189.2.2.1 M_189.2.2.2 15 (oS 1 (s_push (.int 1))) := ok_iconst dL_difference_15 (by decide)
theorem k_189_17 : mOk M_189.1 M_189.2.1 M_189.2.2.1 M_189.2.2.2 17 (o_as 4 2) := ok_astore dL_difference_17
theorem k_189_19 : mOk M_189.1 M_189.2.1 M_189.2.2.1 M_189.2.2.2 19 (oS 1 (s_push (.int 2))) := ok_iconst dL_difference_19 (by decide)
theorem k_189_21 : mOk M_189.1 M_189.2.1 M_189.2.2.1 M_189.2.2.2 21 (oS 1 (s_push (.int 0))) := ok_iconst dL_difference_21 (by decide)
set_option maxRecDepth 20000 in
set_option maxHeartbeats 4000000 in
theorem tk_189 (l : Launch) (H9 : mThr l) (H10 : mSpl l) (pc : Nat) (q : mEnt) (h : tb_189 pc = some q) : EE l 189 pc q := nd h (fun h => nd h (fun h => nd h (fun h => nd h (fun h => lf (P := EE l 189) h k_189_0) (fun h => lf (P := EE l 189) h k_189_1)) (fun h => nd h (fun h => lf (P := EE l 189) h k_189_2) (fun h => lf (P := EE l 189) h k_189_3))) (fun h => nd h (fun h => nd h (fun h => lf (P := EE l 189) h k_189_4) (fun h => lf (P := EE l 189) h (EE_sp H10 (by decide) (by decide)))) (fun h => nd h (fun h => lf (P := EE l 189) h k_189_8) (fun h => lf (P := EE l 189) h k_189_9)))) (fun h => nd h (fun h => nd h (fun h => nd h (fun h => lf (P := EE l 189) h k_189_10) (fun h => lf (P := EE l 189) h k_189_13)) (fun h => nd h (fun h => lf (P := EE l 189) h k_189_15) (fun h => lf (P := EE l 189) h (EE_re (Or.inl ⟨rfl, dL_difference_16, rfl⟩))))) (fun h => nd h (fun h => nd h (fun h => lf (P := EE l 189) h k_189_17) (fun h => lf (P := EE l 189) h k_189_19)) (fun h => nd h (fun h => lf (P := EE l 189) h (EE_re (Or.inl ⟨rfl, dL_difference_20, rfl⟩))) (fun h => nd h (fun h => lf (P := EE l 189) h k_189_21) (fun h => lf (P := EE l 189) h (EE_re (Or.inl ⟨rfl, dL_difference_22, rfl⟩)))))))
theorem dL_apply_0 : decode cL_apply 0 = .ok (.aload_n 1, 1) := by decide +kernel
theorem dL_apply_1 : decode cL_apply 1 = .ok (.iconst 0, 1) := by decide +kernel
theorem dL_apply_2 : decode cL_apply 2 = .ok (.aload_n 0, 1) := by decide +kernel
theorem dL_apply_3 : decode cL_apply 3 = .ok (.invokevirtual 35, 3) := by decide +kernel
theorem dL_apply_6 : decode cL_apply 6 = .ok (.i2l, 1) := by decide +kernel
theorem dL_apply_7 : decode cL_apply 7 = .ok (.lastore, 1) := by decide +kernel
theorem dL_apply_8 : decode cL_apply 8 = .ok (.goto 6, 3) := by decide +kernel
theorem dL_apply_11 : decode cL_apply 11 = .ok (.astore_n 2, 1) := by decide +kernel
theorem dL_apply_12 : decode cL_apply 12 = .ok (.iconst 1, 1) := by decide +kernel
theorem dL_apply_13 : decode cL_apply 13 = .ok (.ireturn, 1) := by decide +kernel
theorem dL_apply_14 : decode cL_apply 14 = .ok (.iconst 0, 1) := by decide +kernel
theorem dL_apply_15 : decode cL_apply 15 = .ok (.ireturn, 1) := by decide +kernel
def tb_190 (pc : Nat) : Option mEnt := bif Nat.ble pc 7 then (bif Nat.ble pc 2 then (bif Nat.ble pc 0 then (bif Nat.beq pc 0 then some (.inl (o_al 1 1)) else none) else (bif Nat.ble pc 1 then (bif Nat.beq pc 1 then some (.inl (oS 1 (s_push (.int 0)))) else none) else (bif Nat.beq pc 2 then some (.inl (o_al 0 1)) else none))) else (bif Nat.ble pc 3 then (bif Nat.beq pc 3 then some (.inr (10, 105, 1, 10)) else none) else (bif Nat.ble pc 6 then (bif Nat.beq pc 6 then some (.inl (oS 1 s_i2l)) else none) else (bif Nat.beq pc 7 then some (.inl (o_last)) else none)))) else (bif Nat.ble pc 12 then (bif Nat.ble pc 8 then (bif Nat.beq pc 8 then some (.inl (o_goto 14)) else none) else (bif Nat.ble pc 11 then (bif Nat.beq pc 11 then some (.inl (o_as 2 1)) else none) else (bif Nat.beq pc 12 then some (.inl (oS 1 (s_push (.int 1)))) else none))) else (bif Nat.ble pc 13 then (bif Nat.beq pc 13 then some (.inr (0, 0, 0, 0)) else none) else (bif Nat.ble pc 14 then (bif Nat.beq pc 14 then some (.inl (oS 1 (s_push (.int 0)))) else none) else (bif Nat.beq pc 15 then some (.inr (0, 0, 0, 0)) else none))))
theorem k_190_0 : mOk M_190.1 M_190.2.1 M_190.2.2.1 M_190.2.2.2 0 (o_al 1 1) := ok_aload_n dL_apply_0 rfl
theorem k_190_1 : mOk M_190.1 M_190.2.1 M_190.2.2.1 M_190.2.2.2 1 (oS 1 (s_push (.int 0))) := ok_iconst dL_apply_1 (by decide)
theorem k_190_2 : mOk M_190.1 M_190.2.1 M_190.2.2.1 M_190.2.2.2 2 (o_al 0 1) := ok_aload_n dL_apply_2 rfl
theorem k_190_6 : mOk M_190.1 M_190.2.1 M_190.2.2.1 M_190.2.2.2 6 (oS 1 s_i2l) := ok_i2l dL_apply_6
theorem k_190_7 : mOk M_190.1 M_190.2.1 M_190.2.2.1 M_190.2.2.2 7 (o_last) := ok_last dL_apply_7
theorem k_190_8 : mOk M_190.1 M_190.2.1 M_190.2.2.1 M_190.2.2.2 8 (o_goto 14) := ok_goto dL_apply_8 (by decide)
theorem k_190_11 : mOk M_190.1 M_190.2.1 M_190.2.2.1 M_190.2.2.2 11 (o_as 2 1) := ok_astore_n dL_apply_11 rfl
theorem k_190_12 : mOk M_190.1 M_190.2.1 M_190.2.2.1 M_190.2.2.2 12 (oS 1 (s_push (.int 1))) := ok_iconst dL_apply_12 (by decide)
theorem k_190_14 : mOk M_190.1 M_190.2.1 M_190.2.2.1 M_190.2.2.2 14 (oS 1 (s_push (.int 0))) := ok_iconst dL_apply_14 (by decide)
set_option maxRecDepth 20000 in
set_option maxHeartbeats 4000000 in
theorem tk_190 (l : Launch) (H9 : mThr l) (H10 : mSpl l) (pc : Nat) (q : mEnt) (h : tb_190 pc = some q) : EE l 190 pc q := nd h (fun h => nd h (fun h => nd h (fun h => lf (P := EE l 190) h k_190_0) (fun h => nd h (fun h => lf (P := EE l 190) h k_190_1) (fun h => lf (P := EE l 190) h k_190_2))) (fun h => nd h (fun h => lf (P := EE l 190) h (EE_sp H10 (by decide) (by decide))) (fun h => nd h (fun h => lf (P := EE l 190) h k_190_6) (fun h => lf (P := EE l 190) h k_190_7)))) (fun h => nd h (fun h => nd h (fun h => lf (P := EE l 190) h k_190_8) (fun h => nd h (fun h => lf (P := EE l 190) h k_190_11) (fun h => lf (P := EE l 190) h k_190_12))) (fun h => nd h (fun h => lf (P := EE l 190) h (EE_re (Or.inl ⟨rfl, dL_apply_13, rfl⟩))) (fun h => nd h (fun h => lf (P := EE l 190) h k_190_14) (fun h => lf (P := EE l 190) h (EE_re (Or.inl ⟨rfl, dL_apply_15, rfl⟩))))))
theorem dL_lookUp_0 : decode cL_lookUp 0 = .ok (.aload 4, 2) := by decide +kernel
theorem dL_lookUp_2 : decode cL_lookUp 2 = .ok (.iconst 0, 1) := by decide +kernel
theorem dL_lookUp_3 : decode cL_lookUp 3 = .ok (.aload_n 0, 1) := by decide +kernel
theorem dL_lookUp_4 : decode cL_lookUp 4 = .ok (.lload_n 1, 1) := by decide +kernel
theorem dL_lookUp_5 : decode cL_lookUp 5 = .ok (.iload_n 3, 1) := by decide +kernel
theorem dL_lookUp_6 : decode cL_lookUp 6 = .ok (.invokevirtual 39, 3) := by decide +kernel
theorem dL_lookUp_9 : decode cL_lookUp 9 = .ok (.i2l, 1) := by decide +kernel
theorem dL_lookUp_10 : decode cL_lookUp 10 = .ok (.lastore, 1) := by decide +kernel
theorem dL_lookUp_11 : decode cL_lookUp 11 = .ok (.goto 7, 3) := by decide +kernel
theorem dL_lookUp_14 : decode cL_lookUp 14 = .ok (.astore 5, 2) := by decide +kernel
theorem dL_lookUp_16 : decode cL_lookUp 16 = .ok (.iconst 1, 1) := by decide +kernel
theorem dL_lookUp_17 : decode cL_lookUp 17 = .ok (.ireturn, 1) := by decide +kernel
theorem dL_lookUp_18 : decode cL_lookUp 18 = .ok (.iconst 0, 1) := by decide +kernel
theorem dL_lookUp_19 : decode cL_lookUp 19 = .ok (.ireturn, 1) := by decide +kernel
def tb_191 (pc : Nat) : Option mEnt := bif Nat.ble pc 9 then (bif Nat.ble pc 3 then (bif Nat.ble pc 0 then (bif Nat.beq pc 0 then some (.inl (o_al 4 2)) else none) else (bif Nat.ble pc 2 then (bif Nat.beq pc 2 then some (.inl (oS 1 (s_push (.int 0)))) else none) else (bif Nat.beq pc 3 then some (.inl (o_al 0 1)) else none))) else (bif Nat.ble pc 5 then (bif Nat.ble pc 4 then (bif Nat.beq pc 4 then some (.inl (o_ll 1 1)) else none) else (bif Nat.beq pc 5 then some (.inl (o_il 3 1)) else none)) else (bif Nat.ble pc 6 then (bif Nat.beq pc 6 then some (.inr (10, 106, 3, 10)) else none) else (bif Nat.beq pc 9 then some (.inl (oS 1 s_i2l)) else none)))) else (bif Nat.ble pc 14 then (bif Nat.ble pc 10 then (bif Nat.beq pc 10 then some (.inl (o_last)) else none) else (bif Nat.ble pc 11 then (bif Nat.beq pc 11 then some (.inl (o_goto 18)) else none) else (bif Nat.beq pc 14 then some (.inl (o_as 5 2)) else none))) else (bif Nat.ble pc 17 then (bif Nat.ble pc 16 then (bif Nat.beq pc 16 then some (.inl (oS 1 (s_push (.int 1)))) else none) else (bif Nat.beq pc 17 then some (.inr (0, 0, 0, 0)) else none)) else (bif Nat.ble pc 18 then (bif Nat.beq pc 18 then some (.inl (oS 1 (s_push (.int 0)))) else none) else (bif Nat.beq pc 19 then some (.inr (0, 0, 0, 0)) else none))))
theorem k_191_0 : mOk M_191.1 M_191.2.1 M_191.2.2.1 M_191.2.2.2 0 (o_al 4 2) := ok_aload dL_lookUp_0
theorem k_191_2 : mOk M_191.1 M_191.2.1 M_191.2.2.1 M_191.2.2.2 2 (oS 1 (s_push (.int 0))) := ok_iconst dL_lookUp_2 (by decide)
theorem k_191_3 : mOk M_191.1 M_191.2.1 M_191.2.2.1 M_191.2.2.2 3 (o_al 0 1) := ok_aload_n dL_lookUp_3 rfl
theorem k_191_4 : mOk M_191.1 M_191.2.1 M_191.2.2.1 M_191.2.2.2 4 (o_ll 1 1) := ok_lload_n dL_lookUp_4 rfl
theorem k_191_5 : mOk M_191.1 M_191.2.1 M_191.2.2.1 M_191.2.2.2 5 (o_il 3 1) := ok_iload_n dL_lookUp_5 rfl
theorem k_191_9 : mOk M_191.1 M_191.2.1 M_191.2.2.1 M_191.2.2.2 9 (oS 1 s_i2l) := ok_i2l dL_lookUp_9
theorem k_191_10 : mOk M_191.1 M_191.2.1 M_191.2.2.1 M_191.2.2.2 10 (o_last) := ok_last dL_lookUp_10
theorem k_191_11 : mOk M_191.1 M_191.2.1 M_191.2.2.1 M_191.2.2.2 11 (o_goto 18) := ok_goto dL_lookUp_11 (by decide)
theorem k_191_14 : mOk M_191.1 M_191.2.1 M_191.2.2.1 M_191.2.2.2 14 (o_as 5 2) := ok_astore dL_lookUp_14
theorem k_191_16 : mOk M_191.1 M_191.2.1 M_191.2.2.1 M_191.2.2.2 16 (oS 1 (s_push (.int 1))) := ok_iconst dL_lookUp_16 (by decide)
theorem k_191_18 : mOk M_191.1 M_191.2.1 M_191.2.2.1 M_191.2.2.2 18 (oS 1 (s_push (.int 0))) := ok_iconst dL_lookUp_18 (by decide)
set_option maxRecDepth 20000 in
set_option maxHeartbeats 4000000 in
theorem tk_191 (l : Launch) (H9 : mThr l) (H10 : mSpl l) (pc : Nat) (q : mEnt) (h : tb_191 pc = some q) : EE l 191 pc q := nd h (fun h => nd h (fun h => nd h (fun h => lf (P := EE l 191) h k_191_0) (fun h => nd h (fun h => lf (P := EE l 191) h k_191_2) (fun h => lf (P := EE l 191) h k_191_3))) (fun h => nd h (fun h => nd h (fun h => lf (P := EE l 191) h k_191_4) (fun h => lf (P := EE l 191) h k_191_5)) (fun h => nd h (fun h => lf (P := EE l 191) h (EE_sp H10 (by decide) (by decide))) (fun h => lf (P := EE l 191) h k_191_9)))) (fun h => nd h (fun h => nd h (fun h => lf (P := EE l 191) h k_191_10) (fun h => nd h (fun h => lf (P := EE l 191) h k_191_11) (fun h => lf (P := EE l 191) h k_191_14))) (fun h => nd h (fun h => nd h (fun h => lf (P := EE l 191) h k_191_16) (fun h => lf (P := EE l 191) h (EE_re (Or.inl ⟨rfl, dL_lookUp_17, rfl⟩)))) (fun h => nd h (fun h => lf (P := EE l 191) h k_191_18) (fun h => lf (P := EE l 191) h (EE_re (Or.inl ⟨rfl, dL_lookUp_19, rfl⟩))))))
theorem dL_near_0 : decode cL_near 0 = .ok (.aload 5, 2) := by decide +kernel
theorem dL_near_2 : decode cL_near 2 = .ok (.iconst 0, 1) := by decide +kernel
theorem dL_near_3 : decode cL_near 3 = .ok (.aload_n 0, 1) := by decide +kernel
theorem dL_near_4 : decode cL_near 4 = .ok (.iload_n 1, 1) := by decide +kernel
theorem dL_near_5 : decode cL_near 5 = .ok (.iload_n 2, 1) := by decide +kernel
theorem dL_near_6 : decode cL_near 6 = .ok (.iload_n 3, 1) := by decide +kernel
theorem dL_near_7 : decode cL_near 7 = .ok (.iload 4, 2) := by decide +kernel
theorem dL_near_9 : decode cL_near 9 = .ok (.invokevirtual 45, 3) := by decide +kernel
theorem dL_near_12 : decode cL_near 12 = .ok (.i2l, 1) := by decide +kernel
theorem dL_near_13 : decode cL_near 13 = .ok (.lastore, 1) := by decide +kernel
theorem dL_near_14 : decode cL_near 14 = .ok (.goto 7, 3) := by decide +kernel
theorem dL_near_17 : decode cL_near 17 = .ok (.astore 6, 2) := by decide +kernel
theorem dL_near_19 : decode cL_near 19 = .ok (.iconst 1, 1) := by decide +kernel
theorem dL_near_20 : decode cL_near 20 = .ok (.ireturn, 1) := by decide +kernel
theorem dL_near_21 : decode cL_near 21 = .ok (.iconst 0, 1) := by decide +kernel
theorem dL_near_22 : decode cL_near 22 = .ok (.ireturn, 1) := by decide +kernel
def tb_192 (pc : Nat) : Option mEnt := bif Nat.ble pc 9 then (bif Nat.ble pc 4 then (bif Nat.ble pc 2 then (bif Nat.ble pc 0 then (bif Nat.beq pc 0 then some (.inl (o_al 5 2)) else none) else (bif Nat.beq pc 2 then some (.inl (oS 1 (s_push (.int 0)))) else none)) else (bif Nat.ble pc 3 then (bif Nat.beq pc 3 then some (.inl (o_al 0 1)) else none) else (bif Nat.beq pc 4 then some (.inl (o_il 1 1)) else none))) else (bif Nat.ble pc 6 then (bif Nat.ble pc 5 then (bif Nat.beq pc 5 then some (.inl (o_il 2 1)) else none) else (bif Nat.beq pc 6 then some (.inl (o_il 3 1)) else none)) else (bif Nat.ble pc 7 then (bif Nat.beq pc 7 then some (.inl (o_il 4 2)) else none) else (bif Nat.beq pc 9 then some (.inr (10, 107, 5, 10)) else none)))) else (bif Nat.ble pc 17 then (bif Nat.ble pc 13 then (bif Nat.ble pc 12 then (bif Nat.beq pc 12 then some (.inl (oS 1 s_i2l)) else none) else (bif Nat.beq pc 13 then some (.inl (o_last)) else none)) else (bif Nat.ble pc 14 then (bif Nat.beq pc 14 then some (.inl (o_goto 21)) else none) else (bif Nat.beq pc 17 then some (.inl (o_as 6 2)) else none))) else (bif Nat.ble pc 20 then (bif Nat.ble pc 19 then (bif Nat.beq pc 19 then some (.inl (oS 1 (s_push (.int 1)))) else none) else (bif Nat.beq pc 20 then some (.inr (0, 0, 0, 0)) else none)) else (bif Nat.ble pc 21 then (bif Nat.beq pc 21 then some (.inl (oS 1 (s_push (.int 0)))) else none) else (bif Nat.beq pc 22 then some (.inr (0, 0, 0, 0)) else none))))
theorem k_192_0 : mOk M_192.1 M_192.2.1 M_192.2.2.1 M_192.2.2.2 0 (o_al 5 2) := ok_aload dL_near_0
theorem k_192_2 : mOk M_192.1 M_192.2.1 M_192.2.2.1 M_192.2.2.2 2 (oS 1 (s_push (.int 0))) := ok_iconst dL_near_2 (by decide)
theorem k_192_3 : mOk M_192.1 M_192.2.1 M_192.2.2.1 M_192.2.2.2 3 (o_al 0 1) := ok_aload_n dL_near_3 rfl
theorem k_192_4 : mOk M_192.1 M_192.2.1 M_192.2.2.1 M_192.2.2.2 4 (o_il 1 1) := ok_iload_n dL_near_4 rfl
theorem k_192_5 : mOk M_192.1 M_192.2.1 M_192.2.2.1 M_192.2.2.2 5 (o_il 2 1) := ok_iload_n dL_near_5 rfl
theorem k_192_6 : mOk M_192.1 M_192.2.1 M_192.2.2.1 M_192.2.2.2 6 (o_il 3 1) := ok_iload_n dL_near_6 rfl
theorem k_192_7 : mOk M_192.1 M_192.2.1 M_192.2.2.1 M_192.2.2.2 7 (o_il 4 2) := ok_iload dL_near_7
theorem k_192_12 : mOk M_192.1 M_192.2.1 M_192.2.2.1 M_192.2.2.2 12 (oS 1 s_i2l) := ok_i2l dL_near_12
theorem k_192_13 : mOk M_192.1 M_192.2.1 M_192.2.2.1 M_192.2.2.2 13 (o_last) := ok_last dL_near_13
theorem k_192_14 : mOk M_192.1 M_192.2.1 M_192.2.2.1 M_192.2.2.2 14 (o_goto 21) := ok_goto dL_near_14 (by decide)
theorem k_192_17 : mOk M_192.1 M_192.2.1 M_192.2.2.1 M_192.2.2.2 17 (o_as 6 2) := ok_astore dL_near_17
theorem k_192_19 : mOk M_192.1 M_192.2.1 M_192.2.2.1 M_192.2.2.2 19 (oS 1 (s_push (.int 1))) := ok_iconst dL_near_19 (by decide)
theorem k_192_21 : mOk M_192.1 M_192.2.1 M_192.2.2.1 M_192.2.2.2 21 (oS 1 (s_push (.int 0))) := ok_iconst dL_near_21 (by decide)
set_option maxRecDepth 20000 in
set_option maxHeartbeats 4000000 in
theorem tk_192 (l : Launch) (H9 : mThr l) (H10 : mSpl l) (pc : Nat) (q : mEnt) (h : tb_192 pc = some q) : EE l 192 pc q := nd h (fun h => nd h (fun h => nd h (fun h => nd h (fun h => lf (P := EE l 192) h k_192_0) (fun h => lf (P := EE l 192) h k_192_2)) (fun h => nd h (fun h => lf (P := EE l 192) h k_192_3) (fun h => lf (P := EE l 192) h k_192_4))) (fun h => nd h (fun h => nd h (fun h => lf (P := EE l 192) h k_192_5) (fun h => lf (P := EE l 192) h k_192_6)) (fun h => nd h (fun h => lf (P := EE l 192) h k_192_7) (fun h => lf (P := EE l 192) h (EE_sp H10 (by decide) (by decide)))))) (fun h => nd h (fun h => nd h (fun h => nd h (fun h => lf (P := EE l 192) h k_192_12) (fun h => lf (P := EE l 192) h k_192_13)) (fun h => nd h (fun h => lf (P := EE l 192) h k_192_14) (fun h => lf (P := EE l 192) h k_192_17))) (fun h => nd h (fun h => nd h (fun h => lf (P := EE l 192) h k_192_19) (fun h => lf (P := EE l 192) h (EE_re (Or.inl ⟨rfl, dL_near_20, rfl⟩)))) (fun h => nd h (fun h => lf (P := EE l 192) h k_192_21) (fun h => lf (P := EE l 192) h (EE_re (Or.inl ⟨rfl, dL_near_22, rfl⟩))))))
theorem dL_law_0 : decode cL_law 0 = .ok (.new 8, 3) := by decide +kernel
theorem dL_law_3 : decode cL_law 3 = .ok (.dup, 1) := by decide +kernel
theorem dL_law_4 : decode cL_law 4 = .ok (.invokespecial 48, 3) := by decide +kernel
theorem dL_law_7 : decode cL_law 7 = .ok (.astore_n 1, 1) := by decide +kernel
theorem dL_law_8 : decode cL_law 8 = .ok (.new 49, 3) := by decide +kernel
theorem dL_law_11 : decode cL_law 11 = .ok (.dup, 1) := by decide +kernel
theorem dL_law_12 : decode cL_law 12 = .ok (.invokespecial 51, 3) := by decide +kernel
theorem dL_law_15 : decode cL_law 15 = .ok (.astore_n 2, 1) := by decide +kernel
theorem dL_law_16 : decode cL_law 16 = .ok (.iconst 1, 1) := by decide +kernel
theorem dL_law_17 : decode cL_law 17 = .ok (.newarray .long, 2) := by decide +kernel
theorem dL_law_19 : decode cL_law 19 = .ok (.astore_n 3, 1) := by decide +kernel
theorem dL_law_20 : decode cL_law 20 = .ok (.iconst 0, 1) := by decide +kernel
theorem dL_law_21 : decode cL_law 21 = .ok (.istore 4, 2) := by decide +kernel
theorem dL_law_23 : decode cL_law 23 = .ok (.iload 4, 2) := by decide +kernel
theorem dL_law_25 : decode cL_law 25 = .ok (.aload_n 0, 1) := by decide +kernel
theorem dL_law_26 : decode cL_law 26 = .ok (.arraylength, 1) := by decide +kernel
theorem dL_law_27 : decode cL_law 27 = .ok (.bipush 7, 2) := by decide +kernel
theorem dL_law_29 : decode cL_law 29 = .ok (.isub, 1) := by decide +kernel
theorem dL_law_30 : decode cL_law 30 = .ok (.if_icmp .gt 1018, 3) := by decide +kernel
theorem dL_law_33 : decode cL_law 33 = .ok (.aload_n 0, 1) := by decide +kernel
theorem dL_law_34 : decode cL_law 34 = .ok (.iload 4, 2) := by decide +kernel
theorem dL_law_36 : decode cL_law 36 = .ok (.iaload, 1) := by decide +kernel
theorem dL_law_37 : decode cL_law 37 = .ok (.bipush 15, 2) := by decide +kernel
theorem dL_law_39 : decode cL_law 39 = .ok (.iand, 1) := by decide +kernel
theorem dL_law_40 : decode cL_law 40 = .ok (.tableswitch 1002 0 15 #[80, 117, 255, 280, 293, 385, 410, 494, 550, 587, 636, 661, 729, 766, 810, 910], 80) := by decide +kernel
theorem dL_law_120 : decode cL_law 120 = .ok (.aload_n 1, 1) := by decide +kernel
theorem dL_law_121 : decode cL_law 121 = .ok (.aload_n 0, 1) := by decide +kernel
theorem dL_law_122 : decode cL_law 122 = .ok (.iload 4, 2) := by decide +kernel
theorem dL_law_124 : decode cL_law 124 = .ok (.iconst 1, 1) := by decide +kernel
theorem dL_law_125 : decode cL_law 125 = .ok (.iadd, 1) := by decide +kernel
theorem dL_law_126 : decode cL_law 126 = .ok (.iaload, 1) := by decide +kernel
theorem dL_law_127 : decode cL_law 127 = .ok (.aload_n 0, 1) := by decide +kernel
theorem dL_law_128 : decode cL_law 128 = .ok (.iload 4, 2) := by decide +kernel
theorem dL_law_130 : decode cL_law 130 = .ok (.iconst 2, 1) := by decide +kernel
theorem dL_law_131 : decode cL_law 131 = .ok (.iadd, 1) := by decide +kernel
theorem dL_law_132 : decode cL_law 132 = .ok (.iaload, 1) := by decide +kernel
theorem dL_law_133 : decode cL_law 133 = .ok (.invokevirtual 52, 3) := by decide +kernel
theorem dL_law_136 : decode cL_law 136 = .ok (.aload_n 2, 1) := by decide +kernel
theorem dL_law_137 : decode cL_law 137 = .ok (.aload_n 0, 1) := by decide +kernel
theorem dL_law_138 : decode cL_law 138 = .ok (.iload 4, 2) := by decide +kernel
theorem dL_law_140 : decode cL_law 140 = .ok (.iconst 1, 1) := by decide +kernel
theorem dL_law_141 : decode cL_law 141 = .ok (.iadd, 1) := by decide +kernel
theorem dL_law_142 : decode cL_law 142 = .ok (.iaload, 1) := by decide +kernel
theorem dL_law_143 : decode cL_law 143 = .ok (.aload_n 0, 1) := by decide +kernel
theorem dL_law_144 : decode cL_law 144 = .ok (.iload 4, 2) := by decide +kernel
theorem dL_law_146 : decode cL_law 146 = .ok (.iconst 2, 1) := by decide +kernel
theorem dL_law_147 : decode cL_law 147 = .ok (.iadd, 1) := by decide +kernel
theorem dL_law_148 : decode cL_law 148 = .ok (.iaload, 1) := by decide +kernel
theorem dL_law_149 : decode cL_law 149 = .ok (.invokevirtual 56, 3) := by decide +kernel
theorem dL_law_152 : decode cL_law 152 = .ok (.if_icmp .eq 890, 3) := by decide +kernel
theorem dL_law_155 : decode cL_law 155 = .ok (.iconst 0, 1) := by decide +kernel
theorem dL_law_156 : decode cL_law 156 = .ok (.ireturn, 1) := by decide +kernel
theorem dL_law_157 : decode cL_law 157 = .ok (.aload_n 1, 1) := by decide +kernel
theorem dL_law_158 : decode cL_law 158 = .ok (.aload_n 0, 1) := by decide +kernel
theorem dL_law_159 : decode cL_law 159 = .ok (.iload 4, 2) := by decide +kernel
theorem dL_law_161 : decode cL_law 161 = .ok (.iconst 1, 1) := by decide +kernel
theorem dL_law_162 : decode cL_law 162 = .ok (.iadd, 1) := by decide +kernel
theorem dL_law_163 : decode cL_law 163 = .ok (.iaload, 1) := by decide +kernel
theorem dL_law_164 : decode cL_law 164 = .ok (.aload_n 0, 1) := by decide +kernel
theorem dL_law_165 : decode cL_law 165 = .ok (.iload 4, 2) := by decide +kernel
theorem dL_law_167 : decode cL_law 167 = .ok (.iconst 2, 1) := by decide +kernel
theorem dL_law_168 : decode cL_law 168 = .ok (.iadd, 1) := by decide +kernel
theorem dL_law_169 : decode cL_law 169 = .ok (.iaload, 1) := by decide +kernel
theorem dL_law_170 : decode cL_law 170 = .ok (.aload_n 0, 1) := by decide +kernel
theorem dL_law_171 : decode cL_law 171 = .ok (.iload 4, 2) := by decide +kernel
theorem dL_law_173 : decode cL_law 173 = .ok (.iconst 3, 1) := by decide +kernel
theorem dL_law_174 : decode cL_law 174 = .ok (.iadd, 1) := by decide +kernel
theorem dL_law_175 : decode cL_law 175 = .ok (.iaload, 1) := by decide +kernel
theorem dL_law_176 : decode cL_law 176 = .ok (.aload_n 0, 1) := by decide +kernel
theorem dL_law_177 : decode cL_law 177 = .ok (.iload 4, 2) := by decide +kernel
theorem dL_law_179 : decode cL_law 179 = .ok (.iconst 4, 1) := by decide +kernel
theorem dL_law_180 : decode cL_law 180 = .ok (.iadd, 1) := by decide +kernel
theorem dL_law_181 : decode cL_law 181 = .ok (.iaload, 1) := by decide +kernel
theorem dL_law_182 : decode cL_law 182 = .ok (.aload_n 0, 1) := by decide +kernel
theorem dL_law_183 : decode cL_law 183 = .ok (.iload 4, 2) := by decide +kernel
theorem dL_law_185 : decode cL_law 185 = .ok (.iconst 5, 1) := by decide +kernel
theorem dL_law_186 : decode cL_law 186 = .ok (.iadd, 1) := by decide +kernel
theorem dL_law_187 : decode cL_law 187 = .ok (.iaload, 1) := by decide +kernel
theorem dL_law_188 : decode cL_law 188 = .ok (.i2l, 1) := by decide +kernel
theorem dL_law_189 : decode cL_law 189 = .ok (.bipush 32, 2) := by decide +kernel
theorem dL_law_191 : decode cL_law 191 = .ok (.lshl, 1) := by decide +kernel
theorem dL_law_192 : decode cL_law 192 = .ok (.aload_n 0, 1) := by decide +kernel
theorem dL_law_193 : decode cL_law 193 = .ok (.iload 4, 2) := by decide +kernel
theorem dL_law_195 : decode cL_law 195 = .ok (.bipush 6, 2) := by decide +kernel
theorem dL_law_197 : decode cL_law 197 = .ok (.iadd, 1) := by decide +kernel
theorem dL_law_198 : decode cL_law 198 = .ok (.iaload, 1) := by decide +kernel
theorem dL_law_199 : decode cL_law 199 = .ok (.i2l, 1) := by decide +kernel
theorem dL_law_200 : decode cL_law 200 = .ok (.ldc2_w 57, 3) := by decide +kernel
theorem dL_law_203 : decode cL_law 203 = .ok (.land, 1) := by decide +kernel
theorem dL_law_204 : decode cL_law 204 = .ok (.lor, 1) := by decide +kernel
theorem dL_law_205 : decode cL_law 205 = .ok (.aload_n 3, 1) := by decide +kernel
theorem dL_law_206 : decode cL_law 206 = .ok (.invokestatic 59, 3) := by decide +kernel
theorem dL_law_209 : decode cL_law 209 = .ok (.istore 5, 2) := by decide +kernel
theorem dL_law_211 : decode cL_law 211 = .ok (.aload_n 2, 1) := by decide +kernel
theorem dL_law_212 : decode cL_law 212 = .ok (.aload_n 0, 1) := by decide +kernel
theorem dL_law_213 : decode cL_law 213 = .ok (.iload 4, 2) := by decide +kernel
theorem dL_law_215 : decode cL_law 215 = .ok (.iconst 1, 1) := by decide +kernel
theorem dL_law_216 : decode cL_law 216 = .ok (.iadd, 1) := by decide +kernel
theorem dL_law_217 : decode cL_law 217 = .ok (.iaload, 1) := by decide +kernel
theorem dL_law_218 : decode cL_law 218 = .ok (.aload_n 0, 1) := by decide +kernel
theorem dL_law_219 : decode cL_law 219 = .ok (.iload 4, 2) := by decide +kernel
theorem dL_law_221 : decode cL_law 221 = .ok (.iconst 2, 1) := by decide +kernel
theorem dL_law_222 : decode cL_law 222 = .ok (.iadd, 1) := by decide +kernel
theorem dL_law_223 : decode cL_law 223 = .ok (.iaload, 1) := by decide +kernel
theorem dL_law_224 : decode cL_law 224 = .ok (.aload_n 0, 1) := by decide +kernel
theorem dL_law_225 : decode cL_law 225 = .ok (.iload 4, 2) := by decide +kernel
theorem dL_law_227 : decode cL_law 227 = .ok (.iconst 3, 1) := by decide +kernel
theorem dL_law_228 : decode cL_law 228 = .ok (.iadd, 1) := by decide +kernel
theorem dL_law_229 : decode cL_law 229 = .ok (.iaload, 1) := by decide +kernel
theorem dL_law_230 : decode cL_law 230 = .ok (.aload_n 0, 1) := by decide +kernel
theorem dL_law_231 : decode cL_law 231 = .ok (.iload 4, 2) := by decide +kernel
theorem dL_law_233 : decode cL_law 233 = .ok (.iconst 4, 1) := by decide +kernel
theorem dL_law_234 : decode cL_law 234 = .ok (.iadd, 1) := by decide +kernel
theorem dL_law_235 : decode cL_law 235 = .ok (.iaload, 1) := by decide +kernel
theorem dL_law_236 : decode cL_law 236 = .ok (.aload_n 0, 1) := by decide +kernel
theorem dL_law_237 : decode cL_law 237 = .ok (.iload 4, 2) := by decide +kernel
theorem dL_law_239 : decode cL_law 239 = .ok (.iconst 5, 1) := by decide +kernel
theorem dL_law_240 : decode cL_law 240 = .ok (.iadd, 1) := by decide +kernel
theorem dL_law_241 : decode cL_law 241 = .ok (.iaload, 1) := by decide +kernel
theorem dL_law_242 : decode cL_law 242 = .ok (.i2l, 1) := by decide +kernel
theorem dL_law_243 : decode cL_law 243 = .ok (.bipush 32, 2) := by decide +kernel
theorem dL_law_245 : decode cL_law 245 = .ok (.lshl, 1) := by decide +kernel
theorem dL_law_246 : decode cL_law 246 = .ok (.aload_n 0, 1) := by decide +kernel
theorem dL_law_247 : decode cL_law 247 = .ok (.iload 4, 2) := by decide +kernel
theorem dL_law_249 : decode cL_law 249 = .ok (.bipush 6, 2) := by decide +kernel
theorem dL_law_251 : decode cL_law 251 = .ok (.iadd, 1) := by decide +kernel
theorem dL_law_252 : decode cL_law 252 = .ok (.iaload, 1) := by decide +kernel
theorem dL_law_253 : decode cL_law 253 = .ok (.i2l, 1) := by decide +kernel
theorem dL_law_254 : decode cL_law 254 = .ok (.ldc2_w 57, 3) := by decide +kernel
theorem dL_law_257 : decode cL_law 257 = .ok (.land, 1) := by decide +kernel
theorem dL_law_258 : decode cL_law 258 = .ok (.lor, 1) := by decide +kernel
theorem dL_law_259 : decode cL_law 259 = .ok (.invokevirtual 64, 3) := by decide +kernel
theorem dL_law_262 : decode cL_law 262 = .ok (.istore 6, 2) := by decide +kernel
theorem dL_law_264 : decode cL_law 264 = .ok (.aload_n 2, 1) := by decide +kernel
theorem dL_law_265 : decode cL_law 265 = .ok (.invokevirtual 65, 3) := by decide +kernel
theorem dL_law_268 : decode cL_law 268 = .ok (.iload 5, 2) := by decide +kernel
theorem dL_law_270 : decode cL_law 270 = .ok (.if_icmp .eq 5, 3) := by decide +kernel
theorem dL_law_273 : decode cL_law 273 = .ok (.iconst 0, 1) := by decide +kernel
theorem dL_law_274 : decode cL_law 274 = .ok (.ireturn, 1) := by decide +kernel
theorem dL_law_275 : decode cL_law 275 = .ok (.iload 5, 2) := by decide +kernel
theorem dL_law_277 : decode cL_law 277 = .ok (.ifCond .ne 15, 3) := by decide +kernel
theorem dL_law_280 : decode cL_law 280 = .ok (.aload_n 3, 1) := by decide +kernel
theorem dL_law_281 : decode cL_law 281 = .ok (.iconst 0, 1) := by decide +kernel
theorem dL_law_282 : decode cL_law 282 = .ok (.laload, 1) := by decide +kernel
theorem dL_law_283 : decode cL_law 283 = .ok (.iload 6, 2) := by decide +kernel
theorem dL_law_285 : decode cL_law 285 = .ok (.i2l, 1) := by decide +kernel
theorem dL_law_286 : decode cL_law 286 = .ok (.lcmp, 1) := by decide +kernel
theorem dL_law_287 : decode cL_law 287 = .ok (.ifCond .eq 5, 3) := by decide +kernel
theorem dL_law_290 : decode cL_law 290 = .ok (.iconst 0, 1) := by decide +kernel
theorem dL_law_291 : decode cL_law 291 = .ok (.ireturn, 1) := by decide +kernel
theorem dL_law_292 : decode cL_law 292 = .ok (.goto 750, 3) := by decide +kernel
theorem dL_law_295 : decode cL_law 295 = .ok (.aload_n 1, 1) := by decide +kernel
theorem dL_law_296 : decode cL_law 296 = .ok (.aload_n 0, 1) := by decide +kernel
theorem dL_law_297 : decode cL_law 297 = .ok (.iload 4, 2) := by decide +kernel
theorem dL_law_299 : decode cL_law 299 = .ok (.iconst 1, 1) := by decide +kernel
theorem dL_law_300 : decode cL_law 300 = .ok (.iadd, 1) := by decide +kernel
theorem dL_law_301 : decode cL_law 301 = .ok (.iaload, 1) := by decide +kernel
theorem dL_law_302 : decode cL_law 302 = .ok (.invokevirtual 68, 3) := by decide +kernel
theorem dL_law_305 : decode cL_law 305 = .ok (.aload_n 2, 1) := by decide +kernel
theorem dL_law_306 : decode cL_law 306 = .ok (.aload_n 0, 1) := by decide +kernel
theorem dL_law_307 : decode cL_law 307 = .ok (.iload 4, 2) := by decide +kernel
theorem dL_law_309 : decode cL_law 309 = .ok (.iconst 1, 1) := by decide +kernel
theorem dL_law_310 : decode cL_law 310 = .ok (.iadd, 1) := by decide +kernel
theorem dL_law_311 : decode cL_law 311 = .ok (.iaload, 1) := by decide +kernel
theorem dL_law_312 : decode cL_law 312 = .ok (.invokevirtual 72, 3) := by decide +kernel
theorem dL_law_315 : decode cL_law 315 = .ok (.if_icmp .eq 727, 3) := by decide +kernel
theorem dL_law_318 : decode cL_law 318 = .ok (.iconst 0, 1) := by decide +kernel
theorem dL_law_319 : decode cL_law 319 = .ok (.ireturn, 1) := by decide +kernel
theorem dL_law_320 : decode cL_law 320 = .ok (.aload_n 1, 1) := by decide +kernel
theorem dL_law_321 : decode cL_law 321 = .ok (.invokevirtual 73, 3) := by decide +kernel
theorem dL_law_324 : decode cL_law 324 = .ok (.aload_n 2, 1) := by decide +kernel
theorem dL_law_325 : decode cL_law 325 = .ok (.invokevirtual 76, 3) := by decide +kernel
theorem dL_law_328 : decode cL_law 328 = .ok (.if_icmp .eq 714, 3) := by decide +kernel
theorem dL_law_331 : decode cL_law 331 = .ok (.iconst 0, 1) := by decide +kernel
theorem dL_law_332 : decode cL_law 332 = .ok (.ireturn, 1) := by decide +kernel
theorem dL_law_333 : decode cL_law 333 = .ok (.aload_n 1, 1) := by decide +kernel
theorem dL_law_334 : decode cL_law 334 = .ok (.aload_n 0, 1) := by decide +kernel
theorem dL_law_335 : decode cL_law 335 = .ok (.iload 4, 2) := by decide +kernel
theorem dL_law_337 : decode cL_law 337 = .ok (.iconst 1, 1) := by decide +kernel
theorem dL_law_338 : decode cL_law 338 = .ok (.iadd, 1) := by decide +kernel
theorem dL_law_339 : decode cL_law 339 = .ok (.iaload, 1) := by decide +kernel
theorem dL_law_340 : decode cL_law 340 = .ok (.aload_n 0, 1) := by decide +kernel
theorem dL_law_341 : decode cL_law 341 = .ok (.iload 4, 2) := by decide +kernel
theorem dL_law_343 : decode cL_law 343 = .ok (.iconst 2, 1) := by decide +kernel
theorem dL_law_344 : decode cL_law 344 = .ok (.iadd, 1) := by decide +kernel
theorem dL_law_345 : decode cL_law 345 = .ok (.iaload, 1) := by decide +kernel
theorem dL_law_346 : decode cL_law 346 = .ok (.aload_n 0, 1) := by decide +kernel
theorem dL_law_347 : decode cL_law 347 = .ok (.iload 4, 2) := by decide +kernel
theorem dL_law_349 : decode cL_law 349 = .ok (.iconst 3, 1) := by decide +kernel
theorem dL_law_350 : decode cL_law 350 = .ok (.iadd, 1) := by decide +kernel
theorem dL_law_351 : decode cL_law 351 = .ok (.iaload, 1) := by decide +kernel
theorem dL_law_352 : decode cL_law 352 = .ok (.aload_n 0, 1) := by decide +kernel
theorem dL_law_353 : decode cL_law 353 = .ok (.iload 4, 2) := by decide +kernel
theorem dL_law_355 : decode cL_law 355 = .ok (.iconst 4, 1) := by decide +kernel
theorem dL_law_356 : decode cL_law 356 = .ok (.iadd, 1) := by decide +kernel
theorem dL_law_357 : decode cL_law 357 = .ok (.iaload, 1) := by decide +kernel
theorem dL_law_358 : decode cL_law 358 = .ok (.aload_n 3, 1) := by decide +kernel
theorem dL_law_359 : decode cL_law 359 = .ok (.invokestatic 77, 3) := by decide +kernel
theorem dL_law_362 : decode cL_law 362 = .ok (.istore 5, 2) := by decide +kernel
theorem dL_law_364 : decode cL_law 364 = .ok (.aload_n 2, 1) := by decide +kernel
theorem dL_law_365 : decode cL_law 365 = .ok (.aload_n 0, 1) := by decide +kernel
theorem dL_law_366 : decode cL_law 366 = .ok (.iload 4, 2) := by decide +kernel
theorem dL_law_368 : decode cL_law 368 = .ok (.iconst 1, 1) := by decide +kernel
theorem dL_law_369 : decode cL_law 369 = .ok (.iadd, 1) := by decide +kernel
theorem dL_law_370 : decode cL_law 370 = .ok (.iaload, 1) := by decide +kernel
theorem dL_law_371 : decode cL_law 371 = .ok (.aload_n 0, 1) := by decide +kernel
theorem dL_law_372 : decode cL_law 372 = .ok (.iload 4, 2) := by decide +kernel
theorem dL_law_374 : decode cL_law 374 = .ok (.iconst 2, 1) := by decide +kernel
theorem dL_law_375 : decode cL_law 375 = .ok (.iadd, 1) := by decide +kernel
theorem dL_law_376 : decode cL_law 376 = .ok (.iaload, 1) := by decide +kernel
theorem dL_law_377 : decode cL_law 377 = .ok (.aload_n 0, 1) := by decide +kernel
theorem dL_law_378 : decode cL_law 378 = .ok (.iload 4, 2) := by decide +kernel
theorem dL_law_380 : decode cL_law 380 = .ok (.iconst 3, 1) := by decide +kernel
theorem dL_law_381 : decode cL_law 381 = .ok (.iadd, 1) := by decide +kernel
theorem dL_law_382 : decode cL_law 382 = .ok (.iaload, 1) := by decide +kernel
theorem dL_law_383 : decode cL_law 383 = .ok (.aload_n 0, 1) := by decide +kernel
theorem dL_law_384 : decode cL_law 384 = .ok (.iload 4, 2) := by decide +kernel
theorem dL_law_386 : decode cL_law 386 = .ok (.iconst 4, 1) := by decide +kernel
theorem dL_law_387 : decode cL_law 387 = .ok (.iadd, 1) := by decide +kernel
theorem dL_law_388 : decode cL_law 388 = .ok (.iaload, 1) := by decide +kernel
theorem dL_law_389 : decode cL_law 389 = .ok (.invokevirtual 80, 3) := by decide +kernel
theorem dL_law_392 : decode cL_law 392 = .ok (.istore 6, 2) := by decide +kernel
theorem dL_law_394 : decode cL_law 394 = .ok (.aload_n 2, 1) := by decide +kernel
theorem dL_law_395 : decode cL_law 395 = .ok (.invokevirtual 65, 3) := by decide +kernel
theorem dL_law_398 : decode cL_law 398 = .ok (.iload 5, 2) := by decide +kernel
theorem dL_law_400 : decode cL_law 400 = .ok (.if_icmp .eq 5, 3) := by decide +kernel
theorem dL_law_403 : decode cL_law 403 = .ok (.iconst 0, 1) := by decide +kernel
theorem dL_law_404 : decode cL_law 404 = .ok (.ireturn, 1) := by decide +kernel
theorem dL_law_405 : decode cL_law 405 = .ok (.iload 5, 2) := by decide +kernel
theorem dL_law_407 : decode cL_law 407 = .ok (.ifCond .ne 15, 3) := by decide +kernel
theorem dL_law_410 : decode cL_law 410 = .ok (.aload_n 3, 1) := by decide +kernel
theorem dL_law_411 : decode cL_law 411 = .ok (.iconst 0, 1) := by decide +kernel
theorem dL_law_412 : decode cL_law 412 = .ok (.laload, 1) := by decide +kernel
theorem dL_law_413 : decode cL_law 413 = .ok (.iload 6, 2) := by decide +kernel
theorem dL_law_415 : decode cL_law 415 = .ok (.i2l, 1) := by decide +kernel
theorem dL_law_416 : decode cL_law 416 = .ok (.lcmp, 1) := by decide +kernel
theorem dL_law_417 : decode cL_law 417 = .ok (.ifCond .eq 5, 3) := by decide +kernel
theorem dL_law_420 : decode cL_law 420 = .ok (.iconst 0, 1) := by decide +kernel
theorem dL_law_421 : decode cL_law 421 = .ok (.ireturn, 1) := by decide +kernel
theorem dL_law_422 : decode cL_law 422 = .ok (.goto 620, 3) := by decide +kernel
theorem dL_law_425 : decode cL_law 425 = .ok (.aload_n 1, 1) := by decide +kernel
theorem dL_law_426 : decode cL_law 426 = .ok (.aload_n 0, 1) := by decide +kernel
theorem dL_law_427 : decode cL_law 427 = .ok (.iload 4, 2) := by decide +kernel
theorem dL_law_429 : decode cL_law 429 = .ok (.iconst 1, 1) := by decide +kernel
theorem dL_law_430 : decode cL_law 430 = .ok (.iadd, 1) := by decide +kernel
theorem dL_law_431 : decode cL_law 431 = .ok (.iaload, 1) := by decide +kernel
theorem dL_law_432 : decode cL_law 432 = .ok (.invokevirtual 81, 3) := by decide +kernel
theorem dL_law_435 : decode cL_law 435 = .ok (.aload_n 2, 1) := by decide +kernel
theorem dL_law_436 : decode cL_law 436 = .ok (.aload_n 0, 1) := by decide +kernel
theorem dL_law_437 : decode cL_law 437 = .ok (.iload 4, 2) := by decide +kernel
theorem dL_law_439 : decode cL_law 439 = .ok (.iconst 1, 1) := by decide +kernel
theorem dL_law_440 : decode cL_law 440 = .ok (.iadd, 1) := by decide +kernel
theorem dL_law_441 : decode cL_law 441 = .ok (.iaload, 1) := by decide +kernel
theorem dL_law_442 : decode cL_law 442 = .ok (.invokevirtual 84, 3) := by decide +kernel
theorem dL_law_445 : decode cL_law 445 = .ok (.if_icmp .eq 597, 3) := by decide +kernel
theorem dL_law_448 : decode cL_law 448 = .ok (.iconst 0, 1) := by decide +kernel
theorem dL_law_449 : decode cL_law 449 = .ok (.ireturn, 1) := by decide +kernel
theorem dL_law_450 : decode cL_law 450 = .ok (.aload_n 1, 1) := by decide +kernel
theorem dL_law_451 : decode cL_law 451 = .ok (.aload_n 0, 1) := by decide +kernel
theorem dL_law_452 : decode cL_law 452 = .ok (.iload 4, 2) := by decide +kernel
theorem dL_law_454 : decode cL_law 454 = .ok (.iconst 1, 1) := by decide +kernel
theorem dL_law_455 : decode cL_law 455 = .ok (.iadd, 1) := by decide +kernel
theorem dL_law_456 : decode cL_law 456 = .ok (.iaload, 1) := by decide +kernel
theorem dL_law_457 : decode cL_law 457 = .ok (.aload_n 0, 1) := by decide +kernel
theorem dL_law_458 : decode cL_law 458 = .ok (.iload 4, 2) := by decide +kernel
theorem dL_law_460 : decode cL_law 460 = .ok (.iconst 2, 1) := by decide +kernel
theorem dL_law_461 : decode cL_law 461 = .ok (.iadd, 1) := by decide +kernel
theorem dL_law_462 : decode cL_law 462 = .ok (.iaload, 1) := by decide +kernel
theorem dL_law_463 : decode cL_law 463 = .ok (.aload_n 0, 1) := by decide +kernel
theorem dL_law_464 : decode cL_law 464 = .ok (.iload 4, 2) := by decide +kernel
theorem dL_law_466 : decode cL_law 466 = .ok (.iconst 3, 1) := by decide +kernel
theorem dL_law_467 : decode cL_law 467 = .ok (.iadd, 1) := by decide +kernel
theorem dL_law_468 : decode cL_law 468 = .ok (.iaload, 1) := by decide +kernel
theorem dL_law_469 : decode cL_law 469 = .ok (.aload_n 0, 1) := by decide +kernel
theorem dL_law_470 : decode cL_law 470 = .ok (.iload 4, 2) := by decide +kernel
theorem dL_law_472 : decode cL_law 472 = .ok (.iconst 4, 1) := by decide +kernel
theorem dL_law_473 : decode cL_law 473 = .ok (.iadd, 1) := by decide +kernel
theorem dL_law_474 : decode cL_law 474 = .ok (.iaload, 1) := by decide +kernel
theorem dL_law_475 : decode cL_law 475 = .ok (.aload_n 0, 1) := by decide +kernel
theorem dL_law_476 : decode cL_law 476 = .ok (.iload 4, 2) := by decide +kernel
theorem dL_law_478 : decode cL_law 478 = .ok (.iconst 5, 1) := by decide +kernel
theorem dL_law_479 : decode cL_law 479 = .ok (.iadd, 1) := by decide +kernel
theorem dL_law_480 : decode cL_law 480 = .ok (.iaload, 1) := by decide +kernel
theorem dL_law_481 : decode cL_law 481 = .ok (.invokestatic 85, 3) := by decide +kernel
theorem dL_law_484 : decode cL_law 484 = .ok (.istore 5, 2) := by decide +kernel
theorem dL_law_486 : decode cL_law 486 = .ok (.aload_n 2, 1) := by decide +kernel
theorem dL_law_487 : decode cL_law 487 = .ok (.aload_n 0, 1) := by decide +kernel
theorem dL_law_488 : decode cL_law 488 = .ok (.iload 4, 2) := by decide +kernel
theorem dL_law_490 : decode cL_law 490 = .ok (.iconst 1, 1) := by decide +kernel
theorem dL_law_491 : decode cL_law 491 = .ok (.iadd, 1) := by decide +kernel
theorem dL_law_492 : decode cL_law 492 = .ok (.iaload, 1) := by decide +kernel
theorem dL_law_493 : decode cL_law 493 = .ok (.aload_n 0, 1) := by decide +kernel
theorem dL_law_494 : decode cL_law 494 = .ok (.iload 4, 2) := by decide +kernel
theorem dL_law_496 : decode cL_law 496 = .ok (.iconst 2, 1) := by decide +kernel
theorem dL_law_497 : decode cL_law 497 = .ok (.iadd, 1) := by decide +kernel
theorem dL_law_498 : decode cL_law 498 = .ok (.iaload, 1) := by decide +kernel
theorem dL_law_499 : decode cL_law 499 = .ok (.aload_n 0, 1) := by decide +kernel
theorem dL_law_500 : decode cL_law 500 = .ok (.iload 4, 2) := by decide +kernel
theorem dL_law_502 : decode cL_law 502 = .ok (.iconst 3, 1) := by decide +kernel
theorem dL_law_503 : decode cL_law 503 = .ok (.iadd, 1) := by decide +kernel
theorem dL_law_504 : decode cL_law 504 = .ok (.iaload, 1) := by decide +kernel
theorem dL_law_505 : decode cL_law 505 = .ok (.aload_n 0, 1) := by decide +kernel
theorem dL_law_506 : decode cL_law 506 = .ok (.iload 4, 2) := by decide +kernel
theorem dL_law_508 : decode cL_law 508 = .ok (.iconst 4, 1) := by decide +kernel
theorem dL_law_509 : decode cL_law 509 = .ok (.iadd, 1) := by decide +kernel
theorem dL_law_510 : decode cL_law 510 = .ok (.iaload, 1) := by decide +kernel
theorem dL_law_511 : decode cL_law 511 = .ok (.aload_n 0, 1) := by decide +kernel
theorem dL_law_512 : decode cL_law 512 = .ok (.iload 4, 2) := by decide +kernel
theorem dL_law_514 : decode cL_law 514 = .ok (.iconst 5, 1) := by decide +kernel
theorem dL_law_515 : decode cL_law 515 = .ok (.iadd, 1) := by decide +kernel
theorem dL_law_516 : decode cL_law 516 = .ok (.iaload, 1) := by decide +kernel
theorem dL_law_517 : decode cL_law 517 = .ok (.invokevirtual 88, 3) := by decide +kernel
theorem dL_law_520 : decode cL_law 520 = .ok (.aload_n 2, 1) := by decide +kernel
theorem dL_law_521 : decode cL_law 521 = .ok (.invokevirtual 65, 3) := by decide +kernel
theorem dL_law_524 : decode cL_law 524 = .ok (.iload 5, 2) := by decide +kernel
theorem dL_law_526 : decode cL_law 526 = .ok (.if_icmp .eq 5, 3) := by decide +kernel
theorem dL_law_529 : decode cL_law 529 = .ok (.iconst 0, 1) := by decide +kernel
theorem dL_law_530 : decode cL_law 530 = .ok (.ireturn, 1) := by decide +kernel
theorem dL_law_531 : decode cL_law 531 = .ok (.goto 511, 3) := by decide +kernel
theorem dL_law_534 : decode cL_law 534 = .ok (.aload_n 1, 1) := by decide +kernel
theorem dL_law_535 : decode cL_law 535 = .ok (.aload_n 0, 1) := by decide +kernel
theorem dL_law_536 : decode cL_law 536 = .ok (.iload 4, 2) := by decide +kernel
theorem dL_law_538 : decode cL_law 538 = .ok (.iconst 1, 1) := by decide +kernel
theorem dL_law_539 : decode cL_law 539 = .ok (.iadd, 1) := by decide +kernel
theorem dL_law_540 : decode cL_law 540 = .ok (.iaload, 1) := by decide +kernel
theorem dL_law_541 : decode cL_law 541 = .ok (.aload_n 3, 1) := by decide +kernel
theorem dL_law_542 : decode cL_law 542 = .ok (.invokestatic 89, 3) := by decide +kernel
theorem dL_law_545 : decode cL_law 545 = .ok (.istore 5, 2) := by decide +kernel
theorem dL_law_547 : decode cL_law 547 = .ok (.aload_n 2, 1) := by decide +kernel
theorem dL_law_548 : decode cL_law 548 = .ok (.aload_n 0, 1) := by decide +kernel
theorem dL_law_549 : decode cL_law 549 = .ok (.iload 4, 2) := by decide +kernel
theorem dL_law_551 : decode cL_law 551 = .ok (.iconst 1, 1) := by decide +kernel
theorem dL_law_552 : decode cL_law 552 = .ok (.iadd, 1) := by decide +kernel
theorem dL_law_553 : decode cL_law 553 = .ok (.iaload, 1) := by decide +kernel
theorem dL_law_554 : decode cL_law 554 = .ok (.invokevirtual 92, 3) := by decide +kernel
theorem dL_law_557 : decode cL_law 557 = .ok (.istore 6, 2) := by decide +kernel
theorem dL_law_559 : decode cL_law 559 = .ok (.aload_n 2, 1) := by decide +kernel
theorem dL_law_560 : decode cL_law 560 = .ok (.invokevirtual 65, 3) := by decide +kernel
theorem dL_law_563 : decode cL_law 563 = .ok (.iload 5, 2) := by decide +kernel
theorem dL_law_565 : decode cL_law 565 = .ok (.if_icmp .eq 5, 3) := by decide +kernel
theorem dL_law_568 : decode cL_law 568 = .ok (.iconst 0, 1) := by decide +kernel
theorem dL_law_569 : decode cL_law 569 = .ok (.ireturn, 1) := by decide +kernel
theorem dL_law_570 : decode cL_law 570 = .ok (.iload 5, 2) := by decide +kernel
theorem dL_law_572 : decode cL_law 572 = .ok (.ifCond .ne 15, 3) := by decide +kernel
theorem dL_law_575 : decode cL_law 575 = .ok (.aload_n 3, 1) := by decide +kernel
theorem dL_law_576 : decode cL_law 576 = .ok (.iconst 0, 1) := by decide +kernel
theorem dL_law_577 : decode cL_law 577 = .ok (.laload, 1) := by decide +kernel
theorem dL_law_578 : decode cL_law 578 = .ok (.iload 6, 2) := by decide +kernel
theorem dL_law_580 : decode cL_law 580 = .ok (.i2l, 1) := by decide +kernel
theorem dL_law_581 : decode cL_law 581 = .ok (.lcmp, 1) := by decide +kernel
theorem dL_law_582 : decode cL_law 582 = .ok (.ifCond .eq 5, 3) := by decide +kernel
theorem dL_law_585 : decode cL_law 585 = .ok (.iconst 0, 1) := by decide +kernel
theorem dL_law_586 : decode cL_law 586 = .ok (.ireturn, 1) := by decide +kernel
theorem dL_law_587 : decode cL_law 587 = .ok (.goto 455, 3) := by decide +kernel
theorem dL_law_590 : decode cL_law 590 = .ok (.aload_n 1, 1) := by decide +kernel
theorem dL_law_591 : decode cL_law 591 = .ok (.aload_n 0, 1) := by decide +kernel
theorem dL_law_592 : decode cL_law 592 = .ok (.iload 4, 2) := by decide +kernel
theorem dL_law_594 : decode cL_law 594 = .ok (.iconst 1, 1) := by decide +kernel
theorem dL_law_595 : decode cL_law 595 = .ok (.iadd, 1) := by decide +kernel
theorem dL_law_596 : decode cL_law 596 = .ok (.iaload, 1) := by decide +kernel
theorem dL_law_597 : decode cL_law 597 = .ok (.aload_n 0, 1) := by decide +kernel
theorem dL_law_598 : decode cL_law 598 = .ok (.iload 4, 2) := by decide +kernel
theorem dL_law_600 : decode cL_law 600 = .ok (.iconst 2, 1) := by decide +kernel
theorem dL_law_601 : decode cL_law 601 = .ok (.iadd, 1) := by decide +kernel
theorem dL_law_602 : decode cL_law 602 = .ok (.iaload, 1) := by decide +kernel
theorem dL_law_603 : decode cL_law 603 = .ok (.invokevirtual 93, 3) := by decide +kernel
theorem dL_law_606 : decode cL_law 606 = .ok (.aload_n 2, 1) := by decide +kernel
theorem dL_law_607 : decode cL_law 607 = .ok (.aload_n 0, 1) := by decide +kernel
theorem dL_law_608 : decode cL_law 608 = .ok (.iload 4, 2) := by decide +kernel
theorem dL_law_610 : decode cL_law 610 = .ok (.iconst 1, 1) := by decide +kernel
theorem dL_law_611 : decode cL_law 611 = .ok (.iadd, 1) := by decide +kernel
theorem dL_law_612 : decode cL_law 612 = .ok (.iaload, 1) := by decide +kernel
theorem dL_law_613 : decode cL_law 613 = .ok (.aload_n 0, 1) := by decide +kernel
theorem dL_law_614 : decode cL_law 614 = .ok (.iload 4, 2) := by decide +kernel
theorem dL_law_616 : decode cL_law 616 = .ok (.iconst 2, 1) := by decide +kernel
theorem dL_law_617 : decode cL_law 617 = .ok (.iadd, 1) := by decide +kernel
theorem dL_law_618 : decode cL_law 618 = .ok (.iaload, 1) := by decide +kernel
theorem dL_law_619 : decode cL_law 619 = .ok (.invokevirtual 96, 3) := by decide +kernel
theorem dL_law_622 : decode cL_law 622 = .ok (.if_icmp .eq 420, 3) := by decide +kernel
theorem dL_law_625 : decode cL_law 625 = .ok (.iconst 0, 1) := by decide +kernel
theorem dL_law_626 : decode cL_law 626 = .ok (.ireturn, 1) := by decide +kernel
theorem dL_law_627 : decode cL_law 627 = .ok (.aload_n 1, 1) := by decide +kernel
theorem dL_law_628 : decode cL_law 628 = .ok (.aload_n 0, 1) := by decide +kernel
theorem dL_law_629 : decode cL_law 629 = .ok (.iload 4, 2) := by decide +kernel
theorem dL_law_631 : decode cL_law 631 = .ok (.iconst 1, 1) := by decide +kernel
theorem dL_law_632 : decode cL_law 632 = .ok (.iadd, 1) := by decide +kernel
theorem dL_law_633 : decode cL_law 633 = .ok (.iaload, 1) := by decide +kernel
theorem dL_law_634 : decode cL_law 634 = .ok (.aload_n 0, 1) := by decide +kernel
theorem dL_law_635 : decode cL_law 635 = .ok (.iload 4, 2) := by decide +kernel
theorem dL_law_637 : decode cL_law 637 = .ok (.iconst 2, 1) := by decide +kernel
theorem dL_law_638 : decode cL_law 638 = .ok (.iadd, 1) := by decide +kernel
theorem dL_law_639 : decode cL_law 639 = .ok (.iaload, 1) := by decide +kernel
theorem dL_law_640 : decode cL_law 640 = .ok (.aload_n 0, 1) := by decide +kernel
theorem dL_law_641 : decode cL_law 641 = .ok (.iload 4, 2) := by decide +kernel
theorem dL_law_643 : decode cL_law 643 = .ok (.iconst 3, 1) := by decide +kernel
theorem dL_law_644 : decode cL_law 644 = .ok (.iadd, 1) := by decide +kernel
theorem dL_law_645 : decode cL_law 645 = .ok (.iaload, 1) := by decide +kernel
theorem dL_law_646 : decode cL_law 646 = .ok (.invokevirtual 97, 3) := by decide +kernel
theorem dL_law_649 : decode cL_law 649 = .ok (.aload_n 2, 1) := by decide +kernel
theorem dL_law_650 : decode cL_law 650 = .ok (.aload_n 0, 1) := by decide +kernel
theorem dL_law_651 : decode cL_law 651 = .ok (.iload 4, 2) := by decide +kernel
theorem dL_law_653 : decode cL_law 653 = .ok (.iconst 1, 1) := by decide +kernel
theorem dL_law_654 : decode cL_law 654 = .ok (.iadd, 1) := by decide +kernel
theorem dL_law_655 : decode cL_law 655 = .ok (.iaload, 1) := by decide +kernel
theorem dL_law_656 : decode cL_law 656 = .ok (.aload_n 0, 1) := by decide +kernel
theorem dL_law_657 : decode cL_law 657 = .ok (.iload 4, 2) := by decide +kernel
theorem dL_law_659 : decode cL_law 659 = .ok (.iconst 2, 1) := by decide +kernel
theorem dL_law_660 : decode cL_law 660 = .ok (.iadd, 1) := by decide +kernel
theorem dL_law_661 : decode cL_law 661 = .ok (.iaload, 1) := by decide +kernel
theorem dL_law_662 : decode cL_law 662 = .ok (.aload_n 0, 1) := by decide +kernel
theorem dL_law_663 : decode cL_law 663 = .ok (.iload 4, 2) := by decide +kernel
theorem dL_law_665 : decode cL_law 665 = .ok (.iconst 3, 1) := by decide +kernel
theorem dL_law_666 : decode cL_law 666 = .ok (.iadd, 1) := by decide +kernel
theorem dL_law_667 : decode cL_law 667 = .ok (.iaload, 1) := by decide +kernel
theorem dL_law_668 : decode cL_law 668 = .ok (.invokevirtual 101, 3) := by decide +kernel
theorem dL_law_671 : decode cL_law 671 = .ok (.if_icmp .eq 371, 3) := by decide +kernel
theorem dL_law_674 : decode cL_law 674 = .ok (.iconst 0, 1) := by decide +kernel
theorem dL_law_675 : decode cL_law 675 = .ok (.ireturn, 1) := by decide +kernel
theorem dL_law_676 : decode cL_law 676 = .ok (.aload_n 1, 1) := by decide +kernel
theorem dL_law_677 : decode cL_law 677 = .ok (.aload_n 0, 1) := by decide +kernel
theorem dL_law_678 : decode cL_law 678 = .ok (.iload 4, 2) := by decide +kernel
theorem dL_law_680 : decode cL_law 680 = .ok (.iconst 1, 1) := by decide +kernel
theorem dL_law_681 : decode cL_law 681 = .ok (.iadd, 1) := by decide +kernel
theorem dL_law_682 : decode cL_law 682 = .ok (.iaload, 1) := by decide +kernel
theorem dL_law_683 : decode cL_law 683 = .ok (.invokevirtual 102, 3) := by decide +kernel
theorem dL_law_686 : decode cL_law 686 = .ok (.aload_n 2, 1) := by decide +kernel
theorem dL_law_687 : decode cL_law 687 = .ok (.aload_n 0, 1) := by decide +kernel
theorem dL_law_688 : decode cL_law 688 = .ok (.iload 4, 2) := by decide +kernel
theorem dL_law_690 : decode cL_law 690 = .ok (.iconst 1, 1) := by decide +kernel
theorem dL_law_691 : decode cL_law 691 = .ok (.iadd, 1) := by decide +kernel
theorem dL_law_692 : decode cL_law 692 = .ok (.iaload, 1) := by decide +kernel
theorem dL_law_693 : decode cL_law 693 = .ok (.invokevirtual 105, 3) := by decide +kernel
theorem dL_law_696 : decode cL_law 696 = .ok (.if_icmp .eq 346, 3) := by decide +kernel
theorem dL_law_699 : decode cL_law 699 = .ok (.iconst 0, 1) := by decide +kernel
theorem dL_law_700 : decode cL_law 700 = .ok (.ireturn, 1) := by decide +kernel
theorem dL_law_701 : decode cL_law 701 = .ok (.aload_n 1, 1) := by decide +kernel
theorem dL_law_702 : decode cL_law 702 = .ok (.aload_n 0, 1) := by decide +kernel
theorem dL_law_703 : decode cL_law 703 = .ok (.iload 4, 2) := by decide +kernel
theorem dL_law_705 : decode cL_law 705 = .ok (.iconst 1, 1) := by decide +kernel
theorem dL_law_706 : decode cL_law 706 = .ok (.iadd, 1) := by decide +kernel
theorem dL_law_707 : decode cL_law 707 = .ok (.iaload, 1) := by decide +kernel
theorem dL_law_708 : decode cL_law 708 = .ok (.aload_n 0, 1) := by decide +kernel
theorem dL_law_709 : decode cL_law 709 = .ok (.iload 4, 2) := by decide +kernel
theorem dL_law_711 : decode cL_law 711 = .ok (.iconst 2, 1) := by decide +kernel
theorem dL_law_712 : decode cL_law 712 = .ok (.iadd, 1) := by decide +kernel
theorem dL_law_713 : decode cL_law 713 = .ok (.iaload, 1) := by decide +kernel
theorem dL_law_714 : decode cL_law 714 = .ok (.aload_n 3, 1) := by decide +kernel
theorem dL_law_715 : decode cL_law 715 = .ok (.invokestatic 106, 3) := by decide +kernel
theorem dL_law_718 : decode cL_law 718 = .ok (.istore 5, 2) := by decide +kernel
theorem dL_law_720 : decode cL_law 720 = .ok (.aload_n 2, 1) := by decide +kernel
theorem dL_law_721 : decode cL_law 721 = .ok (.aload_n 0, 1) := by decide +kernel
theorem dL_law_722 : decode cL_law 722 = .ok (.iload 4, 2) := by decide +kernel
theorem dL_law_724 : decode cL_law 724 = .ok (.iconst 1, 1) := by decide +kernel
theorem dL_law_725 : decode cL_law 725 = .ok (.iadd, 1) := by decide +kernel
theorem dL_law_726 : decode cL_law 726 = .ok (.iaload, 1) := by decide +kernel
theorem dL_law_727 : decode cL_law 727 = .ok (.aload_n 0, 1) := by decide +kernel
theorem dL_law_728 : decode cL_law 728 = .ok (.iload 4, 2) := by decide +kernel
theorem dL_law_730 : decode cL_law 730 = .ok (.iconst 2, 1) := by decide +kernel
theorem dL_law_731 : decode cL_law 731 = .ok (.iadd, 1) := by decide +kernel
theorem dL_law_732 : decode cL_law 732 = .ok (.iaload, 1) := by decide +kernel
theorem dL_law_733 : decode cL_law 733 = .ok (.invokevirtual 109, 3) := by decide +kernel
theorem dL_law_736 : decode cL_law 736 = .ok (.istore 6, 2) := by decide +kernel
theorem dL_law_738 : decode cL_law 738 = .ok (.aload_n 2, 1) := by decide +kernel
theorem dL_law_739 : decode cL_law 739 = .ok (.invokevirtual 65, 3) := by decide +kernel
theorem dL_law_742 : decode cL_law 742 = .ok (.iload 5, 2) := by decide +kernel
theorem dL_law_744 : decode cL_law 744 = .ok (.if_icmp .eq 5, 3) := by decide +kernel
theorem dL_law_747 : decode cL_law 747 = .ok (.iconst 0, 1) := by decide +kernel
theorem dL_law_748 : decode cL_law 748 = .ok (.ireturn, 1) := by decide +kernel
theorem dL_law_749 : decode cL_law 749 = .ok (.iload 5, 2) := by decide +kernel
theorem dL_law_751 : decode cL_law 751 = .ok (.ifCond .ne 15, 3) := by decide +kernel
theorem dL_law_754 : decode cL_law 754 = .ok (.aload_n 3, 1) := by decide +kernel
theorem dL_law_755 : decode cL_law 755 = .ok (.iconst 0, 1) := by decide +kernel
theorem dL_law_756 : decode cL_law 756 = .ok (.laload, 1) := by decide +kernel
theorem dL_law_757 : decode cL_law 757 = .ok (.iload 6, 2) := by decide +kernel
theorem dL_law_759 : decode cL_law 759 = .ok (.i2l, 1) := by decide +kernel
theorem dL_law_760 : decode cL_law 760 = .ok (.lcmp, 1) := by decide +kernel
theorem dL_law_761 : decode cL_law 761 = .ok (.ifCond .eq 5, 3) := by decide +kernel
theorem dL_law_764 : decode cL_law 764 = .ok (.iconst 0, 1) := by decide +kernel
theorem dL_law_765 : decode cL_law 765 = .ok (.ireturn, 1) := by decide +kernel
theorem dL_law_766 : decode cL_law 766 = .ok (.goto 276, 3) := by decide +kernel
theorem dL_law_769 : decode cL_law 769 = .ok (.aload_n 1, 1) := by decide +kernel
theorem dL_law_770 : decode cL_law 770 = .ok (.aload_n 0, 1) := by decide +kernel
theorem dL_law_771 : decode cL_law 771 = .ok (.iload 4, 2) := by decide +kernel
theorem dL_law_773 : decode cL_law 773 = .ok (.iconst 1, 1) := by decide +kernel
theorem dL_law_774 : decode cL_law 774 = .ok (.iadd, 1) := by decide +kernel
theorem dL_law_775 : decode cL_law 775 = .ok (.iaload, 1) := by decide +kernel
theorem dL_law_776 : decode cL_law 776 = .ok (.aload_n 0, 1) := by decide +kernel
theorem dL_law_777 : decode cL_law 777 = .ok (.iload 4, 2) := by decide +kernel
theorem dL_law_779 : decode cL_law 779 = .ok (.iconst 2, 1) := by decide +kernel
theorem dL_law_780 : decode cL_law 780 = .ok (.iadd, 1) := by decide +kernel
theorem dL_law_781 : decode cL_law 781 = .ok (.iaload, 1) := by decide +kernel
theorem dL_law_782 : decode cL_law 782 = .ok (.invokevirtual 110, 3) := by decide +kernel
theorem dL_law_785 : decode cL_law 785 = .ok (.aload_n 2, 1) := by decide +kernel
theorem dL_law_786 : decode cL_law 786 = .ok (.aload_n 0, 1) := by decide +kernel
theorem dL_law_787 : decode cL_law 787 = .ok (.iload 4, 2) := by decide +kernel
theorem dL_law_789 : decode cL_law 789 = .ok (.iconst 1, 1) := by decide +kernel
theorem dL_law_790 : decode cL_law 790 = .ok (.iadd, 1) := by decide +kernel
theorem dL_law_791 : decode cL_law 791 = .ok (.iaload, 1) := by decide +kernel
theorem dL_law_792 : decode cL_law 792 = .ok (.aload_n 0, 1) := by decide +kernel
theorem dL_law_793 : decode cL_law 793 = .ok (.iload 4, 2) := by decide +kernel
theorem dL_law_795 : decode cL_law 795 = .ok (.iconst 2, 1) := by decide +kernel
theorem dL_law_796 : decode cL_law 796 = .ok (.iadd, 1) := by decide +kernel
theorem dL_law_797 : decode cL_law 797 = .ok (.iaload, 1) := by decide +kernel
theorem dL_law_798 : decode cL_law 798 = .ok (.invokevirtual 113, 3) := by decide +kernel
theorem dL_law_801 : decode cL_law 801 = .ok (.if_icmp .eq 241, 3) := by decide +kernel
theorem dL_law_804 : decode cL_law 804 = .ok (.iconst 0, 1) := by decide +kernel
theorem dL_law_805 : decode cL_law 805 = .ok (.ireturn, 1) := by decide +kernel
theorem dL_law_806 : decode cL_law 806 = .ok (.aload_n 1, 1) := by decide +kernel
theorem dL_law_807 : decode cL_law 807 = .ok (.aload_n 3, 1) := by decide +kernel
theorem dL_law_808 : decode cL_law 808 = .ok (.invokestatic 114, 3) := by decide +kernel
theorem dL_law_811 : decode cL_law 811 = .ok (.istore 5, 2) := by decide +kernel
theorem dL_law_813 : decode cL_law 813 = .ok (.aload_n 2, 1) := by decide +kernel
theorem dL_law_814 : decode cL_law 814 = .ok (.invokevirtual 117, 3) := by decide +kernel
theorem dL_law_817 : decode cL_law 817 = .ok (.istore 6, 2) := by decide +kernel
theorem dL_law_819 : decode cL_law 819 = .ok (.aload_n 2, 1) := by decide +kernel
theorem dL_law_820 : decode cL_law 820 = .ok (.invokevirtual 65, 3) := by decide +kernel
theorem dL_law_823 : decode cL_law 823 = .ok (.iload 5, 2) := by decide +kernel
theorem dL_law_825 : decode cL_law 825 = .ok (.if_icmp .eq 5, 3) := by decide +kernel
theorem dL_law_828 : decode cL_law 828 = .ok (.iconst 0, 1) := by decide +kernel
theorem dL_law_829 : decode cL_law 829 = .ok (.ireturn, 1) := by decide +kernel
theorem dL_law_830 : decode cL_law 830 = .ok (.iload 5, 2) := by decide +kernel
theorem dL_law_832 : decode cL_law 832 = .ok (.ifCond .ne 15, 3) := by decide +kernel
theorem dL_law_835 : decode cL_law 835 = .ok (.aload_n 3, 1) := by decide +kernel
theorem dL_law_836 : decode cL_law 836 = .ok (.iconst 0, 1) := by decide +kernel
theorem dL_law_837 : decode cL_law 837 = .ok (.laload, 1) := by decide +kernel
theorem dL_law_838 : decode cL_law 838 = .ok (.iload 6, 2) := by decide +kernel
theorem dL_law_840 : decode cL_law 840 = .ok (.i2l, 1) := by decide +kernel
theorem dL_law_841 : decode cL_law 841 = .ok (.lcmp, 1) := by decide +kernel
theorem dL_law_842 : decode cL_law 842 = .ok (.ifCond .eq 5, 3) := by decide +kernel
theorem dL_law_845 : decode cL_law 845 = .ok (.iconst 0, 1) := by decide +kernel
theorem dL_law_846 : decode cL_law 846 = .ok (.ireturn, 1) := by decide +kernel
theorem dL_law_847 : decode cL_law 847 = .ok (.goto 195, 3) := by decide +kernel
theorem dL_law_850 : decode cL_law 850 = .ok (.aload_n 1, 1) := by decide +kernel
theorem dL_law_851 : decode cL_law 851 = .ok (.aload_n 0, 1) := by decide +kernel
theorem dL_law_852 : decode cL_law 852 = .ok (.iload 4, 2) := by decide +kernel
theorem dL_law_854 : decode cL_law 854 = .ok (.iconst 1, 1) := by decide +kernel
theorem dL_law_855 : decode cL_law 855 = .ok (.iadd, 1) := by decide +kernel
theorem dL_law_856 : decode cL_law 856 = .ok (.iaload, 1) := by decide +kernel
theorem dL_law_857 : decode cL_law 857 = .ok (.i2l, 1) := by decide +kernel
theorem dL_law_858 : decode cL_law 858 = .ok (.bipush 32, 2) := by decide +kernel
theorem dL_law_860 : decode cL_law 860 = .ok (.lshl, 1) := by decide +kernel
theorem dL_law_861 : decode cL_law 861 = .ok (.aload_n 0, 1) := by decide +kernel
theorem dL_law_862 : decode cL_law 862 = .ok (.iload 4, 2) := by decide +kernel
theorem dL_law_864 : decode cL_law 864 = .ok (.iconst 2, 1) := by decide +kernel
theorem dL_law_865 : decode cL_law 865 = .ok (.iadd, 1) := by decide +kernel
theorem dL_law_866 : decode cL_law 866 = .ok (.iaload, 1) := by decide +kernel
theorem dL_law_867 : decode cL_law 867 = .ok (.i2l, 1) := by decide +kernel
theorem dL_law_868 : decode cL_law 868 = .ok (.ldc2_w 57, 3) := by decide +kernel
theorem dL_law_871 : decode cL_law 871 = .ok (.land, 1) := by decide +kernel
theorem dL_law_872 : decode cL_law 872 = .ok (.lor, 1) := by decide +kernel
theorem dL_law_873 : decode cL_law 873 = .ok (.aload_n 0, 1) := by decide +kernel
theorem dL_law_874 : decode cL_law 874 = .ok (.iload 4, 2) := by decide +kernel
theorem dL_law_876 : decode cL_law 876 = .ok (.iconst 3, 1) := by decide +kernel
theorem dL_law_877 : decode cL_law 877 = .ok (.iadd, 1) := by decide +kernel
theorem dL_law_878 : decode cL_law 878 = .ok (.iaload, 1) := by decide +kernel
theorem dL_law_879 : decode cL_law 879 = .ok (.aload_n 3, 1) := by decide +kernel
theorem dL_law_880 : decode cL_law 880 = .ok (.invokestatic 118, 3) := by decide +kernel
theorem dL_law_883 : decode cL_law 883 = .ok (.istore 5, 2) := by decide +kernel
theorem dL_law_885 : decode cL_law 885 = .ok (.aload_n 2, 1) := by decide +kernel
theorem dL_law_886 : decode cL_law 886 = .ok (.aload_n 0, 1) := by decide +kernel
theorem dL_law_887 : decode cL_law 887 = .ok (.iload 4, 2) := by decide +kernel
theorem dL_law_889 : decode cL_law 889 = .ok (.iconst 1, 1) := by decide +kernel
theorem dL_law_890 : decode cL_law 890 = .ok (.iadd, 1) := by decide +kernel
theorem dL_law_891 : decode cL_law 891 = .ok (.iaload, 1) := by decide +kernel
theorem dL_law_892 : decode cL_law 892 = .ok (.i2l, 1) := by decide +kernel
theorem dL_law_893 : decode cL_law 893 = .ok (.bipush 32, 2) := by decide +kernel
theorem dL_law_895 : decode cL_law 895 = .ok (.lshl, 1) := by decide +kernel
theorem dL_law_896 : decode cL_law 896 = .ok (.aload_n 0, 1) := by decide +kernel
theorem dL_law_897 : decode cL_law 897 = .ok (.iload 4, 2) := by decide +kernel
theorem dL_law_899 : decode cL_law 899 = .ok (.iconst 2, 1) := by decide +kernel
theorem dL_law_900 : decode cL_law 900 = .ok (.iadd, 1) := by decide +kernel
theorem dL_law_901 : decode cL_law 901 = .ok (.iaload, 1) := by decide +kernel
theorem dL_law_902 : decode cL_law 902 = .ok (.i2l, 1) := by decide +kernel
theorem dL_law_903 : decode cL_law 903 = .ok (.ldc2_w 57, 3) := by decide +kernel
theorem dL_law_906 : decode cL_law 906 = .ok (.land, 1) := by decide +kernel
theorem dL_law_907 : decode cL_law 907 = .ok (.lor, 1) := by decide +kernel
theorem dL_law_908 : decode cL_law 908 = .ok (.aload_n 0, 1) := by decide +kernel
theorem dL_law_909 : decode cL_law 909 = .ok (.iload 4, 2) := by decide +kernel
theorem dL_law_911 : decode cL_law 911 = .ok (.iconst 3, 1) := by decide +kernel
theorem dL_law_912 : decode cL_law 912 = .ok (.iadd, 1) := by decide +kernel
theorem dL_law_913 : decode cL_law 913 = .ok (.iaload, 1) := by decide +kernel
theorem dL_law_914 : decode cL_law 914 = .ok (.invokevirtual 121, 3) := by decide +kernel
theorem dL_law_917 : decode cL_law 917 = .ok (.istore 6, 2) := by decide +kernel
theorem dL_law_919 : decode cL_law 919 = .ok (.aload_n 2, 1) := by decide +kernel
theorem dL_law_920 : decode cL_law 920 = .ok (.invokevirtual 65, 3) := by decide +kernel
theorem dL_law_923 : decode cL_law 923 = .ok (.iload 5, 2) := by decide +kernel
theorem dL_law_925 : decode cL_law 925 = .ok (.if_icmp .eq 5, 3) := by decide +kernel
theorem dL_law_928 : decode cL_law 928 = .ok (.iconst 0, 1) := by decide +kernel
theorem dL_law_929 : decode cL_law 929 = .ok (.ireturn, 1) := by decide +kernel
theorem dL_law_930 : decode cL_law 930 = .ok (.iload 5, 2) := by decide +kernel
theorem dL_law_932 : decode cL_law 932 = .ok (.ifCond .ne 15, 3) := by decide +kernel
theorem dL_law_935 : decode cL_law 935 = .ok (.aload_n 3, 1) := by decide +kernel
theorem dL_law_936 : decode cL_law 936 = .ok (.iconst 0, 1) := by decide +kernel
theorem dL_law_937 : decode cL_law 937 = .ok (.laload, 1) := by decide +kernel
theorem dL_law_938 : decode cL_law 938 = .ok (.iload 6, 2) := by decide +kernel
theorem dL_law_940 : decode cL_law 940 = .ok (.i2l, 1) := by decide +kernel
theorem dL_law_941 : decode cL_law 941 = .ok (.lcmp, 1) := by decide +kernel
theorem dL_law_942 : decode cL_law 942 = .ok (.ifCond .eq 5, 3) := by decide +kernel
theorem dL_law_945 : decode cL_law 945 = .ok (.iconst 0, 1) := by decide +kernel
theorem dL_law_946 : decode cL_law 946 = .ok (.ireturn, 1) := by decide +kernel
theorem dL_law_947 : decode cL_law 947 = .ok (.goto 95, 3) := by decide +kernel
theorem dL_law_950 : decode cL_law 950 = .ok (.aload_n 1, 1) := by decide +kernel
theorem dL_law_951 : decode cL_law 951 = .ok (.aload_n 0, 1) := by decide +kernel
theorem dL_law_952 : decode cL_law 952 = .ok (.iload 4, 2) := by decide +kernel
theorem dL_law_954 : decode cL_law 954 = .ok (.iconst 1, 1) := by decide +kernel
theorem dL_law_955 : decode cL_law 955 = .ok (.iadd, 1) := by decide +kernel
theorem dL_law_956 : decode cL_law 956 = .ok (.iaload, 1) := by decide +kernel
theorem dL_law_957 : decode cL_law 957 = .ok (.aload_n 0, 1) := by decide +kernel
theorem dL_law_958 : decode cL_law 958 = .ok (.iload 4, 2) := by decide +kernel
theorem dL_law_960 : decode cL_law 960 = .ok (.iconst 2, 1) := by decide +kernel
theorem dL_law_961 : decode cL_law 961 = .ok (.iadd, 1) := by decide +kernel
theorem dL_law_962 : decode cL_law 962 = .ok (.iaload, 1) := by decide +kernel
theorem dL_law_963 : decode cL_law 963 = .ok (.aload_n 0, 1) := by decide +kernel
theorem dL_law_964 : decode cL_law 964 = .ok (.iload 4, 2) := by decide +kernel
theorem dL_law_966 : decode cL_law 966 = .ok (.iconst 3, 1) := by decide +kernel
theorem dL_law_967 : decode cL_law 967 = .ok (.iadd, 1) := by decide +kernel
theorem dL_law_968 : decode cL_law 968 = .ok (.iaload, 1) := by decide +kernel
theorem dL_law_969 : decode cL_law 969 = .ok (.aload_n 0, 1) := by decide +kernel
theorem dL_law_970 : decode cL_law 970 = .ok (.iload 4, 2) := by decide +kernel
theorem dL_law_972 : decode cL_law 972 = .ok (.iconst 4, 1) := by decide +kernel
theorem dL_law_973 : decode cL_law 973 = .ok (.iadd, 1) := by decide +kernel
theorem dL_law_974 : decode cL_law 974 = .ok (.iaload, 1) := by decide +kernel
theorem dL_law_975 : decode cL_law 975 = .ok (.aload_n 3, 1) := by decide +kernel
theorem dL_law_976 : decode cL_law 976 = .ok (.invokestatic 122, 3) := by decide +kernel
theorem dL_law_979 : decode cL_law 979 = .ok (.istore 5, 2) := by decide +kernel
theorem dL_law_981 : decode cL_law 981 = .ok (.aload_n 2, 1) := by decide +kernel
theorem dL_law_982 : decode cL_law 982 = .ok (.aload_n 0, 1) := by decide +kernel
theorem dL_law_983 : decode cL_law 983 = .ok (.iload 4, 2) := by decide +kernel
theorem dL_law_985 : decode cL_law 985 = .ok (.iconst 1, 1) := by decide +kernel
theorem dL_law_986 : decode cL_law 986 = .ok (.iadd, 1) := by decide +kernel
theorem dL_law_987 : decode cL_law 987 = .ok (.iaload, 1) := by decide +kernel
theorem dL_law_988 : decode cL_law 988 = .ok (.aload_n 0, 1) := by decide +kernel
theorem dL_law_989 : decode cL_law 989 = .ok (.iload 4, 2) := by decide +kernel
theorem dL_law_991 : decode cL_law 991 = .ok (.iconst 2, 1) := by decide +kernel
theorem dL_law_992 : decode cL_law 992 = .ok (.iadd, 1) := by decide +kernel
theorem dL_law_993 : decode cL_law 993 = .ok (.iaload, 1) := by decide +kernel
theorem dL_law_994 : decode cL_law 994 = .ok (.aload_n 0, 1) := by decide +kernel
theorem dL_law_995 : decode cL_law 995 = .ok (.iload 4, 2) := by decide +kernel
theorem dL_law_997 : decode cL_law 997 = .ok (.iconst 3, 1) := by decide +kernel
theorem dL_law_998 : decode cL_law 998 = .ok (.iadd, 1) := by decide +kernel
theorem dL_law_999 : decode cL_law 999 = .ok (.iaload, 1) := by decide +kernel
theorem dL_law_1000 : decode cL_law 1000 = .ok (.aload_n 0, 1) := by decide +kernel
theorem dL_law_1001 : decode cL_law 1001 = .ok (.iload 4, 2) := by decide +kernel
theorem dL_law_1003 : decode cL_law 1003 = .ok (.iconst 4, 1) := by decide +kernel
theorem dL_law_1004 : decode cL_law 1004 = .ok (.iadd, 1) := by decide +kernel
theorem dL_law_1005 : decode cL_law 1005 = .ok (.iaload, 1) := by decide +kernel
theorem dL_law_1006 : decode cL_law 1006 = .ok (.invokevirtual 124, 3) := by decide +kernel
theorem dL_law_1009 : decode cL_law 1009 = .ok (.istore 6, 2) := by decide +kernel
theorem dL_law_1011 : decode cL_law 1011 = .ok (.aload_n 2, 1) := by decide +kernel
theorem dL_law_1012 : decode cL_law 1012 = .ok (.invokevirtual 65, 3) := by decide +kernel
theorem dL_law_1015 : decode cL_law 1015 = .ok (.iload 5, 2) := by decide +kernel
theorem dL_law_1017 : decode cL_law 1017 = .ok (.if_icmp .eq 5, 3) := by decide +kernel
theorem dL_law_1020 : decode cL_law 1020 = .ok (.iconst 0, 1) := by decide +kernel
theorem dL_law_1021 : decode cL_law 1021 = .ok (.ireturn, 1) := by decide +kernel
theorem dL_law_1022 : decode cL_law 1022 = .ok (.iload 5, 2) := by decide +kernel
theorem dL_law_1024 : decode cL_law 1024 = .ok (.ifCond .ne 15, 3) := by decide +kernel
theorem dL_law_1027 : decode cL_law 1027 = .ok (.aload_n 3, 1) := by decide +kernel
theorem dL_law_1028 : decode cL_law 1028 = .ok (.iconst 0, 1) := by decide +kernel
theorem dL_law_1029 : decode cL_law 1029 = .ok (.laload, 1) := by decide +kernel
theorem dL_law_1030 : decode cL_law 1030 = .ok (.iload 6, 2) := by decide +kernel
theorem dL_law_1032 : decode cL_law 1032 = .ok (.i2l, 1) := by decide +kernel
theorem dL_law_1033 : decode cL_law 1033 = .ok (.lcmp, 1) := by decide +kernel
theorem dL_law_1034 : decode cL_law 1034 = .ok (.ifCond .eq 5, 3) := by decide +kernel
theorem dL_law_1037 : decode cL_law 1037 = .ok (.iconst 0, 1) := by decide +kernel
theorem dL_law_1038 : decode cL_law 1038 = .ok (.ireturn, 1) := by decide +kernel
theorem dL_law_1039 : decode cL_law 1039 = .ok (.goto 3, 3) := by decide +kernel
theorem dL_law_1042 : decode cL_law 1042 = .ok (.iinc 4 7, 3) := by decide +kernel
theorem dL_law_1045 : decode cL_law 1045 = .ok (.goto (-1022), 3) := by decide +kernel
theorem dL_law_1048 : decode cL_law 1048 = .ok (.iconst 1, 1) := by decide +kernel
theorem dL_law_1049 : decode cL_law 1049 = .ok (.ireturn, 1) := by decide +kernel
def tb_193 (pc : Nat) : Option mEnt := bif Nat.ble pc 554 then (bif Nat.ble pc 318 then (bif Nat.ble pc 193 then (bif Nat.ble pc 140 then (bif Nat.ble pc 33 then (bif Nat.ble pc 17 then (bif Nat.ble pc 8 then (bif Nat.ble pc 3 then (bif Nat.ble pc 0 then (bif Nat.beq pc 0 then some (.inl (o_new 10)) else none) else (bif Nat.beq pc 3 then some (.inl (oS 1 s_dup)) else none)) else (bif Nat.ble pc 4 then (bif Nat.beq pc 4 then some (.inr (4, 91, 1, 10)) else none) else (bif Nat.ble pc 7 then (bif Nat.beq pc 7 then some (.inl (o_as 1 1)) else none) else (bif Nat.beq pc 8 then some (.inl (o_new 11)) else none)))) else (bif Nat.ble pc 12 then (bif Nat.ble pc 11 then (bif Nat.beq pc 11 then some (.inl (oS 1 s_dup)) else none) else (bif Nat.beq pc 12 then some (.inr (4, 113, 1, 11)) else none)) else (bif Nat.ble pc 15 then (bif Nat.beq pc 15 then some (.inl (o_as 2 1)) else none) else (bif Nat.ble pc 16 then (bif Nat.beq pc 16 then some (.inl (oS 1 (s_push (.int 1)))) else none) else (bif Nat.beq pc 17 then some (.inl (o_newa 2)) else none))))) else (bif Nat.ble pc 25 then (bif Nat.ble pc 20 then (bif Nat.ble pc 19 then (bif Nat.beq pc 19 then some (.inl (o_as 3 1)) else none) else (bif Nat.beq pc 20 then some (.inl (oS 1 (s_push (.int 0)))) else none)) else (bif Nat.ble pc 21 then (bif Nat.beq pc 21 then some (.inl (o_is 4 2)) else none) else (bif Nat.ble pc 23 then (bif Nat.beq pc 23 then some (.inl (o_il 4 2)) else none) else (bif Nat.beq pc 25 then some (.inl (o_al 0 1)) else none)))) else (bif Nat.ble pc 27 then (bif Nat.ble pc 26 then (bif Nat.beq pc 26 then some (.inl (o_slen)) else none) else (bif Nat.beq pc 27 then some (.inl (oS 2 (s_push (.int 7)))) else none)) else (bif Nat.ble pc 29 then (bif Nat.beq pc 29 then some (.inl (oS 1 (s_ii (fun a b => a - b)))) else none) else (bif Nat.ble pc 30 then (bif Nat.beq pc 30 then some (.inl (o_cgt 1048)) else none) else (bif Nat.beq pc 33 then some (.inl (o_al 0 1)) else none)))))) else (bif Nat.ble pc 125 then (bif Nat.ble pc 40 then (bif Nat.ble pc 36 then (bif Nat.ble pc 34 then (bif Nat.beq pc 34 then some (.inl (o_il 4 2)) else none) else (bif Nat.beq pc 36 then some (.inl (o_sld)) else none)) else (bif Nat.ble pc 37 then (bif Nat.beq pc 37 then some (.inl (oS 2 (s_push (.int 15)))) else none) else (bif Nat.ble pc 39 then (bif Nat.beq pc 39 then some (.inl (oS 1 (s_ii (fun a b => a &&& b)))) else none) else (bif Nat.beq pc 40 then some (.inl (o_tsw 0 15 [120, 157, 295, 320, 333, 425, 450, 534, 590, 627, 676, 701, 769, 806, 850, 950] 1042)) else none)))) else (bif Nat.ble pc 121 then (bif Nat.ble pc 120 then (bif Nat.beq pc 120 then some (.inl (o_al 1 1)) else none) else (bif Nat.beq pc 121 then some (.inl (o_al 0 1)) else none)) else (bif Nat.ble pc 122 then (bif Nat.beq pc 122 then some (.inl (o_il 4 2)) else none) else (bif Nat.ble pc 124 then (bif Nat.beq pc 124 then some (.inl (oS 1 (s_push (.int 1)))) else none) else (bif Nat.beq pc 125 then some (.inl (oS 1 (s_ii (fun a b => a + b)))) else none))))) else (bif Nat.ble pc 131 then (bif Nat.ble pc 127 then (bif Nat.ble pc 126 then (bif Nat.beq pc 126 then some (.inl (o_sld)) else none) else (bif Nat.beq pc 127 then some (.inl (o_al 0 1)) else none)) else (bif Nat.ble pc 128 then (bif Nat.beq pc 128 then some (.inl (o_il 4 2)) else none) else (bif Nat.ble pc 130 then (bif Nat.beq pc 130 then some (.inl (oS 1 (s_push (.int 2)))) else none) else (bif Nat.beq pc 131 then some (.inl (oS 1 (s_ii (fun a b => a + b)))) else none)))) else (bif Nat.ble pc 136 then (bif Nat.ble pc 132 then (bif Nat.beq pc 132 then some (.inl (o_sld)) else none) else (bif Nat.ble pc 133 then (bif Nat.beq pc 133 then some (.inr (3, 92, 3, 10)) else none) else (bif Nat.beq pc 136 then some (.inl (o_al 2 1)) else none))) else (bif Nat.ble pc 137 then (bif Nat.beq pc 137 then some (.inl (o_al 0 1)) else none) else (bif Nat.ble pc 138 then (bif Nat.beq pc 138 then some (.inl (o_il 4 2)) else none) else (bif Nat.beq pc 140 then some (.inl (oS 1 (s_push (.int 1)))) else none))))))) else (bif Nat.ble pc 168 then (bif Nat.ble pc 155 then (bif Nat.ble pc 146 then (bif Nat.ble pc 142 then (bif Nat.ble pc 141 then (bif Nat.beq pc 141 then some (.inl (oS 1 (s_ii (fun a b => a + b)))) else none) else (bif Nat.beq pc 142 then some (.inl (o_sld)) else none)) else (bif Nat.ble pc 143 then (bif Nat.beq pc 143 then some (.inl (o_al 0 1)) else none) else (bif Nat.ble pc 144 then (bif Nat.beq pc 144 then some (.inl (o_il 4 2)) else none) else (bif Nat.beq pc 146 then some (.inl (oS 1 (s_push (.int 2)))) else none)))) else (bif Nat.ble pc 148 then (bif Nat.ble pc 147 then (bif Nat.beq pc 147 then some (.inl (oS 1 (s_ii (fun a b => a + b)))) else none) else (bif Nat.beq pc 148 then some (.inl (o_sld)) else none)) else (bif Nat.ble pc 149 then (bif Nat.beq pc 149 then some (.inr (3, 117, 3, 11)) else none) else (bif Nat.ble pc 152 then (bif Nat.beq pc 152 then some (.inl (o_ceq 1042)) else none) else (bif Nat.beq pc 155 then some (.inl (oS 1 (s_push (.int 0)))) else none))))) else (bif Nat.ble pc 161 then (bif Nat.ble pc 157 then (bif Nat.ble pc 156 then (bif Nat.beq pc 156 then some (.inr (0, 0, 0, 4)) else none) else (bif Nat.beq pc 157 then some (.inl (o_al 1 1)) else none)) else (bif Nat.ble pc 158 then (bif Nat.beq pc 158 then some (.inl (o_al 0 1)) else none) else (bif Nat.ble pc 159 then (bif Nat.beq pc 159 then some (.inl (o_il 4 2)) else none) else (bif Nat.beq pc 161 then some (.inl (oS 1 (s_push (.int 1)))) else none)))) else (bif Nat.ble pc 164 then (bif Nat.ble pc 162 then (bif Nat.beq pc 162 then some (.inl (oS 1 (s_ii (fun a b => a + b)))) else none) else (bif Nat.ble pc 163 then (bif Nat.beq pc 163 then some (.inl (o_sld)) else none) else (bif Nat.beq pc 164 then some (.inl (o_al 0 1)) else none))) else (bif Nat.ble pc 165 then (bif Nat.beq pc 165 then some (.inl (o_il 4 2)) else none) else (bif Nat.ble pc 167 then (bif Nat.beq pc 167 then some (.inl (oS 1 (s_push (.int 2)))) else none) else (bif Nat.beq pc 168 then some (.inl (oS 1 (s_ii (fun a b => a + b)))) else none)))))) else (bif Nat.ble pc 180 then (bif Nat.ble pc 174 then (bif Nat.ble pc 170 then (bif Nat.ble pc 169 then (bif Nat.beq pc 169 then some (.inl (o_sld)) else none) else (bif Nat.beq pc 170 then some (.inl (o_al 0 1)) else none)) else (bif Nat.ble pc 171 then (bif Nat.beq pc 171 then some (.inl (o_il 4 2)) else none) else (bif Nat.ble pc 173 then (bif Nat.beq pc 173 then some (.inl (oS 1 (s_push (.int 3)))) else none) else (bif Nat.beq pc 174 then some (.inl (oS 1 (s_ii (fun a b => a + b)))) else none)))) else (bif Nat.ble pc 176 then (bif Nat.ble pc 175 then (bif Nat.beq pc 175 then some (.inl (o_sld)) else none) else (bif Nat.beq pc 176 then some (.inl (o_al 0 1)) else none)) else (bif Nat.ble pc 177 then (bif Nat.beq pc 177 then some (.inl (o_il 4 2)) else none) else (bif Nat.ble pc 179 then (bif Nat.beq pc 179 then some (.inl (oS 1 (s_push (.int 4)))) else none) else (bif Nat.beq pc 180 then some (.inl (oS 1 (s_ii (fun a b => a + b)))) else none))))) else (bif Nat.ble pc 186 then (bif Nat.ble pc 182 then (bif Nat.ble pc 181 then (bif Nat.beq pc 181 then some (.inl (o_sld)) else none) else (bif Nat.beq pc 182 then some (.inl (o_al 0 1)) else none)) else (bif Nat.ble pc 183 then (bif Nat.beq pc 183 then some (.inl (o_il 4 2)) else none) else (bif Nat.ble pc 185 then (bif Nat.beq pc 185 then some (.inl (oS 1 (s_push (.int 5)))) else none) else (bif Nat.beq pc 186 then some (.inl (oS 1 (s_ii (fun a b => a + b)))) else none)))) else (bif Nat.ble pc 189 then (bif Nat.ble pc 187 then (bif Nat.beq pc 187 then some (.inl (o_sld)) else none) else (bif Nat.ble pc 188 then (bif Nat.beq pc 188 then some (.inl (oS 1 s_i2l)) else none) else (bif Nat.beq pc 189 then some (.inl (oS 2 (s_push (.int 32)))) else none))) else (bif Nat.ble pc 191 then (bif Nat.beq pc 191 then some (.inl (oS 1 (s_li (fun a b => a <<< (b.toInt64 &&& 63))))) else none) else (bif Nat.ble pc 192 then (bif Nat.beq pc 192 then some (.inl (o_al 0 1)) else none) else (bif Nat.beq pc 193 then some (.inl (o_il 4 2)) else none)))))))) else (bif Nat.ble pc 249 then (bif Nat.ble pc 223 then (bif Nat.ble pc 209 then (bif Nat.ble pc 200 then (bif Nat.ble pc 197 then (bif Nat.ble pc 195 then (bif Nat.beq pc 195 then some (.inl (oS 2 (s_push (.int 6)))) else none) else (bif Nat.beq pc 197 then some (.inl (oS 1 (s_ii (fun a b => a + b)))) else none)) else (bif Nat.ble pc 198 then (bif Nat.beq pc 198 then some (.inl (o_sld)) else none) else (bif Nat.ble pc 199 then (bif Nat.beq pc 199 then some (.inl (oS 1 s_i2l)) else none) else (bif Nat.beq pc 200 then some (.inl (oS 3 (s_push (.long 4294967295)))) else none)))) else (bif Nat.ble pc 204 then (bif Nat.ble pc 203 then (bif Nat.beq pc 203 then some (.inl (oS 1 (s_ll (fun a b => a &&& b)))) else none) else (bif Nat.beq pc 204 then some (.inl (oS 1 (s_ll (fun a b => a ||| b)))) else none)) else (bif Nat.ble pc 205 then (bif Nat.beq pc 205 then some (.inl (o_al 3 1)) else none) else (bif Nat.ble pc 206 then (bif Nat.beq pc 206 then some (.inr (11, 185, 7, 0)) else none) else (bif Nat.beq pc 209 then some (.inl (o_is 5 2)) else none))))) else (bif Nat.ble pc 216 then (bif Nat.ble pc 212 then (bif Nat.ble pc 211 then (bif Nat.beq pc 211 then some (.inl (o_al 2 1)) else none) else (bif Nat.beq pc 212 then some (.inl (o_al 0 1)) else none)) else (bif Nat.ble pc 213 then (bif Nat.beq pc 213 then some (.inl (o_il 4 2)) else none) else (bif Nat.ble pc 215 then (bif Nat.beq pc 215 then some (.inl (oS 1 (s_push (.int 1)))) else none) else (bif Nat.beq pc 216 then some (.inl (oS 1 (s_ii (fun a b => a + b)))) else none)))) else (bif Nat.ble pc 219 then (bif Nat.ble pc 217 then (bif Nat.beq pc 217 then some (.inl (o_sld)) else none) else (bif Nat.ble pc 218 then (bif Nat.beq pc 218 then some (.inl (o_al 0 1)) else none) else (bif Nat.beq pc 219 then some (.inl (o_il 4 2)) else none))) else (bif Nat.ble pc 221 then (bif Nat.beq pc 221 then some (.inl (oS 1 (s_push (.int 2)))) else none) else (bif Nat.ble pc 222 then (bif Nat.beq pc 222 then some (.inl (oS 1 (s_ii (fun a b => a + b)))) else none) else (bif Nat.beq pc 223 then some (.inl (o_sld)) else none)))))) else (bif Nat.ble pc 235 then (bif Nat.ble pc 229 then (bif Nat.ble pc 225 then (bif Nat.ble pc 224 then (bif Nat.beq pc 224 then some (.inl (o_al 0 1)) else none) else (bif Nat.beq pc 225 then some (.inl (o_il 4 2)) else none)) else (bif Nat.ble pc 227 then (bif Nat.beq pc 227 then some (.inl (oS 1 (s_push (.int 3)))) else none) else (bif Nat.ble pc 228 then (bif Nat.beq pc 228 then some (.inl (oS 1 (s_ii (fun a b => a + b)))) else none) else (bif Nat.beq pc 229 then some (.inl (o_sld)) else none)))) else (bif Nat.ble pc 231 then (bif Nat.ble pc 230 then (bif Nat.beq pc 230 then some (.inl (o_al 0 1)) else none) else (bif Nat.beq pc 231 then some (.inl (o_il 4 2)) else none)) else (bif Nat.ble pc 233 then (bif Nat.beq pc 233 then some (.inl (oS 1 (s_push (.int 4)))) else none) else (bif Nat.ble pc 234 then (bif Nat.beq pc 234 then some (.inl (oS 1 (s_ii (fun a b => a + b)))) else none) else (bif Nat.beq pc 235 then some (.inl (o_sld)) else none))))) else (bif Nat.ble pc 241 then (bif Nat.ble pc 237 then (bif Nat.ble pc 236 then (bif Nat.beq pc 236 then some (.inl (o_al 0 1)) else none) else (bif Nat.beq pc 237 then some (.inl (o_il 4 2)) else none)) else (bif Nat.ble pc 239 then (bif Nat.beq pc 239 then some (.inl (oS 1 (s_push (.int 5)))) else none) else (bif Nat.ble pc 240 then (bif Nat.beq pc 240 then some (.inl (oS 1 (s_ii (fun a b => a + b)))) else none) else (bif Nat.beq pc 241 then some (.inl (o_sld)) else none)))) else (bif Nat.ble pc 245 then (bif Nat.ble pc 242 then (bif Nat.beq pc 242 then some (.inl (oS 1 s_i2l)) else none) else (bif Nat.ble pc 243 then (bif Nat.beq pc 243 then some (.inl (oS 2 (s_push (.int 32)))) else none) else (bif Nat.beq pc 245 then some (.inl (oS 1 (s_li (fun a b => a <<< (b.toInt64 &&& 63))))) else none))) else (bif Nat.ble pc 246 then (bif Nat.beq pc 246 then some (.inl (o_al 0 1)) else none) else (bif Nat.ble pc 247 then (bif Nat.beq pc 247 then some (.inl (o_il 4 2)) else none) else (bif Nat.beq pc 249 then some (.inl (oS 2 (s_push (.int 6)))) else none))))))) else (bif Nat.ble pc 285 then (bif Nat.ble pc 265 then (bif Nat.ble pc 257 then (bif Nat.ble pc 252 then (bif Nat.ble pc 251 then (bif Nat.beq pc 251 then some (.inl (oS 1 (s_ii (fun a b => a + b)))) else none) else (bif Nat.beq pc 252 then some (.inl (o_sld)) else none)) else (bif Nat.ble pc 253 then (bif Nat.beq pc 253 then some (.inl (oS 1 s_i2l)) else none) else (bif Nat.ble pc 254 then (bif Nat.beq pc 254 then some (.inl (oS 3 (s_push (.long 4294967295)))) else none) else (bif Nat.beq pc 257 then some (.inl (oS 1 (s_ll (fun a b => a &&& b)))) else none)))) else (bif Nat.ble pc 259 then (bif Nat.ble pc 258 then (bif Nat.beq pc 258 then some (.inl (oS 1 (s_ll (fun a b => a ||| b)))) else none) else (bif Nat.beq pc 259 then some (.inr (3, 127, 6, 11)) else none)) else (bif Nat.ble pc 262 then (bif Nat.beq pc 262 then some (.inl (o_is 6 2)) else none) else (bif Nat.ble pc 264 then (bif Nat.beq pc 264 then some (.inl (o_al 2 1)) else none) else (bif Nat.beq pc 265 then some (.inr (3, 114, 1, 11)) else none))))) else (bif Nat.ble pc 275 then (bif Nat.ble pc 270 then (bif Nat.ble pc 268 then (bif Nat.beq pc 268 then some (.inl (o_il 5 2)) else none) else (bif Nat.beq pc 270 then some (.inl (o_ceq 275)) else none)) else (bif Nat.ble pc 273 then (bif Nat.beq pc 273 then some (.inl (oS 1 (s_push (.int 0)))) else none) else (bif Nat.ble pc 274 then (bif Nat.beq pc 274 then some (.inr (0, 0, 0, 4)) else none) else (bif Nat.beq pc 275 then some (.inl (o_il 5 2)) else none)))) else (bif Nat.ble pc 281 then (bif Nat.ble pc 277 then (bif Nat.beq pc 277 then some (.inl (o_zne 292)) else none) else (bif Nat.ble pc 280 then (bif Nat.beq pc 280 then some (.inl (o_al 3 1)) else none) else (bif Nat.beq pc 281 then some (.inl (oS 1 (s_push (.int 0)))) else none))) else (bif Nat.ble pc 282 then (bif Nat.beq pc 282 then some (.inl (o_lald)) else none) else (bif Nat.ble pc 283 then (bif Nat.beq pc 283 then some (.inl (o_il 6 2)) else none) else (bif Nat.beq pc 285 then some (.inl (oS 1 s_i2l)) else none)))))) else (bif Nat.ble pc 300 then (bif Nat.ble pc 292 then (bif Nat.ble pc 287 then (bif Nat.ble pc 286 then (bif Nat.beq pc 286 then some (.inl (oS 1 s_lcmp)) else none) else (bif Nat.beq pc 287 then some (.inl (o_zeq 292)) else none)) else (bif Nat.ble pc 290 then (bif Nat.beq pc 290 then some (.inl (oS 1 (s_push (.int 0)))) else none) else (bif Nat.ble pc 291 then (bif Nat.beq pc 291 then some (.inr (0, 0, 0, 4)) else none) else (bif Nat.beq pc 292 then some (.inl (o_goto 1042)) else none)))) else (bif Nat.ble pc 296 then (bif Nat.ble pc 295 then (bif Nat.beq pc 295 then some (.inl (o_al 1 1)) else none) else (bif Nat.beq pc 296 then some (.inl (o_al 0 1)) else none)) else (bif Nat.ble pc 297 then (bif Nat.beq pc 297 then some (.inl (o_il 4 2)) else none) else (bif Nat.ble pc 299 then (bif Nat.beq pc 299 then some (.inl (oS 1 (s_push (.int 1)))) else none) else (bif Nat.beq pc 300 then some (.inl (oS 1 (s_ii (fun a b => a + b)))) else none))))) else (bif Nat.ble pc 307 then (bif Nat.ble pc 302 then (bif Nat.ble pc 301 then (bif Nat.beq pc 301 then some (.inl (o_sld)) else none) else (bif Nat.beq pc 302 then some (.inr (3, 94, 2, 10)) else none)) else (bif Nat.ble pc 305 then (bif Nat.beq pc 305 then some (.inl (o_al 2 1)) else none) else (bif Nat.ble pc 306 then (bif Nat.beq pc 306 then some (.inl (o_al 0 1)) else none) else (bif Nat.beq pc 307 then some (.inl (o_il 4 2)) else none)))) else (bif Nat.ble pc 311 then (bif Nat.ble pc 309 then (bif Nat.beq pc 309 then some (.inl (oS 1 (s_push (.int 1)))) else none) else (bif Nat.ble pc 310 then (bif Nat.beq pc 310 then some (.inl (oS 1 (s_ii (fun a b => a + b)))) else none) else (bif Nat.beq pc 311 then some (.inl (o_sld)) else none))) else (bif Nat.ble pc 312 then (bif Nat.beq pc 312 then some (.inr (3, 128, 2, 11)) else none) else (bif Nat.ble pc 315 then (bif Nat.beq pc 315 then some (.inl (o_ceq 1042)) else none) else (bif Nat.beq pc 318 then some (.inl (oS 1 (s_push (.int 0)))) else none))))))))) else (bif Nat.ble pc 439 then (bif Nat.ble pc 375 then (bif Nat.ble pc 347 then (bif Nat.ble pc 334 then (bif Nat.ble pc 325 then (bif Nat.ble pc 320 then (bif Nat.ble pc 319 then (bif Nat.beq pc 319 then some (.inr (0, 0, 0, 4)) else none) else (bif Nat.beq pc 320 then some (.inl (o_al 1 1)) else none)) else (bif Nat.ble pc 321 then (bif Nat.beq pc 321 then some (.inr (3, 95, 1, 10)) else none) else (bif Nat.ble pc 324 then (bif Nat.beq pc 324 then some (.inl (o_al 2 1)) else none) else (bif Nat.beq pc 325 then some (.inr (3, 129, 1, 11)) else none)))) else (bif Nat.ble pc 331 then (bif Nat.ble pc 328 then (bif Nat.beq pc 328 then some (.inl (o_ceq 1042)) else none) else (bif Nat.beq pc 331 then some (.inl (oS 1 (s_push (.int 0)))) else none)) else (bif Nat.ble pc 332 then (bif Nat.beq pc 332 then some (.inr (0, 0, 0, 4)) else none) else (bif Nat.ble pc 333 then (bif Nat.beq pc 333 then some (.inl (o_al 1 1)) else none) else (bif Nat.beq pc 334 then some (.inl (o_al 0 1)) else none))))) else (bif Nat.ble pc 340 then (bif Nat.ble pc 337 then (bif Nat.ble pc 335 then (bif Nat.beq pc 335 then some (.inl (o_il 4 2)) else none) else (bif Nat.beq pc 337 then some (.inl (oS 1 (s_push (.int 1)))) else none)) else (bif Nat.ble pc 338 then (bif Nat.beq pc 338 then some (.inl (oS 1 (s_ii (fun a b => a + b)))) else none) else (bif Nat.ble pc 339 then (bif Nat.beq pc 339 then some (.inl (o_sld)) else none) else (bif Nat.beq pc 340 then some (.inl (o_al 0 1)) else none)))) else (bif Nat.ble pc 344 then (bif Nat.ble pc 341 then (bif Nat.beq pc 341 then some (.inl (o_il 4 2)) else none) else (bif Nat.ble pc 343 then (bif Nat.beq pc 343 then some (.inl (oS 1 (s_push (.int 2)))) else none) else (bif Nat.beq pc 344 then some (.inl (oS 1 (s_ii (fun a b => a + b)))) else none))) else (bif Nat.ble pc 345 then (bif Nat.beq pc 345 then some (.inl (o_sld)) else none) else (bif Nat.ble pc 346 then (bif Nat.beq pc 346 then some (.inl (o_al 0 1)) else none) else (bif Nat.beq pc 347 then some (.inl (o_il 4 2)) else none)))))) else (bif Nat.ble pc 359 then (bif Nat.ble pc 353 then (bif Nat.ble pc 350 then (bif Nat.ble pc 349 then (bif Nat.beq pc 349 then some (.inl (oS 1 (s_push (.int 3)))) else none) else (bif Nat.beq pc 350 then some (.inl (oS 1 (s_ii (fun a b => a + b)))) else none)) else (bif Nat.ble pc 351 then (bif Nat.beq pc 351 then some (.inl (o_sld)) else none) else (bif Nat.ble pc 352 then (bif Nat.beq pc 352 then some (.inl (o_al 0 1)) else none) else (bif Nat.beq pc 353 then some (.inl (o_il 4 2)) else none)))) else (bif Nat.ble pc 356 then (bif Nat.ble pc 355 then (bif Nat.beq pc 355 then some (.inl (oS 1 (s_push (.int 4)))) else none) else (bif Nat.beq pc 356 then some (.inl (oS 1 (s_ii (fun a b => a + b)))) else none)) else (bif Nat.ble pc 357 then (bif Nat.beq pc 357 then some (.inl (o_sld)) else none) else (bif Nat.ble pc 358 then (bif Nat.beq pc 358 then some (.inl (o_al 3 1)) else none) else (bif Nat.beq pc 359 then some (.inr (11, 186, 6, 0)) else none))))) else (bif Nat.ble pc 368 then (bif Nat.ble pc 364 then (bif Nat.ble pc 362 then (bif Nat.beq pc 362 then some (.inl (o_is 5 2)) else none) else (bif Nat.beq pc 364 then some (.inl (o_al 2 1)) else none)) else (bif Nat.ble pc 365 then (bif Nat.beq pc 365 then some (.inl (o_al 0 1)) else none) else (bif Nat.ble pc 366 then (bif Nat.beq pc 366 then some (.inl (o_il 4 2)) else none) else (bif Nat.beq pc 368 then some (.inl (oS 1 (s_push (.int 1)))) else none)))) else (bif Nat.ble pc 371 then (bif Nat.ble pc 369 then (bif Nat.beq pc 369 then some (.inl (oS 1 (s_ii (fun a b => a + b)))) else none) else (bif Nat.ble pc 370 then (bif Nat.beq pc 370 then some (.inl (o_sld)) else none) else (bif Nat.beq pc 371 then some (.inl (o_al 0 1)) else none))) else (bif Nat.ble pc 372 then (bif Nat.beq pc 372 then some (.inl (o_il 4 2)) else none) else (bif Nat.ble pc 374 then (bif Nat.beq pc 374 then some (.inl (oS 1 (s_push (.int 2)))) else none) else (bif Nat.beq pc 375 then some (.inl (oS 1 (s_ii (fun a b => a + b)))) else none))))))) else (bif Nat.ble pc 407 then (bif Nat.ble pc 387 then (bif Nat.ble pc 381 then (bif Nat.ble pc 377 then (bif Nat.ble pc 376 then (bif Nat.beq pc 376 then some (.inl (o_sld)) else none) else (bif Nat.beq pc 377 then some (.inl (o_al 0 1)) else none)) else (bif Nat.ble pc 378 then (bif Nat.beq pc 378 then some (.inl (o_il 4 2)) else none) else (bif Nat.ble pc 380 then (bif Nat.beq pc 380 then some (.inl (oS 1 (s_push (.int 3)))) else none) else (bif Nat.beq pc 381 then some (.inl (oS 1 (s_ii (fun a b => a + b)))) else none)))) else (bif Nat.ble pc 383 then (bif Nat.ble pc 382 then (bif Nat.beq pc 382 then some (.inl (o_sld)) else none) else (bif Nat.beq pc 383 then some (.inl (o_al 0 1)) else none)) else (bif Nat.ble pc 384 then (bif Nat.beq pc 384 then some (.inl (o_il 4 2)) else none) else (bif Nat.ble pc 386 then (bif Nat.beq pc 386 then some (.inl (oS 1 (s_push (.int 4)))) else none) else (bif Nat.beq pc 387 then some (.inl (oS 1 (s_ii (fun a b => a + b)))) else none))))) else (bif Nat.ble pc 395 then (bif Nat.ble pc 389 then (bif Nat.ble pc 388 then (bif Nat.beq pc 388 then some (.inl (o_sld)) else none) else (bif Nat.beq pc 389 then some (.inr (3, 150, 5, 11)) else none)) else (bif Nat.ble pc 392 then (bif Nat.beq pc 392 then some (.inl (o_is 6 2)) else none) else (bif Nat.ble pc 394 then (bif Nat.beq pc 394 then some (.inl (o_al 2 1)) else none) else (bif Nat.beq pc 395 then some (.inr (3, 114, 1, 11)) else none)))) else (bif Nat.ble pc 403 then (bif Nat.ble pc 398 then (bif Nat.beq pc 398 then some (.inl (o_il 5 2)) else none) else (bif Nat.ble pc 400 then (bif Nat.beq pc 400 then some (.inl (o_ceq 405)) else none) else (bif Nat.beq pc 403 then some (.inl (oS 1 (s_push (.int 0)))) else none))) else (bif Nat.ble pc 404 then (bif Nat.beq pc 404 then some (.inr (0, 0, 0, 4)) else none) else (bif Nat.ble pc 405 then (bif Nat.beq pc 405 then some (.inl (o_il 5 2)) else none) else (bif Nat.beq pc 407 then some (.inl (o_zne 422)) else none)))))) else (bif Nat.ble pc 422 then (bif Nat.ble pc 415 then (bif Nat.ble pc 411 then (bif Nat.ble pc 410 then (bif Nat.beq pc 410 then some (.inl (o_al 3 1)) else none) else (bif Nat.beq pc 411 then some (.inl (oS 1 (s_push (.int 0)))) else none)) else (bif Nat.ble pc 412 then (bif Nat.beq pc 412 then some (.inl (o_lald)) else none) else (bif Nat.ble pc 413 then (bif Nat.beq pc 413 then some (.inl (o_il 6 2)) else none) else (bif Nat.beq pc 415 then some (.inl (oS 1 s_i2l)) else none)))) else (bif Nat.ble pc 417 then (bif Nat.ble pc 416 then (bif Nat.beq pc 416 then some (.inl (oS 1 s_lcmp)) else none) else (bif Nat.beq pc 417 then some (.inl (o_zeq 422)) else none)) else (bif Nat.ble pc 420 then (bif Nat.beq pc 420 then some (.inl (oS 1 (s_push (.int 0)))) else none) else (bif Nat.ble pc 421 then (bif Nat.beq pc 421 then some (.inr (0, 0, 0, 4)) else none) else (bif Nat.beq pc 422 then some (.inl (o_goto 1042)) else none))))) else (bif Nat.ble pc 430 then (bif Nat.ble pc 426 then (bif Nat.ble pc 425 then (bif Nat.beq pc 425 then some (.inl (o_al 1 1)) else none) else (bif Nat.beq pc 426 then some (.inl (o_al 0 1)) else none)) else (bif Nat.ble pc 427 then (bif Nat.beq pc 427 then some (.inl (o_il 4 2)) else none) else (bif Nat.ble pc 429 then (bif Nat.beq pc 429 then some (.inl (oS 1 (s_push (.int 1)))) else none) else (bif Nat.beq pc 430 then some (.inl (oS 1 (s_ii (fun a b => a + b)))) else none)))) else (bif Nat.ble pc 435 then (bif Nat.ble pc 431 then (bif Nat.beq pc 431 then some (.inl (o_sld)) else none) else (bif Nat.ble pc 432 then (bif Nat.beq pc 432 then some (.inr (3, 97, 2, 10)) else none) else (bif Nat.beq pc 435 then some (.inl (o_al 2 1)) else none))) else (bif Nat.ble pc 436 then (bif Nat.beq pc 436 then some (.inl (o_al 0 1)) else none) else (bif Nat.ble pc 437 then (bif Nat.beq pc 437 then some (.inl (o_il 4 2)) else none) else (bif Nat.beq pc 439 then some (.inl (oS 1 (s_push (.int 1)))) else none)))))))) else (bif Nat.ble pc 494 then (bif Nat.ble pc 467 then (bif Nat.ble pc 454 then (bif Nat.ble pc 448 then (bif Nat.ble pc 441 then (bif Nat.ble pc 440 then (bif Nat.beq pc 440 then some (.inl (oS 1 (s_ii (fun a b => a + b)))) else none) else (bif Nat.beq pc 441 then some (.inl (o_sld)) else none)) else (bif Nat.ble pc 442 then (bif Nat.beq pc 442 then some (.inr (3, 151, 2, 11)) else none) else (bif Nat.ble pc 445 then (bif Nat.beq pc 445 then some (.inl (o_ceq 1042)) else none) else (bif Nat.beq pc 448 then some (.inl (oS 1 (s_push (.int 0)))) else none)))) else (bif Nat.ble pc 450 then (bif Nat.ble pc 449 then (bif Nat.beq pc 449 then some (.inr (0, 0, 0, 4)) else none) else (bif Nat.beq pc 450 then some (.inl (o_al 1 1)) else none)) else (bif Nat.ble pc 451 then (bif Nat.beq pc 451 then some (.inl (o_al 0 1)) else none) else (bif Nat.ble pc 452 then (bif Nat.beq pc 452 then some (.inl (o_il 4 2)) else none) else (bif Nat.beq pc 454 then some (.inl (oS 1 (s_push (.int 1)))) else none))))) else (bif Nat.ble pc 460 then (bif Nat.ble pc 456 then (bif Nat.ble pc 455 then (bif Nat.beq pc 455 then some (.inl (oS 1 (s_ii (fun a b => a + b)))) else none) else (bif Nat.beq pc 456 then some (.inl (o_sld)) else none)) else (bif Nat.ble pc 457 then (bif Nat.beq pc 457 then some (.inl (o_al 0 1)) else none) else (bif Nat.ble pc 458 then (bif Nat.beq pc 458 then some (.inl (o_il 4 2)) else none) else (bif Nat.beq pc 460 then some (.inl (oS 1 (s_push (.int 2)))) else none)))) else (bif Nat.ble pc 463 then (bif Nat.ble pc 461 then (bif Nat.beq pc 461 then some (.inl (oS 1 (s_ii (fun a b => a + b)))) else none) else (bif Nat.ble pc 462 then (bif Nat.beq pc 462 then some (.inl (o_sld)) else none) else (bif Nat.beq pc 463 then some (.inl (o_al 0 1)) else none))) else (bif Nat.ble pc 464 then (bif Nat.beq pc 464 then some (.inl (o_il 4 2)) else none) else (bif Nat.ble pc 466 then (bif Nat.beq pc 466 then some (.inl (oS 1 (s_push (.int 3)))) else none) else (bif Nat.beq pc 467 then some (.inl (oS 1 (s_ii (fun a b => a + b)))) else none)))))) else (bif Nat.ble pc 479 then (bif Nat.ble pc 473 then (bif Nat.ble pc 469 then (bif Nat.ble pc 468 then (bif Nat.beq pc 468 then some (.inl (o_sld)) else none) else (bif Nat.beq pc 469 then some (.inl (o_al 0 1)) else none)) else (bif Nat.ble pc 470 then (bif Nat.beq pc 470 then some (.inl (o_il 4 2)) else none) else (bif Nat.ble pc 472 then (bif Nat.beq pc 472 then some (.inl (oS 1 (s_push (.int 4)))) else none) else (bif Nat.beq pc 473 then some (.inl (oS 1 (s_ii (fun a b => a + b)))) else none)))) else (bif Nat.ble pc 475 then (bif Nat.ble pc 474 then (bif Nat.beq pc 474 then some (.inl (o_sld)) else none) else (bif Nat.beq pc 475 then some (.inl (o_al 0 1)) else none)) else (bif Nat.ble pc 476 then (bif Nat.beq pc 476 then some (.inl (o_il 4 2)) else none) else (bif Nat.ble pc 478 then (bif Nat.beq pc 478 then some (.inl (oS 1 (s_push (.int 5)))) else none) else (bif Nat.beq pc 479 then some (.inl (oS 1 (s_ii (fun a b => a + b)))) else none))))) else (bif Nat.ble pc 487 then (bif Nat.ble pc 481 then (bif Nat.ble pc 480 then (bif Nat.beq pc 480 then some (.inl (o_sld)) else none) else (bif Nat.beq pc 481 then some (.inr (11, 187, 6, 0)) else none)) else (bif Nat.ble pc 484 then (bif Nat.beq pc 484 then some (.inl (o_is 5 2)) else none) else (bif Nat.ble pc 486 then (bif Nat.beq pc 486 then some (.inl (o_al 2 1)) else none) else (bif Nat.beq pc 487 then some (.inl (o_al 0 1)) else none)))) else (bif Nat.ble pc 491 then (bif Nat.ble pc 488 then (bif Nat.beq pc 488 then some (.inl (o_il 4 2)) else none) else (bif Nat.ble pc 490 then (bif Nat.beq pc 490 then some (.inl (oS 1 (s_push (.int 1)))) else none) else (bif Nat.beq pc 491 then some (.inl (oS 1 (s_ii (fun a b => a + b)))) else none))) else (bif Nat.ble pc 492 then (bif Nat.beq pc 492 then some (.inl (o_sld)) else none) else (bif Nat.ble pc 493 then (bif Nat.beq pc 493 then some (.inl (o_al 0 1)) else none) else (bif Nat.beq pc 494 then some (.inl (o_il 4 2)) else none))))))) else (bif Nat.ble pc 521 then (bif Nat.ble pc 506 then (bif Nat.ble pc 500 then (bif Nat.ble pc 497 then (bif Nat.ble pc 496 then (bif Nat.beq pc 496 then some (.inl (oS 1 (s_push (.int 2)))) else none) else (bif Nat.beq pc 497 then some (.inl (oS 1 (s_ii (fun a b => a + b)))) else none)) else (bif Nat.ble pc 498 then (bif Nat.beq pc 498 then some (.inl (o_sld)) else none) else (bif Nat.ble pc 499 then (bif Nat.beq pc 499 then some (.inl (o_al 0 1)) else none) else (bif Nat.beq pc 500 then some (.inl (o_il 4 2)) else none)))) else (bif Nat.ble pc 503 then (bif Nat.ble pc 502 then (bif Nat.beq pc 502 then some (.inl (oS 1 (s_push (.int 3)))) else none) else (bif Nat.beq pc 503 then some (.inl (oS 1 (s_ii (fun a b => a + b)))) else none)) else (bif Nat.ble pc 504 then (bif Nat.beq pc 504 then some (.inl (o_sld)) else none) else (bif Nat.ble pc 505 then (bif Nat.beq pc 505 then some (.inl (o_al 0 1)) else none) else (bif Nat.beq pc 506 then some (.inl (o_il 4 2)) else none))))) else (bif Nat.ble pc 512 then (bif Nat.ble pc 509 then (bif Nat.ble pc 508 then (bif Nat.beq pc 508 then some (.inl (oS 1 (s_push (.int 4)))) else none) else (bif Nat.beq pc 509 then some (.inl (oS 1 (s_ii (fun a b => a + b)))) else none)) else (bif Nat.ble pc 510 then (bif Nat.beq pc 510 then some (.inl (o_sld)) else none) else (bif Nat.ble pc 511 then (bif Nat.beq pc 511 then some (.inl (o_al 0 1)) else none) else (bif Nat.beq pc 512 then some (.inl (o_il 4 2)) else none)))) else (bif Nat.ble pc 516 then (bif Nat.ble pc 514 then (bif Nat.beq pc 514 then some (.inl (oS 1 (s_push (.int 5)))) else none) else (bif Nat.ble pc 515 then (bif Nat.beq pc 515 then some (.inl (oS 1 (s_ii (fun a b => a + b)))) else none) else (bif Nat.beq pc 516 then some (.inl (o_sld)) else none))) else (bif Nat.ble pc 517 then (bif Nat.beq pc 517 then some (.inr (3, 152, 6, 11)) else none) else (bif Nat.ble pc 520 then (bif Nat.beq pc 520 then some (.inl (o_al 2 1)) else none) else (bif Nat.beq pc 521 then some (.inr (3, 114, 1, 11)) else none)))))) else (bif Nat.ble pc 539 then (bif Nat.ble pc 531 then (bif Nat.ble pc 526 then (bif Nat.ble pc 524 then (bif Nat.beq pc 524 then some (.inl (o_il 5 2)) else none) else (bif Nat.beq pc 526 then some (.inl (o_ceq 531)) else none)) else (bif Nat.ble pc 529 then (bif Nat.beq pc 529 then some (.inl (oS 1 (s_push (.int 0)))) else none) else (bif Nat.ble pc 530 then (bif Nat.beq pc 530 then some (.inr (0, 0, 0, 4)) else none) else (bif Nat.beq pc 531 then some (.inl (o_goto 1042)) else none)))) else (bif Nat.ble pc 535 then (bif Nat.ble pc 534 then (bif Nat.beq pc 534 then some (.inl (o_al 1 1)) else none) else (bif Nat.beq pc 535 then some (.inl (o_al 0 1)) else none)) else (bif Nat.ble pc 536 then (bif Nat.beq pc 536 then some (.inl (o_il 4 2)) else none) else (bif Nat.ble pc 538 then (bif Nat.beq pc 538 then some (.inl (oS 1 (s_push (.int 1)))) else none) else (bif Nat.beq pc 539 then some (.inl (oS 1 (s_ii (fun a b => a + b)))) else none))))) else (bif Nat.ble pc 547 then (bif Nat.ble pc 541 then (bif Nat.ble pc 540 then (bif Nat.beq pc 540 then some (.inl (o_sld)) else none) else (bif Nat.beq pc 541 then some (.inl (o_al 3 1)) else none)) else (bif Nat.ble pc 542 then (bif Nat.beq pc 542 then some (.inr (11, 188, 3, 0)) else none) else (bif Nat.ble pc 545 then (bif Nat.beq pc 545 then some (.inl (o_is 5 2)) else none) else (bif Nat.beq pc 547 then some (.inl (o_al 2 1)) else none)))) else (bif Nat.ble pc 551 then (bif Nat.ble pc 548 then (bif Nat.beq pc 548 then some (.inl (o_al 0 1)) else none) else (bif Nat.ble pc 549 then (bif Nat.beq pc 549 then some (.inl (o_il 4 2)) else none) else (bif Nat.beq pc 551 then some (.inl (oS 1 (s_push (.int 1)))) else none))) else (bif Nat.ble pc 552 then (bif Nat.beq pc 552 then some (.inl (oS 1 (s_ii (fun a b => a + b)))) else none) else (bif Nat.ble pc 553 then (bif Nat.beq pc 553 then some (.inl (o_sld)) else none) else (bif Nat.beq pc 554 then some (.inr (3, 162, 2, 11)) else none)))))))))) else (bif Nat.ble pc 796 then (bif Nat.ble pc 675 then (bif Nat.ble pc 617 then (bif Nat.ble pc 590 then (bif Nat.ble pc 575 then (bif Nat.ble pc 565 then (bif Nat.ble pc 559 then (bif Nat.ble pc 557 then (bif Nat.beq pc 557 then some (.inl (o_is 6 2)) else none) else (bif Nat.beq pc 559 then some (.inl (o_al 2 1)) else none)) else (bif Nat.ble pc 560 then (bif Nat.beq pc 560 then some (.inr (3, 114, 1, 11)) else none) else (bif Nat.ble pc 563 then (bif Nat.beq pc 563 then some (.inl (o_il 5 2)) else none) else (bif Nat.beq pc 565 then some (.inl (o_ceq 570)) else none)))) else (bif Nat.ble pc 569 then (bif Nat.ble pc 568 then (bif Nat.beq pc 568 then some (.inl (oS 1 (s_push (.int 0)))) else none) else (bif Nat.beq pc 569 then some (.inr (0, 0, 0, 4)) else none)) else (bif Nat.ble pc 570 then (bif Nat.beq pc 570 then some (.inl (o_il 5 2)) else none) else (bif Nat.ble pc 572 then (bif Nat.beq pc 572 then some (.inl (o_zne 587)) else none) else (bif Nat.beq pc 575 then some (.inl (o_al 3 1)) else none))))) else (bif Nat.ble pc 581 then (bif Nat.ble pc 577 then (bif Nat.ble pc 576 then (bif Nat.beq pc 576 then some (.inl (oS 1 (s_push (.int 0)))) else none) else (bif Nat.beq pc 577 then some (.inl (o_lald)) else none)) else (bif Nat.ble pc 578 then (bif Nat.beq pc 578 then some (.inl (o_il 6 2)) else none) else (bif Nat.ble pc 580 then (bif Nat.beq pc 580 then some (.inl (oS 1 s_i2l)) else none) else (bif Nat.beq pc 581 then some (.inl (oS 1 s_lcmp)) else none)))) else (bif Nat.ble pc 585 then (bif Nat.ble pc 582 then (bif Nat.beq pc 582 then some (.inl (o_zeq 587)) else none) else (bif Nat.beq pc 585 then some (.inl (oS 1 (s_push (.int 0)))) else none)) else (bif Nat.ble pc 586 then (bif Nat.beq pc 586 then some (.inr (0, 0, 0, 4)) else none) else (bif Nat.ble pc 587 then (bif Nat.beq pc 587 then some (.inl (o_goto 1042)) else none) else (bif Nat.beq pc 590 then some (.inl (o_al 1 1)) else none)))))) else (bif Nat.ble pc 602 then (bif Nat.ble pc 596 then (bif Nat.ble pc 592 then (bif Nat.ble pc 591 then (bif Nat.beq pc 591 then some (.inl (o_al 0 1)) else none) else (bif Nat.beq pc 592 then some (.inl (o_il 4 2)) else none)) else (bif Nat.ble pc 594 then (bif Nat.beq pc 594 then some (.inl (oS 1 (s_push (.int 1)))) else none) else (bif Nat.ble pc 595 then (bif Nat.beq pc 595 then some (.inl (oS 1 (s_ii (fun a b => a + b)))) else none) else (bif Nat.beq pc 596 then some (.inl (o_sld)) else none)))) else (bif Nat.ble pc 598 then (bif Nat.ble pc 597 then (bif Nat.beq pc 597 then some (.inl (o_al 0 1)) else none) else (bif Nat.beq pc 598 then some (.inl (o_il 4 2)) else none)) else (bif Nat.ble pc 600 then (bif Nat.beq pc 600 then some (.inl (oS 1 (s_push (.int 2)))) else none) else (bif Nat.ble pc 601 then (bif Nat.beq pc 601 then some (.inl (oS 1 (s_ii (fun a b => a + b)))) else none) else (bif Nat.beq pc 602 then some (.inl (o_sld)) else none))))) else (bif Nat.ble pc 610 then (bif Nat.ble pc 606 then (bif Nat.ble pc 603 then (bif Nat.beq pc 603 then some (.inr (3, 100, 3, 10)) else none) else (bif Nat.beq pc 606 then some (.inl (o_al 2 1)) else none)) else (bif Nat.ble pc 607 then (bif Nat.beq pc 607 then some (.inl (o_al 0 1)) else none) else (bif Nat.ble pc 608 then (bif Nat.beq pc 608 then some (.inl (o_il 4 2)) else none) else (bif Nat.beq pc 610 then some (.inl (oS 1 (s_push (.int 1)))) else none)))) else (bif Nat.ble pc 613 then (bif Nat.ble pc 611 then (bif Nat.beq pc 611 then some (.inl (oS 1 (s_ii (fun a b => a + b)))) else none) else (bif Nat.ble pc 612 then (bif Nat.beq pc 612 then some (.inl (o_sld)) else none) else (bif Nat.beq pc 613 then some (.inl (o_al 0 1)) else none))) else (bif Nat.ble pc 614 then (bif Nat.beq pc 614 then some (.inl (o_il 4 2)) else none) else (bif Nat.ble pc 616 then (bif Nat.beq pc 616 then some (.inl (oS 1 (s_push (.int 2)))) else none) else (bif Nat.beq pc 617 then some (.inl (oS 1 (s_ii (fun a b => a + b)))) else none))))))) else (bif Nat.ble pc 645 then (bif Nat.ble pc 632 then (bif Nat.ble pc 626 then (bif Nat.ble pc 619 then (bif Nat.ble pc 618 then (bif Nat.beq pc 618 then some (.inl (o_sld)) else none) else (bif Nat.beq pc 619 then some (.inr (3, 163, 3, 11)) else none)) else (bif Nat.ble pc 622 then (bif Nat.beq pc 622 then some (.inl (o_ceq 1042)) else none) else (bif Nat.ble pc 625 then (bif Nat.beq pc 625 then some (.inl (oS 1 (s_push (.int 0)))) else none) else (bif Nat.beq pc 626 then some (.inr (0, 0, 0, 4)) else none)))) else (bif Nat.ble pc 628 then (bif Nat.ble pc 627 then (bif Nat.beq pc 627 then some (.inl (o_al 1 1)) else none) else (bif Nat.beq pc 628 then some (.inl (o_al 0 1)) else none)) else (bif Nat.ble pc 629 then (bif Nat.beq pc 629 then some (.inl (o_il 4 2)) else none) else (bif Nat.ble pc 631 then (bif Nat.beq pc 631 then some (.inl (oS 1 (s_push (.int 1)))) else none) else (bif Nat.beq pc 632 then some (.inl (oS 1 (s_ii (fun a b => a + b)))) else none))))) else (bif Nat.ble pc 638 then (bif Nat.ble pc 634 then (bif Nat.ble pc 633 then (bif Nat.beq pc 633 then some (.inl (o_sld)) else none) else (bif Nat.beq pc 634 then some (.inl (o_al 0 1)) else none)) else (bif Nat.ble pc 635 then (bif Nat.beq pc 635 then some (.inl (o_il 4 2)) else none) else (bif Nat.ble pc 637 then (bif Nat.beq pc 637 then some (.inl (oS 1 (s_push (.int 2)))) else none) else (bif Nat.beq pc 638 then some (.inl (oS 1 (s_ii (fun a b => a + b)))) else none)))) else (bif Nat.ble pc 641 then (bif Nat.ble pc 639 then (bif Nat.beq pc 639 then some (.inl (o_sld)) else none) else (bif Nat.ble pc 640 then (bif Nat.beq pc 640 then some (.inl (o_al 0 1)) else none) else (bif Nat.beq pc 641 then some (.inl (o_il 4 2)) else none))) else (bif Nat.ble pc 643 then (bif Nat.beq pc 643 then some (.inl (oS 1 (s_push (.int 3)))) else none) else (bif Nat.ble pc 644 then (bif Nat.beq pc 644 then some (.inl (oS 1 (s_ii (fun a b => a + b)))) else none) else (bif Nat.beq pc 645 then some (.inl (o_sld)) else none)))))) else (bif Nat.ble pc 659 then (bif Nat.ble pc 653 then (bif Nat.ble pc 649 then (bif Nat.ble pc 646 then (bif Nat.beq pc 646 then some (.inr (3, 101, 4, 10)) else none) else (bif Nat.beq pc 649 then some (.inl (o_al 2 1)) else none)) else (bif Nat.ble pc 650 then (bif Nat.beq pc 650 then some (.inl (o_al 0 1)) else none) else (bif Nat.ble pc 651 then (bif Nat.beq pc 651 then some (.inl (o_il 4 2)) else none) else (bif Nat.beq pc 653 then some (.inl (oS 1 (s_push (.int 1)))) else none)))) else (bif Nat.ble pc 655 then (bif Nat.ble pc 654 then (bif Nat.beq pc 654 then some (.inl (oS 1 (s_ii (fun a b => a + b)))) else none) else (bif Nat.beq pc 655 then some (.inl (o_sld)) else none)) else (bif Nat.ble pc 656 then (bif Nat.beq pc 656 then some (.inl (o_al 0 1)) else none) else (bif Nat.ble pc 657 then (bif Nat.beq pc 657 then some (.inl (o_il 4 2)) else none) else (bif Nat.beq pc 659 then some (.inl (oS 1 (s_push (.int 2)))) else none))))) else (bif Nat.ble pc 665 then (bif Nat.ble pc 661 then (bif Nat.ble pc 660 then (bif Nat.beq pc 660 then some (.inl (oS 1 (s_ii (fun a b => a + b)))) else none) else (bif Nat.beq pc 661 then some (.inl (o_sld)) else none)) else (bif Nat.ble pc 662 then (bif Nat.beq pc 662 then some (.inl (o_al 0 1)) else none) else (bif Nat.ble pc 663 then (bif Nat.beq pc 663 then some (.inl (o_il 4 2)) else none) else (bif Nat.beq pc 665 then some (.inl (oS 1 (s_push (.int 3)))) else none)))) else (bif Nat.ble pc 668 then (bif Nat.ble pc 666 then (bif Nat.beq pc 666 then some (.inl (oS 1 (s_ii (fun a b => a + b)))) else none) else (bif Nat.ble pc 667 then (bif Nat.beq pc 667 then some (.inl (o_sld)) else none) else (bif Nat.beq pc 668 then some (.inr (3, 165, 4, 11)) else none))) else (bif Nat.ble pc 671 then (bif Nat.beq pc 671 then some (.inl (o_ceq 1042)) else none) else (bif Nat.ble pc 674 then (bif Nat.beq pc 674 then some (.inl (oS 1 (s_push (.int 0)))) else none) else (bif Nat.beq pc 675 then some (.inr (0, 0, 0, 4)) else none)))))))) else (bif Nat.ble pc 732 then (bif Nat.ble pc 705 then (bif Nat.ble pc 688 then (bif Nat.ble pc 681 then (bif Nat.ble pc 677 then (bif Nat.ble pc 676 then (bif Nat.beq pc 676 then some (.inl (o_al 1 1)) else none) else (bif Nat.beq pc 677 then some (.inl (o_al 0 1)) else none)) else (bif Nat.ble pc 678 then (bif Nat.beq pc 678 then some (.inl (o_il 4 2)) else none) else (bif Nat.ble pc 680 then (bif Nat.beq pc 680 then some (.inl (oS 1 (s_push (.int 1)))) else none) else (bif Nat.beq pc 681 then some (.inl (oS 1 (s_ii (fun a b => a + b)))) else none)))) else (bif Nat.ble pc 683 then (bif Nat.ble pc 682 then (bif Nat.beq pc 682 then some (.inl (o_sld)) else none) else (bif Nat.beq pc 683 then some (.inr (3, 102, 2, 10)) else none)) else (bif Nat.ble pc 686 then (bif Nat.beq pc 686 then some (.inl (o_al 2 1)) else none) else (bif Nat.ble pc 687 then (bif Nat.beq pc 687 then some (.inl (o_al 0 1)) else none) else (bif Nat.beq pc 688 then some (.inl (o_il 4 2)) else none))))) else (bif Nat.ble pc 696 then (bif Nat.ble pc 691 then (bif Nat.ble pc 690 then (bif Nat.beq pc 690 then some (.inl (oS 1 (s_push (.int 1)))) else none) else (bif Nat.beq pc 691 then some (.inl (oS 1 (s_ii (fun a b => a + b)))) else none)) else (bif Nat.ble pc 692 then (bif Nat.beq pc 692 then some (.inl (o_sld)) else none) else (bif Nat.ble pc 693 then (bif Nat.beq pc 693 then some (.inr (3, 166, 2, 11)) else none) else (bif Nat.beq pc 696 then some (.inl (o_ceq 1042)) else none)))) else (bif Nat.ble pc 701 then (bif Nat.ble pc 699 then (bif Nat.beq pc 699 then some (.inl (oS 1 (s_push (.int 0)))) else none) else (bif Nat.ble pc 700 then (bif Nat.beq pc 700 then some (.inr (0, 0, 0, 4)) else none) else (bif Nat.beq pc 701 then some (.inl (o_al 1 1)) else none))) else (bif Nat.ble pc 702 then (bif Nat.beq pc 702 then some (.inl (o_al 0 1)) else none) else (bif Nat.ble pc 703 then (bif Nat.beq pc 703 then some (.inl (o_il 4 2)) else none) else (bif Nat.beq pc 705 then some (.inl (oS 1 (s_push (.int 1)))) else none)))))) else (bif Nat.ble pc 718 then (bif Nat.ble pc 711 then (bif Nat.ble pc 707 then (bif Nat.ble pc 706 then (bif Nat.beq pc 706 then some (.inl (oS 1 (s_ii (fun a b => a + b)))) else none) else (bif Nat.beq pc 707 then some (.inl (o_sld)) else none)) else (bif Nat.ble pc 708 then (bif Nat.beq pc 708 then some (.inl (o_al 0 1)) else none) else (bif Nat.ble pc 709 then (bif Nat.beq pc 709 then some (.inl (o_il 4 2)) else none) else (bif Nat.beq pc 711 then some (.inl (oS 1 (s_push (.int 2)))) else none)))) else (bif Nat.ble pc 713 then (bif Nat.ble pc 712 then (bif Nat.beq pc 712 then some (.inl (oS 1 (s_ii (fun a b => a + b)))) else none) else (bif Nat.beq pc 713 then some (.inl (o_sld)) else none)) else (bif Nat.ble pc 714 then (bif Nat.beq pc 714 then some (.inl (o_al 3 1)) else none) else (bif Nat.ble pc 715 then (bif Nat.beq pc 715 then some (.inr (11, 189, 4, 0)) else none) else (bif Nat.beq pc 718 then some (.inl (o_is 5 2)) else none))))) else (bif Nat.ble pc 725 then (bif Nat.ble pc 721 then (bif Nat.ble pc 720 then (bif Nat.beq pc 720 then some (.inl (o_al 2 1)) else none) else (bif Nat.beq pc 721 then some (.inl (o_al 0 1)) else none)) else (bif Nat.ble pc 722 then (bif Nat.beq pc 722 then some (.inl (o_il 4 2)) else none) else (bif Nat.ble pc 724 then (bif Nat.beq pc 724 then some (.inl (oS 1 (s_push (.int 1)))) else none) else (bif Nat.beq pc 725 then some (.inl (oS 1 (s_ii (fun a b => a + b)))) else none)))) else (bif Nat.ble pc 728 then (bif Nat.ble pc 726 then (bif Nat.beq pc 726 then some (.inl (o_sld)) else none) else (bif Nat.ble pc 727 then (bif Nat.beq pc 727 then some (.inl (o_al 0 1)) else none) else (bif Nat.beq pc 728 then some (.inl (o_il 4 2)) else none))) else (bif Nat.ble pc 730 then (bif Nat.beq pc 730 then some (.inl (oS 1 (s_push (.int 2)))) else none) else (bif Nat.ble pc 731 then (bif Nat.beq pc 731 then some (.inl (oS 1 (s_ii (fun a b => a + b)))) else none) else (bif Nat.beq pc 732 then some (.inl (o_sld)) else none))))))) else (bif Nat.ble pc 769 then (bif Nat.ble pc 751 then (bif Nat.ble pc 742 then (bif Nat.ble pc 736 then (bif Nat.ble pc 733 then (bif Nat.beq pc 733 then some (.inr (3, 168, 3, 11)) else none) else (bif Nat.beq pc 736 then some (.inl (o_is 6 2)) else none)) else (bif Nat.ble pc 738 then (bif Nat.beq pc 738 then some (.inl (o_al 2 1)) else none) else (bif Nat.ble pc 739 then (bif Nat.beq pc 739 then some (.inr (3, 114, 1, 11)) else none) else (bif Nat.beq pc 742 then some (.inl (o_il 5 2)) else none)))) else (bif Nat.ble pc 747 then (bif Nat.ble pc 744 then (bif Nat.beq pc 744 then some (.inl (o_ceq 749)) else none) else (bif Nat.beq pc 747 then some (.inl (oS 1 (s_push (.int 0)))) else none)) else (bif Nat.ble pc 748 then (bif Nat.beq pc 748 then some (.inr (0, 0, 0, 4)) else none) else (bif Nat.ble pc 749 then (bif Nat.beq pc 749 then some (.inl (o_il 5 2)) else none) else (bif Nat.beq pc 751 then some (.inl (o_zne 766)) else none))))) else (bif Nat.ble pc 759 then (bif Nat.ble pc 755 then (bif Nat.ble pc 754 then (bif Nat.beq pc 754 then some (.inl (o_al 3 1)) else none) else (bif Nat.beq pc 755 then some (.inl (oS 1 (s_push (.int 0)))) else none)) else (bif Nat.ble pc 756 then (bif Nat.beq pc 756 then some (.inl (o_lald)) else none) else (bif Nat.ble pc 757 then (bif Nat.beq pc 757 then some (.inl (o_il 6 2)) else none) else (bif Nat.beq pc 759 then some (.inl (oS 1 s_i2l)) else none)))) else (bif Nat.ble pc 764 then (bif Nat.ble pc 760 then (bif Nat.beq pc 760 then some (.inl (oS 1 s_lcmp)) else none) else (bif Nat.ble pc 761 then (bif Nat.beq pc 761 then some (.inl (o_zeq 766)) else none) else (bif Nat.beq pc 764 then some (.inl (oS 1 (s_push (.int 0)))) else none))) else (bif Nat.ble pc 765 then (bif Nat.beq pc 765 then some (.inr (0, 0, 0, 4)) else none) else (bif Nat.ble pc 766 then (bif Nat.beq pc 766 then some (.inl (o_goto 1042)) else none) else (bif Nat.beq pc 769 then some (.inl (o_al 1 1)) else none)))))) else (bif Nat.ble pc 781 then (bif Nat.ble pc 775 then (bif Nat.ble pc 771 then (bif Nat.ble pc 770 then (bif Nat.beq pc 770 then some (.inl (o_al 0 1)) else none) else (bif Nat.beq pc 771 then some (.inl (o_il 4 2)) else none)) else (bif Nat.ble pc 773 then (bif Nat.beq pc 773 then some (.inl (oS 1 (s_push (.int 1)))) else none) else (bif Nat.ble pc 774 then (bif Nat.beq pc 774 then some (.inl (oS 1 (s_ii (fun a b => a + b)))) else none) else (bif Nat.beq pc 775 then some (.inl (o_sld)) else none)))) else (bif Nat.ble pc 777 then (bif Nat.ble pc 776 then (bif Nat.beq pc 776 then some (.inl (o_al 0 1)) else none) else (bif Nat.beq pc 777 then some (.inl (o_il 4 2)) else none)) else (bif Nat.ble pc 779 then (bif Nat.beq pc 779 then some (.inl (oS 1 (s_push (.int 2)))) else none) else (bif Nat.ble pc 780 then (bif Nat.beq pc 780 then some (.inl (oS 1 (s_ii (fun a b => a + b)))) else none) else (bif Nat.beq pc 781 then some (.inl (o_sld)) else none))))) else (bif Nat.ble pc 789 then (bif Nat.ble pc 785 then (bif Nat.ble pc 782 then (bif Nat.beq pc 782 then some (.inr (3, 104, 3, 10)) else none) else (bif Nat.beq pc 785 then some (.inl (o_al 2 1)) else none)) else (bif Nat.ble pc 786 then (bif Nat.beq pc 786 then some (.inl (o_al 0 1)) else none) else (bif Nat.ble pc 787 then (bif Nat.beq pc 787 then some (.inl (o_il 4 2)) else none) else (bif Nat.beq pc 789 then some (.inl (oS 1 (s_push (.int 1)))) else none)))) else (bif Nat.ble pc 792 then (bif Nat.ble pc 790 then (bif Nat.beq pc 790 then some (.inl (oS 1 (s_ii (fun a b => a + b)))) else none) else (bif Nat.ble pc 791 then (bif Nat.beq pc 791 then some (.inl (o_sld)) else none) else (bif Nat.beq pc 792 then some (.inl (o_al 0 1)) else none))) else (bif Nat.ble pc 793 then (bif Nat.beq pc 793 then some (.inl (o_il 4 2)) else none) else (bif Nat.ble pc 795 then (bif Nat.beq pc 795 then some (.inl (oS 1 (s_push (.int 2)))) else none) else (bif Nat.beq pc 796 then some (.inl (oS 1 (s_ii (fun a b => a + b)))) else none))))))))) else (bif Nat.ble pc 923 then (bif Nat.ble pc 864 then (bif Nat.ble pc 835 then (bif Nat.ble pc 813 then (bif Nat.ble pc 805 then (bif Nat.ble pc 798 then (bif Nat.ble pc 797 then (bif Nat.beq pc 797 then some (.inl (o_sld)) else none) else (bif Nat.beq pc 798 then some (.inr (3, 171, 3, 11)) else none)) else (bif Nat.ble pc 801 then (bif Nat.beq pc 801 then some (.inl (o_ceq 1042)) else none) else (bif Nat.ble pc 804 then (bif Nat.beq pc 804 then some (.inl (oS 1 (s_push (.int 0)))) else none) else (bif Nat.beq pc 805 then some (.inr (0, 0, 0, 4)) else none)))) else (bif Nat.ble pc 807 then (bif Nat.ble pc 806 then (bif Nat.beq pc 806 then some (.inl (o_al 1 1)) else none) else (bif Nat.beq pc 807 then some (.inl (o_al 3 1)) else none)) else (bif Nat.ble pc 808 then (bif Nat.beq pc 808 then some (.inr (11, 190, 2, 0)) else none) else (bif Nat.ble pc 811 then (bif Nat.beq pc 811 then some (.inl (o_is 5 2)) else none) else (bif Nat.beq pc 813 then some (.inl (o_al 2 1)) else none))))) else (bif Nat.ble pc 823 then (bif Nat.ble pc 817 then (bif Nat.ble pc 814 then (bif Nat.beq pc 814 then some (.inr (3, 173, 1, 11)) else none) else (bif Nat.beq pc 817 then some (.inl (o_is 6 2)) else none)) else (bif Nat.ble pc 819 then (bif Nat.beq pc 819 then some (.inl (o_al 2 1)) else none) else (bif Nat.ble pc 820 then (bif Nat.beq pc 820 then some (.inr (3, 114, 1, 11)) else none) else (bif Nat.beq pc 823 then some (.inl (o_il 5 2)) else none)))) else (bif Nat.ble pc 829 then (bif Nat.ble pc 825 then (bif Nat.beq pc 825 then some (.inl (o_ceq 830)) else none) else (bif Nat.ble pc 828 then (bif Nat.beq pc 828 then some (.inl (oS 1 (s_push (.int 0)))) else none) else (bif Nat.beq pc 829 then some (.inr (0, 0, 0, 4)) else none))) else (bif Nat.ble pc 830 then (bif Nat.beq pc 830 then some (.inl (o_il 5 2)) else none) else (bif Nat.ble pc 832 then (bif Nat.beq pc 832 then some (.inl (o_zne 847)) else none) else (bif Nat.beq pc 835 then some (.inl (o_al 3 1)) else none)))))) else (bif Nat.ble pc 850 then (bif Nat.ble pc 841 then (bif Nat.ble pc 837 then (bif Nat.ble pc 836 then (bif Nat.beq pc 836 then some (.inl (oS 1 (s_push (.int 0)))) else none) else (bif Nat.beq pc 837 then some (.inl (o_lald)) else none)) else (bif Nat.ble pc 838 then (bif Nat.beq pc 838 then some (.inl (o_il 6 2)) else none) else (bif Nat.ble pc 840 then (bif Nat.beq pc 840 then some (.inl (oS 1 s_i2l)) else none) else (bif Nat.beq pc 841 then some (.inl (oS 1 s_lcmp)) else none)))) else (bif Nat.ble pc 845 then (bif Nat.ble pc 842 then (bif Nat.beq pc 842 then some (.inl (o_zeq 847)) else none) else (bif Nat.beq pc 845 then some (.inl (oS 1 (s_push (.int 0)))) else none)) else (bif Nat.ble pc 846 then (bif Nat.beq pc 846 then some (.inr (0, 0, 0, 4)) else none) else (bif Nat.ble pc 847 then (bif Nat.beq pc 847 then some (.inl (o_goto 1042)) else none) else (bif Nat.beq pc 850 then some (.inl (o_al 1 1)) else none))))) else (bif Nat.ble pc 856 then (bif Nat.ble pc 852 then (bif Nat.ble pc 851 then (bif Nat.beq pc 851 then some (.inl (o_al 0 1)) else none) else (bif Nat.beq pc 852 then some (.inl (o_il 4 2)) else none)) else (bif Nat.ble pc 854 then (bif Nat.beq pc 854 then some (.inl (oS 1 (s_push (.int 1)))) else none) else (bif Nat.ble pc 855 then (bif Nat.beq pc 855 then some (.inl (oS 1 (s_ii (fun a b => a + b)))) else none) else (bif Nat.beq pc 856 then some (.inl (o_sld)) else none)))) else (bif Nat.ble pc 860 then (bif Nat.ble pc 857 then (bif Nat.beq pc 857 then some (.inl (oS 1 s_i2l)) else none) else (bif Nat.ble pc 858 then (bif Nat.beq pc 858 then some (.inl (oS 2 (s_push (.int 32)))) else none) else (bif Nat.beq pc 860 then some (.inl (oS 1 (s_li (fun a b => a <<< (b.toInt64 &&& 63))))) else none))) else (bif Nat.ble pc 861 then (bif Nat.beq pc 861 then some (.inl (o_al 0 1)) else none) else (bif Nat.ble pc 862 then (bif Nat.beq pc 862 then some (.inl (o_il 4 2)) else none) else (bif Nat.beq pc 864 then some (.inl (oS 1 (s_push (.int 2)))) else none))))))) else (bif Nat.ble pc 892 then (bif Nat.ble pc 877 then (bif Nat.ble pc 871 then (bif Nat.ble pc 866 then (bif Nat.ble pc 865 then (bif Nat.beq pc 865 then some (.inl (oS 1 (s_ii (fun a b => a + b)))) else none) else (bif Nat.beq pc 866 then some (.inl (o_sld)) else none)) else (bif Nat.ble pc 867 then (bif Nat.beq pc 867 then some (.inl (oS 1 s_i2l)) else none) else (bif Nat.ble pc 868 then (bif Nat.beq pc 868 then some (.inl (oS 3 (s_push (.long 4294967295)))) else none) else (bif Nat.beq pc 871 then some (.inl (oS 1 (s_ll (fun a b => a &&& b)))) else none)))) else (bif Nat.ble pc 873 then (bif Nat.ble pc 872 then (bif Nat.beq pc 872 then some (.inl (oS 1 (s_ll (fun a b => a ||| b)))) else none) else (bif Nat.beq pc 873 then some (.inl (o_al 0 1)) else none)) else (bif Nat.ble pc 874 then (bif Nat.beq pc 874 then some (.inl (o_il 4 2)) else none) else (bif Nat.ble pc 876 then (bif Nat.beq pc 876 then some (.inl (oS 1 (s_push (.int 3)))) else none) else (bif Nat.beq pc 877 then some (.inl (oS 1 (s_ii (fun a b => a + b)))) else none))))) else (bif Nat.ble pc 885 then (bif Nat.ble pc 879 then (bif Nat.ble pc 878 then (bif Nat.beq pc 878 then some (.inl (o_sld)) else none) else (bif Nat.beq pc 879 then some (.inl (o_al 3 1)) else none)) else (bif Nat.ble pc 880 then (bif Nat.beq pc 880 then some (.inr (11, 191, 4, 0)) else none) else (bif Nat.ble pc 883 then (bif Nat.beq pc 883 then some (.inl (o_is 5 2)) else none) else (bif Nat.beq pc 885 then some (.inl (o_al 2 1)) else none)))) else (bif Nat.ble pc 889 then (bif Nat.ble pc 886 then (bif Nat.beq pc 886 then some (.inl (o_al 0 1)) else none) else (bif Nat.ble pc 887 then (bif Nat.beq pc 887 then some (.inl (o_il 4 2)) else none) else (bif Nat.beq pc 889 then some (.inl (oS 1 (s_push (.int 1)))) else none))) else (bif Nat.ble pc 890 then (bif Nat.beq pc 890 then some (.inl (oS 1 (s_ii (fun a b => a + b)))) else none) else (bif Nat.ble pc 891 then (bif Nat.beq pc 891 then some (.inl (o_sld)) else none) else (bif Nat.beq pc 892 then some (.inl (oS 1 s_i2l)) else none)))))) else (bif Nat.ble pc 906 then (bif Nat.ble pc 899 then (bif Nat.ble pc 895 then (bif Nat.ble pc 893 then (bif Nat.beq pc 893 then some (.inl (oS 2 (s_push (.int 32)))) else none) else (bif Nat.beq pc 895 then some (.inl (oS 1 (s_li (fun a b => a <<< (b.toInt64 &&& 63))))) else none)) else (bif Nat.ble pc 896 then (bif Nat.beq pc 896 then some (.inl (o_al 0 1)) else none) else (bif Nat.ble pc 897 then (bif Nat.beq pc 897 then some (.inl (o_il 4 2)) else none) else (bif Nat.beq pc 899 then some (.inl (oS 1 (s_push (.int 2)))) else none)))) else (bif Nat.ble pc 901 then (bif Nat.ble pc 900 then (bif Nat.beq pc 900 then some (.inl (oS 1 (s_ii (fun a b => a + b)))) else none) else (bif Nat.beq pc 901 then some (.inl (o_sld)) else none)) else (bif Nat.ble pc 902 then (bif Nat.beq pc 902 then some (.inl (oS 1 s_i2l)) else none) else (bif Nat.ble pc 903 then (bif Nat.beq pc 903 then some (.inl (oS 3 (s_push (.long 4294967295)))) else none) else (bif Nat.beq pc 906 then some (.inl (oS 1 (s_ll (fun a b => a &&& b)))) else none))))) else (bif Nat.ble pc 912 then (bif Nat.ble pc 908 then (bif Nat.ble pc 907 then (bif Nat.beq pc 907 then some (.inl (oS 1 (s_ll (fun a b => a ||| b)))) else none) else (bif Nat.beq pc 908 then some (.inl (o_al 0 1)) else none)) else (bif Nat.ble pc 909 then (bif Nat.beq pc 909 then some (.inl (o_il 4 2)) else none) else (bif Nat.ble pc 911 then (bif Nat.beq pc 911 then some (.inl (oS 1 (s_push (.int 3)))) else none) else (bif Nat.beq pc 912 then some (.inl (oS 1 (s_ii (fun a b => a + b)))) else none)))) else (bif Nat.ble pc 917 then (bif Nat.ble pc 913 then (bif Nat.beq pc 913 then some (.inl (o_sld)) else none) else (bif Nat.ble pc 914 then (bif Nat.beq pc 914 then some (.inr (3, 178, 3, 11)) else none) else (bif Nat.beq pc 917 then some (.inl (o_is 6 2)) else none))) else (bif Nat.ble pc 919 then (bif Nat.beq pc 919 then some (.inl (o_al 2 1)) else none) else (bif Nat.ble pc 920 then (bif Nat.beq pc 920 then some (.inr (3, 114, 1, 11)) else none) else (bif Nat.beq pc 923 then some (.inl (o_il 5 2)) else none)))))))) else (bif Nat.ble pc 983 then (bif Nat.ble pc 956 then (bif Nat.ble pc 940 then (bif Nat.ble pc 932 then (bif Nat.ble pc 928 then (bif Nat.ble pc 925 then (bif Nat.beq pc 925 then some (.inl (o_ceq 930)) else none) else (bif Nat.beq pc 928 then some (.inl (oS 1 (s_push (.int 0)))) else none)) else (bif Nat.ble pc 929 then (bif Nat.beq pc 929 then some (.inr (0, 0, 0, 4)) else none) else (bif Nat.ble pc 930 then (bif Nat.beq pc 930 then some (.inl (o_il 5 2)) else none) else (bif Nat.beq pc 932 then some (.inl (o_zne 947)) else none)))) else (bif Nat.ble pc 936 then (bif Nat.ble pc 935 then (bif Nat.beq pc 935 then some (.inl (o_al 3 1)) else none) else (bif Nat.beq pc 936 then some (.inl (oS 1 (s_push (.int 0)))) else none)) else (bif Nat.ble pc 937 then (bif Nat.beq pc 937 then some (.inl (o_lald)) else none) else (bif Nat.ble pc 938 then (bif Nat.beq pc 938 then some (.inl (o_il 6 2)) else none) else (bif Nat.beq pc 940 then some (.inl (oS 1 s_i2l)) else none))))) else (bif Nat.ble pc 947 then (bif Nat.ble pc 942 then (bif Nat.ble pc 941 then (bif Nat.beq pc 941 then some (.inl (oS 1 s_lcmp)) else none) else (bif Nat.beq pc 942 then some (.inl (o_zeq 947)) else none)) else (bif Nat.ble pc 945 then (bif Nat.beq pc 945 then some (.inl (oS 1 (s_push (.int 0)))) else none) else (bif Nat.ble pc 946 then (bif Nat.beq pc 946 then some (.inr (0, 0, 0, 4)) else none) else (bif Nat.beq pc 947 then some (.inl (o_goto 1042)) else none)))) else (bif Nat.ble pc 952 then (bif Nat.ble pc 950 then (bif Nat.beq pc 950 then some (.inl (o_al 1 1)) else none) else (bif Nat.ble pc 951 then (bif Nat.beq pc 951 then some (.inl (o_al 0 1)) else none) else (bif Nat.beq pc 952 then some (.inl (o_il 4 2)) else none))) else (bif Nat.ble pc 954 then (bif Nat.beq pc 954 then some (.inl (oS 1 (s_push (.int 1)))) else none) else (bif Nat.ble pc 955 then (bif Nat.beq pc 955 then some (.inl (oS 1 (s_ii (fun a b => a + b)))) else none) else (bif Nat.beq pc 956 then some (.inl (o_sld)) else none)))))) else (bif Nat.ble pc 968 then (bif Nat.ble pc 962 then (bif Nat.ble pc 958 then (bif Nat.ble pc 957 then (bif Nat.beq pc 957 then some (.inl (o_al 0 1)) else none) else (bif Nat.beq pc 958 then some (.inl (o_il 4 2)) else none)) else (bif Nat.ble pc 960 then (bif Nat.beq pc 960 then some (.inl (oS 1 (s_push (.int 2)))) else none) else (bif Nat.ble pc 961 then (bif Nat.beq pc 961 then some (.inl (oS 1 (s_ii (fun a b => a + b)))) else none) else (bif Nat.beq pc 962 then some (.inl (o_sld)) else none)))) else (bif Nat.ble pc 964 then (bif Nat.ble pc 963 then (bif Nat.beq pc 963 then some (.inl (o_al 0 1)) else none) else (bif Nat.beq pc 964 then some (.inl (o_il 4 2)) else none)) else (bif Nat.ble pc 966 then (bif Nat.beq pc 966 then some (.inl (oS 1 (s_push (.int 3)))) else none) else (bif Nat.ble pc 967 then (bif Nat.beq pc 967 then some (.inl (oS 1 (s_ii (fun a b => a + b)))) else none) else (bif Nat.beq pc 968 then some (.inl (o_sld)) else none))))) else (bif Nat.ble pc 974 then (bif Nat.ble pc 970 then (bif Nat.ble pc 969 then (bif Nat.beq pc 969 then some (.inl (o_al 0 1)) else none) else (bif Nat.beq pc 970 then some (.inl (o_il 4 2)) else none)) else (bif Nat.ble pc 972 then (bif Nat.beq pc 972 then some (.inl (oS 1 (s_push (.int 4)))) else none) else (bif Nat.ble pc 973 then (bif Nat.beq pc 973 then some (.inl (oS 1 (s_ii (fun a b => a + b)))) else none) else (bif Nat.beq pc 974 then some (.inl (o_sld)) else none)))) else (bif Nat.ble pc 979 then (bif Nat.ble pc 975 then (bif Nat.beq pc 975 then some (.inl (o_al 3 1)) else none) else (bif Nat.ble pc 976 then (bif Nat.beq pc 976 then some (.inr (11, 192, 6, 0)) else none) else (bif Nat.beq pc 979 then some (.inl (o_is 5 2)) else none))) else (bif Nat.ble pc 981 then (bif Nat.beq pc 981 then some (.inl (o_al 2 1)) else none) else (bif Nat.ble pc 982 then (bif Nat.beq pc 982 then some (.inl (o_al 0 1)) else none) else (bif Nat.beq pc 983 then some (.inl (o_il 4 2)) else none))))))) else (bif Nat.ble pc 1011 then (bif Nat.ble pc 995 then (bif Nat.ble pc 989 then (bif Nat.ble pc 986 then (bif Nat.ble pc 985 then (bif Nat.beq pc 985 then some (.inl (oS 1 (s_push (.int 1)))) else none) else (bif Nat.beq pc 986 then some (.inl (oS 1 (s_ii (fun a b => a + b)))) else none)) else (bif Nat.ble pc 987 then (bif Nat.beq pc 987 then some (.inl (o_sld)) else none) else (bif Nat.ble pc 988 then (bif Nat.beq pc 988 then some (.inl (o_al 0 1)) else none) else (bif Nat.beq pc 989 then some (.inl (o_il 4 2)) else none)))) else (bif Nat.ble pc 992 then (bif Nat.ble pc 991 then (bif Nat.beq pc 991 then some (.inl (oS 1 (s_push (.int 2)))) else none) else (bif Nat.beq pc 992 then some (.inl (oS 1 (s_ii (fun a b => a + b)))) else none)) else (bif Nat.ble pc 993 then (bif Nat.beq pc 993 then some (.inl (o_sld)) else none) else (bif Nat.ble pc 994 then (bif Nat.beq pc 994 then some (.inl (o_al 0 1)) else none) else (bif Nat.beq pc 995 then some (.inl (o_il 4 2)) else none))))) else (bif Nat.ble pc 1001 then (bif Nat.ble pc 998 then (bif Nat.ble pc 997 then (bif Nat.beq pc 997 then some (.inl (oS 1 (s_push (.int 3)))) else none) else (bif Nat.beq pc 998 then some (.inl (oS 1 (s_ii (fun a b => a + b)))) else none)) else (bif Nat.ble pc 999 then (bif Nat.beq pc 999 then some (.inl (o_sld)) else none) else (bif Nat.ble pc 1000 then (bif Nat.beq pc 1000 then some (.inl (o_al 0 1)) else none) else (bif Nat.beq pc 1001 then some (.inl (o_il 4 2)) else none)))) else (bif Nat.ble pc 1005 then (bif Nat.ble pc 1003 then (bif Nat.beq pc 1003 then some (.inl (oS 1 (s_push (.int 4)))) else none) else (bif Nat.ble pc 1004 then (bif Nat.beq pc 1004 then some (.inl (oS 1 (s_ii (fun a b => a + b)))) else none) else (bif Nat.beq pc 1005 then some (.inl (o_sld)) else none))) else (bif Nat.ble pc 1006 then (bif Nat.beq pc 1006 then some (.inr (3, 180, 5, 11)) else none) else (bif Nat.ble pc 1009 then (bif Nat.beq pc 1009 then some (.inl (o_is 6 2)) else none) else (bif Nat.beq pc 1011 then some (.inl (o_al 2 1)) else none)))))) else (bif Nat.ble pc 1029 then (bif Nat.ble pc 1021 then (bif Nat.ble pc 1015 then (bif Nat.ble pc 1012 then (bif Nat.beq pc 1012 then some (.inr (3, 114, 1, 11)) else none) else (bif Nat.beq pc 1015 then some (.inl (o_il 5 2)) else none)) else (bif Nat.ble pc 1017 then (bif Nat.beq pc 1017 then some (.inl (o_ceq 1022)) else none) else (bif Nat.ble pc 1020 then (bif Nat.beq pc 1020 then some (.inl (oS 1 (s_push (.int 0)))) else none) else (bif Nat.beq pc 1021 then some (.inr (0, 0, 0, 4)) else none)))) else (bif Nat.ble pc 1024 then (bif Nat.ble pc 1022 then (bif Nat.beq pc 1022 then some (.inl (o_il 5 2)) else none) else (bif Nat.beq pc 1024 then some (.inl (o_zne 1039)) else none)) else (bif Nat.ble pc 1027 then (bif Nat.beq pc 1027 then some (.inl (o_al 3 1)) else none) else (bif Nat.ble pc 1028 then (bif Nat.beq pc 1028 then some (.inl (oS 1 (s_push (.int 0)))) else none) else (bif Nat.beq pc 1029 then some (.inl (o_lald)) else none))))) else (bif Nat.ble pc 1037 then (bif Nat.ble pc 1032 then (bif Nat.ble pc 1030 then (bif Nat.beq pc 1030 then some (.inl (o_il 6 2)) else none) else (bif Nat.beq pc 1032 then some (.inl (oS 1 s_i2l)) else none)) else (bif Nat.ble pc 1033 then (bif Nat.beq pc 1033 then some (.inl (oS 1 s_lcmp)) else none) else (bif Nat.ble pc 1034 then (bif Nat.beq pc 1034 then some (.inl (o_zeq 1039)) else none) else (bif Nat.beq pc 1037 then some (.inl (oS 1 (s_push (.int 0)))) else none)))) else (bif Nat.ble pc 1042 then (bif Nat.ble pc 1038 then (bif Nat.beq pc 1038 then some (.inr (0, 0, 0, 4)) else none) else (bif Nat.ble pc 1039 then (bif Nat.beq pc 1039 then some (.inl (o_goto 1042)) else none) else (bif Nat.beq pc 1042 then some (.inl (o_inc 4 7)) else none))) else (bif Nat.ble pc 1045 then (bif Nat.beq pc 1045 then some (.inl (o_goto 23)) else none) else (bif Nat.ble pc 1048 then (bif Nat.beq pc 1048 then some (.inl (oS 1 (s_push (.int 1)))) else none) else (bif Nat.beq pc 1049 then some (.inr (0, 0, 0, 4)) else none))))))))))
theorem k_193_0 : mOk M_193.1 M_193.2.1 M_193.2.2.1 M_193.2.2.2 0 (o_new 10) := ok_new dL_law_0 cl_10 rfl m_91 m_92 m_70
theorem k_193_3 : mOk M_193.1 M_193.2.1 M_193.2.2.1 M_193.2.2.2 3 (oS 1 s_dup) := ok_dup dL_law_3
theorem k_193_7 : mOk M_193.1 M_193.2.1 M_193.2.2.1 M_193.2.2.2 7 (o_as 1 1) := ok_astore_n dL_law_7 rfl
theorem k_193_8 : mOk M_193.1 M_193.2.1 M_193.2.2.1 M_193.2.2.2 8 (o_new 11) := ok_new dL_law_8 cl_11 rfl m_1048 m_1049 m_81
theorem k_193_11 : mOk M_193.1 M_193.2.1 M_193.2.2.1 M_193.2.2.2 11 (oS 1 s_dup) := ok_dup dL_law_11
theorem k_193_15 : mOk M_193.1 M_193.2.1 M_193.2.2.1 M_193.2.2.2 15 (o_as 2 1) := ok_astore_n dL_law_15 rfl
theorem k_193_16 : mOk M_193.1 M_193.2.1 M_193.2.2.1 M_193.2.2.2 16 (oS 1 (s_push (.int 1))) := ok_iconst dL_law_16 (by decide)
theorem k_193_17 : mOk M_193.1 M_193.2.1 M_193.2.2.1 M_193.2.2.2 17 (o_newa 2) := ok_newa dL_law_17 (by decide) m_1208 (fun _ => rfl) (fun _ _ h => h) (by decide) rfl
theorem k_193_19 : mOk M_193.1 M_193.2.1 M_193.2.2.1 M_193.2.2.2 19 (o_as 3 1) := ok_astore_n dL_law_19 rfl
theorem k_193_20 : mOk M_193.1 M_193.2.1 M_193.2.2.1 M_193.2.2.2 20 (oS 1 (s_push (.int 0))) := ok_iconst dL_law_20 (by decide)
theorem k_193_21 : mOk M_193.1 M_193.2.1 M_193.2.2.1 M_193.2.2.2 21 (o_is 4 2) := ok_istore dL_law_21
theorem k_193_23 : mOk M_193.1 M_193.2.1 M_193.2.2.1 M_193.2.2.2 23 (o_il 4 2) := ok_iload dL_law_23
theorem k_193_25 : mOk M_193.1 M_193.2.1 M_193.2.2.1 M_193.2.2.2 25 (o_al 0 1) := ok_aload_n dL_law_25 rfl
theorem k_193_26 : mOk M_193.1 M_193.2.1 M_193.2.2.1 M_193.2.2.2 26 (o_slen) := ok_slen dL_law_26
theorem k_193_27 : mOk M_193.1 M_193.2.1 M_193.2.2.1 M_193.2.2.2 27 (oS 2 (s_push (.int 7))) := ok_bipush dL_law_27 (by decide)
theorem k_193_29 : mOk M_193.1 M_193.2.1 M_193.2.2.1 M_193.2.2.2 29 (oS 1 (s_ii (fun a b => a - b))) := ok_isub dL_law_29
theorem k_193_30 : mOk M_193.1 M_193.2.1 M_193.2.2.1 M_193.2.2.2 30 (o_cgt 1048) := ok_cgt dL_law_30 (by decide)
theorem k_193_33 : mOk M_193.1 M_193.2.1 M_193.2.2.1 M_193.2.2.2 33 (o_al 0 1) := ok_aload_n dL_law_33 rfl
theorem k_193_34 : mOk M_193.1 M_193.2.1 M_193.2.2.1 M_193.2.2.2 34 (o_il 4 2) := ok_iload dL_law_34
theorem k_193_36 : mOk M_193.1 M_193.2.1 M_193.2.2.1 M_193.2.2.2 36 (o_sld) := ok_sld dL_law_36
theorem k_193_37 : mOk M_193.1 M_193.2.1 M_193.2.2.1 M_193.2.2.2 37 (oS 2 (s_push (.int 15))) := ok_bipush dL_law_37 (by decide)
theorem k_193_39 : mOk M_193.1 M_193.2.1 M_193.2.2.1 M_193.2.2.2 39 (oS 1 (s_ii (fun a b => a &&& b))) := ok_iand dL_law_39
theorem k_193_40 : mOk M_193.1 M_193.2.1 M_193.2.2.1 M_193.2.2.2 40 (o_tsw 0 15 [120, 157, 295, 320, 333, 425, 450, 534, 590, 627, 676, 701, 769, 806, 850, 950] 1042) := ok_tsw dL_law_40 (by decide) (by decide) (by decide)
theorem k_193_120 : mOk M_193.1 M_193.2.1 M_193.2.2.1 M_193.2.2.2 120 (o_al 1 1) := ok_aload_n dL_law_120 rfl
theorem k_193_121 : mOk M_193.1 M_193.2.1 M_193.2.2.1 M_193.2.2.2 121 (o_al 0 1) := ok_aload_n dL_law_121 rfl
theorem k_193_122 : mOk M_193.1 M_193.2.1 M_193.2.2.1 M_193.2.2.2 122 (o_il 4 2) := ok_iload dL_law_122
theorem k_193_124 : mOk M_193.1 M_193.2.1 M_193.2.2.1 M_193.2.2.2 124 (oS 1 (s_push (.int 1))) := ok_iconst dL_law_124 (by decide)
theorem k_193_125 : mOk M_193.1 M_193.2.1 M_193.2.2.1 M_193.2.2.2 125 (oS 1 (s_ii (fun a b => a + b))) := ok_iadd dL_law_125
theorem k_193_126 : mOk M_193.1 M_193.2.1 M_193.2.2.1 M_193.2.2.2 126 (o_sld) := ok_sld dL_law_126
theorem k_193_127 : mOk M_193.1 M_193.2.1 M_193.2.2.1 M_193.2.2.2 127 (o_al 0 1) := ok_aload_n dL_law_127 rfl
theorem k_193_128 : mOk M_193.1 M_193.2.1 M_193.2.2.1 M_193.2.2.2 128 (o_il 4 2) := ok_iload dL_law_128
theorem k_193_130 : mOk M_193.1 M_193.2.1 M_193.2.2.1 M_193.2.2.2 130 (oS 1 (s_push (.int 2))) := ok_iconst dL_law_130 (by decide)
theorem k_193_131 : mOk M_193.1 M_193.2.1 M_193.2.2.1 M_193.2.2.2 131 (oS 1 (s_ii (fun a b => a + b))) := ok_iadd dL_law_131
theorem k_193_132 : mOk M_193.1 M_193.2.1 M_193.2.2.1 M_193.2.2.2 132 (o_sld) := ok_sld dL_law_132
theorem k_193_136 : mOk M_193.1 M_193.2.1 M_193.2.2.1 M_193.2.2.2 136 (o_al 2 1) := ok_aload_n dL_law_136 rfl
theorem k_193_137 : mOk M_193.1 M_193.2.1 M_193.2.2.1 M_193.2.2.2 137 (o_al 0 1) := ok_aload_n dL_law_137 rfl
theorem k_193_138 : mOk M_193.1 M_193.2.1 M_193.2.2.1 M_193.2.2.2 138 (o_il 4 2) := ok_iload dL_law_138
theorem k_193_140 : mOk M_193.1 M_193.2.1 M_193.2.2.1 M_193.2.2.2 140 (oS 1 (s_push (.int 1))) := ok_iconst dL_law_140 (by decide)
theorem k_193_141 : mOk M_193.1 M_193.2.1 M_193.2.2.1 M_193.2.2.2 141 (oS 1 (s_ii (fun a b => a + b))) := ok_iadd dL_law_141
theorem k_193_142 : mOk M_193.1 M_193.2.1 M_193.2.2.1 M_193.2.2.2 142 (o_sld) := ok_sld dL_law_142
theorem k_193_143 : mOk M_193.1 M_193.2.1 M_193.2.2.1 M_193.2.2.2 143 (o_al 0 1) := ok_aload_n dL_law_143 rfl
theorem k_193_144 : mOk M_193.1 M_193.2.1 M_193.2.2.1 M_193.2.2.2 144 (o_il 4 2) := ok_iload dL_law_144
theorem k_193_146 : mOk M_193.1 M_193.2.1 M_193.2.2.1 M_193.2.2.2 146 (oS 1 (s_push (.int 2))) := ok_iconst dL_law_146 (by decide)
theorem k_193_147 : mOk M_193.1 M_193.2.1 M_193.2.2.1 M_193.2.2.2 147 (oS 1 (s_ii (fun a b => a + b))) := ok_iadd dL_law_147
theorem k_193_148 : mOk M_193.1 M_193.2.1 M_193.2.2.1 M_193.2.2.2 148 (o_sld) := ok_sld dL_law_148
theorem k_193_152 : mOk M_193.1 M_193.2.1 M_193.2.2.1 M_193.2.2.2 152 (o_ceq 1042) := ok_ceq dL_law_152 (by decide)
theorem k_193_155 : mOk M_193.1 M_193.2.1 M_193.2.2.1 M_193.2.2.2 155 (oS 1 (s_push (.int 0))) := ok_iconst dL_law_155 (by decide)
theorem k_193_157 : mOk M_193.1 M_193.2.1 M_193.2.2.1 M_193.2.2.2 157 (o_al 1 1) := ok_aload_n dL_law_157 rfl
theorem k_193_158 : mOk M_193.1 M_193.2.1 M_193.2.2.1 M_193.2.2.2 158 (o_al 0 1) := ok_aload_n dL_law_158 rfl
theorem k_193_159 : mOk M_193.1 M_193.2.1 M_193.2.2.1 M_193.2.2.2 159 (o_il 4 2) := ok_iload dL_law_159
theorem k_193_161 : mOk M_193.1 M_193.2.1 M_193.2.2.1 M_193.2.2.2 161 (oS 1 (s_push (.int 1))) := ok_iconst dL_law_161 (by decide)
theorem k_193_162 : mOk M_193.1 M_193.2.1 M_193.2.2.1 M_193.2.2.2 162 (oS 1 (s_ii (fun a b => a + b))) := ok_iadd dL_law_162
theorem k_193_163 : mOk M_193.1 M_193.2.1 M_193.2.2.1 M_193.2.2.2 163 (o_sld) := ok_sld dL_law_163
theorem k_193_164 : mOk M_193.1 M_193.2.1 M_193.2.2.1 M_193.2.2.2 164 (o_al 0 1) := ok_aload_n dL_law_164 rfl
theorem k_193_165 : mOk M_193.1 M_193.2.1 M_193.2.2.1 M_193.2.2.2 165 (o_il 4 2) := ok_iload dL_law_165
theorem k_193_167 : mOk M_193.1 M_193.2.1 M_193.2.2.1 M_193.2.2.2 167 (oS 1 (s_push (.int 2))) := ok_iconst dL_law_167 (by decide)
theorem k_193_168 : mOk M_193.1 M_193.2.1 M_193.2.2.1 M_193.2.2.2 168 (oS 1 (s_ii (fun a b => a + b))) := ok_iadd dL_law_168
theorem k_193_169 : mOk M_193.1 M_193.2.1 M_193.2.2.1 M_193.2.2.2 169 (o_sld) := ok_sld dL_law_169
theorem k_193_170 : mOk M_193.1 M_193.2.1 M_193.2.2.1 M_193.2.2.2 170 (o_al 0 1) := ok_aload_n dL_law_170 rfl
theorem k_193_171 : mOk M_193.1 M_193.2.1 M_193.2.2.1 M_193.2.2.2 171 (o_il 4 2) := ok_iload dL_law_171
theorem k_193_173 : mOk M_193.1 M_193.2.1 M_193.2.2.1 M_193.2.2.2 173 (oS 1 (s_push (.int 3))) := ok_iconst dL_law_173 (by decide)
theorem k_193_174 : mOk M_193.1 M_193.2.1 M_193.2.2.1 M_193.2.2.2 174 (oS 1 (s_ii (fun a b => a + b))) := ok_iadd dL_law_174
theorem k_193_175 : mOk M_193.1 M_193.2.1 M_193.2.2.1 M_193.2.2.2 175 (o_sld) := ok_sld dL_law_175
theorem k_193_176 : mOk M_193.1 M_193.2.1 M_193.2.2.1 M_193.2.2.2 176 (o_al 0 1) := ok_aload_n dL_law_176 rfl
theorem k_193_177 : mOk M_193.1 M_193.2.1 M_193.2.2.1 M_193.2.2.2 177 (o_il 4 2) := ok_iload dL_law_177
theorem k_193_179 : mOk M_193.1 M_193.2.1 M_193.2.2.1 M_193.2.2.2 179 (oS 1 (s_push (.int 4))) := ok_iconst dL_law_179 (by decide)
theorem k_193_180 : mOk M_193.1 M_193.2.1 M_193.2.2.1 M_193.2.2.2 180 (oS 1 (s_ii (fun a b => a + b))) := ok_iadd dL_law_180
theorem k_193_181 : mOk M_193.1 M_193.2.1 M_193.2.2.1 M_193.2.2.2 181 (o_sld) := ok_sld dL_law_181
theorem k_193_182 : mOk M_193.1 M_193.2.1 M_193.2.2.1 M_193.2.2.2 182 (o_al 0 1) := ok_aload_n dL_law_182 rfl
theorem k_193_183 : mOk M_193.1 M_193.2.1 M_193.2.2.1 M_193.2.2.2 183 (o_il 4 2) := ok_iload dL_law_183
theorem k_193_185 : mOk M_193.1 M_193.2.1 M_193.2.2.1 M_193.2.2.2 185 (oS 1 (s_push (.int 5))) := ok_iconst dL_law_185 (by decide)
theorem k_193_186 : mOk M_193.1 M_193.2.1 M_193.2.2.1 M_193.2.2.2 186 (oS 1 (s_ii (fun a b => a + b))) := ok_iadd dL_law_186
theorem k_193_187 : mOk M_193.1 M_193.2.1 M_193.2.2.1 M_193.2.2.2 187 (o_sld) := ok_sld dL_law_187
theorem k_193_188 : mOk M_193.1 M_193.2.1 M_193.2.2.1 M_193.2.2.2 188 (oS 1 s_i2l) := ok_i2l dL_law_188
theorem k_193_189 : mOk M_193.1 M_193.2.1 M_193.2.2.1 M_193.2.2.2 189 (oS 2 (s_push (.int 32))) := ok_bipush dL_law_189 (by decide)
theorem k_193_191 : mOk M_193.1 M_193.2.1 M_193.2.2.1 M_193.2.2.2 191 (oS 1 (s_li (fun a b => a <<< (b.toInt64 &&& 63)))) := ok_lshl dL_law_191
theorem k_193_192 : mOk M_193.1 M_193.2.1 M_193.2.2.1 M_193.2.2.2 192 (o_al 0 1) := ok_aload_n dL_law_192 rfl
theorem k_193_193 : mOk M_193.1 M_193.2.1 M_193.2.2.1 M_193.2.2.2 193 (o_il 4 2) := ok_iload dL_law_193
theorem k_193_195 : mOk M_193.1 M_193.2.1 M_193.2.2.1 M_193.2.2.2 195 (oS 2 (s_push (.int 6))) := ok_bipush dL_law_195 (by decide)
theorem k_193_197 : mOk M_193.1 M_193.2.1 M_193.2.2.1 M_193.2.2.2 197 (oS 1 (s_ii (fun a b => a + b))) := ok_iadd dL_law_197
theorem k_193_198 : mOk M_193.1 M_193.2.1 M_193.2.2.1 M_193.2.2.2 198 (o_sld) := ok_sld dL_law_198
theorem k_193_199 : mOk M_193.1 M_193.2.1 M_193.2.2.1 M_193.2.2.2 199 (oS 1 s_i2l) := ok_i2l dL_law_199
theorem k_193_200 : mOk M_193.1 M_193.2.1 M_193.2.2.1 M_193.2.2.2 200 (oS 3 (s_push (.long 4294967295))) := ok_ldc2 dL_law_200 m_1470
theorem k_193_203 : mOk M_193.1 M_193.2.1 M_193.2.2.1 M_193.2.2.2 203 (oS 1 (s_ll (fun a b => a &&& b))) := ok_land dL_law_203
theorem k_193_204 : mOk M_193.1 M_193.2.1 M_193.2.2.1 M_193.2.2.2 204 (oS 1 (s_ll (fun a b => a ||| b))) := ok_lor dL_law_204
theorem k_193_205 : mOk M_193.1 M_193.2.1 M_193.2.2.1 M_193.2.2.2 205 (o_al 3 1) := ok_aload_n dL_law_205 rfl
theorem k_193_209 : mOk M_193.1 M_193.2.1 M_193.2.2.1 M_193.2.2.2 209 (o_is 5 2) := ok_istore dL_law_209
theorem k_193_211 : mOk M_193.1 M_193.2.1 M_193.2.2.1 M_193.2.2.2 211 (o_al 2 1) := ok_aload_n dL_law_211 rfl
theorem k_193_212 : mOk M_193.1 M_193.2.1 M_193.2.2.1 M_193.2.2.2 212 (o_al 0 1) := ok_aload_n dL_law_212 rfl
theorem k_193_213 : mOk M_193.1 M_193.2.1 M_193.2.2.1 M_193.2.2.2 213 (o_il 4 2) := ok_iload dL_law_213
theorem k_193_215 : mOk M_193.1 M_193.2.1 M_193.2.2.1 M_193.2.2.2 215 (oS 1 (s_push (.int 1))) := ok_iconst dL_law_215 (by decide)
theorem k_193_216 : mOk M_193.1 M_193.2.1 M_193.2.2.1 M_193.2.2.2 216 (oS 1 (s_ii (fun a b => a + b))) := ok_iadd dL_law_216
theorem k_193_217 : mOk M_193.1 M_193.2.1 M_193.2.2.1 M_193.2.2.2 217 (o_sld) := ok_sld dL_law_217
theorem k_193_218 : mOk M_193.1 M_193.2.1 M_193.2.2.1 M_193.2.2.2 218 (o_al 0 1) := ok_aload_n dL_law_218 rfl
theorem k_193_219 : mOk M_193.1 M_193.2.1 M_193.2.2.1 M_193.2.2.2 219 (o_il 4 2) := ok_iload dL_law_219
theorem k_193_221 : mOk M_193.1 M_193.2.1 M_193.2.2.1 M_193.2.2.2 221 (oS 1 (s_push (.int 2))) := ok_iconst dL_law_221 (by decide)
theorem k_193_222 : mOk M_193.1 M_193.2.1 M_193.2.2.1 M_193.2.2.2 222 (oS 1 (s_ii (fun a b => a + b))) := ok_iadd dL_law_222
theorem k_193_223 : mOk M_193.1 M_193.2.1 M_193.2.2.1 M_193.2.2.2 223 (o_sld) := ok_sld dL_law_223
theorem k_193_224 : mOk M_193.1 M_193.2.1 M_193.2.2.1 M_193.2.2.2 224 (o_al 0 1) := ok_aload_n dL_law_224 rfl
theorem k_193_225 : mOk M_193.1 M_193.2.1 M_193.2.2.1 M_193.2.2.2 225 (o_il 4 2) := ok_iload dL_law_225
theorem k_193_227 : mOk M_193.1 M_193.2.1 M_193.2.2.1 M_193.2.2.2 227 (oS 1 (s_push (.int 3))) := ok_iconst dL_law_227 (by decide)
theorem k_193_228 : mOk M_193.1 M_193.2.1 M_193.2.2.1 M_193.2.2.2 228 (oS 1 (s_ii (fun a b => a + b))) := ok_iadd dL_law_228
theorem k_193_229 : mOk M_193.1 M_193.2.1 M_193.2.2.1 M_193.2.2.2 229 (o_sld) := ok_sld dL_law_229
theorem k_193_230 : mOk M_193.1 M_193.2.1 M_193.2.2.1 M_193.2.2.2 230 (o_al 0 1) := ok_aload_n dL_law_230 rfl
theorem k_193_231 : mOk M_193.1 M_193.2.1 M_193.2.2.1 M_193.2.2.2 231 (o_il 4 2) := ok_iload dL_law_231
theorem k_193_233 : mOk M_193.1 M_193.2.1 M_193.2.2.1 M_193.2.2.2 233 (oS 1 (s_push (.int 4))) := ok_iconst dL_law_233 (by decide)
theorem k_193_234 : mOk M_193.1 M_193.2.1 M_193.2.2.1 M_193.2.2.2 234 (oS 1 (s_ii (fun a b => a + b))) := ok_iadd dL_law_234
theorem k_193_235 : mOk M_193.1 M_193.2.1 M_193.2.2.1 M_193.2.2.2 235 (o_sld) := ok_sld dL_law_235
theorem k_193_236 : mOk M_193.1 M_193.2.1 M_193.2.2.1 M_193.2.2.2 236 (o_al 0 1) := ok_aload_n dL_law_236 rfl
theorem k_193_237 : mOk M_193.1 M_193.2.1 M_193.2.2.1 M_193.2.2.2 237 (o_il 4 2) := ok_iload dL_law_237
theorem k_193_239 : mOk M_193.1 M_193.2.1 M_193.2.2.1 M_193.2.2.2 239 (oS 1 (s_push (.int 5))) := ok_iconst dL_law_239 (by decide)
theorem k_193_240 : mOk M_193.1 M_193.2.1 M_193.2.2.1 M_193.2.2.2 240 (oS 1 (s_ii (fun a b => a + b))) := ok_iadd dL_law_240
theorem k_193_241 : mOk M_193.1 M_193.2.1 M_193.2.2.1 M_193.2.2.2 241 (o_sld) := ok_sld dL_law_241
theorem k_193_242 : mOk M_193.1 M_193.2.1 M_193.2.2.1 M_193.2.2.2 242 (oS 1 s_i2l) := ok_i2l dL_law_242
theorem k_193_243 : mOk M_193.1 M_193.2.1 M_193.2.2.1 M_193.2.2.2 243 (oS 2 (s_push (.int 32))) := ok_bipush dL_law_243 (by decide)
theorem k_193_245 : mOk M_193.1 M_193.2.1 M_193.2.2.1 M_193.2.2.2 245 (oS 1 (s_li (fun a b => a <<< (b.toInt64 &&& 63)))) := ok_lshl dL_law_245
theorem k_193_246 : mOk M_193.1 M_193.2.1 M_193.2.2.1 M_193.2.2.2 246 (o_al 0 1) := ok_aload_n dL_law_246 rfl
theorem k_193_247 : mOk M_193.1 M_193.2.1 M_193.2.2.1 M_193.2.2.2 247 (o_il 4 2) := ok_iload dL_law_247
theorem k_193_249 : mOk M_193.1 M_193.2.1 M_193.2.2.1 M_193.2.2.2 249 (oS 2 (s_push (.int 6))) := ok_bipush dL_law_249 (by decide)
theorem k_193_251 : mOk M_193.1 M_193.2.1 M_193.2.2.1 M_193.2.2.2 251 (oS 1 (s_ii (fun a b => a + b))) := ok_iadd dL_law_251
theorem k_193_252 : mOk M_193.1 M_193.2.1 M_193.2.2.1 M_193.2.2.2 252 (o_sld) := ok_sld dL_law_252
theorem k_193_253 : mOk M_193.1 M_193.2.1 M_193.2.2.1 M_193.2.2.2 253 (oS 1 s_i2l) := ok_i2l dL_law_253
theorem k_193_254 : mOk M_193.1 M_193.2.1 M_193.2.2.1 M_193.2.2.2 254 (oS 3 (s_push (.long 4294967295))) := ok_ldc2 dL_law_254 m_1470
theorem k_193_257 : mOk M_193.1 M_193.2.1 M_193.2.2.1 M_193.2.2.2 257 (oS 1 (s_ll (fun a b => a &&& b))) := ok_land dL_law_257
theorem k_193_258 : mOk M_193.1 M_193.2.1 M_193.2.2.1 M_193.2.2.2 258 (oS 1 (s_ll (fun a b => a ||| b))) := ok_lor dL_law_258
theorem k_193_262 : mOk M_193.1 M_193.2.1 M_193.2.2.1 M_193.2.2.2 262 (o_is 6 2) := ok_istore dL_law_262
theorem k_193_264 : mOk M_193.1 M_193.2.1 M_193.2.2.1 M_193.2.2.2 264 (o_al 2 1) := ok_aload_n dL_law_264 rfl
theorem k_193_268 : mOk M_193.1 M_193.2.1 M_193.2.2.1 M_193.2.2.2 268 (o_il 5 2) := ok_iload dL_law_268
theorem k_193_270 : mOk M_193.1 M_193.2.1 M_193.2.2.1 M_193.2.2.2 270 (o_ceq 275) := ok_ceq dL_law_270 (by decide)
theorem k_193_273 : mOk M_193.1 M_193.2.1 M_193.2.2.1 M_193.2.2.2 273 (oS 1 (s_push (.int 0))) := ok_iconst dL_law_273 (by decide)
theorem k_193_275 : mOk M_193.1 M_193.2.1 M_193.2.2.1 M_193.2.2.2 275 (o_il 5 2) := ok_iload dL_law_275
theorem k_193_277 : mOk M_193.1 M_193.2.1 M_193.2.2.1 M_193.2.2.2 277 (o_zne 292) := ok_zne dL_law_277 (by decide)
theorem k_193_280 : mOk M_193.1 M_193.2.1 M_193.2.2.1 M_193.2.2.2 280 (o_al 3 1) := ok_aload_n dL_law_280 rfl
theorem k_193_281 : mOk M_193.1 M_193.2.1 M_193.2.2.1 M_193.2.2.2 281 (oS 1 (s_push (.int 0))) := ok_iconst dL_law_281 (by decide)
theorem k_193_282 : mOk M_193.1 M_193.2.1 M_193.2.2.1 M_193.2.2.2 282 (o_lald) := ok_lald dL_law_282
theorem k_193_283 : mOk M_193.1 M_193.2.1 M_193.2.2.1 M_193.2.2.2 283 (o_il 6 2) := ok_iload dL_law_283
theorem k_193_285 : mOk M_193.1 M_193.2.1 M_193.2.2.1 M_193.2.2.2 285 (oS 1 s_i2l) := ok_i2l dL_law_285
theorem k_193_286 : mOk M_193.1 M_193.2.1 M_193.2.2.1 M_193.2.2.2 286 (oS 1 s_lcmp) := ok_lcmp dL_law_286
theorem k_193_287 : mOk M_193.1 M_193.2.1 M_193.2.2.1 M_193.2.2.2 287 (o_zeq 292) := ok_zeq dL_law_287 (by decide)
theorem k_193_290 : mOk M_193.1 M_193.2.1 M_193.2.2.1 M_193.2.2.2 290 (oS 1 (s_push (.int 0))) := ok_iconst dL_law_290 (by decide)
theorem k_193_292 : mOk M_193.1 M_193.2.1 M_193.2.2.1 M_193.2.2.2 292 (o_goto 1042) := ok_goto dL_law_292 (by decide)
theorem k_193_295 : mOk M_193.1 M_193.2.1 M_193.2.2.1 M_193.2.2.2 295 (o_al 1 1) := ok_aload_n dL_law_295 rfl
theorem k_193_296 : mOk M_193.1 M_193.2.1 M_193.2.2.1 M_193.2.2.2 296 (o_al 0 1) := ok_aload_n dL_law_296 rfl
theorem k_193_297 : mOk M_193.1 M_193.2.1 M_193.2.2.1 M_193.2.2.2 297 (o_il 4 2) := ok_iload dL_law_297
theorem k_193_299 : mOk M_193.1 M_193.2.1 M_193.2.2.1 M_193.2.2.2 299 (oS 1 (s_push (.int 1))) := ok_iconst dL_law_299 (by decide)
theorem k_193_300 : mOk M_193.1 M_193.2.1 M_193.2.2.1 M_193.2.2.2 300 (oS 1 (s_ii (fun a b => a + b))) := ok_iadd dL_law_300
theorem k_193_301 : mOk M_193.1 M_193.2.1 M_193.2.2.1 M_193.2.2.2 301 (o_sld) := ok_sld dL_law_301
theorem k_193_305 : mOk M_193.1 M_193.2.1 M_193.2.2.1 M_193.2.2.2 305 (o_al 2 1) := ok_aload_n dL_law_305 rfl
theorem k_193_306 : mOk M_193.1 M_193.2.1 M_193.2.2.1 M_193.2.2.2 306 (o_al 0 1) := ok_aload_n dL_law_306 rfl
theorem k_193_307 : mOk M_193.1 M_193.2.1 M_193.2.2.1 M_193.2.2.2 307 (o_il 4 2) := ok_iload dL_law_307
theorem k_193_309 : mOk M_193.1 M_193.2.1 M_193.2.2.1 M_193.2.2.2 309 (oS 1 (s_push (.int 1))) := ok_iconst dL_law_309 (by decide)
theorem k_193_310 : mOk M_193.1 M_193.2.1 M_193.2.2.1 M_193.2.2.2 310 (oS 1 (s_ii (fun a b => a + b))) := ok_iadd dL_law_310
theorem k_193_311 : mOk M_193.1 M_193.2.1 M_193.2.2.1 M_193.2.2.2 311 (o_sld) := ok_sld dL_law_311
theorem k_193_315 : mOk M_193.1 M_193.2.1 M_193.2.2.1 M_193.2.2.2 315 (o_ceq 1042) := ok_ceq dL_law_315 (by decide)
theorem k_193_318 : mOk M_193.1 M_193.2.1 M_193.2.2.1 M_193.2.2.2 318 (oS 1 (s_push (.int 0))) := ok_iconst dL_law_318 (by decide)
theorem k_193_320 : mOk M_193.1 M_193.2.1 M_193.2.2.1 M_193.2.2.2 320 (o_al 1 1) := ok_aload_n dL_law_320 rfl
theorem k_193_324 : mOk M_193.1 M_193.2.1 M_193.2.2.1 M_193.2.2.2 324 (o_al 2 1) := ok_aload_n dL_law_324 rfl
theorem k_193_328 : mOk M_193.1 M_193.2.1 M_193.2.2.1 M_193.2.2.2 328 (o_ceq 1042) := ok_ceq dL_law_328 (by decide)
theorem k_193_331 : mOk M_193.1 M_193.2.1 M_193.2.2.1 M_193.2.2.2 331 (oS 1 (s_push (.int 0))) := ok_iconst dL_law_331 (by decide)
theorem k_193_333 : mOk M_193.1 M_193.2.1 M_193.2.2.1 M_193.2.2.2 333 (o_al 1 1) := ok_aload_n dL_law_333 rfl
theorem k_193_334 : mOk M_193.1 M_193.2.1 M_193.2.2.1 M_193.2.2.2 334 (o_al 0 1) := ok_aload_n dL_law_334 rfl
theorem k_193_335 : mOk M_193.1 M_193.2.1 M_193.2.2.1 M_193.2.2.2 335 (o_il 4 2) := ok_iload dL_law_335
theorem k_193_337 : mOk M_193.1 M_193.2.1 M_193.2.2.1 M_193.2.2.2 337 (oS 1 (s_push (.int 1))) := ok_iconst dL_law_337 (by decide)
theorem k_193_338 : mOk M_193.1 M_193.2.1 M_193.2.2.1 M_193.2.2.2 338 (oS 1 (s_ii (fun a b => a + b))) := ok_iadd dL_law_338
theorem k_193_339 : mOk M_193.1 M_193.2.1 M_193.2.2.1 M_193.2.2.2 339 (o_sld) := ok_sld dL_law_339
theorem k_193_340 : mOk M_193.1 M_193.2.1 M_193.2.2.1 M_193.2.2.2 340 (o_al 0 1) := ok_aload_n dL_law_340 rfl
theorem k_193_341 : mOk M_193.1 M_193.2.1 M_193.2.2.1 M_193.2.2.2 341 (o_il 4 2) := ok_iload dL_law_341
theorem k_193_343 : mOk M_193.1 M_193.2.1 M_193.2.2.1 M_193.2.2.2 343 (oS 1 (s_push (.int 2))) := ok_iconst dL_law_343 (by decide)
theorem k_193_344 : mOk M_193.1 M_193.2.1 M_193.2.2.1 M_193.2.2.2 344 (oS 1 (s_ii (fun a b => a + b))) := ok_iadd dL_law_344
theorem k_193_345 : mOk M_193.1 M_193.2.1 M_193.2.2.1 M_193.2.2.2 345 (o_sld) := ok_sld dL_law_345
theorem k_193_346 : mOk M_193.1 M_193.2.1 M_193.2.2.1 M_193.2.2.2 346 (o_al 0 1) := ok_aload_n dL_law_346 rfl
theorem k_193_347 : mOk M_193.1 M_193.2.1 M_193.2.2.1 M_193.2.2.2 347 (o_il 4 2) := ok_iload dL_law_347
theorem k_193_349 : mOk M_193.1 M_193.2.1 M_193.2.2.1 M_193.2.2.2 349 (oS 1 (s_push (.int 3))) := ok_iconst dL_law_349 (by decide)
theorem k_193_350 : mOk M_193.1 M_193.2.1 M_193.2.2.1 M_193.2.2.2 350 (oS 1 (s_ii (fun a b => a + b))) := ok_iadd dL_law_350
theorem k_193_351 : mOk M_193.1 M_193.2.1 M_193.2.2.1 M_193.2.2.2 351 (o_sld) := ok_sld dL_law_351
theorem k_193_352 : mOk M_193.1 M_193.2.1 M_193.2.2.1 M_193.2.2.2 352 (o_al 0 1) := ok_aload_n dL_law_352 rfl
theorem k_193_353 : mOk M_193.1 M_193.2.1 M_193.2.2.1 M_193.2.2.2 353 (o_il 4 2) := ok_iload dL_law_353
theorem k_193_355 : mOk M_193.1 M_193.2.1 M_193.2.2.1 M_193.2.2.2 355 (oS 1 (s_push (.int 4))) := ok_iconst dL_law_355 (by decide)
theorem k_193_356 : mOk M_193.1 M_193.2.1 M_193.2.2.1 M_193.2.2.2 356 (oS 1 (s_ii (fun a b => a + b))) := ok_iadd dL_law_356
theorem k_193_357 : mOk M_193.1 M_193.2.1 M_193.2.2.1 M_193.2.2.2 357 (o_sld) := ok_sld dL_law_357
theorem k_193_358 : mOk M_193.1 M_193.2.1 M_193.2.2.1 M_193.2.2.2 358 (o_al 3 1) := ok_aload_n dL_law_358 rfl
theorem k_193_362 : mOk M_193.1 M_193.2.1 M_193.2.2.1 M_193.2.2.2 362 (o_is 5 2) := ok_istore dL_law_362
theorem k_193_364 : mOk M_193.1 M_193.2.1 M_193.2.2.1 M_193.2.2.2 364 (o_al 2 1) := ok_aload_n dL_law_364 rfl
theorem k_193_365 : mOk M_193.1 M_193.2.1 M_193.2.2.1 M_193.2.2.2 365 (o_al 0 1) := ok_aload_n dL_law_365 rfl
theorem k_193_366 : mOk M_193.1 M_193.2.1 M_193.2.2.1 M_193.2.2.2 366 (o_il 4 2) := ok_iload dL_law_366
theorem k_193_368 : mOk M_193.1 M_193.2.1 M_193.2.2.1 M_193.2.2.2 368 (oS 1 (s_push (.int 1))) := ok_iconst dL_law_368 (by decide)
theorem k_193_369 : mOk M_193.1 M_193.2.1 M_193.2.2.1 M_193.2.2.2 369 (oS 1 (s_ii (fun a b => a + b))) := ok_iadd dL_law_369
theorem k_193_370 : mOk M_193.1 M_193.2.1 M_193.2.2.1 M_193.2.2.2 370 (o_sld) := ok_sld dL_law_370
theorem k_193_371 : mOk M_193.1 M_193.2.1 M_193.2.2.1 M_193.2.2.2 371 (o_al 0 1) := ok_aload_n dL_law_371 rfl
theorem k_193_372 : mOk M_193.1 M_193.2.1 M_193.2.2.1 M_193.2.2.2 372 (o_il 4 2) := ok_iload dL_law_372
theorem k_193_374 : mOk M_193.1 M_193.2.1 M_193.2.2.1 M_193.2.2.2 374 (oS 1 (s_push (.int 2))) := ok_iconst dL_law_374 (by decide)
theorem k_193_375 : mOk M_193.1 M_193.2.1 M_193.2.2.1 M_193.2.2.2 375 (oS 1 (s_ii (fun a b => a + b))) := ok_iadd dL_law_375
theorem k_193_376 : mOk M_193.1 M_193.2.1 M_193.2.2.1 M_193.2.2.2 376 (o_sld) := ok_sld dL_law_376
theorem k_193_377 : mOk M_193.1 M_193.2.1 M_193.2.2.1 M_193.2.2.2 377 (o_al 0 1) := ok_aload_n dL_law_377 rfl
theorem k_193_378 : mOk M_193.1 M_193.2.1 M_193.2.2.1 M_193.2.2.2 378 (o_il 4 2) := ok_iload dL_law_378
theorem k_193_380 : mOk M_193.1 M_193.2.1 M_193.2.2.1 M_193.2.2.2 380 (oS 1 (s_push (.int 3))) := ok_iconst dL_law_380 (by decide)
theorem k_193_381 : mOk M_193.1 M_193.2.1 M_193.2.2.1 M_193.2.2.2 381 (oS 1 (s_ii (fun a b => a + b))) := ok_iadd dL_law_381
theorem k_193_382 : mOk M_193.1 M_193.2.1 M_193.2.2.1 M_193.2.2.2 382 (o_sld) := ok_sld dL_law_382
theorem k_193_383 : mOk M_193.1 M_193.2.1 M_193.2.2.1 M_193.2.2.2 383 (o_al 0 1) := ok_aload_n dL_law_383 rfl
theorem k_193_384 : mOk M_193.1 M_193.2.1 M_193.2.2.1 M_193.2.2.2 384 (o_il 4 2) := ok_iload dL_law_384
theorem k_193_386 : mOk M_193.1 M_193.2.1 M_193.2.2.1 M_193.2.2.2 386 (oS 1 (s_push (.int 4))) := ok_iconst dL_law_386 (by decide)
theorem k_193_387 : mOk M_193.1 M_193.2.1 M_193.2.2.1 M_193.2.2.2 387 (oS 1 (s_ii (fun a b => a + b))) := ok_iadd dL_law_387
theorem k_193_388 : mOk M_193.1 M_193.2.1 M_193.2.2.1 M_193.2.2.2 388 (o_sld) := ok_sld dL_law_388
theorem k_193_392 : mOk M_193.1 M_193.2.1 M_193.2.2.1 M_193.2.2.2 392 (o_is 6 2) := ok_istore dL_law_392
theorem k_193_394 : mOk M_193.1 M_193.2.1 M_193.2.2.1 M_193.2.2.2 394 (o_al 2 1) := ok_aload_n dL_law_394 rfl
theorem k_193_398 : mOk M_193.1 M_193.2.1 M_193.2.2.1 M_193.2.2.2 398 (o_il 5 2) := ok_iload dL_law_398
theorem k_193_400 : mOk M_193.1 M_193.2.1 M_193.2.2.1 M_193.2.2.2 400 (o_ceq 405) := ok_ceq dL_law_400 (by decide)
theorem k_193_403 : mOk M_193.1 M_193.2.1 M_193.2.2.1 M_193.2.2.2 403 (oS 1 (s_push (.int 0))) := ok_iconst dL_law_403 (by decide)
theorem k_193_405 : mOk M_193.1 M_193.2.1 M_193.2.2.1 M_193.2.2.2 405 (o_il 5 2) := ok_iload dL_law_405
theorem k_193_407 : mOk M_193.1 M_193.2.1 M_193.2.2.1 M_193.2.2.2 407 (o_zne 422) := ok_zne dL_law_407 (by decide)
theorem k_193_410 : mOk M_193.1 M_193.2.1 M_193.2.2.1 M_193.2.2.2 410 (o_al 3 1) := ok_aload_n dL_law_410 rfl
theorem k_193_411 : mOk M_193.1 M_193.2.1 M_193.2.2.1 M_193.2.2.2 411 (oS 1 (s_push (.int 0))) := ok_iconst dL_law_411 (by decide)
theorem k_193_412 : mOk M_193.1 M_193.2.1 M_193.2.2.1 M_193.2.2.2 412 (o_lald) := ok_lald dL_law_412
theorem k_193_413 : mOk M_193.1 M_193.2.1 M_193.2.2.1 M_193.2.2.2 413 (o_il 6 2) := ok_iload dL_law_413
theorem k_193_415 : mOk M_193.1 M_193.2.1 M_193.2.2.1 M_193.2.2.2 415 (oS 1 s_i2l) := ok_i2l dL_law_415
theorem k_193_416 : mOk M_193.1 M_193.2.1 M_193.2.2.1 M_193.2.2.2 416 (oS 1 s_lcmp) := ok_lcmp dL_law_416
theorem k_193_417 : mOk M_193.1 M_193.2.1 M_193.2.2.1 M_193.2.2.2 417 (o_zeq 422) := ok_zeq dL_law_417 (by decide)
theorem k_193_420 : mOk M_193.1 M_193.2.1 M_193.2.2.1 M_193.2.2.2 420 (oS 1 (s_push (.int 0))) := ok_iconst dL_law_420 (by decide)
theorem k_193_422 : mOk M_193.1 M_193.2.1 M_193.2.2.1 M_193.2.2.2 422 (o_goto 1042) := ok_goto dL_law_422 (by decide)
theorem k_193_425 : mOk M_193.1 M_193.2.1 M_193.2.2.1 M_193.2.2.2 425 (o_al 1 1) := ok_aload_n dL_law_425 rfl
theorem k_193_426 : mOk M_193.1 M_193.2.1 M_193.2.2.1 M_193.2.2.2 426 (o_al 0 1) := ok_aload_n dL_law_426 rfl
theorem k_193_427 : mOk M_193.1 M_193.2.1 M_193.2.2.1 M_193.2.2.2 427 (o_il 4 2) := ok_iload dL_law_427
theorem k_193_429 : mOk M_193.1 M_193.2.1 M_193.2.2.1 M_193.2.2.2 429 (oS 1 (s_push (.int 1))) := ok_iconst dL_law_429 (by decide)
theorem k_193_430 : mOk M_193.1 M_193.2.1 M_193.2.2.1 M_193.2.2.2 430 (oS 1 (s_ii (fun a b => a + b))) := ok_iadd dL_law_430
theorem k_193_431 : mOk M_193.1 M_193.2.1 M_193.2.2.1 M_193.2.2.2 431 (o_sld) := ok_sld dL_law_431
theorem k_193_435 : mOk M_193.1 M_193.2.1 M_193.2.2.1 M_193.2.2.2 435 (o_al 2 1) := ok_aload_n dL_law_435 rfl
theorem k_193_436 : mOk M_193.1 M_193.2.1 M_193.2.2.1 M_193.2.2.2 436 (o_al 0 1) := ok_aload_n dL_law_436 rfl
theorem k_193_437 : mOk M_193.1 M_193.2.1 M_193.2.2.1 M_193.2.2.2 437 (o_il 4 2) := ok_iload dL_law_437
theorem k_193_439 : mOk M_193.1 M_193.2.1 M_193.2.2.1 M_193.2.2.2 439 (oS 1 (s_push (.int 1))) := ok_iconst dL_law_439 (by decide)
theorem k_193_440 : mOk M_193.1 M_193.2.1 M_193.2.2.1 M_193.2.2.2 440 (oS 1 (s_ii (fun a b => a + b))) := ok_iadd dL_law_440
theorem k_193_441 : mOk M_193.1 M_193.2.1 M_193.2.2.1 M_193.2.2.2 441 (o_sld) := ok_sld dL_law_441
theorem k_193_445 : mOk M_193.1 M_193.2.1 M_193.2.2.1 M_193.2.2.2 445 (o_ceq 1042) := ok_ceq dL_law_445 (by decide)
theorem k_193_448 : mOk M_193.1 M_193.2.1 M_193.2.2.1 M_193.2.2.2 448 (oS 1 (s_push (.int 0))) := ok_iconst dL_law_448 (by decide)
theorem k_193_450 : mOk M_193.1 M_193.2.1 M_193.2.2.1 M_193.2.2.2 450 (o_al 1 1) := ok_aload_n dL_law_450 rfl
theorem k_193_451 : mOk M_193.1 M_193.2.1 M_193.2.2.1 M_193.2.2.2 451 (o_al 0 1) := ok_aload_n dL_law_451 rfl
theorem k_193_452 : mOk M_193.1 M_193.2.1 M_193.2.2.1 M_193.2.2.2 452 (o_il 4 2) := ok_iload dL_law_452
theorem k_193_454 : mOk M_193.1 M_193.2.1 M_193.2.2.1 M_193.2.2.2 454 (oS 1 (s_push (.int 1))) := ok_iconst dL_law_454 (by decide)
theorem k_193_455 : mOk M_193.1 M_193.2.1 M_193.2.2.1 M_193.2.2.2 455 (oS 1 (s_ii (fun a b => a + b))) := ok_iadd dL_law_455
theorem k_193_456 : mOk M_193.1 M_193.2.1 M_193.2.2.1 M_193.2.2.2 456 (o_sld) := ok_sld dL_law_456
theorem k_193_457 : mOk M_193.1 M_193.2.1 M_193.2.2.1 M_193.2.2.2 457 (o_al 0 1) := ok_aload_n dL_law_457 rfl
theorem k_193_458 : mOk M_193.1 M_193.2.1 M_193.2.2.1 M_193.2.2.2 458 (o_il 4 2) := ok_iload dL_law_458
theorem k_193_460 : mOk M_193.1 M_193.2.1 M_193.2.2.1 M_193.2.2.2 460 (oS 1 (s_push (.int 2))) := ok_iconst dL_law_460 (by decide)
theorem k_193_461 : mOk M_193.1 M_193.2.1 M_193.2.2.1 M_193.2.2.2 461 (oS 1 (s_ii (fun a b => a + b))) := ok_iadd dL_law_461
theorem k_193_462 : mOk M_193.1 M_193.2.1 M_193.2.2.1 M_193.2.2.2 462 (o_sld) := ok_sld dL_law_462
theorem k_193_463 : mOk M_193.1 M_193.2.1 M_193.2.2.1 M_193.2.2.2 463 (o_al 0 1) := ok_aload_n dL_law_463 rfl
theorem k_193_464 : mOk M_193.1 M_193.2.1 M_193.2.2.1 M_193.2.2.2 464 (o_il 4 2) := ok_iload dL_law_464
theorem k_193_466 : mOk M_193.1 M_193.2.1 M_193.2.2.1 M_193.2.2.2 466 (oS 1 (s_push (.int 3))) := ok_iconst dL_law_466 (by decide)
theorem k_193_467 : mOk M_193.1 M_193.2.1 M_193.2.2.1 M_193.2.2.2 467 (oS 1 (s_ii (fun a b => a + b))) := ok_iadd dL_law_467
theorem k_193_468 : mOk M_193.1 M_193.2.1 M_193.2.2.1 M_193.2.2.2 468 (o_sld) := ok_sld dL_law_468
theorem k_193_469 : mOk M_193.1 M_193.2.1 M_193.2.2.1 M_193.2.2.2 469 (o_al 0 1) := ok_aload_n dL_law_469 rfl
theorem k_193_470 : mOk M_193.1 M_193.2.1 M_193.2.2.1 M_193.2.2.2 470 (o_il 4 2) := ok_iload dL_law_470
theorem k_193_472 : mOk M_193.1 M_193.2.1 M_193.2.2.1 M_193.2.2.2 472 (oS 1 (s_push (.int 4))) := ok_iconst dL_law_472 (by decide)
theorem k_193_473 : mOk M_193.1 M_193.2.1 M_193.2.2.1 M_193.2.2.2 473 (oS 1 (s_ii (fun a b => a + b))) := ok_iadd dL_law_473
theorem k_193_474 : mOk M_193.1 M_193.2.1 M_193.2.2.1 M_193.2.2.2 474 (o_sld) := ok_sld dL_law_474
theorem k_193_475 : mOk M_193.1 M_193.2.1 M_193.2.2.1 M_193.2.2.2 475 (o_al 0 1) := ok_aload_n dL_law_475 rfl
theorem k_193_476 : mOk M_193.1 M_193.2.1 M_193.2.2.1 M_193.2.2.2 476 (o_il 4 2) := ok_iload dL_law_476
theorem k_193_478 : mOk M_193.1 M_193.2.1 M_193.2.2.1 M_193.2.2.2 478 (oS 1 (s_push (.int 5))) := ok_iconst dL_law_478 (by decide)
theorem k_193_479 : mOk M_193.1 M_193.2.1 M_193.2.2.1 M_193.2.2.2 479 (oS 1 (s_ii (fun a b => a + b))) := ok_iadd dL_law_479
theorem k_193_480 : mOk M_193.1 M_193.2.1 M_193.2.2.1 M_193.2.2.2 480 (o_sld) := ok_sld dL_law_480
theorem k_193_484 : mOk M_193.1 M_193.2.1 M_193.2.2.1 M_193.2.2.2 484 (o_is 5 2) := ok_istore dL_law_484
theorem k_193_486 : mOk M_193.1 M_193.2.1 M_193.2.2.1 M_193.2.2.2 486 (o_al 2 1) := ok_aload_n dL_law_486 rfl
theorem k_193_487 : mOk M_193.1 M_193.2.1 M_193.2.2.1 M_193.2.2.2 487 (o_al 0 1) := ok_aload_n dL_law_487 rfl
theorem k_193_488 : mOk M_193.1 M_193.2.1 M_193.2.2.1 M_193.2.2.2 488 (o_il 4 2) := ok_iload dL_law_488
theorem k_193_490 : mOk M_193.1 M_193.2.1 M_193.2.2.1 M_193.2.2.2 490 (oS 1 (s_push (.int 1))) := ok_iconst dL_law_490 (by decide)
theorem k_193_491 : mOk M_193.1 M_193.2.1 M_193.2.2.1 M_193.2.2.2 491 (oS 1 (s_ii (fun a b => a + b))) := ok_iadd dL_law_491
theorem k_193_492 : mOk M_193.1 M_193.2.1 M_193.2.2.1 M_193.2.2.2 492 (o_sld) := ok_sld dL_law_492
theorem k_193_493 : mOk M_193.1 M_193.2.1 M_193.2.2.1 M_193.2.2.2 493 (o_al 0 1) := ok_aload_n dL_law_493 rfl
theorem k_193_494 : mOk M_193.1 M_193.2.1 M_193.2.2.1 M_193.2.2.2 494 (o_il 4 2) := ok_iload dL_law_494
theorem k_193_496 : mOk M_193.1 M_193.2.1 M_193.2.2.1 M_193.2.2.2 496 (oS 1 (s_push (.int 2))) := ok_iconst dL_law_496 (by decide)
theorem k_193_497 : mOk M_193.1 M_193.2.1 M_193.2.2.1 M_193.2.2.2 497 (oS 1 (s_ii (fun a b => a + b))) := ok_iadd dL_law_497
theorem k_193_498 : mOk M_193.1 M_193.2.1 M_193.2.2.1 M_193.2.2.2 498 (o_sld) := ok_sld dL_law_498
theorem k_193_499 : mOk M_193.1 M_193.2.1 M_193.2.2.1 M_193.2.2.2 499 (o_al 0 1) := ok_aload_n dL_law_499 rfl
theorem k_193_500 : mOk M_193.1 M_193.2.1 M_193.2.2.1 M_193.2.2.2 500 (o_il 4 2) := ok_iload dL_law_500
theorem k_193_502 : mOk M_193.1 M_193.2.1 M_193.2.2.1 M_193.2.2.2 502 (oS 1 (s_push (.int 3))) := ok_iconst dL_law_502 (by decide)
theorem k_193_503 : mOk M_193.1 M_193.2.1 M_193.2.2.1 M_193.2.2.2 503 (oS 1 (s_ii (fun a b => a + b))) := ok_iadd dL_law_503
theorem k_193_504 : mOk M_193.1 M_193.2.1 M_193.2.2.1 M_193.2.2.2 504 (o_sld) := ok_sld dL_law_504
theorem k_193_505 : mOk M_193.1 M_193.2.1 M_193.2.2.1 M_193.2.2.2 505 (o_al 0 1) := ok_aload_n dL_law_505 rfl
theorem k_193_506 : mOk M_193.1 M_193.2.1 M_193.2.2.1 M_193.2.2.2 506 (o_il 4 2) := ok_iload dL_law_506
theorem k_193_508 : mOk M_193.1 M_193.2.1 M_193.2.2.1 M_193.2.2.2 508 (oS 1 (s_push (.int 4))) := ok_iconst dL_law_508 (by decide)
theorem k_193_509 : mOk M_193.1 M_193.2.1 M_193.2.2.1 M_193.2.2.2 509 (oS 1 (s_ii (fun a b => a + b))) := ok_iadd dL_law_509
theorem k_193_510 : mOk M_193.1 M_193.2.1 M_193.2.2.1 M_193.2.2.2 510 (o_sld) := ok_sld dL_law_510
theorem k_193_511 : mOk M_193.1 M_193.2.1 M_193.2.2.1 M_193.2.2.2 511 (o_al 0 1) := ok_aload_n dL_law_511 rfl
theorem k_193_512 : mOk M_193.1 M_193.2.1 M_193.2.2.1 M_193.2.2.2 512 (o_il 4 2) := ok_iload dL_law_512
theorem k_193_514 : mOk M_193.1 M_193.2.1 M_193.2.2.1 M_193.2.2.2 514 (oS 1 (s_push (.int 5))) := ok_iconst dL_law_514 (by decide)
theorem k_193_515 : mOk M_193.1 M_193.2.1 M_193.2.2.1 M_193.2.2.2 515 (oS 1 (s_ii (fun a b => a + b))) := ok_iadd dL_law_515
theorem k_193_516 : mOk M_193.1 M_193.2.1 M_193.2.2.1 M_193.2.2.2 516 (o_sld) := ok_sld dL_law_516
theorem k_193_520 : mOk M_193.1 M_193.2.1 M_193.2.2.1 M_193.2.2.2 520 (o_al 2 1) := ok_aload_n dL_law_520 rfl
theorem k_193_524 : mOk M_193.1 M_193.2.1 M_193.2.2.1 M_193.2.2.2 524 (o_il 5 2) := ok_iload dL_law_524
theorem k_193_526 : mOk M_193.1 M_193.2.1 M_193.2.2.1 M_193.2.2.2 526 (o_ceq 531) := ok_ceq dL_law_526 (by decide)
theorem k_193_529 : mOk M_193.1 M_193.2.1 M_193.2.2.1 M_193.2.2.2 529 (oS 1 (s_push (.int 0))) := ok_iconst dL_law_529 (by decide)
theorem k_193_531 : mOk M_193.1 M_193.2.1 M_193.2.2.1 M_193.2.2.2 531 (o_goto 1042) := ok_goto dL_law_531 (by decide)
theorem k_193_534 : mOk M_193.1 M_193.2.1 M_193.2.2.1 M_193.2.2.2 534 (o_al 1 1) := ok_aload_n dL_law_534 rfl
theorem k_193_535 : mOk M_193.1 M_193.2.1 M_193.2.2.1 M_193.2.2.2 535 (o_al 0 1) := ok_aload_n dL_law_535 rfl
theorem k_193_536 : mOk M_193.1 M_193.2.1 M_193.2.2.1 M_193.2.2.2 536 (o_il 4 2) := ok_iload dL_law_536
theorem k_193_538 : mOk M_193.1 M_193.2.1 M_193.2.2.1 M_193.2.2.2 538 (oS 1 (s_push (.int 1))) := ok_iconst dL_law_538 (by decide)
theorem k_193_539 : mOk M_193.1 M_193.2.1 M_193.2.2.1 M_193.2.2.2 539 (oS 1 (s_ii (fun a b => a + b))) := ok_iadd dL_law_539
theorem k_193_540 : mOk M_193.1 M_193.2.1 M_193.2.2.1 M_193.2.2.2 540 (o_sld) := ok_sld dL_law_540
theorem k_193_541 : mOk M_193.1 M_193.2.1 M_193.2.2.1 M_193.2.2.2 541 (o_al 3 1) := ok_aload_n dL_law_541 rfl
theorem k_193_545 : mOk M_193.1 M_193.2.1 M_193.2.2.1 M_193.2.2.2 545 (o_is 5 2) := ok_istore dL_law_545
theorem k_193_547 : mOk M_193.1 M_193.2.1 M_193.2.2.1 M_193.2.2.2 547 (o_al 2 1) := ok_aload_n dL_law_547 rfl
theorem k_193_548 : mOk M_193.1 M_193.2.1 M_193.2.2.1 M_193.2.2.2 548 (o_al 0 1) := ok_aload_n dL_law_548 rfl
theorem k_193_549 : mOk M_193.1 M_193.2.1 M_193.2.2.1 M_193.2.2.2 549 (o_il 4 2) := ok_iload dL_law_549
theorem k_193_551 : mOk M_193.1 M_193.2.1 M_193.2.2.1 M_193.2.2.2 551 (oS 1 (s_push (.int 1))) := ok_iconst dL_law_551 (by decide)
theorem k_193_552 : mOk M_193.1 M_193.2.1 M_193.2.2.1 M_193.2.2.2 552 (oS 1 (s_ii (fun a b => a + b))) := ok_iadd dL_law_552
theorem k_193_553 : mOk M_193.1 M_193.2.1 M_193.2.2.1 M_193.2.2.2 553 (o_sld) := ok_sld dL_law_553
theorem k_193_557 : mOk M_193.1 M_193.2.1 M_193.2.2.1 M_193.2.2.2 557 (o_is 6 2) := ok_istore dL_law_557
theorem k_193_559 : mOk M_193.1 M_193.2.1 M_193.2.2.1 M_193.2.2.2 559 (o_al 2 1) := ok_aload_n dL_law_559 rfl
theorem k_193_563 : mOk M_193.1 M_193.2.1 M_193.2.2.1 M_193.2.2.2 563 (o_il 5 2) := ok_iload dL_law_563
theorem k_193_565 : mOk M_193.1 M_193.2.1 M_193.2.2.1 M_193.2.2.2 565 (o_ceq 570) := ok_ceq dL_law_565 (by decide)
theorem k_193_568 : mOk M_193.1 M_193.2.1 M_193.2.2.1 M_193.2.2.2 568 (oS 1 (s_push (.int 0))) := ok_iconst dL_law_568 (by decide)
theorem k_193_570 : mOk M_193.1 M_193.2.1 M_193.2.2.1 M_193.2.2.2 570 (o_il 5 2) := ok_iload dL_law_570
theorem k_193_572 : mOk M_193.1 M_193.2.1 M_193.2.2.1 M_193.2.2.2 572 (o_zne 587) := ok_zne dL_law_572 (by decide)
theorem k_193_575 : mOk M_193.1 M_193.2.1 M_193.2.2.1 M_193.2.2.2 575 (o_al 3 1) := ok_aload_n dL_law_575 rfl
theorem k_193_576 : mOk M_193.1 M_193.2.1 M_193.2.2.1 M_193.2.2.2 576 (oS 1 (s_push (.int 0))) := ok_iconst dL_law_576 (by decide)
theorem k_193_577 : mOk M_193.1 M_193.2.1 M_193.2.2.1 M_193.2.2.2 577 (o_lald) := ok_lald dL_law_577
theorem k_193_578 : mOk M_193.1 M_193.2.1 M_193.2.2.1 M_193.2.2.2 578 (o_il 6 2) := ok_iload dL_law_578
theorem k_193_580 : mOk M_193.1 M_193.2.1 M_193.2.2.1 M_193.2.2.2 580 (oS 1 s_i2l) := ok_i2l dL_law_580
theorem k_193_581 : mOk M_193.1 M_193.2.1 M_193.2.2.1 M_193.2.2.2 581 (oS 1 s_lcmp) := ok_lcmp dL_law_581
theorem k_193_582 : mOk M_193.1 M_193.2.1 M_193.2.2.1 M_193.2.2.2 582 (o_zeq 587) := ok_zeq dL_law_582 (by decide)
theorem k_193_585 : mOk M_193.1 M_193.2.1 M_193.2.2.1 M_193.2.2.2 585 (oS 1 (s_push (.int 0))) := ok_iconst dL_law_585 (by decide)
theorem k_193_587 : mOk M_193.1 M_193.2.1 M_193.2.2.1 M_193.2.2.2 587 (o_goto 1042) := ok_goto dL_law_587 (by decide)
theorem k_193_590 : mOk M_193.1 M_193.2.1 M_193.2.2.1 M_193.2.2.2 590 (o_al 1 1) := ok_aload_n dL_law_590 rfl
theorem k_193_591 : mOk M_193.1 M_193.2.1 M_193.2.2.1 M_193.2.2.2 591 (o_al 0 1) := ok_aload_n dL_law_591 rfl
theorem k_193_592 : mOk M_193.1 M_193.2.1 M_193.2.2.1 M_193.2.2.2 592 (o_il 4 2) := ok_iload dL_law_592
theorem k_193_594 : mOk M_193.1 M_193.2.1 M_193.2.2.1 M_193.2.2.2 594 (oS 1 (s_push (.int 1))) := ok_iconst dL_law_594 (by decide)
theorem k_193_595 : mOk M_193.1 M_193.2.1 M_193.2.2.1 M_193.2.2.2 595 (oS 1 (s_ii (fun a b => a + b))) := ok_iadd dL_law_595
theorem k_193_596 : mOk M_193.1 M_193.2.1 M_193.2.2.1 M_193.2.2.2 596 (o_sld) := ok_sld dL_law_596
theorem k_193_597 : mOk M_193.1 M_193.2.1 M_193.2.2.1 M_193.2.2.2 597 (o_al 0 1) := ok_aload_n dL_law_597 rfl
theorem k_193_598 : mOk M_193.1 M_193.2.1 M_193.2.2.1 M_193.2.2.2 598 (o_il 4 2) := ok_iload dL_law_598
theorem k_193_600 : mOk M_193.1 M_193.2.1 M_193.2.2.1 M_193.2.2.2 600 (oS 1 (s_push (.int 2))) := ok_iconst dL_law_600 (by decide)
theorem k_193_601 : mOk M_193.1 M_193.2.1 M_193.2.2.1 M_193.2.2.2 601 (oS 1 (s_ii (fun a b => a + b))) := ok_iadd dL_law_601
theorem k_193_602 : mOk M_193.1 M_193.2.1 M_193.2.2.1 M_193.2.2.2 602 (o_sld) := ok_sld dL_law_602
theorem k_193_606 : mOk M_193.1 M_193.2.1 M_193.2.2.1 M_193.2.2.2 606 (o_al 2 1) := ok_aload_n dL_law_606 rfl
theorem k_193_607 : mOk M_193.1 M_193.2.1 M_193.2.2.1 M_193.2.2.2 607 (o_al 0 1) := ok_aload_n dL_law_607 rfl
theorem k_193_608 : mOk M_193.1 M_193.2.1 M_193.2.2.1 M_193.2.2.2 608 (o_il 4 2) := ok_iload dL_law_608
theorem k_193_610 : mOk M_193.1 M_193.2.1 M_193.2.2.1 M_193.2.2.2 610 (oS 1 (s_push (.int 1))) := ok_iconst dL_law_610 (by decide)
theorem k_193_611 : mOk M_193.1 M_193.2.1 M_193.2.2.1 M_193.2.2.2 611 (oS 1 (s_ii (fun a b => a + b))) := ok_iadd dL_law_611
theorem k_193_612 : mOk M_193.1 M_193.2.1 M_193.2.2.1 M_193.2.2.2 612 (o_sld) := ok_sld dL_law_612
theorem k_193_613 : mOk M_193.1 M_193.2.1 M_193.2.2.1 M_193.2.2.2 613 (o_al 0 1) := ok_aload_n dL_law_613 rfl
theorem k_193_614 : mOk M_193.1 M_193.2.1 M_193.2.2.1 M_193.2.2.2 614 (o_il 4 2) := ok_iload dL_law_614
theorem k_193_616 : mOk M_193.1 M_193.2.1 M_193.2.2.1 M_193.2.2.2 616 (oS 1 (s_push (.int 2))) := ok_iconst dL_law_616 (by decide)
theorem k_193_617 : mOk M_193.1 M_193.2.1 M_193.2.2.1 M_193.2.2.2 617 (oS 1 (s_ii (fun a b => a + b))) := ok_iadd dL_law_617
theorem k_193_618 : mOk M_193.1 M_193.2.1 M_193.2.2.1 M_193.2.2.2 618 (o_sld) := ok_sld dL_law_618
theorem k_193_622 : mOk M_193.1 M_193.2.1 M_193.2.2.1 M_193.2.2.2 622 (o_ceq 1042) := ok_ceq dL_law_622 (by decide)
theorem k_193_625 : mOk M_193.1 M_193.2.1 M_193.2.2.1 M_193.2.2.2 625 (oS 1 (s_push (.int 0))) := ok_iconst dL_law_625 (by decide)
theorem k_193_627 : mOk M_193.1 M_193.2.1 M_193.2.2.1 M_193.2.2.2 627 (o_al 1 1) := ok_aload_n dL_law_627 rfl
theorem k_193_628 : mOk M_193.1 M_193.2.1 M_193.2.2.1 M_193.2.2.2 628 (o_al 0 1) := ok_aload_n dL_law_628 rfl
theorem k_193_629 : mOk M_193.1 M_193.2.1 M_193.2.2.1 M_193.2.2.2 629 (o_il 4 2) := ok_iload dL_law_629
theorem k_193_631 : mOk M_193.1 M_193.2.1 M_193.2.2.1 M_193.2.2.2 631 (oS 1 (s_push (.int 1))) := ok_iconst dL_law_631 (by decide)
theorem k_193_632 : mOk M_193.1 M_193.2.1 M_193.2.2.1 M_193.2.2.2 632 (oS 1 (s_ii (fun a b => a + b))) := ok_iadd dL_law_632
theorem k_193_633 : mOk M_193.1 M_193.2.1 M_193.2.2.1 M_193.2.2.2 633 (o_sld) := ok_sld dL_law_633
theorem k_193_634 : mOk M_193.1 M_193.2.1 M_193.2.2.1 M_193.2.2.2 634 (o_al 0 1) := ok_aload_n dL_law_634 rfl
theorem k_193_635 : mOk M_193.1 M_193.2.1 M_193.2.2.1 M_193.2.2.2 635 (o_il 4 2) := ok_iload dL_law_635
theorem k_193_637 : mOk M_193.1 M_193.2.1 M_193.2.2.1 M_193.2.2.2 637 (oS 1 (s_push (.int 2))) := ok_iconst dL_law_637 (by decide)
theorem k_193_638 : mOk M_193.1 M_193.2.1 M_193.2.2.1 M_193.2.2.2 638 (oS 1 (s_ii (fun a b => a + b))) := ok_iadd dL_law_638
theorem k_193_639 : mOk M_193.1 M_193.2.1 M_193.2.2.1 M_193.2.2.2 639 (o_sld) := ok_sld dL_law_639
theorem k_193_640 : mOk M_193.1 M_193.2.1 M_193.2.2.1 M_193.2.2.2 640 (o_al 0 1) := ok_aload_n dL_law_640 rfl
theorem k_193_641 : mOk M_193.1 M_193.2.1 M_193.2.2.1 M_193.2.2.2 641 (o_il 4 2) := ok_iload dL_law_641
theorem k_193_643 : mOk M_193.1 M_193.2.1 M_193.2.2.1 M_193.2.2.2 643 (oS 1 (s_push (.int 3))) := ok_iconst dL_law_643 (by decide)
theorem k_193_644 : mOk M_193.1 M_193.2.1 M_193.2.2.1 M_193.2.2.2 644 (oS 1 (s_ii (fun a b => a + b))) := ok_iadd dL_law_644
theorem k_193_645 : mOk M_193.1 M_193.2.1 M_193.2.2.1 M_193.2.2.2 645 (o_sld) := ok_sld dL_law_645
theorem k_193_649 : mOk M_193.1 M_193.2.1 M_193.2.2.1 M_193.2.2.2 649 (o_al 2 1) := ok_aload_n dL_law_649 rfl
theorem k_193_650 : mOk M_193.1 M_193.2.1 M_193.2.2.1 M_193.2.2.2 650 (o_al 0 1) := ok_aload_n dL_law_650 rfl
theorem k_193_651 : mOk M_193.1 M_193.2.1 M_193.2.2.1 M_193.2.2.2 651 (o_il 4 2) := ok_iload dL_law_651
theorem k_193_653 : mOk M_193.1 M_193.2.1 M_193.2.2.1 M_193.2.2.2 653 (oS 1 (s_push (.int 1))) := ok_iconst dL_law_653 (by decide)
theorem k_193_654 : mOk M_193.1 M_193.2.1 M_193.2.2.1 M_193.2.2.2 654 (oS 1 (s_ii (fun a b => a + b))) := ok_iadd dL_law_654
theorem k_193_655 : mOk M_193.1 M_193.2.1 M_193.2.2.1 M_193.2.2.2 655 (o_sld) := ok_sld dL_law_655
theorem k_193_656 : mOk M_193.1 M_193.2.1 M_193.2.2.1 M_193.2.2.2 656 (o_al 0 1) := ok_aload_n dL_law_656 rfl
theorem k_193_657 : mOk M_193.1 M_193.2.1 M_193.2.2.1 M_193.2.2.2 657 (o_il 4 2) := ok_iload dL_law_657
theorem k_193_659 : mOk M_193.1 M_193.2.1 M_193.2.2.1 M_193.2.2.2 659 (oS 1 (s_push (.int 2))) := ok_iconst dL_law_659 (by decide)
theorem k_193_660 : mOk M_193.1 M_193.2.1 M_193.2.2.1 M_193.2.2.2 660 (oS 1 (s_ii (fun a b => a + b))) := ok_iadd dL_law_660
theorem k_193_661 : mOk M_193.1 M_193.2.1 M_193.2.2.1 M_193.2.2.2 661 (o_sld) := ok_sld dL_law_661
theorem k_193_662 : mOk M_193.1 M_193.2.1 M_193.2.2.1 M_193.2.2.2 662 (o_al 0 1) := ok_aload_n dL_law_662 rfl
theorem k_193_663 : mOk M_193.1 M_193.2.1 M_193.2.2.1 M_193.2.2.2 663 (o_il 4 2) := ok_iload dL_law_663
theorem k_193_665 : mOk M_193.1 M_193.2.1 M_193.2.2.1 M_193.2.2.2 665 (oS 1 (s_push (.int 3))) := ok_iconst dL_law_665 (by decide)
theorem k_193_666 : mOk M_193.1 M_193.2.1 M_193.2.2.1 M_193.2.2.2 666 (oS 1 (s_ii (fun a b => a + b))) := ok_iadd dL_law_666
theorem k_193_667 : mOk M_193.1 M_193.2.1 M_193.2.2.1 M_193.2.2.2 667 (o_sld) := ok_sld dL_law_667
theorem k_193_671 : mOk M_193.1 M_193.2.1 M_193.2.2.1 M_193.2.2.2 671 (o_ceq 1042) := ok_ceq dL_law_671 (by decide)
theorem k_193_674 : mOk M_193.1 M_193.2.1 M_193.2.2.1 M_193.2.2.2 674 (oS 1 (s_push (.int 0))) := ok_iconst dL_law_674 (by decide)
theorem k_193_676 : mOk M_193.1 M_193.2.1 M_193.2.2.1 M_193.2.2.2 676 (o_al 1 1) := ok_aload_n dL_law_676 rfl
theorem k_193_677 : mOk M_193.1 M_193.2.1 M_193.2.2.1 M_193.2.2.2 677 (o_al 0 1) := ok_aload_n dL_law_677 rfl
theorem k_193_678 : mOk M_193.1 M_193.2.1 M_193.2.2.1 M_193.2.2.2 678 (o_il 4 2) := ok_iload dL_law_678
theorem k_193_680 : mOk M_193.1 M_193.2.1 M_193.2.2.1 M_193.2.2.2 680 (oS 1 (s_push (.int 1))) := ok_iconst dL_law_680 (by decide)
theorem k_193_681 : mOk M_193.1 M_193.2.1 M_193.2.2.1 M_193.2.2.2 681 (oS 1 (s_ii (fun a b => a + b))) := ok_iadd dL_law_681
theorem k_193_682 : mOk M_193.1 M_193.2.1 M_193.2.2.1 M_193.2.2.2 682 (o_sld) := ok_sld dL_law_682
theorem k_193_686 : mOk M_193.1 M_193.2.1 M_193.2.2.1 M_193.2.2.2 686 (o_al 2 1) := ok_aload_n dL_law_686 rfl
theorem k_193_687 : mOk M_193.1 M_193.2.1 M_193.2.2.1 M_193.2.2.2 687 (o_al 0 1) := ok_aload_n dL_law_687 rfl
theorem k_193_688 : mOk M_193.1 M_193.2.1 M_193.2.2.1 M_193.2.2.2 688 (o_il 4 2) := ok_iload dL_law_688
theorem k_193_690 : mOk M_193.1 M_193.2.1 M_193.2.2.1 M_193.2.2.2 690 (oS 1 (s_push (.int 1))) := ok_iconst dL_law_690 (by decide)
theorem k_193_691 : mOk M_193.1 M_193.2.1 M_193.2.2.1 M_193.2.2.2 691 (oS 1 (s_ii (fun a b => a + b))) := ok_iadd dL_law_691
theorem k_193_692 : mOk M_193.1 M_193.2.1 M_193.2.2.1 M_193.2.2.2 692 (o_sld) := ok_sld dL_law_692
theorem k_193_696 : mOk M_193.1 M_193.2.1 M_193.2.2.1 M_193.2.2.2 696 (o_ceq 1042) := ok_ceq dL_law_696 (by decide)
theorem k_193_699 : mOk M_193.1 M_193.2.1 M_193.2.2.1 M_193.2.2.2 699 (oS 1 (s_push (.int 0))) := ok_iconst dL_law_699 (by decide)
theorem k_193_701 : mOk M_193.1 M_193.2.1 M_193.2.2.1 M_193.2.2.2 701 (o_al 1 1) := ok_aload_n dL_law_701 rfl
theorem k_193_702 : mOk M_193.1 M_193.2.1 M_193.2.2.1 M_193.2.2.2 702 (o_al 0 1) := ok_aload_n dL_law_702 rfl
theorem k_193_703 : mOk M_193.1 M_193.2.1 M_193.2.2.1 M_193.2.2.2 703 (o_il 4 2) := ok_iload dL_law_703
theorem k_193_705 : mOk M_193.1 M_193.2.1 M_193.2.2.1 M_193.2.2.2 705 (oS 1 (s_push (.int 1))) := ok_iconst dL_law_705 (by decide)
theorem k_193_706 : mOk M_193.1 M_193.2.1 M_193.2.2.1 M_193.2.2.2 706 (oS 1 (s_ii (fun a b => a + b))) := ok_iadd dL_law_706
theorem k_193_707 : mOk M_193.1 M_193.2.1 M_193.2.2.1 M_193.2.2.2 707 (o_sld) := ok_sld dL_law_707
theorem k_193_708 : mOk M_193.1 M_193.2.1 M_193.2.2.1 M_193.2.2.2 708 (o_al 0 1) := ok_aload_n dL_law_708 rfl
theorem k_193_709 : mOk M_193.1 M_193.2.1 M_193.2.2.1 M_193.2.2.2 709 (o_il 4 2) := ok_iload dL_law_709
theorem k_193_711 : mOk M_193.1 M_193.2.1 M_193.2.2.1 M_193.2.2.2 711 (oS 1 (s_push (.int 2))) := ok_iconst dL_law_711 (by decide)
theorem k_193_712 : mOk M_193.1 M_193.2.1 M_193.2.2.1 M_193.2.2.2 712 (oS 1 (s_ii (fun a b => a + b))) := ok_iadd dL_law_712
theorem k_193_713 : mOk M_193.1 M_193.2.1 M_193.2.2.1 M_193.2.2.2 713 (o_sld) := ok_sld dL_law_713
theorem k_193_714 : mOk M_193.1 M_193.2.1 M_193.2.2.1 M_193.2.2.2 714 (o_al 3 1) := ok_aload_n dL_law_714 rfl
theorem k_193_718 : mOk M_193.1 M_193.2.1 M_193.2.2.1 M_193.2.2.2 718 (o_is 5 2) := ok_istore dL_law_718
theorem k_193_720 : mOk M_193.1 M_193.2.1 M_193.2.2.1 M_193.2.2.2 720 (o_al 2 1) := ok_aload_n dL_law_720 rfl
theorem k_193_721 : mOk M_193.1 M_193.2.1 M_193.2.2.1 M_193.2.2.2 721 (o_al 0 1) := ok_aload_n dL_law_721 rfl
theorem k_193_722 : mOk M_193.1 M_193.2.1 M_193.2.2.1 M_193.2.2.2 722 (o_il 4 2) := ok_iload dL_law_722
theorem k_193_724 : mOk M_193.1 M_193.2.1 M_193.2.2.1 M_193.2.2.2 724 (oS 1 (s_push (.int 1))) := ok_iconst dL_law_724 (by decide)
theorem k_193_725 : mOk M_193.1 M_193.2.1 M_193.2.2.1 M_193.2.2.2 725 (oS 1 (s_ii (fun a b => a + b))) := ok_iadd dL_law_725
theorem k_193_726 : mOk M_193.1 M_193.2.1 M_193.2.2.1 M_193.2.2.2 726 (o_sld) := ok_sld dL_law_726
theorem k_193_727 : mOk M_193.1 M_193.2.1 M_193.2.2.1 M_193.2.2.2 727 (o_al 0 1) := ok_aload_n dL_law_727 rfl
theorem k_193_728 : mOk M_193.1 M_193.2.1 M_193.2.2.1 M_193.2.2.2 728 (o_il 4 2) := ok_iload dL_law_728
theorem k_193_730 : mOk M_193.1 M_193.2.1 M_193.2.2.1 M_193.2.2.2 730 (oS 1 (s_push (.int 2))) := ok_iconst dL_law_730 (by decide)
theorem k_193_731 : mOk M_193.1 M_193.2.1 M_193.2.2.1 M_193.2.2.2 731 (oS 1 (s_ii (fun a b => a + b))) := ok_iadd dL_law_731
theorem k_193_732 : mOk M_193.1 M_193.2.1 M_193.2.2.1 M_193.2.2.2 732 (o_sld) := ok_sld dL_law_732
theorem k_193_736 : mOk M_193.1 M_193.2.1 M_193.2.2.1 M_193.2.2.2 736 (o_is 6 2) := ok_istore dL_law_736
theorem k_193_738 : mOk M_193.1 M_193.2.1 M_193.2.2.1 M_193.2.2.2 738 (o_al 2 1) := ok_aload_n dL_law_738 rfl
theorem k_193_742 : mOk M_193.1 M_193.2.1 M_193.2.2.1 M_193.2.2.2 742 (o_il 5 2) := ok_iload dL_law_742
theorem k_193_744 : mOk M_193.1 M_193.2.1 M_193.2.2.1 M_193.2.2.2 744 (o_ceq 749) := ok_ceq dL_law_744 (by decide)
theorem k_193_747 : mOk M_193.1 M_193.2.1 M_193.2.2.1 M_193.2.2.2 747 (oS 1 (s_push (.int 0))) := ok_iconst dL_law_747 (by decide)
theorem k_193_749 : mOk M_193.1 M_193.2.1 M_193.2.2.1 M_193.2.2.2 749 (o_il 5 2) := ok_iload dL_law_749
theorem k_193_751 : mOk M_193.1 M_193.2.1 M_193.2.2.1 M_193.2.2.2 751 (o_zne 766) := ok_zne dL_law_751 (by decide)
theorem k_193_754 : mOk M_193.1 M_193.2.1 M_193.2.2.1 M_193.2.2.2 754 (o_al 3 1) := ok_aload_n dL_law_754 rfl
theorem k_193_755 : mOk M_193.1 M_193.2.1 M_193.2.2.1 M_193.2.2.2 755 (oS 1 (s_push (.int 0))) := ok_iconst dL_law_755 (by decide)
theorem k_193_756 : mOk M_193.1 M_193.2.1 M_193.2.2.1 M_193.2.2.2 756 (o_lald) := ok_lald dL_law_756
theorem k_193_757 : mOk M_193.1 M_193.2.1 M_193.2.2.1 M_193.2.2.2 757 (o_il 6 2) := ok_iload dL_law_757
theorem k_193_759 : mOk M_193.1 M_193.2.1 M_193.2.2.1 M_193.2.2.2 759 (oS 1 s_i2l) := ok_i2l dL_law_759
theorem k_193_760 : mOk M_193.1 M_193.2.1 M_193.2.2.1 M_193.2.2.2 760 (oS 1 s_lcmp) := ok_lcmp dL_law_760
theorem k_193_761 : mOk M_193.1 M_193.2.1 M_193.2.2.1 M_193.2.2.2 761 (o_zeq 766) := ok_zeq dL_law_761 (by decide)
theorem k_193_764 : mOk M_193.1 M_193.2.1 M_193.2.2.1 M_193.2.2.2 764 (oS 1 (s_push (.int 0))) := ok_iconst dL_law_764 (by decide)
theorem k_193_766 : mOk M_193.1 M_193.2.1 M_193.2.2.1 M_193.2.2.2 766 (o_goto 1042) := ok_goto dL_law_766 (by decide)
theorem k_193_769 : mOk M_193.1 M_193.2.1 M_193.2.2.1 M_193.2.2.2 769 (o_al 1 1) := ok_aload_n dL_law_769 rfl
theorem k_193_770 : mOk M_193.1 M_193.2.1 M_193.2.2.1 M_193.2.2.2 770 (o_al 0 1) := ok_aload_n dL_law_770 rfl
theorem k_193_771 : mOk M_193.1 M_193.2.1 M_193.2.2.1 M_193.2.2.2 771 (o_il 4 2) := ok_iload dL_law_771
theorem k_193_773 : mOk M_193.1 M_193.2.1 M_193.2.2.1 M_193.2.2.2 773 (oS 1 (s_push (.int 1))) := ok_iconst dL_law_773 (by decide)
theorem k_193_774 : mOk M_193.1 M_193.2.1 M_193.2.2.1 M_193.2.2.2 774 (oS 1 (s_ii (fun a b => a + b))) := ok_iadd dL_law_774
theorem k_193_775 : mOk M_193.1 M_193.2.1 M_193.2.2.1 M_193.2.2.2 775 (o_sld) := ok_sld dL_law_775
theorem k_193_776 : mOk M_193.1 M_193.2.1 M_193.2.2.1 M_193.2.2.2 776 (o_al 0 1) := ok_aload_n dL_law_776 rfl
theorem k_193_777 : mOk M_193.1 M_193.2.1 M_193.2.2.1 M_193.2.2.2 777 (o_il 4 2) := ok_iload dL_law_777
theorem k_193_779 : mOk M_193.1 M_193.2.1 M_193.2.2.1 M_193.2.2.2 779 (oS 1 (s_push (.int 2))) := ok_iconst dL_law_779 (by decide)
theorem k_193_780 : mOk M_193.1 M_193.2.1 M_193.2.2.1 M_193.2.2.2 780 (oS 1 (s_ii (fun a b => a + b))) := ok_iadd dL_law_780
theorem k_193_781 : mOk M_193.1 M_193.2.1 M_193.2.2.1 M_193.2.2.2 781 (o_sld) := ok_sld dL_law_781
theorem k_193_785 : mOk M_193.1 M_193.2.1 M_193.2.2.1 M_193.2.2.2 785 (o_al 2 1) := ok_aload_n dL_law_785 rfl
theorem k_193_786 : mOk M_193.1 M_193.2.1 M_193.2.2.1 M_193.2.2.2 786 (o_al 0 1) := ok_aload_n dL_law_786 rfl
theorem k_193_787 : mOk M_193.1 M_193.2.1 M_193.2.2.1 M_193.2.2.2 787 (o_il 4 2) := ok_iload dL_law_787
theorem k_193_789 : mOk M_193.1 M_193.2.1 M_193.2.2.1 M_193.2.2.2 789 (oS 1 (s_push (.int 1))) := ok_iconst dL_law_789 (by decide)
theorem k_193_790 : mOk M_193.1 M_193.2.1 M_193.2.2.1 M_193.2.2.2 790 (oS 1 (s_ii (fun a b => a + b))) := ok_iadd dL_law_790
theorem k_193_791 : mOk M_193.1 M_193.2.1 M_193.2.2.1 M_193.2.2.2 791 (o_sld) := ok_sld dL_law_791
theorem k_193_792 : mOk M_193.1 M_193.2.1 M_193.2.2.1 M_193.2.2.2 792 (o_al 0 1) := ok_aload_n dL_law_792 rfl
theorem k_193_793 : mOk M_193.1 M_193.2.1 M_193.2.2.1 M_193.2.2.2 793 (o_il 4 2) := ok_iload dL_law_793
theorem k_193_795 : mOk M_193.1 M_193.2.1 M_193.2.2.1 M_193.2.2.2 795 (oS 1 (s_push (.int 2))) := ok_iconst dL_law_795 (by decide)
theorem k_193_796 : mOk M_193.1 M_193.2.1 M_193.2.2.1 M_193.2.2.2 796 (oS 1 (s_ii (fun a b => a + b))) := ok_iadd dL_law_796
theorem k_193_797 : mOk M_193.1 M_193.2.1 M_193.2.2.1 M_193.2.2.2 797 (o_sld) := ok_sld dL_law_797
theorem k_193_801 : mOk M_193.1 M_193.2.1 M_193.2.2.1 M_193.2.2.2 801 (o_ceq 1042) := ok_ceq dL_law_801 (by decide)
theorem k_193_804 : mOk M_193.1 M_193.2.1 M_193.2.2.1 M_193.2.2.2 804 (oS 1 (s_push (.int 0))) := ok_iconst dL_law_804 (by decide)
theorem k_193_806 : mOk M_193.1 M_193.2.1 M_193.2.2.1 M_193.2.2.2 806 (o_al 1 1) := ok_aload_n dL_law_806 rfl
theorem k_193_807 : mOk M_193.1 M_193.2.1 M_193.2.2.1 M_193.2.2.2 807 (o_al 3 1) := ok_aload_n dL_law_807 rfl
theorem k_193_811 : mOk M_193.1 M_193.2.1 M_193.2.2.1 M_193.2.2.2 811 (o_is 5 2) := ok_istore dL_law_811
theorem k_193_813 : mOk M_193.1 M_193.2.1 M_193.2.2.1 M_193.2.2.2 813 (o_al 2 1) := ok_aload_n dL_law_813 rfl
theorem k_193_817 : mOk M_193.1 M_193.2.1 M_193.2.2.1 M_193.2.2.2 817 (o_is 6 2) := ok_istore dL_law_817
theorem k_193_819 : mOk M_193.1 M_193.2.1 M_193.2.2.1 M_193.2.2.2 819 (o_al 2 1) := ok_aload_n dL_law_819 rfl
theorem k_193_823 : mOk M_193.1 M_193.2.1 M_193.2.2.1 M_193.2.2.2 823 (o_il 5 2) := ok_iload dL_law_823
theorem k_193_825 : mOk M_193.1 M_193.2.1 M_193.2.2.1 M_193.2.2.2 825 (o_ceq 830) := ok_ceq dL_law_825 (by decide)
theorem k_193_828 : mOk M_193.1 M_193.2.1 M_193.2.2.1 M_193.2.2.2 828 (oS 1 (s_push (.int 0))) := ok_iconst dL_law_828 (by decide)
theorem k_193_830 : mOk M_193.1 M_193.2.1 M_193.2.2.1 M_193.2.2.2 830 (o_il 5 2) := ok_iload dL_law_830
theorem k_193_832 : mOk M_193.1 M_193.2.1 M_193.2.2.1 M_193.2.2.2 832 (o_zne 847) := ok_zne dL_law_832 (by decide)
theorem k_193_835 : mOk M_193.1 M_193.2.1 M_193.2.2.1 M_193.2.2.2 835 (o_al 3 1) := ok_aload_n dL_law_835 rfl
theorem k_193_836 : mOk M_193.1 M_193.2.1 M_193.2.2.1 M_193.2.2.2 836 (oS 1 (s_push (.int 0))) := ok_iconst dL_law_836 (by decide)
theorem k_193_837 : mOk M_193.1 M_193.2.1 M_193.2.2.1 M_193.2.2.2 837 (o_lald) := ok_lald dL_law_837
theorem k_193_838 : mOk M_193.1 M_193.2.1 M_193.2.2.1 M_193.2.2.2 838 (o_il 6 2) := ok_iload dL_law_838
theorem k_193_840 : mOk M_193.1 M_193.2.1 M_193.2.2.1 M_193.2.2.2 840 (oS 1 s_i2l) := ok_i2l dL_law_840
theorem k_193_841 : mOk M_193.1 M_193.2.1 M_193.2.2.1 M_193.2.2.2 841 (oS 1 s_lcmp) := ok_lcmp dL_law_841
theorem k_193_842 : mOk M_193.1 M_193.2.1 M_193.2.2.1 M_193.2.2.2 842 (o_zeq 847) := ok_zeq dL_law_842 (by decide)
theorem k_193_845 : mOk M_193.1 M_193.2.1 M_193.2.2.1 M_193.2.2.2 845 (oS 1 (s_push (.int 0))) := ok_iconst dL_law_845 (by decide)
theorem k_193_847 : mOk M_193.1 M_193.2.1 M_193.2.2.1 M_193.2.2.2 847 (o_goto 1042) := ok_goto dL_law_847 (by decide)
theorem k_193_850 : mOk M_193.1 M_193.2.1 M_193.2.2.1 M_193.2.2.2 850 (o_al 1 1) := ok_aload_n dL_law_850 rfl
theorem k_193_851 : mOk M_193.1 M_193.2.1 M_193.2.2.1 M_193.2.2.2 851 (o_al 0 1) := ok_aload_n dL_law_851 rfl
theorem k_193_852 : mOk M_193.1 M_193.2.1 M_193.2.2.1 M_193.2.2.2 852 (o_il 4 2) := ok_iload dL_law_852
theorem k_193_854 : mOk M_193.1 M_193.2.1 M_193.2.2.1 M_193.2.2.2 854 (oS 1 (s_push (.int 1))) := ok_iconst dL_law_854 (by decide)
theorem k_193_855 : mOk M_193.1 M_193.2.1 M_193.2.2.1 M_193.2.2.2 855 (oS 1 (s_ii (fun a b => a + b))) := ok_iadd dL_law_855
theorem k_193_856 : mOk M_193.1 M_193.2.1 M_193.2.2.1 M_193.2.2.2 856 (o_sld) := ok_sld dL_law_856
theorem k_193_857 : mOk M_193.1 M_193.2.1 M_193.2.2.1 M_193.2.2.2 857 (oS 1 s_i2l) := ok_i2l dL_law_857
theorem k_193_858 : mOk M_193.1 M_193.2.1 M_193.2.2.1 M_193.2.2.2 858 (oS 2 (s_push (.int 32))) := ok_bipush dL_law_858 (by decide)
theorem k_193_860 : mOk M_193.1 M_193.2.1 M_193.2.2.1 M_193.2.2.2 860 (oS 1 (s_li (fun a b => a <<< (b.toInt64 &&& 63)))) := ok_lshl dL_law_860
theorem k_193_861 : mOk M_193.1 M_193.2.1 M_193.2.2.1 M_193.2.2.2 861 (o_al 0 1) := ok_aload_n dL_law_861 rfl
theorem k_193_862 : mOk M_193.1 M_193.2.1 M_193.2.2.1 M_193.2.2.2 862 (o_il 4 2) := ok_iload dL_law_862
theorem k_193_864 : mOk M_193.1 M_193.2.1 M_193.2.2.1 M_193.2.2.2 864 (oS 1 (s_push (.int 2))) := ok_iconst dL_law_864 (by decide)
theorem k_193_865 : mOk M_193.1 M_193.2.1 M_193.2.2.1 M_193.2.2.2 865 (oS 1 (s_ii (fun a b => a + b))) := ok_iadd dL_law_865
theorem k_193_866 : mOk M_193.1 M_193.2.1 M_193.2.2.1 M_193.2.2.2 866 (o_sld) := ok_sld dL_law_866
theorem k_193_867 : mOk M_193.1 M_193.2.1 M_193.2.2.1 M_193.2.2.2 867 (oS 1 s_i2l) := ok_i2l dL_law_867
theorem k_193_868 : mOk M_193.1 M_193.2.1 M_193.2.2.1 M_193.2.2.2 868 (oS 3 (s_push (.long 4294967295))) := ok_ldc2 dL_law_868 m_1470
theorem k_193_871 : mOk M_193.1 M_193.2.1 M_193.2.2.1 M_193.2.2.2 871 (oS 1 (s_ll (fun a b => a &&& b))) := ok_land dL_law_871
theorem k_193_872 : mOk M_193.1 M_193.2.1 M_193.2.2.1 M_193.2.2.2 872 (oS 1 (s_ll (fun a b => a ||| b))) := ok_lor dL_law_872
theorem k_193_873 : mOk M_193.1 M_193.2.1 M_193.2.2.1 M_193.2.2.2 873 (o_al 0 1) := ok_aload_n dL_law_873 rfl
theorem k_193_874 : mOk M_193.1 M_193.2.1 M_193.2.2.1 M_193.2.2.2 874 (o_il 4 2) := ok_iload dL_law_874
theorem k_193_876 : mOk M_193.1 M_193.2.1 M_193.2.2.1 M_193.2.2.2 876 (oS 1 (s_push (.int 3))) := ok_iconst dL_law_876 (by decide)
theorem k_193_877 : mOk M_193.1 M_193.2.1 M_193.2.2.1 M_193.2.2.2 877 (oS 1 (s_ii (fun a b => a + b))) := ok_iadd dL_law_877
theorem k_193_878 : mOk M_193.1 M_193.2.1 M_193.2.2.1 M_193.2.2.2 878 (o_sld) := ok_sld dL_law_878
theorem k_193_879 : mOk M_193.1 M_193.2.1 M_193.2.2.1 M_193.2.2.2 879 (o_al 3 1) := ok_aload_n dL_law_879 rfl
theorem k_193_883 : mOk M_193.1 M_193.2.1 M_193.2.2.1 M_193.2.2.2 883 (o_is 5 2) := ok_istore dL_law_883
theorem k_193_885 : mOk M_193.1 M_193.2.1 M_193.2.2.1 M_193.2.2.2 885 (o_al 2 1) := ok_aload_n dL_law_885 rfl
theorem k_193_886 : mOk M_193.1 M_193.2.1 M_193.2.2.1 M_193.2.2.2 886 (o_al 0 1) := ok_aload_n dL_law_886 rfl
theorem k_193_887 : mOk M_193.1 M_193.2.1 M_193.2.2.1 M_193.2.2.2 887 (o_il 4 2) := ok_iload dL_law_887
theorem k_193_889 : mOk M_193.1 M_193.2.1 M_193.2.2.1 M_193.2.2.2 889 (oS 1 (s_push (.int 1))) := ok_iconst dL_law_889 (by decide)
theorem k_193_890 : mOk M_193.1 M_193.2.1 M_193.2.2.1 M_193.2.2.2 890 (oS 1 (s_ii (fun a b => a + b))) := ok_iadd dL_law_890
theorem k_193_891 : mOk M_193.1 M_193.2.1 M_193.2.2.1 M_193.2.2.2 891 (o_sld) := ok_sld dL_law_891
theorem k_193_892 : mOk M_193.1 M_193.2.1 M_193.2.2.1 M_193.2.2.2 892 (oS 1 s_i2l) := ok_i2l dL_law_892
theorem k_193_893 : mOk M_193.1 M_193.2.1 M_193.2.2.1 M_193.2.2.2 893 (oS 2 (s_push (.int 32))) := ok_bipush dL_law_893 (by decide)
theorem k_193_895 : mOk M_193.1 M_193.2.1 M_193.2.2.1 M_193.2.2.2 895 (oS 1 (s_li (fun a b => a <<< (b.toInt64 &&& 63)))) := ok_lshl dL_law_895
theorem k_193_896 : mOk M_193.1 M_193.2.1 M_193.2.2.1 M_193.2.2.2 896 (o_al 0 1) := ok_aload_n dL_law_896 rfl
theorem k_193_897 : mOk M_193.1 M_193.2.1 M_193.2.2.1 M_193.2.2.2 897 (o_il 4 2) := ok_iload dL_law_897
theorem k_193_899 : mOk M_193.1 M_193.2.1 M_193.2.2.1 M_193.2.2.2 899 (oS 1 (s_push (.int 2))) := ok_iconst dL_law_899 (by decide)
theorem k_193_900 : mOk M_193.1 M_193.2.1 M_193.2.2.1 M_193.2.2.2 900 (oS 1 (s_ii (fun a b => a + b))) := ok_iadd dL_law_900
theorem k_193_901 : mOk M_193.1 M_193.2.1 M_193.2.2.1 M_193.2.2.2 901 (o_sld) := ok_sld dL_law_901
theorem k_193_902 : mOk M_193.1 M_193.2.1 M_193.2.2.1 M_193.2.2.2 902 (oS 1 s_i2l) := ok_i2l dL_law_902
theorem k_193_903 : mOk M_193.1 M_193.2.1 M_193.2.2.1 M_193.2.2.2 903 (oS 3 (s_push (.long 4294967295))) := ok_ldc2 dL_law_903 m_1470
theorem k_193_906 : mOk M_193.1 M_193.2.1 M_193.2.2.1 M_193.2.2.2 906 (oS 1 (s_ll (fun a b => a &&& b))) := ok_land dL_law_906
theorem k_193_907 : mOk M_193.1 M_193.2.1 M_193.2.2.1 M_193.2.2.2 907 (oS 1 (s_ll (fun a b => a ||| b))) := ok_lor dL_law_907
theorem k_193_908 : mOk M_193.1 M_193.2.1 M_193.2.2.1 M_193.2.2.2 908 (o_al 0 1) := ok_aload_n dL_law_908 rfl
theorem k_193_909 : mOk M_193.1 M_193.2.1 M_193.2.2.1 M_193.2.2.2 909 (o_il 4 2) := ok_iload dL_law_909
theorem k_193_911 : mOk M_193.1 M_193.2.1 M_193.2.2.1 M_193.2.2.2 911 (oS 1 (s_push (.int 3))) := ok_iconst dL_law_911 (by decide)
theorem k_193_912 : mOk M_193.1 M_193.2.1 M_193.2.2.1 M_193.2.2.2 912 (oS 1 (s_ii (fun a b => a + b))) := ok_iadd dL_law_912
theorem k_193_913 : mOk M_193.1 M_193.2.1 M_193.2.2.1 M_193.2.2.2 913 (o_sld) := ok_sld dL_law_913
theorem k_193_917 : mOk M_193.1 M_193.2.1 M_193.2.2.1 M_193.2.2.2 917 (o_is 6 2) := ok_istore dL_law_917
theorem k_193_919 : mOk M_193.1 M_193.2.1 M_193.2.2.1 M_193.2.2.2 919 (o_al 2 1) := ok_aload_n dL_law_919 rfl
theorem k_193_923 : mOk M_193.1 M_193.2.1 M_193.2.2.1 M_193.2.2.2 923 (o_il 5 2) := ok_iload dL_law_923
theorem k_193_925 : mOk M_193.1 M_193.2.1 M_193.2.2.1 M_193.2.2.2 925 (o_ceq 930) := ok_ceq dL_law_925 (by decide)
theorem k_193_928 : mOk M_193.1 M_193.2.1 M_193.2.2.1 M_193.2.2.2 928 (oS 1 (s_push (.int 0))) := ok_iconst dL_law_928 (by decide)
theorem k_193_930 : mOk M_193.1 M_193.2.1 M_193.2.2.1 M_193.2.2.2 930 (o_il 5 2) := ok_iload dL_law_930
theorem k_193_932 : mOk M_193.1 M_193.2.1 M_193.2.2.1 M_193.2.2.2 932 (o_zne 947) := ok_zne dL_law_932 (by decide)
theorem k_193_935 : mOk M_193.1 M_193.2.1 M_193.2.2.1 M_193.2.2.2 935 (o_al 3 1) := ok_aload_n dL_law_935 rfl
theorem k_193_936 : mOk M_193.1 M_193.2.1 M_193.2.2.1 M_193.2.2.2 936 (oS 1 (s_push (.int 0))) := ok_iconst dL_law_936 (by decide)
theorem k_193_937 : mOk M_193.1 M_193.2.1 M_193.2.2.1 M_193.2.2.2 937 (o_lald) := ok_lald dL_law_937
theorem k_193_938 : mOk M_193.1 M_193.2.1 M_193.2.2.1 M_193.2.2.2 938 (o_il 6 2) := ok_iload dL_law_938
theorem k_193_940 : mOk M_193.1 M_193.2.1 M_193.2.2.1 M_193.2.2.2 940 (oS 1 s_i2l) := ok_i2l dL_law_940
theorem k_193_941 : mOk M_193.1 M_193.2.1 M_193.2.2.1 M_193.2.2.2 941 (oS 1 s_lcmp) := ok_lcmp dL_law_941
theorem k_193_942 : mOk M_193.1 M_193.2.1 M_193.2.2.1 M_193.2.2.2 942 (o_zeq 947) := ok_zeq dL_law_942 (by decide)
theorem k_193_945 : mOk M_193.1 M_193.2.1 M_193.2.2.1 M_193.2.2.2 945 (oS 1 (s_push (.int 0))) := ok_iconst dL_law_945 (by decide)
theorem k_193_947 : mOk M_193.1 M_193.2.1 M_193.2.2.1 M_193.2.2.2 947 (o_goto 1042) := ok_goto dL_law_947 (by decide)
theorem k_193_950 : mOk M_193.1 M_193.2.1 M_193.2.2.1 M_193.2.2.2 950 (o_al 1 1) := ok_aload_n dL_law_950 rfl
theorem k_193_951 : mOk M_193.1 M_193.2.1 M_193.2.2.1 M_193.2.2.2 951 (o_al 0 1) := ok_aload_n dL_law_951 rfl
theorem k_193_952 : mOk M_193.1 M_193.2.1 M_193.2.2.1 M_193.2.2.2 952 (o_il 4 2) := ok_iload dL_law_952
theorem k_193_954 : mOk M_193.1 M_193.2.1 M_193.2.2.1 M_193.2.2.2 954 (oS 1 (s_push (.int 1))) := ok_iconst dL_law_954 (by decide)
theorem k_193_955 : mOk M_193.1 M_193.2.1 M_193.2.2.1 M_193.2.2.2 955 (oS 1 (s_ii (fun a b => a + b))) := ok_iadd dL_law_955
theorem k_193_956 : mOk M_193.1 M_193.2.1 M_193.2.2.1 M_193.2.2.2 956 (o_sld) := ok_sld dL_law_956
theorem k_193_957 : mOk M_193.1 M_193.2.1 M_193.2.2.1 M_193.2.2.2 957 (o_al 0 1) := ok_aload_n dL_law_957 rfl
theorem k_193_958 : mOk M_193.1 M_193.2.1 M_193.2.2.1 M_193.2.2.2 958 (o_il 4 2) := ok_iload dL_law_958
theorem k_193_960 : mOk M_193.1 M_193.2.1 M_193.2.2.1 M_193.2.2.2 960 (oS 1 (s_push (.int 2))) := ok_iconst dL_law_960 (by decide)
theorem k_193_961 : mOk M_193.1 M_193.2.1 M_193.2.2.1 M_193.2.2.2 961 (oS 1 (s_ii (fun a b => a + b))) := ok_iadd dL_law_961
theorem k_193_962 : mOk M_193.1 M_193.2.1 M_193.2.2.1 M_193.2.2.2 962 (o_sld) := ok_sld dL_law_962
theorem k_193_963 : mOk M_193.1 M_193.2.1 M_193.2.2.1 M_193.2.2.2 963 (o_al 0 1) := ok_aload_n dL_law_963 rfl
theorem k_193_964 : mOk M_193.1 M_193.2.1 M_193.2.2.1 M_193.2.2.2 964 (o_il 4 2) := ok_iload dL_law_964
theorem k_193_966 : mOk M_193.1 M_193.2.1 M_193.2.2.1 M_193.2.2.2 966 (oS 1 (s_push (.int 3))) := ok_iconst dL_law_966 (by decide)
theorem k_193_967 : mOk M_193.1 M_193.2.1 M_193.2.2.1 M_193.2.2.2 967 (oS 1 (s_ii (fun a b => a + b))) := ok_iadd dL_law_967
theorem k_193_968 : mOk M_193.1 M_193.2.1 M_193.2.2.1 M_193.2.2.2 968 (o_sld) := ok_sld dL_law_968
theorem k_193_969 : mOk M_193.1 M_193.2.1 M_193.2.2.1 M_193.2.2.2 969 (o_al 0 1) := ok_aload_n dL_law_969 rfl
theorem k_193_970 : mOk M_193.1 M_193.2.1 M_193.2.2.1 M_193.2.2.2 970 (o_il 4 2) := ok_iload dL_law_970
theorem k_193_972 : mOk M_193.1 M_193.2.1 M_193.2.2.1 M_193.2.2.2 972 (oS 1 (s_push (.int 4))) := ok_iconst dL_law_972 (by decide)
theorem k_193_973 : mOk M_193.1 M_193.2.1 M_193.2.2.1 M_193.2.2.2 973 (oS 1 (s_ii (fun a b => a + b))) := ok_iadd dL_law_973
theorem k_193_974 : mOk M_193.1 M_193.2.1 M_193.2.2.1 M_193.2.2.2 974 (o_sld) := ok_sld dL_law_974
theorem k_193_975 : mOk M_193.1 M_193.2.1 M_193.2.2.1 M_193.2.2.2 975 (o_al 3 1) := ok_aload_n dL_law_975 rfl
theorem k_193_979 : mOk M_193.1 M_193.2.1 M_193.2.2.1 M_193.2.2.2 979 (o_is 5 2) := ok_istore dL_law_979
theorem k_193_981 : mOk M_193.1 M_193.2.1 M_193.2.2.1 M_193.2.2.2 981 (o_al 2 1) := ok_aload_n dL_law_981 rfl
theorem k_193_982 : mOk M_193.1 M_193.2.1 M_193.2.2.1 M_193.2.2.2 982 (o_al 0 1) := ok_aload_n dL_law_982 rfl
theorem k_193_983 : mOk M_193.1 M_193.2.1 M_193.2.2.1 M_193.2.2.2 983 (o_il 4 2) := ok_iload dL_law_983
theorem k_193_985 : mOk M_193.1 M_193.2.1 M_193.2.2.1 M_193.2.2.2 985 (oS 1 (s_push (.int 1))) := ok_iconst dL_law_985 (by decide)
theorem k_193_986 : mOk M_193.1 M_193.2.1 M_193.2.2.1 M_193.2.2.2 986 (oS 1 (s_ii (fun a b => a + b))) := ok_iadd dL_law_986
theorem k_193_987 : mOk M_193.1 M_193.2.1 M_193.2.2.1 M_193.2.2.2 987 (o_sld) := ok_sld dL_law_987
theorem k_193_988 : mOk M_193.1 M_193.2.1 M_193.2.2.1 M_193.2.2.2 988 (o_al 0 1) := ok_aload_n dL_law_988 rfl
theorem k_193_989 : mOk M_193.1 M_193.2.1 M_193.2.2.1 M_193.2.2.2 989 (o_il 4 2) := ok_iload dL_law_989
theorem k_193_991 : mOk M_193.1 M_193.2.1 M_193.2.2.1 M_193.2.2.2 991 (oS 1 (s_push (.int 2))) := ok_iconst dL_law_991 (by decide)
theorem k_193_992 : mOk M_193.1 M_193.2.1 M_193.2.2.1 M_193.2.2.2 992 (oS 1 (s_ii (fun a b => a + b))) := ok_iadd dL_law_992
theorem k_193_993 : mOk M_193.1 M_193.2.1 M_193.2.2.1 M_193.2.2.2 993 (o_sld) := ok_sld dL_law_993
theorem k_193_994 : mOk M_193.1 M_193.2.1 M_193.2.2.1 M_193.2.2.2 994 (o_al 0 1) := ok_aload_n dL_law_994 rfl
theorem k_193_995 : mOk M_193.1 M_193.2.1 M_193.2.2.1 M_193.2.2.2 995 (o_il 4 2) := ok_iload dL_law_995
theorem k_193_997 : mOk M_193.1 M_193.2.1 M_193.2.2.1 M_193.2.2.2 997 (oS 1 (s_push (.int 3))) := ok_iconst dL_law_997 (by decide)
theorem k_193_998 : mOk M_193.1 M_193.2.1 M_193.2.2.1 M_193.2.2.2 998 (oS 1 (s_ii (fun a b => a + b))) := ok_iadd dL_law_998
theorem k_193_999 : mOk M_193.1 M_193.2.1 M_193.2.2.1 M_193.2.2.2 999 (o_sld) := ok_sld dL_law_999
theorem k_193_1000 : mOk M_193.1 M_193.2.1 M_193.2.2.1 M_193.2.2.2 1000 (o_al 0 1) := ok_aload_n dL_law_1000 rfl
theorem k_193_1001 : mOk M_193.1 M_193.2.1 M_193.2.2.1 M_193.2.2.2 1001 (o_il 4 2) := ok_iload dL_law_1001
theorem k_193_1003 : mOk M_193.1 M_193.2.1 M_193.2.2.1 M_193.2.2.2 1003 (oS 1 (s_push (.int 4))) := ok_iconst dL_law_1003 (by decide)
theorem k_193_1004 : mOk M_193.1 M_193.2.1 M_193.2.2.1 M_193.2.2.2 1004 (oS 1 (s_ii (fun a b => a + b))) := ok_iadd dL_law_1004
theorem k_193_1005 : mOk M_193.1 M_193.2.1 M_193.2.2.1 M_193.2.2.2 1005 (o_sld) := ok_sld dL_law_1005
theorem k_193_1009 : mOk M_193.1 M_193.2.1 M_193.2.2.1 M_193.2.2.2 1009 (o_is 6 2) := ok_istore dL_law_1009
theorem k_193_1011 : mOk M_193.1 M_193.2.1 M_193.2.2.1 M_193.2.2.2 1011 (o_al 2 1) := ok_aload_n dL_law_1011 rfl
theorem k_193_1015 : mOk M_193.1 M_193.2.1 M_193.2.2.1 M_193.2.2.2 1015 (o_il 5 2) := ok_iload dL_law_1015
theorem k_193_1017 : mOk M_193.1 M_193.2.1 M_193.2.2.1 M_193.2.2.2 1017 (o_ceq 1022) := ok_ceq dL_law_1017 (by decide)
theorem k_193_1020 : mOk M_193.1 M_193.2.1 M_193.2.2.1 M_193.2.2.2 1020 (oS 1 (s_push (.int 0))) := ok_iconst dL_law_1020 (by decide)
theorem k_193_1022 : mOk M_193.1 M_193.2.1 M_193.2.2.1 M_193.2.2.2 1022 (o_il 5 2) := ok_iload dL_law_1022
theorem k_193_1024 : mOk M_193.1 M_193.2.1 M_193.2.2.1 M_193.2.2.2 1024 (o_zne 1039) := ok_zne dL_law_1024 (by decide)
theorem k_193_1027 : mOk M_193.1 M_193.2.1 M_193.2.2.1 M_193.2.2.2 1027 (o_al 3 1) := ok_aload_n dL_law_1027 rfl
theorem k_193_1028 : mOk M_193.1 M_193.2.1 M_193.2.2.1 M_193.2.2.2 1028 (oS 1 (s_push (.int 0))) := ok_iconst dL_law_1028 (by decide)
theorem k_193_1029 : mOk M_193.1 M_193.2.1 M_193.2.2.1 M_193.2.2.2 1029 (o_lald) := ok_lald dL_law_1029
theorem k_193_1030 : mOk M_193.1 M_193.2.1 M_193.2.2.1 M_193.2.2.2 1030 (o_il 6 2) := ok_iload dL_law_1030
theorem k_193_1032 : mOk M_193.1 M_193.2.1 M_193.2.2.1 M_193.2.2.2 1032 (oS 1 s_i2l) := ok_i2l dL_law_1032
theorem k_193_1033 : mOk M_193.1 M_193.2.1 M_193.2.2.1 M_193.2.2.2 1033 (oS 1 s_lcmp) := ok_lcmp dL_law_1033
theorem k_193_1034 : mOk M_193.1 M_193.2.1 M_193.2.2.1 M_193.2.2.2 1034 (o_zeq 1039) := ok_zeq dL_law_1034 (by decide)
theorem k_193_1037 : mOk M_193.1 M_193.2.1 M_193.2.2.1 M_193.2.2.2 1037 (oS 1 (s_push (.int 0))) := ok_iconst dL_law_1037 (by decide)
theorem k_193_1039 : mOk M_193.1 M_193.2.1 M_193.2.2.1 M_193.2.2.2 1039 (o_goto 1042) := ok_goto dL_law_1039 (by decide)
theorem k_193_1042 : mOk M_193.1 M_193.2.1 M_193.2.2.1 M_193.2.2.2 1042 (o_inc 4 7) := ok_iinc dL_law_1042 (by decide)
theorem k_193_1045 : mOk M_193.1 M_193.2.1 M_193.2.2.1 M_193.2.2.2 1045 (o_goto 23) := ok_goto dL_law_1045 (by decide)
theorem k_193_1048 : mOk M_193.1 M_193.2.1 M_193.2.2.1 M_193.2.2.2 1048 (oS 1 (s_push (.int 1))) := ok_iconst dL_law_1048 (by decide)
set_option maxRecDepth 20000 in
set_option maxHeartbeats 4000000 in
theorem tk_193 (l : Launch) (H9 : mThr l) (H10 : mSpl l) (pc : Nat) (q : mEnt) (h : tb_193 pc = some q) : EE l 193 pc q := nd h (fun h => nd h (fun h => nd h (fun h => nd h (fun h => nd h (fun h => nd h (fun h => nd h (fun h => nd h (fun h => nd h (fun h => lf (P := EE l 193) h k_193_0) (fun h => lf (P := EE l 193) h k_193_3)) (fun h => nd h (fun h => lf (P := EE l 193) h (EE_ca (by decide) (⟨m_95, m_70, ⟨by decide, by decide⟩, by decide +kernel, ⟨by decide, by decide⟩, 48, 0, by decide +kernel, Or.inr (Or.inr (Or.inr (Or.inl ⟨rfl, rfl, dL_law_4, m_93, m_94, rfl, rfl⟩)))⟩) rfl)) (fun h => nd h (fun h => lf (P := EE l 193) h k_193_7) (fun h => lf (P := EE l 193) h k_193_8)))) (fun h => nd h (fun h => nd h (fun h => lf (P := EE l 193) h k_193_11) (fun h => lf (P := EE l 193) h (EE_ca (by decide) (⟨m_1052, m_81, ⟨by decide, by decide⟩, by decide +kernel, ⟨by decide, by decide⟩, 51, 0, by decide +kernel, Or.inr (Or.inr (Or.inr (Or.inl ⟨rfl, rfl, dL_law_12, m_1050, m_1051, rfl, rfl⟩)))⟩) rfl))) (fun h => nd h (fun h => lf (P := EE l 193) h k_193_15) (fun h => nd h (fun h => lf (P := EE l 193) h k_193_16) (fun h => lf (P := EE l 193) h k_193_17))))) (fun h => nd h (fun h => nd h (fun h => nd h (fun h => lf (P := EE l 193) h k_193_19) (fun h => lf (P := EE l 193) h k_193_20)) (fun h => nd h (fun h => lf (P := EE l 193) h k_193_21) (fun h => nd h (fun h => lf (P := EE l 193) h k_193_23) (fun h => lf (P := EE l 193) h k_193_25)))) (fun h => nd h (fun h => nd h (fun h => lf (P := EE l 193) h k_193_26) (fun h => lf (P := EE l 193) h k_193_27)) (fun h => nd h (fun h => lf (P := EE l 193) h k_193_29) (fun h => nd h (fun h => lf (P := EE l 193) h k_193_30) (fun h => lf (P := EE l 193) h k_193_33)))))) (fun h => nd h (fun h => nd h (fun h => nd h (fun h => nd h (fun h => lf (P := EE l 193) h k_193_34) (fun h => lf (P := EE l 193) h k_193_36)) (fun h => nd h (fun h => lf (P := EE l 193) h k_193_37) (fun h => nd h (fun h => lf (P := EE l 193) h k_193_39) (fun h => lf (P := EE l 193) h k_193_40)))) (fun h => nd h (fun h => nd h (fun h => lf (P := EE l 193) h k_193_120) (fun h => lf (P := EE l 193) h k_193_121)) (fun h => nd h (fun h => lf (P := EE l 193) h k_193_122) (fun h => nd h (fun h => lf (P := EE l 193) h k_193_124) (fun h => lf (P := EE l 193) h k_193_125))))) (fun h => nd h (fun h => nd h (fun h => nd h (fun h => lf (P := EE l 193) h k_193_126) (fun h => lf (P := EE l 193) h k_193_127)) (fun h => nd h (fun h => lf (P := EE l 193) h k_193_128) (fun h => nd h (fun h => lf (P := EE l 193) h k_193_130) (fun h => lf (P := EE l 193) h k_193_131)))) (fun h => nd h (fun h => nd h (fun h => lf (P := EE l 193) h k_193_132) (fun h => nd h (fun h => lf (P := EE l 193) h (EE_ca (by decide) (⟨m_464, m_70, ⟨by decide, by decide⟩, by decide +kernel, ⟨by decide, by decide⟩, 52, 2, by decide +kernel, Or.inr (Or.inr (Or.inl ⟨rfl, rfl, dL_law_133, m_461, m_462, _, rfl, by decide, m_463⟩))⟩) rfl)) (fun h => lf (P := EE l 193) h k_193_136))) (fun h => nd h (fun h => lf (P := EE l 193) h k_193_137) (fun h => nd h (fun h => lf (P := EE l 193) h k_193_138) (fun h => lf (P := EE l 193) h k_193_140))))))) (fun h => nd h (fun h => nd h (fun h => nd h (fun h => nd h (fun h => nd h (fun h => lf (P := EE l 193) h k_193_141) (fun h => lf (P := EE l 193) h k_193_142)) (fun h => nd h (fun h => lf (P := EE l 193) h k_193_143) (fun h => nd h (fun h => lf (P := EE l 193) h k_193_144) (fun h => lf (P := EE l 193) h k_193_146)))) (fun h => nd h (fun h => nd h (fun h => lf (P := EE l 193) h k_193_147) (fun h => lf (P := EE l 193) h k_193_148)) (fun h => nd h (fun h => lf (P := EE l 193) h (EE_ca (by decide) (⟨m_1216, m_81, ⟨by decide, by decide⟩, by decide +kernel, ⟨by decide, by decide⟩, 56, 2, by decide +kernel, Or.inr (Or.inr (Or.inl ⟨rfl, rfl, dL_law_149, m_1213, m_1214, _, rfl, by decide, m_1215⟩))⟩) rfl)) (fun h => nd h (fun h => lf (P := EE l 193) h k_193_152) (fun h => lf (P := EE l 193) h k_193_155))))) (fun h => nd h (fun h => nd h (fun h => nd h (fun h => lf (P := EE l 193) h (EE_re (Or.inr (Or.inl ⟨rfl, dL_law_156, rfl⟩)))) (fun h => lf (P := EE l 193) h k_193_157)) (fun h => nd h (fun h => lf (P := EE l 193) h k_193_158) (fun h => nd h (fun h => lf (P := EE l 193) h k_193_159) (fun h => lf (P := EE l 193) h k_193_161)))) (fun h => nd h (fun h => nd h (fun h => lf (P := EE l 193) h k_193_162) (fun h => nd h (fun h => lf (P := EE l 193) h k_193_163) (fun h => lf (P := EE l 193) h k_193_164))) (fun h => nd h (fun h => lf (P := EE l 193) h k_193_165) (fun h => nd h (fun h => lf (P := EE l 193) h k_193_167) (fun h => lf (P := EE l 193) h k_193_168)))))) (fun h => nd h (fun h => nd h (fun h => nd h (fun h => nd h (fun h => lf (P := EE l 193) h k_193_169) (fun h => lf (P := EE l 193) h k_193_170)) (fun h => nd h (fun h => lf (P := EE l 193) h k_193_171) (fun h => nd h (fun h => lf (P := EE l 193) h k_193_173) (fun h => lf (P := EE l 193) h k_193_174)))) (fun h => nd h (fun h => nd h (fun h => lf (P := EE l 193) h k_193_175) (fun h => lf (P := EE l 193) h k_193_176)) (fun h => nd h (fun h => lf (P := EE l 193) h k_193_177) (fun h => nd h (fun h => lf (P := EE l 193) h k_193_179) (fun h => lf (P := EE l 193) h k_193_180))))) (fun h => nd h (fun h => nd h (fun h => nd h (fun h => lf (P := EE l 193) h k_193_181) (fun h => lf (P := EE l 193) h k_193_182)) (fun h => nd h (fun h => lf (P := EE l 193) h k_193_183) (fun h => nd h (fun h => lf (P := EE l 193) h k_193_185) (fun h => lf (P := EE l 193) h k_193_186)))) (fun h => nd h (fun h => nd h (fun h => lf (P := EE l 193) h k_193_187) (fun h => nd h (fun h => lf (P := EE l 193) h k_193_188) (fun h => lf (P := EE l 193) h k_193_189))) (fun h => nd h (fun h => lf (P := EE l 193) h k_193_191) (fun h => nd h (fun h => lf (P := EE l 193) h k_193_192) (fun h => lf (P := EE l 193) h k_193_193)))))))) (fun h => nd h (fun h => nd h (fun h => nd h (fun h => nd h (fun h => nd h (fun h => nd h (fun h => lf (P := EE l 193) h k_193_195) (fun h => lf (P := EE l 193) h k_193_197)) (fun h => nd h (fun h => lf (P := EE l 193) h k_193_198) (fun h => nd h (fun h => lf (P := EE l 193) h k_193_199) (fun h => lf (P := EE l 193) h k_193_200)))) (fun h => nd h (fun h => nd h (fun h => lf (P := EE l 193) h k_193_203) (fun h => lf (P := EE l 193) h k_193_204)) (fun h => nd h (fun h => lf (P := EE l 193) h k_193_205) (fun h => nd h (fun h => lf (P := EE l 193) h (EE_sp H10 (by decide) (by decide))) (fun h => lf (P := EE l 193) h k_193_209))))) (fun h => nd h (fun h => nd h (fun h => nd h (fun h => lf (P := EE l 193) h k_193_211) (fun h => lf (P := EE l 193) h k_193_212)) (fun h => nd h (fun h => lf (P := EE l 193) h k_193_213) (fun h => nd h (fun h => lf (P := EE l 193) h k_193_215) (fun h => lf (P := EE l 193) h k_193_216)))) (fun h => nd h (fun h => nd h (fun h => lf (P := EE l 193) h k_193_217) (fun h => nd h (fun h => lf (P := EE l 193) h k_193_218) (fun h => lf (P := EE l 193) h k_193_219))) (fun h => nd h (fun h => lf (P := EE l 193) h k_193_221) (fun h => nd h (fun h => lf (P := EE l 193) h k_193_222) (fun h => lf (P := EE l 193) h k_193_223)))))) (fun h => nd h (fun h => nd h (fun h => nd h (fun h => nd h (fun h => lf (P := EE l 193) h k_193_224) (fun h => lf (P := EE l 193) h k_193_225)) (fun h => nd h (fun h => lf (P := EE l 193) h k_193_227) (fun h => nd h (fun h => lf (P := EE l 193) h k_193_228) (fun h => lf (P := EE l 193) h k_193_229)))) (fun h => nd h (fun h => nd h (fun h => lf (P := EE l 193) h k_193_230) (fun h => lf (P := EE l 193) h k_193_231)) (fun h => nd h (fun h => lf (P := EE l 193) h k_193_233) (fun h => nd h (fun h => lf (P := EE l 193) h k_193_234) (fun h => lf (P := EE l 193) h k_193_235))))) (fun h => nd h (fun h => nd h (fun h => nd h (fun h => lf (P := EE l 193) h k_193_236) (fun h => lf (P := EE l 193) h k_193_237)) (fun h => nd h (fun h => lf (P := EE l 193) h k_193_239) (fun h => nd h (fun h => lf (P := EE l 193) h k_193_240) (fun h => lf (P := EE l 193) h k_193_241)))) (fun h => nd h (fun h => nd h (fun h => lf (P := EE l 193) h k_193_242) (fun h => nd h (fun h => lf (P := EE l 193) h k_193_243) (fun h => lf (P := EE l 193) h k_193_245))) (fun h => nd h (fun h => lf (P := EE l 193) h k_193_246) (fun h => nd h (fun h => lf (P := EE l 193) h k_193_247) (fun h => lf (P := EE l 193) h k_193_249))))))) (fun h => nd h (fun h => nd h (fun h => nd h (fun h => nd h (fun h => nd h (fun h => lf (P := EE l 193) h k_193_251) (fun h => lf (P := EE l 193) h k_193_252)) (fun h => nd h (fun h => lf (P := EE l 193) h k_193_253) (fun h => nd h (fun h => lf (P := EE l 193) h k_193_254) (fun h => lf (P := EE l 193) h k_193_257)))) (fun h => nd h (fun h => nd h (fun h => lf (P := EE l 193) h k_193_258) (fun h => lf (P := EE l 193) h (EE_ca (by decide) (⟨m_1226, m_81, ⟨by decide, by decide⟩, by decide +kernel, ⟨by decide, by decide⟩, 64, 5, by decide +kernel, Or.inr (Or.inr (Or.inl ⟨rfl, rfl, dL_law_259, m_1223, m_1224, _, rfl, by decide, m_1225⟩))⟩) rfl))) (fun h => nd h (fun h => lf (P := EE l 193) h k_193_262) (fun h => nd h (fun h => lf (P := EE l 193) h k_193_264) (fun h => lf (P := EE l 193) h (EE_ca (by decide) (⟨m_1212, m_81, ⟨by decide, by decide⟩, by decide +kernel, ⟨by decide, by decide⟩, 65, 0, by decide +kernel, Or.inr (Or.inr (Or.inl ⟨rfl, rfl, dL_law_265, m_1209, m_1210, _, rfl, by decide, m_1211⟩))⟩) rfl)))))) (fun h => nd h (fun h => nd h (fun h => nd h (fun h => lf (P := EE l 193) h k_193_268) (fun h => lf (P := EE l 193) h k_193_270)) (fun h => nd h (fun h => lf (P := EE l 193) h k_193_273) (fun h => nd h (fun h => lf (P := EE l 193) h (EE_re (Or.inr (Or.inl ⟨rfl, dL_law_274, rfl⟩)))) (fun h => lf (P := EE l 193) h k_193_275)))) (fun h => nd h (fun h => nd h (fun h => lf (P := EE l 193) h k_193_277) (fun h => nd h (fun h => lf (P := EE l 193) h k_193_280) (fun h => lf (P := EE l 193) h k_193_281))) (fun h => nd h (fun h => lf (P := EE l 193) h k_193_282) (fun h => nd h (fun h => lf (P := EE l 193) h k_193_283) (fun h => lf (P := EE l 193) h k_193_285)))))) (fun h => nd h (fun h => nd h (fun h => nd h (fun h => nd h (fun h => lf (P := EE l 193) h k_193_286) (fun h => lf (P := EE l 193) h k_193_287)) (fun h => nd h (fun h => lf (P := EE l 193) h k_193_290) (fun h => nd h (fun h => lf (P := EE l 193) h (EE_re (Or.inr (Or.inl ⟨rfl, dL_law_291, rfl⟩)))) (fun h => lf (P := EE l 193) h k_193_292)))) (fun h => nd h (fun h => nd h (fun h => lf (P := EE l 193) h k_193_295) (fun h => lf (P := EE l 193) h k_193_296)) (fun h => nd h (fun h => lf (P := EE l 193) h k_193_297) (fun h => nd h (fun h => lf (P := EE l 193) h k_193_299) (fun h => lf (P := EE l 193) h k_193_300))))) (fun h => nd h (fun h => nd h (fun h => nd h (fun h => lf (P := EE l 193) h k_193_301) (fun h => lf (P := EE l 193) h (EE_ca (by decide) (⟨m_475, m_70, ⟨by decide, by decide⟩, by decide +kernel, ⟨by decide, by decide⟩, 68, 1, by decide +kernel, Or.inr (Or.inr (Or.inl ⟨rfl, rfl, dL_law_302, m_472, m_473, _, rfl, by decide, m_474⟩))⟩) rfl))) (fun h => nd h (fun h => lf (P := EE l 193) h k_193_305) (fun h => nd h (fun h => lf (P := EE l 193) h k_193_306) (fun h => lf (P := EE l 193) h k_193_307)))) (fun h => nd h (fun h => nd h (fun h => lf (P := EE l 193) h k_193_309) (fun h => nd h (fun h => lf (P := EE l 193) h k_193_310) (fun h => lf (P := EE l 193) h k_193_311))) (fun h => nd h (fun h => lf (P := EE l 193) h (EE_ca (by decide) (⟨m_1264, m_81, ⟨by decide, by decide⟩, by decide +kernel, ⟨by decide, by decide⟩, 72, 1, by decide +kernel, Or.inr (Or.inr (Or.inl ⟨rfl, rfl, dL_law_312, m_1261, m_1262, _, rfl, by decide, m_1263⟩))⟩) rfl)) (fun h => nd h (fun h => lf (P := EE l 193) h k_193_315) (fun h => lf (P := EE l 193) h k_193_318))))))))) (fun h => nd h (fun h => nd h (fun h => nd h (fun h => nd h (fun h => nd h (fun h => nd h (fun h => nd h (fun h => lf (P := EE l 193) h (EE_re (Or.inr (Or.inl ⟨rfl, dL_law_319, rfl⟩)))) (fun h => lf (P := EE l 193) h k_193_320)) (fun h => nd h (fun h => lf (P := EE l 193) h (EE_ca (by decide) (⟨m_491, m_70, ⟨by decide, by decide⟩, by decide +kernel, ⟨by decide, by decide⟩, 73, 0, by decide +kernel, Or.inr (Or.inr (Or.inl ⟨rfl, rfl, dL_law_321, m_488, m_489, _, rfl, by decide, m_490⟩))⟩) rfl)) (fun h => nd h (fun h => lf (P := EE l 193) h k_193_324) (fun h => lf (P := EE l 193) h (EE_ca (by decide) (⟨m_1268, m_81, ⟨by decide, by decide⟩, by decide +kernel, ⟨by decide, by decide⟩, 76, 0, by decide +kernel, Or.inr (Or.inr (Or.inl ⟨rfl, rfl, dL_law_325, m_1265, m_1266, _, rfl, by decide, m_1267⟩))⟩) rfl))))) (fun h => nd h (fun h => nd h (fun h => lf (P := EE l 193) h k_193_328) (fun h => lf (P := EE l 193) h k_193_331)) (fun h => nd h (fun h => lf (P := EE l 193) h (EE_re (Or.inr (Or.inl ⟨rfl, dL_law_332, rfl⟩)))) (fun h => nd h (fun h => lf (P := EE l 193) h k_193_333) (fun h => lf (P := EE l 193) h k_193_334))))) (fun h => nd h (fun h => nd h (fun h => nd h (fun h => lf (P := EE l 193) h k_193_335) (fun h => lf (P := EE l 193) h k_193_337)) (fun h => nd h (fun h => lf (P := EE l 193) h k_193_338) (fun h => nd h (fun h => lf (P := EE l 193) h k_193_339) (fun h => lf (P := EE l 193) h k_193_340)))) (fun h => nd h (fun h => nd h (fun h => lf (P := EE l 193) h k_193_341) (fun h => nd h (fun h => lf (P := EE l 193) h k_193_343) (fun h => lf (P := EE l 193) h k_193_344))) (fun h => nd h (fun h => lf (P := EE l 193) h k_193_345) (fun h => nd h (fun h => lf (P := EE l 193) h k_193_346) (fun h => lf (P := EE l 193) h k_193_347)))))) (fun h => nd h (fun h => nd h (fun h => nd h (fun h => nd h (fun h => lf (P := EE l 193) h k_193_349) (fun h => lf (P := EE l 193) h k_193_350)) (fun h => nd h (fun h => lf (P := EE l 193) h k_193_351) (fun h => nd h (fun h => lf (P := EE l 193) h k_193_352) (fun h => lf (P := EE l 193) h k_193_353)))) (fun h => nd h (fun h => nd h (fun h => lf (P := EE l 193) h k_193_355) (fun h => lf (P := EE l 193) h k_193_356)) (fun h => nd h (fun h => lf (P := EE l 193) h k_193_357) (fun h => nd h (fun h => lf (P := EE l 193) h k_193_358) (fun h => lf (P := EE l 193) h (EE_sp H10 (by decide) (by decide))))))) (fun h => nd h (fun h => nd h (fun h => nd h (fun h => lf (P := EE l 193) h k_193_362) (fun h => lf (P := EE l 193) h k_193_364)) (fun h => nd h (fun h => lf (P := EE l 193) h k_193_365) (fun h => nd h (fun h => lf (P := EE l 193) h k_193_366) (fun h => lf (P := EE l 193) h k_193_368)))) (fun h => nd h (fun h => nd h (fun h => lf (P := EE l 193) h k_193_369) (fun h => nd h (fun h => lf (P := EE l 193) h k_193_370) (fun h => lf (P := EE l 193) h k_193_371))) (fun h => nd h (fun h => lf (P := EE l 193) h k_193_372) (fun h => nd h (fun h => lf (P := EE l 193) h k_193_374) (fun h => lf (P := EE l 193) h k_193_375))))))) (fun h => nd h (fun h => nd h (fun h => nd h (fun h => nd h (fun h => nd h (fun h => lf (P := EE l 193) h k_193_376) (fun h => lf (P := EE l 193) h k_193_377)) (fun h => nd h (fun h => lf (P := EE l 193) h k_193_378) (fun h => nd h (fun h => lf (P := EE l 193) h k_193_380) (fun h => lf (P := EE l 193) h k_193_381)))) (fun h => nd h (fun h => nd h (fun h => lf (P := EE l 193) h k_193_382) (fun h => lf (P := EE l 193) h k_193_383)) (fun h => nd h (fun h => lf (P := EE l 193) h k_193_384) (fun h => nd h (fun h => lf (P := EE l 193) h k_193_386) (fun h => lf (P := EE l 193) h k_193_387))))) (fun h => nd h (fun h => nd h (fun h => nd h (fun h => lf (P := EE l 193) h k_193_388) (fun h => lf (P := EE l 193) h (EE_ca (by decide) (⟨m_1272, m_81, ⟨by decide, by decide⟩, by decide +kernel, ⟨by decide, by decide⟩, 80, 4, by decide +kernel, Or.inr (Or.inr (Or.inl ⟨rfl, rfl, dL_law_389, m_1269, m_1270, _, rfl, by decide, m_1271⟩))⟩) rfl))) (fun h => nd h (fun h => lf (P := EE l 193) h k_193_392) (fun h => nd h (fun h => lf (P := EE l 193) h k_193_394) (fun h => lf (P := EE l 193) h (EE_ca (by decide) (⟨m_1212, m_81, ⟨by decide, by decide⟩, by decide +kernel, ⟨by decide, by decide⟩, 65, 0, by decide +kernel, Or.inr (Or.inr (Or.inl ⟨rfl, rfl, dL_law_395, m_1209, m_1210, _, rfl, by decide, m_1211⟩))⟩) rfl))))) (fun h => nd h (fun h => nd h (fun h => lf (P := EE l 193) h k_193_398) (fun h => nd h (fun h => lf (P := EE l 193) h k_193_400) (fun h => lf (P := EE l 193) h k_193_403))) (fun h => nd h (fun h => lf (P := EE l 193) h (EE_re (Or.inr (Or.inl ⟨rfl, dL_law_404, rfl⟩)))) (fun h => nd h (fun h => lf (P := EE l 193) h k_193_405) (fun h => lf (P := EE l 193) h k_193_407)))))) (fun h => nd h (fun h => nd h (fun h => nd h (fun h => nd h (fun h => lf (P := EE l 193) h k_193_410) (fun h => lf (P := EE l 193) h k_193_411)) (fun h => nd h (fun h => lf (P := EE l 193) h k_193_412) (fun h => nd h (fun h => lf (P := EE l 193) h k_193_413) (fun h => lf (P := EE l 193) h k_193_415)))) (fun h => nd h (fun h => nd h (fun h => lf (P := EE l 193) h k_193_416) (fun h => lf (P := EE l 193) h k_193_417)) (fun h => nd h (fun h => lf (P := EE l 193) h k_193_420) (fun h => nd h (fun h => lf (P := EE l 193) h (EE_re (Or.inr (Or.inl ⟨rfl, dL_law_421, rfl⟩)))) (fun h => lf (P := EE l 193) h k_193_422))))) (fun h => nd h (fun h => nd h (fun h => nd h (fun h => lf (P := EE l 193) h k_193_425) (fun h => lf (P := EE l 193) h k_193_426)) (fun h => nd h (fun h => lf (P := EE l 193) h k_193_427) (fun h => nd h (fun h => lf (P := EE l 193) h k_193_429) (fun h => lf (P := EE l 193) h k_193_430)))) (fun h => nd h (fun h => nd h (fun h => lf (P := EE l 193) h k_193_431) (fun h => nd h (fun h => lf (P := EE l 193) h (EE_ca (by decide) (⟨m_510, m_70, ⟨by decide, by decide⟩, by decide +kernel, ⟨by decide, by decide⟩, 81, 1, by decide +kernel, Or.inr (Or.inr (Or.inl ⟨rfl, rfl, dL_law_432, m_507, m_508, _, rfl, by decide, m_509⟩))⟩) rfl)) (fun h => lf (P := EE l 193) h k_193_435))) (fun h => nd h (fun h => lf (P := EE l 193) h k_193_436) (fun h => nd h (fun h => lf (P := EE l 193) h k_193_437) (fun h => lf (P := EE l 193) h k_193_439)))))))) (fun h => nd h (fun h => nd h (fun h => nd h (fun h => nd h (fun h => nd h (fun h => nd h (fun h => lf (P := EE l 193) h k_193_440) (fun h => lf (P := EE l 193) h k_193_441)) (fun h => nd h (fun h => lf (P := EE l 193) h (EE_ca (by decide) (⟨m_1356, m_81, ⟨by decide, by decide⟩, by decide +kernel, ⟨by decide, by decide⟩, 84, 1, by decide +kernel, Or.inr (Or.inr (Or.inl ⟨rfl, rfl, dL_law_442, m_1353, m_1354, _, rfl, by decide, m_1355⟩))⟩) rfl)) (fun h => nd h (fun h => lf (P := EE l 193) h k_193_445) (fun h => lf (P := EE l 193) h k_193_448)))) (fun h => nd h (fun h => nd h (fun h => lf (P := EE l 193) h (EE_re (Or.inr (Or.inl ⟨rfl, dL_law_449, rfl⟩)))) (fun h => lf (P := EE l 193) h k_193_450)) (fun h => nd h (fun h => lf (P := EE l 193) h k_193_451) (fun h => nd h (fun h => lf (P := EE l 193) h k_193_452) (fun h => lf (P := EE l 193) h k_193_454))))) (fun h => nd h (fun h => nd h (fun h => nd h (fun h => lf (P := EE l 193) h k_193_455) (fun h => lf (P := EE l 193) h k_193_456)) (fun h => nd h (fun h => lf (P := EE l 193) h k_193_457) (fun h => nd h (fun h => lf (P := EE l 193) h k_193_458) (fun h => lf (P := EE l 193) h k_193_460)))) (fun h => nd h (fun h => nd h (fun h => lf (P := EE l 193) h k_193_461) (fun h => nd h (fun h => lf (P := EE l 193) h k_193_462) (fun h => lf (P := EE l 193) h k_193_463))) (fun h => nd h (fun h => lf (P := EE l 193) h k_193_464) (fun h => nd h (fun h => lf (P := EE l 193) h k_193_466) (fun h => lf (P := EE l 193) h k_193_467)))))) (fun h => nd h (fun h => nd h (fun h => nd h (fun h => nd h (fun h => lf (P := EE l 193) h k_193_468) (fun h => lf (P := EE l 193) h k_193_469)) (fun h => nd h (fun h => lf (P := EE l 193) h k_193_470) (fun h => nd h (fun h => lf (P := EE l 193) h k_193_472) (fun h => lf (P := EE l 193) h k_193_473)))) (fun h => nd h (fun h => nd h (fun h => lf (P := EE l 193) h k_193_474) (fun h => lf (P := EE l 193) h k_193_475)) (fun h => nd h (fun h => lf (P := EE l 193) h k_193_476) (fun h => nd h (fun h => lf (P := EE l 193) h k_193_478) (fun h => lf (P := EE l 193) h k_193_479))))) (fun h => nd h (fun h => nd h (fun h => nd h (fun h => lf (P := EE l 193) h k_193_480) (fun h => lf (P := EE l 193) h (EE_sp H10 (by decide) (by decide)))) (fun h => nd h (fun h => lf (P := EE l 193) h k_193_484) (fun h => nd h (fun h => lf (P := EE l 193) h k_193_486) (fun h => lf (P := EE l 193) h k_193_487)))) (fun h => nd h (fun h => nd h (fun h => lf (P := EE l 193) h k_193_488) (fun h => nd h (fun h => lf (P := EE l 193) h k_193_490) (fun h => lf (P := EE l 193) h k_193_491))) (fun h => nd h (fun h => lf (P := EE l 193) h k_193_492) (fun h => nd h (fun h => lf (P := EE l 193) h k_193_493) (fun h => lf (P := EE l 193) h k_193_494))))))) (fun h => nd h (fun h => nd h (fun h => nd h (fun h => nd h (fun h => nd h (fun h => lf (P := EE l 193) h k_193_496) (fun h => lf (P := EE l 193) h k_193_497)) (fun h => nd h (fun h => lf (P := EE l 193) h k_193_498) (fun h => nd h (fun h => lf (P := EE l 193) h k_193_499) (fun h => lf (P := EE l 193) h k_193_500)))) (fun h => nd h (fun h => nd h (fun h => lf (P := EE l 193) h k_193_502) (fun h => lf (P := EE l 193) h k_193_503)) (fun h => nd h (fun h => lf (P := EE l 193) h k_193_504) (fun h => nd h (fun h => lf (P := EE l 193) h k_193_505) (fun h => lf (P := EE l 193) h k_193_506))))) (fun h => nd h (fun h => nd h (fun h => nd h (fun h => lf (P := EE l 193) h k_193_508) (fun h => lf (P := EE l 193) h k_193_509)) (fun h => nd h (fun h => lf (P := EE l 193) h k_193_510) (fun h => nd h (fun h => lf (P := EE l 193) h k_193_511) (fun h => lf (P := EE l 193) h k_193_512)))) (fun h => nd h (fun h => nd h (fun h => lf (P := EE l 193) h k_193_514) (fun h => nd h (fun h => lf (P := EE l 193) h k_193_515) (fun h => lf (P := EE l 193) h k_193_516))) (fun h => nd h (fun h => lf (P := EE l 193) h (EE_ca (by decide) (⟨m_1360, m_81, ⟨by decide, by decide⟩, by decide +kernel, ⟨by decide, by decide⟩, 88, 5, by decide +kernel, Or.inr (Or.inr (Or.inl ⟨rfl, rfl, dL_law_517, m_1357, m_1358, _, rfl, by decide, m_1359⟩))⟩) rfl)) (fun h => nd h (fun h => lf (P := EE l 193) h k_193_520) (fun h => lf (P := EE l 193) h (EE_ca (by decide) (⟨m_1212, m_81, ⟨by decide, by decide⟩, by decide +kernel, ⟨by decide, by decide⟩, 65, 0, by decide +kernel, Or.inr (Or.inr (Or.inl ⟨rfl, rfl, dL_law_521, m_1209, m_1210, _, rfl, by decide, m_1211⟩))⟩) rfl))))))) (fun h => nd h (fun h => nd h (fun h => nd h (fun h => nd h (fun h => lf (P := EE l 193) h k_193_524) (fun h => lf (P := EE l 193) h k_193_526)) (fun h => nd h (fun h => lf (P := EE l 193) h k_193_529) (fun h => nd h (fun h => lf (P := EE l 193) h (EE_re (Or.inr (Or.inl ⟨rfl, dL_law_530, rfl⟩)))) (fun h => lf (P := EE l 193) h k_193_531)))) (fun h => nd h (fun h => nd h (fun h => lf (P := EE l 193) h k_193_534) (fun h => lf (P := EE l 193) h k_193_535)) (fun h => nd h (fun h => lf (P := EE l 193) h k_193_536) (fun h => nd h (fun h => lf (P := EE l 193) h k_193_538) (fun h => lf (P := EE l 193) h k_193_539))))) (fun h => nd h (fun h => nd h (fun h => nd h (fun h => lf (P := EE l 193) h k_193_540) (fun h => lf (P := EE l 193) h k_193_541)) (fun h => nd h (fun h => lf (P := EE l 193) h (EE_sp H10 (by decide) (by decide))) (fun h => nd h (fun h => lf (P := EE l 193) h k_193_545) (fun h => lf (P := EE l 193) h k_193_547)))) (fun h => nd h (fun h => nd h (fun h => lf (P := EE l 193) h k_193_548) (fun h => nd h (fun h => lf (P := EE l 193) h k_193_549) (fun h => lf (P := EE l 193) h k_193_551))) (fun h => nd h (fun h => lf (P := EE l 193) h k_193_552) (fun h => nd h (fun h => lf (P := EE l 193) h k_193_553) (fun h => lf (P := EE l 193) h (EE_ca (by decide) (⟨m_1364, m_81, ⟨by decide, by decide⟩, by decide +kernel, ⟨by decide, by decide⟩, 92, 1, by decide +kernel, Or.inr (Or.inr (Or.inl ⟨rfl, rfl, dL_law_554, m_1361, m_1362, _, rfl, by decide, m_1363⟩))⟩) rfl))))))))))) (fun h => nd h (fun h => nd h (fun h => nd h (fun h => nd h (fun h => nd h (fun h => nd h (fun h => nd h (fun h => nd h (fun h => lf (P := EE l 193) h k_193_557) (fun h => lf (P := EE l 193) h k_193_559)) (fun h => nd h (fun h => lf (P := EE l 193) h (EE_ca (by decide) (⟨m_1212, m_81, ⟨by decide, by decide⟩, by decide +kernel, ⟨by decide, by decide⟩, 65, 0, by decide +kernel, Or.inr (Or.inr (Or.inl ⟨rfl, rfl, dL_law_560, m_1209, m_1210, _, rfl, by decide, m_1211⟩))⟩) rfl)) (fun h => nd h (fun h => lf (P := EE l 193) h k_193_563) (fun h => lf (P := EE l 193) h k_193_565)))) (fun h => nd h (fun h => nd h (fun h => lf (P := EE l 193) h k_193_568) (fun h => lf (P := EE l 193) h (EE_re (Or.inr (Or.inl ⟨rfl, dL_law_569, rfl⟩))))) (fun h => nd h (fun h => lf (P := EE l 193) h k_193_570) (fun h => nd h (fun h => lf (P := EE l 193) h k_193_572) (fun h => lf (P := EE l 193) h k_193_575))))) (fun h => nd h (fun h => nd h (fun h => nd h (fun h => lf (P := EE l 193) h k_193_576) (fun h => lf (P := EE l 193) h k_193_577)) (fun h => nd h (fun h => lf (P := EE l 193) h k_193_578) (fun h => nd h (fun h => lf (P := EE l 193) h k_193_580) (fun h => lf (P := EE l 193) h k_193_581)))) (fun h => nd h (fun h => nd h (fun h => lf (P := EE l 193) h k_193_582) (fun h => lf (P := EE l 193) h k_193_585)) (fun h => nd h (fun h => lf (P := EE l 193) h (EE_re (Or.inr (Or.inl ⟨rfl, dL_law_586, rfl⟩)))) (fun h => nd h (fun h => lf (P := EE l 193) h k_193_587) (fun h => lf (P := EE l 193) h k_193_590)))))) (fun h => nd h (fun h => nd h (fun h => nd h (fun h => nd h (fun h => lf (P := EE l 193) h k_193_591) (fun h => lf (P := EE l 193) h k_193_592)) (fun h => nd h (fun h => lf (P := EE l 193) h k_193_594) (fun h => nd h (fun h => lf (P := EE l 193) h k_193_595) (fun h => lf (P := EE l 193) h k_193_596)))) (fun h => nd h (fun h => nd h (fun h => lf (P := EE l 193) h k_193_597) (fun h => lf (P := EE l 193) h k_193_598)) (fun h => nd h (fun h => lf (P := EE l 193) h k_193_600) (fun h => nd h (fun h => lf (P := EE l 193) h k_193_601) (fun h => lf (P := EE l 193) h k_193_602))))) (fun h => nd h (fun h => nd h (fun h => nd h (fun h => lf (P := EE l 193) h (EE_ca (by decide) (⟨m_514, m_70, ⟨by decide, by decide⟩, by decide +kernel, ⟨by decide, by decide⟩, 93, 2, by decide +kernel, Or.inr (Or.inr (Or.inl ⟨rfl, rfl, dL_law_603, m_511, m_512, _, rfl, by decide, m_513⟩))⟩) rfl)) (fun h => lf (P := EE l 193) h k_193_606)) (fun h => nd h (fun h => lf (P := EE l 193) h k_193_607) (fun h => nd h (fun h => lf (P := EE l 193) h k_193_608) (fun h => lf (P := EE l 193) h k_193_610)))) (fun h => nd h (fun h => nd h (fun h => lf (P := EE l 193) h k_193_611) (fun h => nd h (fun h => lf (P := EE l 193) h k_193_612) (fun h => lf (P := EE l 193) h k_193_613))) (fun h => nd h (fun h => lf (P := EE l 193) h k_193_614) (fun h => nd h (fun h => lf (P := EE l 193) h k_193_616) (fun h => lf (P := EE l 193) h k_193_617))))))) (fun h => nd h (fun h => nd h (fun h => nd h (fun h => nd h (fun h => nd h (fun h => lf (P := EE l 193) h k_193_618) (fun h => lf (P := EE l 193) h (EE_ca (by decide) (⟨m_1404, m_81, ⟨by decide, by decide⟩, by decide +kernel, ⟨by decide, by decide⟩, 96, 2, by decide +kernel, Or.inr (Or.inr (Or.inl ⟨rfl, rfl, dL_law_619, m_1401, m_1402, _, rfl, by decide, m_1403⟩))⟩) rfl))) (fun h => nd h (fun h => lf (P := EE l 193) h k_193_622) (fun h => nd h (fun h => lf (P := EE l 193) h k_193_625) (fun h => lf (P := EE l 193) h (EE_re (Or.inr (Or.inl ⟨rfl, dL_law_626, rfl⟩))))))) (fun h => nd h (fun h => nd h (fun h => lf (P := EE l 193) h k_193_627) (fun h => lf (P := EE l 193) h k_193_628)) (fun h => nd h (fun h => lf (P := EE l 193) h k_193_629) (fun h => nd h (fun h => lf (P := EE l 193) h k_193_631) (fun h => lf (P := EE l 193) h k_193_632))))) (fun h => nd h (fun h => nd h (fun h => nd h (fun h => lf (P := EE l 193) h k_193_633) (fun h => lf (P := EE l 193) h k_193_634)) (fun h => nd h (fun h => lf (P := EE l 193) h k_193_635) (fun h => nd h (fun h => lf (P := EE l 193) h k_193_637) (fun h => lf (P := EE l 193) h k_193_638)))) (fun h => nd h (fun h => nd h (fun h => lf (P := EE l 193) h k_193_639) (fun h => nd h (fun h => lf (P := EE l 193) h k_193_640) (fun h => lf (P := EE l 193) h k_193_641))) (fun h => nd h (fun h => lf (P := EE l 193) h k_193_643) (fun h => nd h (fun h => lf (P := EE l 193) h k_193_644) (fun h => lf (P := EE l 193) h k_193_645)))))) (fun h => nd h (fun h => nd h (fun h => nd h (fun h => nd h (fun h => lf (P := EE l 193) h (EE_ca (by decide) (⟨m_518, m_70, ⟨by decide, by decide⟩, by decide +kernel, ⟨by decide, by decide⟩, 97, 3, by decide +kernel, Or.inr (Or.inr (Or.inl ⟨rfl, rfl, dL_law_646, m_515, m_516, _, rfl, by decide, m_517⟩))⟩) rfl)) (fun h => lf (P := EE l 193) h k_193_649)) (fun h => nd h (fun h => lf (P := EE l 193) h k_193_650) (fun h => nd h (fun h => lf (P := EE l 193) h k_193_651) (fun h => lf (P := EE l 193) h k_193_653)))) (fun h => nd h (fun h => nd h (fun h => lf (P := EE l 193) h k_193_654) (fun h => lf (P := EE l 193) h k_193_655)) (fun h => nd h (fun h => lf (P := EE l 193) h k_193_656) (fun h => nd h (fun h => lf (P := EE l 193) h k_193_657) (fun h => lf (P := EE l 193) h k_193_659))))) (fun h => nd h (fun h => nd h (fun h => nd h (fun h => lf (P := EE l 193) h k_193_660) (fun h => lf (P := EE l 193) h k_193_661)) (fun h => nd h (fun h => lf (P := EE l 193) h k_193_662) (fun h => nd h (fun h => lf (P := EE l 193) h k_193_663) (fun h => lf (P := EE l 193) h k_193_665)))) (fun h => nd h (fun h => nd h (fun h => lf (P := EE l 193) h k_193_666) (fun h => nd h (fun h => lf (P := EE l 193) h k_193_667) (fun h => lf (P := EE l 193) h (EE_ca (by decide) (⟨m_1408, m_81, ⟨by decide, by decide⟩, by decide +kernel, ⟨by decide, by decide⟩, 101, 3, by decide +kernel, Or.inr (Or.inr (Or.inl ⟨rfl, rfl, dL_law_668, m_1405, m_1406, _, rfl, by decide, m_1407⟩))⟩) rfl)))) (fun h => nd h (fun h => lf (P := EE l 193) h k_193_671) (fun h => nd h (fun h => lf (P := EE l 193) h k_193_674) (fun h => lf (P := EE l 193) h (EE_re (Or.inr (Or.inl ⟨rfl, dL_law_675, rfl⟩))))))))))) (fun h => nd h (fun h => nd h (fun h => nd h (fun h => nd h (fun h => nd h (fun h => nd h (fun h => lf (P := EE l 193) h k_193_676) (fun h => lf (P := EE l 193) h k_193_677)) (fun h => nd h (fun h => lf (P := EE l 193) h k_193_678) (fun h => nd h (fun h => lf (P := EE l 193) h k_193_680) (fun h => lf (P := EE l 193) h k_193_681)))) (fun h => nd h (fun h => nd h (fun h => lf (P := EE l 193) h k_193_682) (fun h => lf (P := EE l 193) h (EE_ca (by decide) (⟨m_527, m_70, ⟨by decide, by decide⟩, by decide +kernel, ⟨by decide, by decide⟩, 102, 1, by decide +kernel, Or.inr (Or.inr (Or.inl ⟨rfl, rfl, dL_law_683, m_524, m_525, _, rfl, by decide, m_526⟩))⟩) rfl))) (fun h => nd h (fun h => lf (P := EE l 193) h k_193_686) (fun h => nd h (fun h => lf (P := EE l 193) h k_193_687) (fun h => lf (P := EE l 193) h k_193_688))))) (fun h => nd h (fun h => nd h (fun h => nd h (fun h => lf (P := EE l 193) h k_193_690) (fun h => lf (P := EE l 193) h k_193_691)) (fun h => nd h (fun h => lf (P := EE l 193) h k_193_692) (fun h => nd h (fun h => lf (P := EE l 193) h (EE_ca (by decide) (⟨m_1416, m_81, ⟨by decide, by decide⟩, by decide +kernel, ⟨by decide, by decide⟩, 105, 1, by decide +kernel, Or.inr (Or.inr (Or.inl ⟨rfl, rfl, dL_law_693, m_1413, m_1414, _, rfl, by decide, m_1415⟩))⟩) rfl)) (fun h => lf (P := EE l 193) h k_193_696)))) (fun h => nd h (fun h => nd h (fun h => lf (P := EE l 193) h k_193_699) (fun h => nd h (fun h => lf (P := EE l 193) h (EE_re (Or.inr (Or.inl ⟨rfl, dL_law_700, rfl⟩)))) (fun h => lf (P := EE l 193) h k_193_701))) (fun h => nd h (fun h => lf (P := EE l 193) h k_193_702) (fun h => nd h (fun h => lf (P := EE l 193) h k_193_703) (fun h => lf (P := EE l 193) h k_193_705)))))) (fun h => nd h (fun h => nd h (fun h => nd h (fun h => nd h (fun h => lf (P := EE l 193) h k_193_706) (fun h => lf (P := EE l 193) h k_193_707)) (fun h => nd h (fun h => lf (P := EE l 193) h k_193_708) (fun h => nd h (fun h => lf (P := EE l 193) h k_193_709) (fun h => lf (P := EE l 193) h k_193_711)))) (fun h => nd h (fun h => nd h (fun h => lf (P := EE l 193) h k_193_712) (fun h => lf (P := EE l 193) h k_193_713)) (fun h => nd h (fun h => lf (P := EE l 193) h k_193_714) (fun h => nd h (fun h => lf (P := EE l 193) h (EE_sp H10 (by decide) (by decide))) (fun h => lf (P := EE l 193) h k_193_718))))) (fun h => nd h (fun h => nd h (fun h => nd h (fun h => lf (P := EE l 193) h k_193_720) (fun h => lf (P := EE l 193) h k_193_721)) (fun h => nd h (fun h => lf (P := EE l 193) h k_193_722) (fun h => nd h (fun h => lf (P := EE l 193) h k_193_724) (fun h => lf (P := EE l 193) h k_193_725)))) (fun h => nd h (fun h => nd h (fun h => lf (P := EE l 193) h k_193_726) (fun h => nd h (fun h => lf (P := EE l 193) h k_193_727) (fun h => lf (P := EE l 193) h k_193_728))) (fun h => nd h (fun h => lf (P := EE l 193) h k_193_730) (fun h => nd h (fun h => lf (P := EE l 193) h k_193_731) (fun h => lf (P := EE l 193) h k_193_732))))))) (fun h => nd h (fun h => nd h (fun h => nd h (fun h => nd h (fun h => nd h (fun h => lf (P := EE l 193) h (EE_ca (by decide) (⟨m_1420, m_81, ⟨by decide, by decide⟩, by decide +kernel, ⟨by decide, by decide⟩, 109, 2, by decide +kernel, Or.inr (Or.inr (Or.inl ⟨rfl, rfl, dL_law_733, m_1417, m_1418, _, rfl, by decide, m_1419⟩))⟩) rfl)) (fun h => lf (P := EE l 193) h k_193_736)) (fun h => nd h (fun h => lf (P := EE l 193) h k_193_738) (fun h => nd h (fun h => lf (P := EE l 193) h (EE_ca (by decide) (⟨m_1212, m_81, ⟨by decide, by decide⟩, by decide +kernel, ⟨by decide, by decide⟩, 65, 0, by decide +kernel, Or.inr (Or.inr (Or.inl ⟨rfl, rfl, dL_law_739, m_1209, m_1210, _, rfl, by decide, m_1211⟩))⟩) rfl)) (fun h => lf (P := EE l 193) h k_193_742)))) (fun h => nd h (fun h => nd h (fun h => lf (P := EE l 193) h k_193_744) (fun h => lf (P := EE l 193) h k_193_747)) (fun h => nd h (fun h => lf (P := EE l 193) h (EE_re (Or.inr (Or.inl ⟨rfl, dL_law_748, rfl⟩)))) (fun h => nd h (fun h => lf (P := EE l 193) h k_193_749) (fun h => lf (P := EE l 193) h k_193_751))))) (fun h => nd h (fun h => nd h (fun h => nd h (fun h => lf (P := EE l 193) h k_193_754) (fun h => lf (P := EE l 193) h k_193_755)) (fun h => nd h (fun h => lf (P := EE l 193) h k_193_756) (fun h => nd h (fun h => lf (P := EE l 193) h k_193_757) (fun h => lf (P := EE l 193) h k_193_759)))) (fun h => nd h (fun h => nd h (fun h => lf (P := EE l 193) h k_193_760) (fun h => nd h (fun h => lf (P := EE l 193) h k_193_761) (fun h => lf (P := EE l 193) h k_193_764))) (fun h => nd h (fun h => lf (P := EE l 193) h (EE_re (Or.inr (Or.inl ⟨rfl, dL_law_765, rfl⟩)))) (fun h => nd h (fun h => lf (P := EE l 193) h k_193_766) (fun h => lf (P := EE l 193) h k_193_769)))))) (fun h => nd h (fun h => nd h (fun h => nd h (fun h => nd h (fun h => lf (P := EE l 193) h k_193_770) (fun h => lf (P := EE l 193) h k_193_771)) (fun h => nd h (fun h => lf (P := EE l 193) h k_193_773) (fun h => nd h (fun h => lf (P := EE l 193) h k_193_774) (fun h => lf (P := EE l 193) h k_193_775)))) (fun h => nd h (fun h => nd h (fun h => lf (P := EE l 193) h k_193_776) (fun h => lf (P := EE l 193) h k_193_777)) (fun h => nd h (fun h => lf (P := EE l 193) h k_193_779) (fun h => nd h (fun h => lf (P := EE l 193) h k_193_780) (fun h => lf (P := EE l 193) h k_193_781))))) (fun h => nd h (fun h => nd h (fun h => nd h (fun h => lf (P := EE l 193) h (EE_ca (by decide) (⟨m_531, m_70, ⟨by decide, by decide⟩, by decide +kernel, ⟨by decide, by decide⟩, 110, 2, by decide +kernel, Or.inr (Or.inr (Or.inl ⟨rfl, rfl, dL_law_782, m_528, m_529, _, rfl, by decide, m_530⟩))⟩) rfl)) (fun h => lf (P := EE l 193) h k_193_785)) (fun h => nd h (fun h => lf (P := EE l 193) h k_193_786) (fun h => nd h (fun h => lf (P := EE l 193) h k_193_787) (fun h => lf (P := EE l 193) h k_193_789)))) (fun h => nd h (fun h => nd h (fun h => lf (P := EE l 193) h k_193_790) (fun h => nd h (fun h => lf (P := EE l 193) h k_193_791) (fun h => lf (P := EE l 193) h k_193_792))) (fun h => nd h (fun h => lf (P := EE l 193) h k_193_793) (fun h => nd h (fun h => lf (P := EE l 193) h k_193_795) (fun h => lf (P := EE l 193) h k_193_796))))))))) (fun h => nd h (fun h => nd h (fun h => nd h (fun h => nd h (fun h => nd h (fun h => nd h (fun h => nd h (fun h => lf (P := EE l 193) h k_193_797) (fun h => lf (P := EE l 193) h (EE_ca (by decide) (⟨m_1436, m_81, ⟨by decide, by decide⟩, by decide +kernel, ⟨by decide, by decide⟩, 113, 2, by decide +kernel, Or.inr (Or.inr (Or.inl ⟨rfl, rfl, dL_law_798, m_1433, m_1434, _, rfl, by decide, m_1435⟩))⟩) rfl))) (fun h => nd h (fun h => lf (P := EE l 193) h k_193_801) (fun h => nd h (fun h => lf (P := EE l 193) h k_193_804) (fun h => lf (P := EE l 193) h (EE_re (Or.inr (Or.inl ⟨rfl, dL_law_805, rfl⟩))))))) (fun h => nd h (fun h => nd h (fun h => lf (P := EE l 193) h k_193_806) (fun h => lf (P := EE l 193) h k_193_807)) (fun h => nd h (fun h => lf (P := EE l 193) h (EE_sp H10 (by decide) (by decide))) (fun h => nd h (fun h => lf (P := EE l 193) h k_193_811) (fun h => lf (P := EE l 193) h k_193_813))))) (fun h => nd h (fun h => nd h (fun h => nd h (fun h => lf (P := EE l 193) h (EE_ca (by decide) (⟨m_1440, m_81, ⟨by decide, by decide⟩, by decide +kernel, ⟨by decide, by decide⟩, 117, 0, by decide +kernel, Or.inr (Or.inr (Or.inl ⟨rfl, rfl, dL_law_814, m_1437, m_1438, _, rfl, by decide, m_1439⟩))⟩) rfl)) (fun h => lf (P := EE l 193) h k_193_817)) (fun h => nd h (fun h => lf (P := EE l 193) h k_193_819) (fun h => nd h (fun h => lf (P := EE l 193) h (EE_ca (by decide) (⟨m_1212, m_81, ⟨by decide, by decide⟩, by decide +kernel, ⟨by decide, by decide⟩, 65, 0, by decide +kernel, Or.inr (Or.inr (Or.inl ⟨rfl, rfl, dL_law_820, m_1209, m_1210, _, rfl, by decide, m_1211⟩))⟩) rfl)) (fun h => lf (P := EE l 193) h k_193_823)))) (fun h => nd h (fun h => nd h (fun h => lf (P := EE l 193) h k_193_825) (fun h => nd h (fun h => lf (P := EE l 193) h k_193_828) (fun h => lf (P := EE l 193) h (EE_re (Or.inr (Or.inl ⟨rfl, dL_law_829, rfl⟩)))))) (fun h => nd h (fun h => lf (P := EE l 193) h k_193_830) (fun h => nd h (fun h => lf (P := EE l 193) h k_193_832) (fun h => lf (P := EE l 193) h k_193_835)))))) (fun h => nd h (fun h => nd h (fun h => nd h (fun h => nd h (fun h => lf (P := EE l 193) h k_193_836) (fun h => lf (P := EE l 193) h k_193_837)) (fun h => nd h (fun h => lf (P := EE l 193) h k_193_838) (fun h => nd h (fun h => lf (P := EE l 193) h k_193_840) (fun h => lf (P := EE l 193) h k_193_841)))) (fun h => nd h (fun h => nd h (fun h => lf (P := EE l 193) h k_193_842) (fun h => lf (P := EE l 193) h k_193_845)) (fun h => nd h (fun h => lf (P := EE l 193) h (EE_re (Or.inr (Or.inl ⟨rfl, dL_law_846, rfl⟩)))) (fun h => nd h (fun h => lf (P := EE l 193) h k_193_847) (fun h => lf (P := EE l 193) h k_193_850))))) (fun h => nd h (fun h => nd h (fun h => nd h (fun h => lf (P := EE l 193) h k_193_851) (fun h => lf (P := EE l 193) h k_193_852)) (fun h => nd h (fun h => lf (P := EE l 193) h k_193_854) (fun h => nd h (fun h => lf (P := EE l 193) h k_193_855) (fun h => lf (P := EE l 193) h k_193_856)))) (fun h => nd h (fun h => nd h (fun h => lf (P := EE l 193) h k_193_857) (fun h => nd h (fun h => lf (P := EE l 193) h k_193_858) (fun h => lf (P := EE l 193) h k_193_860))) (fun h => nd h (fun h => lf (P := EE l 193) h k_193_861) (fun h => nd h (fun h => lf (P := EE l 193) h k_193_862) (fun h => lf (P := EE l 193) h k_193_864))))))) (fun h => nd h (fun h => nd h (fun h => nd h (fun h => nd h (fun h => nd h (fun h => lf (P := EE l 193) h k_193_865) (fun h => lf (P := EE l 193) h k_193_866)) (fun h => nd h (fun h => lf (P := EE l 193) h k_193_867) (fun h => nd h (fun h => lf (P := EE l 193) h k_193_868) (fun h => lf (P := EE l 193) h k_193_871)))) (fun h => nd h (fun h => nd h (fun h => lf (P := EE l 193) h k_193_872) (fun h => lf (P := EE l 193) h k_193_873)) (fun h => nd h (fun h => lf (P := EE l 193) h k_193_874) (fun h => nd h (fun h => lf (P := EE l 193) h k_193_876) (fun h => lf (P := EE l 193) h k_193_877))))) (fun h => nd h (fun h => nd h (fun h => nd h (fun h => lf (P := EE l 193) h k_193_878) (fun h => lf (P := EE l 193) h k_193_879)) (fun h => nd h (fun h => lf (P := EE l 193) h (EE_sp H10 (by decide) (by decide))) (fun h => nd h (fun h => lf (P := EE l 193) h k_193_883) (fun h => lf (P := EE l 193) h k_193_885)))) (fun h => nd h (fun h => nd h (fun h => lf (P := EE l 193) h k_193_886) (fun h => nd h (fun h => lf (P := EE l 193) h k_193_887) (fun h => lf (P := EE l 193) h k_193_889))) (fun h => nd h (fun h => lf (P := EE l 193) h k_193_890) (fun h => nd h (fun h => lf (P := EE l 193) h k_193_891) (fun h => lf (P := EE l 193) h k_193_892)))))) (fun h => nd h (fun h => nd h (fun h => nd h (fun h => nd h (fun h => lf (P := EE l 193) h k_193_893) (fun h => lf (P := EE l 193) h k_193_895)) (fun h => nd h (fun h => lf (P := EE l 193) h k_193_896) (fun h => nd h (fun h => lf (P := EE l 193) h k_193_897) (fun h => lf (P := EE l 193) h k_193_899)))) (fun h => nd h (fun h => nd h (fun h => lf (P := EE l 193) h k_193_900) (fun h => lf (P := EE l 193) h k_193_901)) (fun h => nd h (fun h => lf (P := EE l 193) h k_193_902) (fun h => nd h (fun h => lf (P := EE l 193) h k_193_903) (fun h => lf (P := EE l 193) h k_193_906))))) (fun h => nd h (fun h => nd h (fun h => nd h (fun h => lf (P := EE l 193) h k_193_907) (fun h => lf (P := EE l 193) h k_193_908)) (fun h => nd h (fun h => lf (P := EE l 193) h k_193_909) (fun h => nd h (fun h => lf (P := EE l 193) h k_193_911) (fun h => lf (P := EE l 193) h k_193_912)))) (fun h => nd h (fun h => nd h (fun h => lf (P := EE l 193) h k_193_913) (fun h => nd h (fun h => lf (P := EE l 193) h (EE_ca (by decide) (⟨m_1448, m_81, ⟨by decide, by decide⟩, by decide +kernel, ⟨by decide, by decide⟩, 121, 2, by decide +kernel, Or.inr (Or.inr (Or.inl ⟨rfl, rfl, dL_law_914, m_1445, m_1446, _, rfl, by decide, m_1447⟩))⟩) rfl)) (fun h => lf (P := EE l 193) h k_193_917))) (fun h => nd h (fun h => lf (P := EE l 193) h k_193_919) (fun h => nd h (fun h => lf (P := EE l 193) h (EE_ca (by decide) (⟨m_1212, m_81, ⟨by decide, by decide⟩, by decide +kernel, ⟨by decide, by decide⟩, 65, 0, by decide +kernel, Or.inr (Or.inr (Or.inl ⟨rfl, rfl, dL_law_920, m_1209, m_1210, _, rfl, by decide, m_1211⟩))⟩) rfl)) (fun h => lf (P := EE l 193) h k_193_923)))))))) (fun h => nd h (fun h => nd h (fun h => nd h (fun h => nd h (fun h => nd h (fun h => nd h (fun h => lf (P := EE l 193) h k_193_925) (fun h => lf (P := EE l 193) h k_193_928)) (fun h => nd h (fun h => lf (P := EE l 193) h (EE_re (Or.inr (Or.inl ⟨rfl, dL_law_929, rfl⟩)))) (fun h => nd h (fun h => lf (P := EE l 193) h k_193_930) (fun h => lf (P := EE l 193) h k_193_932)))) (fun h => nd h (fun h => nd h (fun h => lf (P := EE l 193) h k_193_935) (fun h => lf (P := EE l 193) h k_193_936)) (fun h => nd h (fun h => lf (P := EE l 193) h k_193_937) (fun h => nd h (fun h => lf (P := EE l 193) h k_193_938) (fun h => lf (P := EE l 193) h k_193_940))))) (fun h => nd h (fun h => nd h (fun h => nd h (fun h => lf (P := EE l 193) h k_193_941) (fun h => lf (P := EE l 193) h k_193_942)) (fun h => nd h (fun h => lf (P := EE l 193) h k_193_945) (fun h => nd h (fun h => lf (P := EE l 193) h (EE_re (Or.inr (Or.inl ⟨rfl, dL_law_946, rfl⟩)))) (fun h => lf (P := EE l 193) h k_193_947)))) (fun h => nd h (fun h => nd h (fun h => lf (P := EE l 193) h k_193_950) (fun h => nd h (fun h => lf (P := EE l 193) h k_193_951) (fun h => lf (P := EE l 193) h k_193_952))) (fun h => nd h (fun h => lf (P := EE l 193) h k_193_954) (fun h => nd h (fun h => lf (P := EE l 193) h k_193_955) (fun h => lf (P := EE l 193) h k_193_956)))))) (fun h => nd h (fun h => nd h (fun h => nd h (fun h => nd h (fun h => lf (P := EE l 193) h k_193_957) (fun h => lf (P := EE l 193) h k_193_958)) (fun h => nd h (fun h => lf (P := EE l 193) h k_193_960) (fun h => nd h (fun h => lf (P := EE l 193) h k_193_961) (fun h => lf (P := EE l 193) h k_193_962)))) (fun h => nd h (fun h => nd h (fun h => lf (P := EE l 193) h k_193_963) (fun h => lf (P := EE l 193) h k_193_964)) (fun h => nd h (fun h => lf (P := EE l 193) h k_193_966) (fun h => nd h (fun h => lf (P := EE l 193) h k_193_967) (fun h => lf (P := EE l 193) h k_193_968))))) (fun h => nd h (fun h => nd h (fun h => nd h (fun h => lf (P := EE l 193) h k_193_969) (fun h => lf (P := EE l 193) h k_193_970)) (fun h => nd h (fun h => lf (P := EE l 193) h k_193_972) (fun h => nd h (fun h => lf (P := EE l 193) h k_193_973) (fun h => lf (P := EE l 193) h k_193_974)))) (fun h => nd h (fun h => nd h (fun h => lf (P := EE l 193) h k_193_975) (fun h => nd h (fun h => lf (P := EE l 193) h (EE_sp H10 (by decide) (by decide))) (fun h => lf (P := EE l 193) h k_193_979))) (fun h => nd h (fun h => lf (P := EE l 193) h k_193_981) (fun h => nd h (fun h => lf (P := EE l 193) h k_193_982) (fun h => lf (P := EE l 193) h k_193_983))))))) (fun h => nd h (fun h => nd h (fun h => nd h (fun h => nd h (fun h => nd h (fun h => lf (P := EE l 193) h k_193_985) (fun h => lf (P := EE l 193) h k_193_986)) (fun h => nd h (fun h => lf (P := EE l 193) h k_193_987) (fun h => nd h (fun h => lf (P := EE l 193) h k_193_988) (fun h => lf (P := EE l 193) h k_193_989)))) (fun h => nd h (fun h => nd h (fun h => lf (P := EE l 193) h k_193_991) (fun h => lf (P := EE l 193) h k_193_992)) (fun h => nd h (fun h => lf (P := EE l 193) h k_193_993) (fun h => nd h (fun h => lf (P := EE l 193) h k_193_994) (fun h => lf (P := EE l 193) h k_193_995))))) (fun h => nd h (fun h => nd h (fun h => nd h (fun h => lf (P := EE l 193) h k_193_997) (fun h => lf (P := EE l 193) h k_193_998)) (fun h => nd h (fun h => lf (P := EE l 193) h k_193_999) (fun h => nd h (fun h => lf (P := EE l 193) h k_193_1000) (fun h => lf (P := EE l 193) h k_193_1001)))) (fun h => nd h (fun h => nd h (fun h => lf (P := EE l 193) h k_193_1003) (fun h => nd h (fun h => lf (P := EE l 193) h k_193_1004) (fun h => lf (P := EE l 193) h k_193_1005))) (fun h => nd h (fun h => lf (P := EE l 193) h (EE_ca (by decide) (⟨m_1465, m_81, ⟨by decide, by decide⟩, by decide +kernel, ⟨by decide, by decide⟩, 124, 4, by decide +kernel, Or.inr (Or.inr (Or.inl ⟨rfl, rfl, dL_law_1006, m_1462, m_1463, _, rfl, by decide, m_1464⟩))⟩) rfl)) (fun h => nd h (fun h => lf (P := EE l 193) h k_193_1009) (fun h => lf (P := EE l 193) h k_193_1011)))))) (fun h => nd h (fun h => nd h (fun h => nd h (fun h => nd h (fun h => lf (P := EE l 193) h (EE_ca (by decide) (⟨m_1212, m_81, ⟨by decide, by decide⟩, by decide +kernel, ⟨by decide, by decide⟩, 65, 0, by decide +kernel, Or.inr (Or.inr (Or.inl ⟨rfl, rfl, dL_law_1012, m_1209, m_1210, _, rfl, by decide, m_1211⟩))⟩) rfl)) (fun h => lf (P := EE l 193) h k_193_1015)) (fun h => nd h (fun h => lf (P := EE l 193) h k_193_1017) (fun h => nd h (fun h => lf (P := EE l 193) h k_193_1020) (fun h => lf (P := EE l 193) h (EE_re (Or.inr (Or.inl ⟨rfl, dL_law_1021, rfl⟩))))))) (fun h => nd h (fun h => nd h (fun h => lf (P := EE l 193) h k_193_1022) (fun h => lf (P := EE l 193) h k_193_1024)) (fun h => nd h (fun h => lf (P := EE l 193) h k_193_1027) (fun h => nd h (fun h => lf (P := EE l 193) h k_193_1028) (fun h => lf (P := EE l 193) h k_193_1029))))) (fun h => nd h (fun h => nd h (fun h => nd h (fun h => lf (P := EE l 193) h k_193_1030) (fun h => lf (P := EE l 193) h k_193_1032)) (fun h => nd h (fun h => lf (P := EE l 193) h k_193_1033) (fun h => nd h (fun h => lf (P := EE l 193) h k_193_1034) (fun h => lf (P := EE l 193) h k_193_1037)))) (fun h => nd h (fun h => nd h (fun h => lf (P := EE l 193) h (EE_re (Or.inr (Or.inl ⟨rfl, dL_law_1038, rfl⟩)))) (fun h => nd h (fun h => lf (P := EE l 193) h k_193_1039) (fun h => lf (P := EE l 193) h k_193_1042))) (fun h => nd h (fun h => lf (P := EE l 193) h k_193_1045) (fun h => nd h (fun h => lf (P := EE l 193) h k_193_1048) (fun h => lf (P := EE l 193) h (EE_re (Or.inr (Or.inl ⟨rfl, dL_law_1049, rfl⟩)))))))))))))
