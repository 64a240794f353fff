/-! tables of J9 (written by a program) -/
theorem dJ9_floorDiv_7cf53_0 : decode cJ9_floorDiv_7cf53 0 = .ok (.iload_n 0, 1) := by decide +kernel
theorem dJ9_floorDiv_7cf53_1 : decode cJ9_floorDiv_7cf53 1 = .ok (.iload_n 1, 1) := by decide +kernel
theorem dJ9_floorDiv_7cf53_2 : decode cJ9_floorDiv_7cf53 2 = .ok (.idiv, 1) := by decide +kernel
theorem dJ9_floorDiv_7cf53_3 : decode cJ9_floorDiv_7cf53 3 = .ok (.istore_n 2, 1) := by decide +kernel
theorem dJ9_floorDiv_7cf53_4 : decode cJ9_floorDiv_7cf53 4 = .ok (.iload_n 0, 1) := by decide +kernel
theorem dJ9_floorDiv_7cf53_5 : decode cJ9_floorDiv_7cf53 5 = .ok (.iload_n 1, 1) := by decide +kernel
theorem dJ9_floorDiv_7cf53_6 : decode cJ9_floorDiv_7cf53 6 = .ok (.ixor, 1) := by decide +kernel
theorem dJ9_floorDiv_7cf53_7 : decode cJ9_floorDiv_7cf53 7 = .ok (.ifCond .ge 14, 3) := by decide +kernel
theorem dJ9_floorDiv_7cf53_10 : decode cJ9_floorDiv_7cf53 10 = .ok (.iload_n 2, 1) := by decide +kernel
theorem dJ9_floorDiv_7cf53_11 : decode cJ9_floorDiv_7cf53 11 = .ok (.iload_n 1, 1) := by decide +kernel
theorem dJ9_floorDiv_7cf53_12 : decode cJ9_floorDiv_7cf53 12 = .ok (.imul, 1) := by decide +kernel
theorem dJ9_floorDiv_7cf53_13 : decode cJ9_floorDiv_7cf53 13 = .ok (.iload_n 0, 1) := by decide +kernel
theorem dJ9_floorDiv_7cf53_14 : decode cJ9_floorDiv_7cf53 14 = .ok (.if_icmp .eq 7, 3) := by decide +kernel
theorem dJ9_floorDiv_7cf53_17 : decode cJ9_floorDiv_7cf53 17 = .ok (.iload_n 2, 1) := by decide +kernel
theorem dJ9_floorDiv_7cf53_18 : decode cJ9_floorDiv_7cf53 18 = .ok (.iconst 1, 1) := by decide +kernel
theorem dJ9_floorDiv_7cf53_19 : decode cJ9_floorDiv_7cf53 19 = .ok (.isub, 1) := by decide +kernel
theorem dJ9_floorDiv_7cf53_20 : decode cJ9_floorDiv_7cf53 20 = .ok (.ireturn, 1) := by decide +kernel
theorem dJ9_floorDiv_7cf53_21 : decode cJ9_floorDiv_7cf53 21 = .ok (.iload_n 2, 1) := by decide +kernel
theorem dJ9_floorDiv_7cf53_22 : decode cJ9_floorDiv_7cf53 22 = .ok (.ireturn, 1) := by decide +kernel
def tb_181 (pc : Nat) : Option mEnt := bif Nat.ble pc 10 then (bif Nat.ble pc 3 then (bif Nat.ble pc 1 then (bif Nat.ble pc 0 then (bif Nat.beq pc 0 then some (.inl (o_il 0 1)) else none) else (bif Nat.beq pc 1 then some (.inl (o_il 1 1)) else none)) else (bif Nat.ble pc 2 then (bif Nat.beq pc 2 then some (.inl (oS 1 (s_iiz (fun a b => a / b)))) else none) else (bif Nat.beq pc 3 then some (.inl (o_is 2 1)) else none))) else (bif Nat.ble pc 5 then (bif Nat.ble pc 4 then (bif Nat.beq pc 4 then some (.inl (o_il 0 1)) else none) else (bif Nat.beq pc 5 then some (.inl (o_il 1 1)) else none)) else (bif Nat.ble pc 6 then (bif Nat.beq pc 6 then some (.inl (oS 1 (s_ii (fun a b => a ^^^ b)))) else none) else (bif Nat.ble pc 7 then (bif Nat.beq pc 7 then some (.inl (o_zge 21)) else none) else (bif Nat.beq pc 10 then some (.inl (o_il 2 1)) else none))))) else (bif Nat.ble pc 17 then (bif Nat.ble pc 12 then (bif Nat.ble pc 11 then (bif Nat.beq pc 11 then some (.inl (o_il 1 1)) else none) else (bif Nat.beq pc 12 then some (.inl (oS 1 (s_ii (fun a b => a * b)))) else none)) else (bif Nat.ble pc 13 then (bif Nat.beq pc 13 then some (.inl (o_il 0 1)) else none) else (bif Nat.ble pc 14 then (bif Nat.beq pc 14 then some (.inl (o_ceq 21)) else none) else (bif Nat.beq pc 17 then some (.inl (o_il 2 1)) else none)))) else (bif Nat.ble pc 19 then (bif Nat.ble pc 18 then (bif Nat.beq pc 18 then some (.inl (oS 1 (s_push (.int 1)))) else none) else (bif Nat.beq pc 19 then some (.inl (oS 1 (s_ii (fun a b => a - b)))) else none)) else (bif Nat.ble pc 20 then (bif Nat.beq pc 20 then some (.inr (0, 0, 0, 0)) else none) else (bif Nat.ble pc 21 then (bif Nat.beq pc 21 then some (.inl (o_il 2 1)) else none) else (bif Nat.beq pc 22 then some (.inr (0, 0, 0, 0)) else none)))))
theorem k_181_0 : mOk M_181.1 M_181.2.1 M_181.2.2.1 M_181.2.2.2 0 (o_il 0 1) := ok_iload_n dJ9_floorDiv_7cf53_0 rfl
theorem k_181_1 : mOk M_181.1 M_181.2.1 M_181.2.2.1 M_181.2.2.2 1 (o_il 1 1) := ok_iload_n dJ9_floorDiv_7cf53_1 rfl
theorem k_181_2 : mOk M_181.1 M_181.2.1 M_181.2.2.1 M_181.2.2.2 2 (oS 1 (s_iiz (fun a b => a / b))) := ok_idiv dJ9_floorDiv_7cf53_2
theorem k_181_3 : mOk M_181.1 M_181.2.1 M_181.2.2.1 M_181.2.2.2 3 (o_is 2 1) := ok_istore_n dJ9_floorDiv_7cf53_3 rfl
theorem k_181_4 : mOk M_181.1 M_181.2.1 M_181.2.2.1 M_181.2.2.2 4 (o_il 0 1) := ok_iload_n dJ9_floorDiv_7cf53_4 rfl
theorem k_181_5 : mOk M_181.1 M_181.2.1 M_181.2.2.1 M_181.2.2.2 5 (o_il 1 1) := ok_iload_n dJ9_floorDiv_7cf53_5 rfl
theorem k_181_6 : mOk M_181.1 M_181.2.1 M_181.2.2.1 M_181.2.2.2 6 (oS 1 (s_ii (fun a b => a ^^^ b))) := ok_ixor dJ9_floorDiv_7cf53_6
theorem k_181_7 : mOk M_181.1 M_181.2.1 M_181.2.2.1 M_181.2.2.2 7 (o_zge 21) := ok_zge dJ9_floorDiv_7cf53_7 (by decide)
theorem k_181_10 : mOk M_181.1 M_181.2.1 M_181.2.2.1 M_181.2.2.2 10 (o_il 2 1) := ok_iload_n dJ9_floorDiv_7cf53_10 rfl
theorem k_181_11 : mOk M_181.1 M_181.2.1 M_181.2.2.1 M_181.2.2.2 11 (o_il 1 1) := ok_iload_n dJ9_floorDiv_7cf53_11 rfl
theorem k_181_12 : mOk M_181.1 M_181.2.1 M_181.2.2.1 M_181.2.2.2 12 (oS 1 (s_ii (fun a b => a * b))) := ok_imul dJ9_floorDiv_7cf53_12
theorem k_181_13 : mOk M_181.1 M_181.2.1 M_181.2.2.1 M_181.2.2.2 13 (o_il 0 1) := ok_iload_n dJ9_floorDiv_7cf53_13 rfl
theorem k_181_14 : mOk M_181.1 M_181.2.1 M_181.2.2.1 M_181.2.2.2 14 (o_ceq 21) := ok_ceq dJ9_floorDiv_7cf53_14 (by decide)
theorem k_181_17 : mOk M_181.1 M_181.2.1 M_181.2.2.1 M_181.2.2.2 17 (o_il 2 1) := ok_iload_n dJ9_floorDiv_7cf53_17 rfl
theorem k_181_18 : mOk M_181.1 M_181.2.1 M_181.2.2.1 M_181.2.2.2 18 (oS 1 (s_push (.int 1))) := ok_iconst dJ9_floorDiv_7cf53_18 (by decide)
theorem k_181_19 : mOk M_181.1 M_181.2.1 M_181.2.2.1 M_181.2.2.2 19 (oS 1 (s_ii (fun a b => a - b))) := ok_isub dJ9_floorDiv_7cf53_19
theorem k_181_21 : mOk M_181.1 M_181.2.1 M_181.2.2.1 M_181.2.2.2 21 (o_il 2 1) := ok_iload_n dJ9_floorDiv_7cf53_21 rfl
set_option maxRecDepth 20000 in
set_option maxHeartbeats 4000000 in
theorem tk_181 (l : Launch) (H9 : mThr l) (H10 : mSpl l) (pc : Nat) (q : mEnt) (h : tb_181 pc = some q) : EE l 181 pc q := nd h (fun h => nd h (fun h => nd h (fun h => nd h (fun h => lf (P := EE l 181) h k_181_0) (fun h => lf (P := EE l 181) h k_181_1)) (fun h => nd h (fun h => lf (P := EE l 181) h k_181_2) (fun h => lf (P := EE l 181) h k_181_3))) (fun h => nd h (fun h => nd h (fun h => lf (P := EE l 181) h k_181_4) (fun h => lf (P := EE l 181) h k_181_5)) (fun h => nd h (fun h => lf (P := EE l 181) h k_181_6) (fun h => nd h (fun h => lf (P := EE l 181) h k_181_7) (fun h => lf (P := EE l 181) h k_181_10))))) (fun h => nd h (fun h => nd h (fun h => nd h (fun h => lf (P := EE l 181) h k_181_11) (fun h => lf (P := EE l 181) h k_181_12)) (fun h => nd h (fun h => lf (P := EE l 181) h k_181_13) (fun h => nd h (fun h => lf (P := EE l 181) h k_181_14) (fun h => lf (P := EE l 181) h k_181_17)))) (fun h => nd h (fun h => nd h (fun h => lf (P := EE l 181) h k_181_18) (fun h => lf (P := EE l 181) h k_181_19)) (fun h => nd h (fun h => lf (P := EE l 181) h (EE_re (Or.inl ⟨rfl, dJ9_floorDiv_7cf53_20, rfl⟩))) (fun h => nd h (fun h => lf (P := EE l 181) h k_181_21) (fun h => lf (P := EE l 181) h (EE_re (Or.inl ⟨rfl, dJ9_floorDiv_7cf53_22, rfl⟩)))))))
theorem dJ9_abs_0f7a4_0 : decode cJ9_abs_0f7a4 0 = .ok (.iload_n 0, 1) := by decide +kernel
theorem dJ9_abs_0f7a4_1 : decode cJ9_abs_0f7a4 1 = .ok (.ifCond .ge 8, 3) := by decide +kernel
theorem dJ9_abs_0f7a4_4 : decode cJ9_abs_0f7a4 4 = .ok (.iload_n 0, 1) := by decide +kernel
theorem dJ9_abs_0f7a4_5 : decode cJ9_abs_0f7a4 5 = .ok (.ineg, 1) := by decide +kernel
theorem dJ9_abs_0f7a4_6 : decode cJ9_abs_0f7a4 6 = .ok (.goto 4, 3) := by decide +kernel
theorem dJ9_abs_0f7a4_9 : decode cJ9_abs_0f7a4 9 = .ok (.iload_n 0, 1) := by decide +kernel
theorem dJ9_abs_0f7a4_10 : decode cJ9_abs_0f7a4 10 = .ok (.ireturn, 1) := by decide +kernel
def tb_182 (pc : Nat) : Option mEnt := bif Nat.ble pc 4 then (bif Nat.ble pc 0 then (bif Nat.beq pc 0 then some (.inl (o_il 0 1)) else none) else (bif Nat.ble pc 1 then (bif Nat.beq pc 1 then some (.inl (o_zge 9)) else none) else (bif Nat.beq pc 4 then some (.inl (o_il 0 1)) else none))) else (bif Nat.ble pc 6 then (bif Nat.ble pc 5 then (bif Nat.beq pc 5 then some (.inl (oS 1 (s_i1 (fun a => -a)))) else none) else (bif Nat.beq pc 6 then some (.inl (o_goto 10)) else none)) else (bif Nat.ble pc 9 then (bif Nat.beq pc 9 then some (.inl (o_il 0 1)) else none) else (bif Nat.beq pc 10 then some (.inr (0, 0, 0, 0)) else none)))
theorem k_182_0 : mOk M_182.1 M_182.2.1 M_182.2.2.1 M_182.2.2.2 0 (o_il 0 1) := ok_iload_n dJ9_abs_0f7a4_0 rfl
theorem k_182_1 : mOk M_182.1 M_182.2.1 M_182.2.2.1 M_182.2.2.2 1 (o_zge 9) := ok_zge dJ9_abs_0f7a4_1 (by decide)
theorem k_182_4 : mOk M_182.1 M_182.2.1 M_182.2.2.1 M_182.2.2.2 4 (o_il 0 1) := ok_iload_n dJ9_abs_0f7a4_4 rfl
theorem k_182_5 : mOk M_182.1 M_182.2.1 M_182.2.2.1 M_182.2.2.2 5 (oS 1 (s_i1 (fun a => -a))) := ok_ineg dJ9_abs_0f7a4_5
theorem k_182_6 : mOk M_182.1 M_182.2.1 M_182.2.2.1 M_182.2.2.2 6 (o_goto 10) := ok_goto dJ9_abs_0f7a4_6 (by decide)
theorem k_182_9 : mOk M_182.1 M_182.2.1 M_182.2.2.1 M_182.2.2.2 9 (o_il 0 1) := ok_iload_n dJ9_abs_0f7a4_9 rfl
set_option maxRecDepth 20000 in
set_option maxHeartbeats 4000000 in
theorem tk_182 (l : Launch) (H9 : mThr l) (H10 : mSpl l) (pc : Nat) (q : mEnt) (h : tb_182 pc = some q) : EE l 182 pc q := nd h (fun h => nd h (fun h => lf (P := EE l 182) h k_182_0) (fun h => nd h (fun h => lf (P := EE l 182) h k_182_1) (fun h => lf (P := EE l 182) h k_182_4))) (fun h => nd h (fun h => nd h (fun h => lf (P := EE l 182) h k_182_5) (fun h => lf (P := EE l 182) h k_182_6)) (fun h => nd h (fun h => lf (P := EE l 182) h k_182_9) (fun h => lf (P := EE l 182) h (EE_re (Or.inl ⟨rfl, dJ9_abs_0f7a4_10, rfl⟩)))))
theorem dJ9_max_7cf53_0 : decode cJ9_max_7cf53 0 = .ok (.iload_n 0, 1) := by decide +kernel
theorem dJ9_max_7cf53_1 : decode cJ9_max_7cf53 1 = .ok (.iload_n 1, 1) := by decide +kernel
theorem dJ9_max_7cf53_2 : decode cJ9_max_7cf53 2 = .ok (.if_icmp .lt 7, 3) := by decide +kernel
theorem dJ9_max_7cf53_5 : decode cJ9_max_7cf53 5 = .ok (.iload_n 0, 1) := by decide +kernel
theorem dJ9_max_7cf53_6 : decode cJ9_max_7cf53 6 = .ok (.goto 4, 3) := by decide +kernel
theorem dJ9_max_7cf53_9 : decode cJ9_max_7cf53 9 = .ok (.iload_n 1, 1) := by decide +kernel
theorem dJ9_max_7cf53_10 : decode cJ9_max_7cf53 10 = .ok (.ireturn, 1) := by decide +kernel
def tb_183 (pc : Nat) : Option mEnt := bif Nat.ble pc 2 then (bif Nat.ble pc 0 then (bif Nat.beq pc 0 then some (.inl (o_il 0 1)) else none) else (bif Nat.ble pc 1 then (bif Nat.beq pc 1 then some (.inl (o_il 1 1)) else none) else (bif Nat.beq pc 2 then some (.inl (o_clt 9)) else none))) else (bif Nat.ble pc 6 then (bif Nat.ble pc 5 then (bif Nat.beq pc 5 then some (.inl (o_il 0 1)) else none) else (bif Nat.beq pc 6 then some (.inl (o_goto 10)) else none)) else (bif Nat.ble pc 9 then (bif Nat.beq pc 9 then some (.inl (o_il 1 1)) else none) else (bif Nat.beq pc 10 then some (.inr (0, 0, 0, 0)) else none)))
theorem k_183_0 : mOk M_183.1 M_183.2.1 M_183.2.2.1 M_183.2.2.2 0 (o_il 0 1) := ok_iload_n dJ9_max_7cf53_0 rfl
theorem k_183_1 : mOk M_183.1 M_183.2.1 M_183.2.2.1 M_183.2.2.2 1 (o_il 1 1) := ok_iload_n dJ9_max_7cf53_1 rfl
theorem k_183_2 : mOk M_183.1 M_183.2.1 M_183.2.2.1 M_183.2.2.2 2 (o_clt 9) := ok_clt dJ9_max_7cf53_2 (by decide)
theorem k_183_5 : mOk M_183.1 M_183.2.1 M_183.2.2.1 M_183.2.2.2 5 (o_il 0 1) := ok_iload_n dJ9_max_7cf53_5 rfl
theorem k_183_6 : mOk M_183.1 M_183.2.1 M_183.2.2.1 M_183.2.2.2 6 (o_goto 10) := ok_goto dJ9_max_7cf53_6 (by decide)
theorem k_183_9 : mOk M_183.1 M_183.2.1 M_183.2.2.1 M_183.2.2.2 9 (o_il 1 1) := ok_iload_n dJ9_max_7cf53_9 rfl
set_option maxRecDepth 20000 in
set_option maxHeartbeats 4000000 in
theorem tk_183 (l : Launch) (H9 : mThr l) (H10 : mSpl l) (pc : Nat) (q : mEnt) (h : tb_183 pc = some q) : EE l 183 pc q := nd h (fun h => nd h (fun h => lf (P := EE l 183) h k_183_0) (fun h => nd h (fun h => lf (P := EE l 183) h k_183_1) (fun h => lf (P := EE l 183) h k_183_2))) (fun h => nd h (fun h => nd h (fun h => lf (P := EE l 183) h k_183_5) (fun h => lf (P := EE l 183) h k_183_6)) (fun h => nd h (fun h => lf (P := EE l 183) h k_183_9) (fun h => lf (P := EE l 183) h (EE_re (Or.inl ⟨rfl, dJ9_max_7cf53_10, rfl⟩)))))
theorem dJ9_min_7cf53_0 : decode cJ9_min_7cf53 0 = .ok (.iload_n 0, 1) := by decide +kernel
theorem dJ9_min_7cf53_1 : decode cJ9_min_7cf53 1 = .ok (.iload_n 1, 1) := by decide +kernel
theorem dJ9_min_7cf53_2 : decode cJ9_min_7cf53 2 = .ok (.if_icmp .gt 7, 3) := by decide +kernel
theorem dJ9_min_7cf53_5 : decode cJ9_min_7cf53 5 = .ok (.iload_n 0, 1) := by decide +kernel
theorem dJ9_min_7cf53_6 : decode cJ9_min_7cf53 6 = .ok (.goto 4, 3) := by decide +kernel
theorem dJ9_min_7cf53_9 : decode cJ9_min_7cf53 9 = .ok (.iload_n 1, 1) := by decide +kernel
theorem dJ9_min_7cf53_10 : decode cJ9_min_7cf53 10 = .ok (.ireturn, 1) := by decide +kernel
def tb_184 (pc : Nat) : Option mEnt := bif Nat.ble pc 2 then (bif Nat.ble pc 0 then (bif Nat.beq pc 0 then some (.inl (o_il 0 1)) else none) else (bif Nat.ble pc 1 then (bif Nat.beq pc 1 then some (.inl (o_il 1 1)) else none) else (bif Nat.beq pc 2 then some (.inl (o_cgt 9)) else none))) else (bif Nat.ble pc 6 then (bif Nat.ble pc 5 then (bif Nat.beq pc 5 then some (.inl (o_il 0 1)) else none) else (bif Nat.beq pc 6 then some (.inl (o_goto 10)) else none)) else (bif Nat.ble pc 9 then (bif Nat.beq pc 9 then some (.inl (o_il 1 1)) else none) else (bif Nat.beq pc 10 then some (.inr (0, 0, 0, 0)) else none)))
theorem k_184_0 : mOk M_184.1 M_184.2.1 M_184.2.2.1 M_184.2.2.2 0 (o_il 0 1) := ok_iload_n dJ9_min_7cf53_0 rfl
theorem k_184_1 : mOk M_184.1 M_184.2.1 M_184.2.2.1 M_184.2.2.2 1 (o_il 1 1) := ok_iload_n dJ9_min_7cf53_1 rfl
theorem k_184_2 : mOk M_184.1 M_184.2.1 M_184.2.2.1 M_184.2.2.2 2 (o_cgt 9) := ok_cgt dJ9_min_7cf53_2 (by decide)
theorem k_184_5 : mOk M_184.1 M_184.2.1 M_184.2.2.1 M_184.2.2.2 5 (o_il 0 1) := ok_iload_n dJ9_min_7cf53_5 rfl
theorem k_184_6 : mOk M_184.1 M_184.2.1 M_184.2.2.1 M_184.2.2.2 6 (o_goto 10) := ok_goto dJ9_min_7cf53_6 (by decide)
theorem k_184_9 : mOk M_184.1 M_184.2.1 M_184.2.2.1 M_184.2.2.2 9 (o_il 1 1) := ok_iload_n dJ9_min_7cf53_9 rfl
set_option maxRecDepth 20000 in
set_option maxHeartbeats 4000000 in
theorem tk_184 (l : Launch) (H9 : mThr l) (H10 : mSpl l) (pc : Nat) (q : mEnt) (h : tb_184 pc = some q) : EE l 184 pc q := nd h (fun h => nd h (fun h => lf (P := EE l 184) h k_184_0) (fun h => nd h (fun h => lf (P := EE l 184) h k_184_1) (fun h => lf (P := EE l 184) h k_184_2))) (fun h => nd h (fun h => nd h (fun h => lf (P := EE l 184) h k_184_5) (fun h => lf (P := EE l 184) h k_184_6)) (fun h => nd h (fun h => lf (P := EE l 184) h k_184_9) (fun h => lf (P := EE l 184) h (EE_re (Or.inl ⟨rfl, dJ9_min_7cf53_10, rfl⟩)))))
