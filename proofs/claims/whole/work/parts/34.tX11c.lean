/-! tables of X11c (written by a program) -/
theorem dX11_inRegion_0 : decode cX11_inRegion 0 = .ok (.iload_n 2, 1) := by decide +kernel
theorem dX11_inRegion_1 : decode cX11_inRegion 1 = .ok (.iload_n 3, 1) := by decide +kernel
theorem dX11_inRegion_2 : decode cX11_inRegion 2 = .ok (.iconst 4, 1) := by decide +kernel
theorem dX11_inRegion_3 : decode cX11_inRegion 3 = .ok (.iload_n 1, 1) := by decide +kernel
theorem dX11_inRegion_4 : decode cX11_inRegion 4 = .ok (.isub, 1) := by decide +kernel
theorem dX11_inRegion_5 : decode cX11_inRegion 5 = .ok (.ishr, 1) := by decide +kernel
theorem dX11_inRegion_6 : decode cX11_inRegion 6 = .ok (.bipush 8, 2) := by decide +kernel
theorem dX11_inRegion_8 : decode cX11_inRegion 8 = .ok (.ishr, 1) := by decide +kernel
theorem dX11_inRegion_9 : decode cX11_inRegion 9 = .ok (.if_icmp .lt 20, 3) := by decide +kernel
theorem dX11_inRegion_12 : decode cX11_inRegion 12 = .ok (.iload_n 2, 1) := by decide +kernel
theorem dX11_inRegion_13 : decode cX11_inRegion 13 = .ok (.iload 4, 2) := by decide +kernel
theorem dX11_inRegion_15 : decode cX11_inRegion 15 = .ok (.iconst 4, 1) := by decide +kernel
theorem dX11_inRegion_16 : decode cX11_inRegion 16 = .ok (.iload_n 1, 1) := by decide +kernel
theorem dX11_inRegion_17 : decode cX11_inRegion 17 = .ok (.isub, 1) := by decide +kernel
theorem dX11_inRegion_18 : decode cX11_inRegion 18 = .ok (.ishr, 1) := by decide +kernel
theorem dX11_inRegion_19 : decode cX11_inRegion 19 = .ok (.bipush 8, 2) := by decide +kernel
theorem dX11_inRegion_21 : decode cX11_inRegion 21 = .ok (.ishr, 1) := by decide +kernel
theorem dX11_inRegion_22 : decode cX11_inRegion 22 = .ok (.if_icmp .gt 7, 3) := by decide +kernel
theorem dX11_inRegion_25 : decode cX11_inRegion 25 = .ok (.iconst 1, 1) := by decide +kernel
theorem dX11_inRegion_26 : decode cX11_inRegion 26 = .ok (.goto 4, 3) := by decide +kernel
theorem dX11_inRegion_29 : decode cX11_inRegion 29 = .ok (.iconst 0, 1) := by decide +kernel
theorem dX11_inRegion_30 : decode cX11_inRegion 30 = .ok (.ireturn, 1) := by decide +kernel
def tb_156 (pc : Nat) : Option mEnt := bif Nat.ble pc 13 then (bif Nat.ble pc 4 then (bif Nat.ble pc 1 then (bif Nat.ble pc 0 then (bif Nat.beq pc 0 then some (.inl (o_il 2 1)) else none) else (bif Nat.beq pc 1 then some (.inl (o_il 3 1)) else none)) else (bif Nat.ble pc 2 then (bif Nat.beq pc 2 then some (.inl (oS 1 (s_push (.int 4)))) else none) else (bif Nat.ble pc 3 then (bif Nat.beq pc 3 then some (.inl (o_il 1 1)) else none) else (bif Nat.beq pc 4 then some (.inl (oS 1 (s_ii (fun a b => a - b)))) else none)))) else (bif Nat.ble pc 8 then (bif Nat.ble pc 5 then (bif Nat.beq pc 5 then some (.inl (oS 1 (s_ii (fun a b => a >>> (b &&& 31))))) else none) else (bif Nat.ble pc 6 then (bif Nat.beq pc 6 then some (.inl (oS 2 (s_push (.int 8)))) else none) else (bif Nat.beq pc 8 then some (.inl (oS 1 (s_ii (fun a b => a >>> (b &&& 31))))) else none))) else (bif Nat.ble pc 9 then (bif Nat.beq pc 9 then some (.inl (o_clt 29)) else none) else (bif Nat.ble pc 12 then (bif Nat.beq pc 12 then some (.inl (o_il 2 1)) else none) else (bif Nat.beq pc 13 then some (.inl (o_il 4 2)) else none))))) else (bif Nat.ble pc 19 then (bif Nat.ble pc 16 then (bif Nat.ble pc 15 then (bif Nat.beq pc 15 then some (.inl (oS 1 (s_push (.int 4)))) else none) else (bif Nat.beq pc 16 then some (.inl (o_il 1 1)) else none)) else (bif Nat.ble pc 17 then (bif Nat.beq pc 17 then some (.inl (oS 1 (s_ii (fun a b => a - b)))) else none) else (bif Nat.ble pc 18 then (bif Nat.beq pc 18 then some (.inl (oS 1 (s_ii (fun a b => a >>> (b &&& 31))))) else none) else (bif Nat.beq pc 19 then some (.inl (oS 2 (s_push (.int 8)))) else none)))) else (bif Nat.ble pc 25 then (bif Nat.ble pc 21 then (bif Nat.beq pc 21 then some (.inl (oS 1 (s_ii (fun a b => a >>> (b &&& 31))))) else none) else (bif Nat.ble pc 22 then (bif Nat.beq pc 22 then some (.inl (o_cgt 29)) else none) else (bif Nat.beq pc 25 then some (.inl (oS 1 (s_push (.int 1)))) else none))) else (bif Nat.ble pc 26 then (bif Nat.beq pc 26 then some (.inl (o_goto 30)) else none) else (bif Nat.ble pc 29 then (bif Nat.beq pc 29 then some (.inl (oS 1 (s_push (.int 0)))) else none) else (bif Nat.beq pc 30 then some (.inr (0, 0, 0, 4)) else none)))))
theorem k_156_0 : mOk M_156.1 M_156.2.1 M_156.2.2.1 M_156.2.2.2 0 (o_il 2 1) := ok_iload_n dX11_inRegion_0 rfl
theorem k_156_1 : mOk M_156.1 M_156.2.1 M_156.2.2.1 M_156.2.2.2 1 (o_il 3 1) := ok_iload_n dX11_inRegion_1 rfl
theorem k_156_2 : mOk M_156.1 M_156.2.1 M_156.2.2.1 M_156.2.2.2 2 (oS 1 (s_push (.int 4))) := ok_iconst dX11_inRegion_2 (by decide)
theorem k_156_3 : mOk M_156.1 M_156.2.1 M_156.2.2.1 M_156.2.2.2 3 (o_il 1 1) := ok_iload_n dX11_inRegion_3 rfl
theorem k_156_4 : mOk M_156.1 M_156.2.1 M_156.2.2.1 M_156.2.2.2 4 (oS 1 (s_ii (fun a b => a - b))) := ok_isub dX11_inRegion_4
theorem k_156_5 : mOk M_156.1 M_156.2.1 M_156.2.2.1 M_156.2.2.2 5 (oS 1 (s_ii (fun a b => a >>> (b &&& 31)))) := ok_ishr dX11_inRegion_5
theorem k_156_6 : mOk M_156.1 M_156.2.1 M_156.2.2.1 M_156.2.2.2 6 (oS 2 (s_push (.int 8))) := ok_bipush dX11_inRegion_6 (by decide)
theorem k_156_8 : mOk M_156.1 M_156.2.1 M_156.2.2.1 M_156.2.2.2 8 (oS 1 (s_ii (fun a b => a >>> (b &&& 31)))) := ok_ishr dX11_inRegion_8
theorem k_156_9 : mOk M_156.1 M_156.2.1 M_156.2.2.1 M_156.2.2.2 9 (o_clt 29) := ok_clt dX11_inRegion_9 (by decide)
theorem k_156_12 : mOk M_156.1 M_156.2.1 M_156.2.2.1 M_156.2.2.2 12 (o_il 2 1) := ok_iload_n dX11_inRegion_12 rfl
theorem k_156_13 : mOk M_156.1 M_156.2.1 M_156.2.2.1 M_156.2.2.2 13 (o_il 4 2) := ok_iload dX11_inRegion_13
theorem k_156_15 : mOk M_156.1 M_156.2.1 M_156.2.2.1 M_156.2.2.2 15 (oS 1 (s_push (.int 4))) := ok_iconst dX11_inRegion_15 (by decide)
theorem k_156_16 : mOk M_156.1 M_156.2.1 M_156.2.2.1 M_156.2.2.2 16 (o_il 1 1) := ok_iload_n dX11_inRegion_16 rfl
theorem k_156_17 : mOk M_156.1 M_156.2.1 M_156.2.2.1 M_156.2.2.2 17 (oS 1 (s_ii (fun a b => a - b))) := ok_isub dX11_inRegion_17
theorem k_156_18 : mOk M_156.1 M_156.2.1 M_156.2.2.1 M_156.2.2.2 18 (oS 1 (s_ii (fun a b => a >>> (b &&& 31)))) := ok_ishr dX11_inRegion_18
theorem k_156_19 : mOk M_156.1 M_156.2.1 M_156.2.2.1 M_156.2.2.2 19 (oS 2 (s_push (.int 8))) := ok_bipush dX11_inRegion_19 (by decide)
theorem k_156_21 : mOk M_156.1 M_156.2.1 M_156.2.2.1 M_156.2.2.2 21 (oS 1 (s_ii (fun a b => a >>> (b &&& 31)))) := ok_ishr dX11_inRegion_21
theorem k_156_22 : mOk M_156.1 M_156.2.1 M_156.2.2.1 M_156.2.2.2 22 (o_cgt 29) := ok_cgt dX11_inRegion_22 (by decide)
theorem k_156_25 : mOk M_156.1 M_156.2.1 M_156.2.2.1 M_156.2.2.2 25 (oS 1 (s_push (.int 1))) := ok_iconst dX11_inRegion_25 (by decide)
theorem k_156_26 : mOk M_156.1 M_156.2.1 M_156.2.2.1 M_156.2.2.2 26 (o_goto 30) := ok_goto dX11_inRegion_26 (by decide)
theorem k_156_29 : mOk M_156.1 M_156.2.1 M_156.2.2.1 M_156.2.2.2 29 (oS 1 (s_push (.int 0))) := ok_iconst dX11_inRegion_29 (by decide)
set_option maxRecDepth 20000 in
set_option maxHeartbeats 4000000 in
theorem tk_156 (l : Launch) (H9 : mThr l) (H10 : mSpl l) (pc : Nat) (q : mEnt) (h : tb_156 pc = some q) : EE l 156 pc q := nd h (fun h => nd h (fun h => nd h (fun h => nd h (fun h => lf (P := EE l 156) h k_156_0) (fun h => lf (P := EE l 156) h k_156_1)) (fun h => nd h (fun h => lf (P := EE l 156) h k_156_2) (fun h => nd h (fun h => lf (P := EE l 156) h k_156_3) (fun h => lf (P := EE l 156) h k_156_4)))) (fun h => nd h (fun h => nd h (fun h => lf (P := EE l 156) h k_156_5) (fun h => nd h (fun h => lf (P := EE l 156) h k_156_6) (fun h => lf (P := EE l 156) h k_156_8))) (fun h => nd h (fun h => lf (P := EE l 156) h k_156_9) (fun h => nd h (fun h => lf (P := EE l 156) h k_156_12) (fun h => lf (P := EE l 156) h k_156_13))))) (fun h => nd h (fun h => nd h (fun h => nd h (fun h => lf (P := EE l 156) h k_156_15) (fun h => lf (P := EE l 156) h k_156_16)) (fun h => nd h (fun h => lf (P := EE l 156) h k_156_17) (fun h => nd h (fun h => lf (P := EE l 156) h k_156_18) (fun h => lf (P := EE l 156) h k_156_19)))) (fun h => nd h (fun h => nd h (fun h => lf (P := EE l 156) h k_156_21) (fun h => nd h (fun h => lf (P := EE l 156) h k_156_22) (fun h => lf (P := EE l 156) h k_156_25))) (fun h => nd h (fun h => lf (P := EE l 156) h k_156_26) (fun h => nd h (fun h => lf (P := EE l 156) h k_156_29) (fun h => lf (P := EE l 156) h (EE_re (Or.inr (Or.inl ⟨rfl, dX11_inRegion_30, rfl⟩))))))))
theorem dX11_sameAs_0 : decode cX11_sameAs 0 = .ok (.iconst 0, 1) := by decide +kernel
theorem dX11_sameAs_1 : decode cX11_sameAs 1 = .ok (.istore_n 2, 1) := by decide +kernel
theorem dX11_sameAs_2 : decode cX11_sameAs 2 = .ok (.iload_n 2, 1) := by decide +kernel
theorem dX11_sameAs_3 : decode cX11_sameAs 3 = .ok (.aload_n 0, 1) := by decide +kernel
theorem dX11_sameAs_4 : decode cX11_sameAs 4 = .ok (.getfield 57, 3) := by decide +kernel
theorem dX11_sameAs_7 : decode cX11_sameAs 7 = .ok (.iload_n 1, 1) := by decide +kernel
theorem dX11_sameAs_8 : decode cX11_sameAs 8 = .ok (.iaload, 1) := by decide +kernel
theorem dX11_sameAs_9 : decode cX11_sameAs 9 = .ok (.if_icmp .ge 112, 3) := by decide +kernel
theorem dX11_sameAs_12 : decode cX11_sameAs 12 = .ok (.bipush 100, 2) := by decide +kernel
theorem dX11_sameAs_14 : decode cX11_sameAs 14 = .ok (.iload_n 1, 1) := by decide +kernel
theorem dX11_sameAs_15 : decode cX11_sameAs 15 = .ok (.imul, 1) := by decide +kernel
theorem dX11_sameAs_16 : decode cX11_sameAs 16 = .ok (.iload_n 2, 1) := by decide +kernel
theorem dX11_sameAs_17 : decode cX11_sameAs 17 = .ok (.iadd, 1) := by decide +kernel
theorem dX11_sameAs_18 : decode cX11_sameAs 18 = .ok (.istore_n 3, 1) := by decide +kernel
theorem dX11_sameAs_19 : decode cX11_sameAs 19 = .ok (.aload_n 0, 1) := by decide +kernel
theorem dX11_sameAs_20 : decode cX11_sameAs 20 = .ok (.getfield 69, 3) := by decide +kernel
theorem dX11_sameAs_23 : decode cX11_sameAs 23 = .ok (.iload_n 3, 1) := by decide +kernel
theorem dX11_sameAs_24 : decode cX11_sameAs 24 = .ok (.iaload, 1) := by decide +kernel
theorem dX11_sameAs_25 : decode cX11_sameAs 25 = .ok (.aload_n 0, 1) := by decide +kernel
theorem dX11_sameAs_26 : decode cX11_sameAs 26 = .ok (.getfield 240, 3) := by decide +kernel
theorem dX11_sameAs_29 : decode cX11_sameAs 29 = .ok (.if_icmp .ne 7, 3) := by decide +kernel
theorem dX11_sameAs_32 : decode cX11_sameAs 32 = .ok (.iconst 1, 1) := by decide +kernel
theorem dX11_sameAs_33 : decode cX11_sameAs 33 = .ok (.goto 4, 3) := by decide +kernel
theorem dX11_sameAs_36 : decode cX11_sameAs 36 = .ok (.iconst 0, 1) := by decide +kernel
theorem dX11_sameAs_37 : decode cX11_sameAs 37 = .ok (.istore 4, 2) := by decide +kernel
theorem dX11_sameAs_39 : decode cX11_sameAs 39 = .ok (.iconst 0, 1) := by decide +kernel
theorem dX11_sameAs_40 : decode cX11_sameAs 40 = .ok (.istore 5, 2) := by decide +kernel
theorem dX11_sameAs_42 : decode cX11_sameAs 42 = .ok (.iload 5, 2) := by decide +kernel
theorem dX11_sameAs_44 : decode cX11_sameAs 44 = .ok (.aload_n 0, 1) := by decide +kernel
theorem dX11_sameAs_45 : decode cX11_sameAs 45 = .ok (.getfield 240, 3) := by decide +kernel
theorem dX11_sameAs_48 : decode cX11_sameAs 48 = .ok (.if_icmp .ge 55, 3) := by decide +kernel
theorem dX11_sameAs_51 : decode cX11_sameAs 51 = .ok (.iload 4, 2) := by decide +kernel
theorem dX11_sameAs_53 : decode cX11_sameAs 53 = .ok (.ifCond .eq 50, 3) := by decide +kernel
theorem dX11_sameAs_56 : decode cX11_sameAs 56 = .ok (.aload_n 0, 1) := by decide +kernel
theorem dX11_sameAs_57 : decode cX11_sameAs 57 = .ok (.getfield 81, 3) := by decide +kernel
theorem dX11_sameAs_60 : decode cX11_sameAs 60 = .ok (.sipush 5000, 3) := by decide +kernel
theorem dX11_sameAs_63 : decode cX11_sameAs 63 = .ok (.iload_n 1, 1) := by decide +kernel
theorem dX11_sameAs_64 : decode cX11_sameAs 64 = .ok (.imul, 1) := by decide +kernel
theorem dX11_sameAs_65 : decode cX11_sameAs 65 = .ok (.aload_n 0, 1) := by decide +kernel
theorem dX11_sameAs_66 : decode cX11_sameAs 66 = .ok (.getfield 72, 3) := by decide +kernel
theorem dX11_sameAs_69 : decode cX11_sameAs 69 = .ok (.iload_n 3, 1) := by decide +kernel
theorem dX11_sameAs_70 : decode cX11_sameAs 70 = .ok (.iaload, 1) := by decide +kernel
theorem dX11_sameAs_71 : decode cX11_sameAs 71 = .ok (.iadd, 1) := by decide +kernel
theorem dX11_sameAs_72 : decode cX11_sameAs 72 = .ok (.iload 5, 2) := by decide +kernel
theorem dX11_sameAs_74 : decode cX11_sameAs 74 = .ok (.iadd, 1) := by decide +kernel
theorem dX11_sameAs_75 : decode cX11_sameAs 75 = .ok (.baload, 1) := by decide +kernel
theorem dX11_sameAs_76 : decode cX11_sameAs 76 = .ok (.sipush 255, 3) := by decide +kernel
theorem dX11_sameAs_79 : decode cX11_sameAs 79 = .ok (.iand, 1) := by decide +kernel
theorem dX11_sameAs_80 : decode cX11_sameAs 80 = .ok (.aload_n 0, 1) := by decide +kernel
theorem dX11_sameAs_81 : decode cX11_sameAs 81 = .ok (.getfield 106, 3) := by decide +kernel
theorem dX11_sameAs_84 : decode cX11_sameAs 84 = .ok (.iload 5, 2) := by decide +kernel
theorem dX11_sameAs_86 : decode cX11_sameAs 86 = .ok (.iaload, 1) := by decide +kernel
theorem dX11_sameAs_87 : decode cX11_sameAs 87 = .ok (.if_icmp .ne 7, 3) := by decide +kernel
theorem dX11_sameAs_90 : decode cX11_sameAs 90 = .ok (.iconst 1, 1) := by decide +kernel
theorem dX11_sameAs_91 : decode cX11_sameAs 91 = .ok (.goto 4, 3) := by decide +kernel
theorem dX11_sameAs_94 : decode cX11_sameAs 94 = .ok (.iconst 0, 1) := by decide +kernel
theorem dX11_sameAs_95 : decode cX11_sameAs 95 = .ok (.istore 4, 2) := by decide +kernel
theorem dX11_sameAs_97 : decode cX11_sameAs 97 = .ok (.iinc 5 1, 3) := by decide +kernel
theorem dX11_sameAs_100 : decode cX11_sameAs 100 = .ok (.goto (-58), 3) := by decide +kernel
theorem dX11_sameAs_103 : decode cX11_sameAs 103 = .ok (.iload 4, 2) := by decide +kernel
theorem dX11_sameAs_105 : decode cX11_sameAs 105 = .ok (.ifCond .eq 10, 3) := by decide +kernel
theorem dX11_sameAs_108 : decode cX11_sameAs 108 = .ok (.aload_n 0, 1) := by decide +kernel
theorem dX11_sameAs_109 : decode cX11_sameAs 109 = .ok (.getfield 75, 3) := by decide +kernel
theorem dX11_sameAs_112 : decode cX11_sameAs 112 = .ok (.iload_n 3, 1) := by decide +kernel
theorem dX11_sameAs_113 : decode cX11_sameAs 113 = .ok (.iaload, 1) := by decide +kernel
theorem dX11_sameAs_114 : decode cX11_sameAs 114 = .ok (.ireturn, 1) := by decide +kernel
theorem dX11_sameAs_115 : decode cX11_sameAs 115 = .ok (.iinc 2 1, 3) := by decide +kernel
theorem dX11_sameAs_118 : decode cX11_sameAs 118 = .ok (.goto (-116), 3) := by decide +kernel
theorem dX11_sameAs_121 : decode cX11_sameAs 121 = .ok (.iconst (-1), 1) := by decide +kernel
theorem dX11_sameAs_122 : decode cX11_sameAs 122 = .ok (.ireturn, 1) := by decide +kernel
def tb_157 (pc : Nat) : Option mEnt := bif Nat.ble pc 57 then (bif Nat.ble pc 23 then (bif Nat.ble pc 9 then (bif Nat.ble pc 3 then (bif Nat.ble pc 1 then (bif Nat.ble pc 0 then (bif Nat.beq pc 0 then some (.inl (oS 1 (s_push (.int 0)))) else none) else (bif Nat.beq pc 1 then some (.inl (o_is 2 1)) else none)) else (bif Nat.ble pc 2 then (bif Nat.beq pc 2 then some (.inl (o_il 2 1)) else none) else (bif Nat.beq pc 3 then some (.inl (o_al 0 1)) else none))) else (bif Nat.ble pc 7 then (bif Nat.ble pc 4 then (bif Nat.beq pc 4 then some (.inl (o_gP 11 20)) else none) else (bif Nat.beq pc 7 then some (.inl (o_il 1 1)) else none)) else (bif Nat.ble pc 8 then (bif Nat.beq pc 8 then some (.inl (o_iald)) else none) else (bif Nat.beq pc 9 then some (.inl (o_cge 121)) else none)))) else (bif Nat.ble pc 16 then (bif Nat.ble pc 14 then (bif Nat.ble pc 12 then (bif Nat.beq pc 12 then some (.inl (oS 2 (s_push (.int 100)))) else none) else (bif Nat.beq pc 14 then some (.inl (o_il 1 1)) else none)) else (bif Nat.ble pc 15 then (bif Nat.beq pc 15 then some (.inl (oS 1 (s_ii (fun a b => a * b)))) else none) else (bif Nat.beq pc 16 then some (.inl (o_il 2 1)) else none))) else (bif Nat.ble pc 18 then (bif Nat.ble pc 17 then (bif Nat.beq pc 17 then some (.inl (oS 1 (s_ii (fun a b => a + b)))) else none) else (bif Nat.beq pc 18 then some (.inl (o_is 3 1)) else none)) else (bif Nat.ble pc 19 then (bif Nat.beq pc 19 then some (.inl (o_al 0 1)) else none) else (bif Nat.ble pc 20 then (bif Nat.beq pc 20 then some (.inl (o_gP 11 24)) else none) else (bif Nat.beq pc 23 then some (.inl (o_il 3 1)) else none)))))) else (bif Nat.ble pc 39 then (bif Nat.ble pc 29 then (bif Nat.ble pc 25 then (bif Nat.ble pc 24 then (bif Nat.beq pc 24 then some (.inl (o_iald)) else none) else (bif Nat.beq pc 25 then some (.inl (o_al 0 1)) else none)) else (bif Nat.ble pc 26 then (bif Nat.beq pc 26 then some (.inl (o_gI 11 37)) else none) else (bif Nat.beq pc 29 then some (.inl (o_cne 36)) else none))) else (bif Nat.ble pc 33 then (bif Nat.ble pc 32 then (bif Nat.beq pc 32 then some (.inl (oS 1 (s_push (.int 1)))) else none) else (bif Nat.beq pc 33 then some (.inl (o_goto 37)) else none)) else (bif Nat.ble pc 36 then (bif Nat.beq pc 36 then some (.inl (oS 1 (s_push (.int 0)))) else none) else (bif Nat.ble pc 37 then (bif Nat.beq pc 37 then some (.inl (o_is 4 2)) else none) else (bif Nat.beq pc 39 then some (.inl (oS 1 (s_push (.int 0)))) else none))))) else (bif Nat.ble pc 45 then (bif Nat.ble pc 42 then (bif Nat.ble pc 40 then (bif Nat.beq pc 40 then some (.inl (o_is 5 2)) else none) else (bif Nat.beq pc 42 then some (.inl (o_il 5 2)) else none)) else (bif Nat.ble pc 44 then (bif Nat.beq pc 44 then some (.inl (o_al 0 1)) else none) else (bif Nat.beq pc 45 then some (.inl (o_gI 11 37)) else none))) else (bif Nat.ble pc 51 then (bif Nat.ble pc 48 then (bif Nat.beq pc 48 then some (.inl (o_cge 103)) else none) else (bif Nat.beq pc 51 then some (.inl (o_il 4 2)) else none)) else (bif Nat.ble pc 53 then (bif Nat.beq pc 53 then some (.inl (o_zeq 103)) else none) else (bif Nat.ble pc 56 then (bif Nat.beq pc 56 then some (.inl (o_al 0 1)) else none) else (bif Nat.beq pc 57 then some (.inl (o_gP 11 28)) else none))))))) else (bif Nat.ble pc 86 then (bif Nat.ble pc 71 then (bif Nat.ble pc 65 then (bif Nat.ble pc 63 then (bif Nat.ble pc 60 then (bif Nat.beq pc 60 then some (.inl (oS 3 (s_push (.int 5000)))) else none) else (bif Nat.beq pc 63 then some (.inl (o_il 1 1)) else none)) else (bif Nat.ble pc 64 then (bif Nat.beq pc 64 then some (.inl (oS 1 (s_ii (fun a b => a * b)))) else none) else (bif Nat.beq pc 65 then some (.inl (o_al 0 1)) else none))) else (bif Nat.ble pc 69 then (bif Nat.ble pc 66 then (bif Nat.beq pc 66 then some (.inl (o_gP 11 25)) else none) else (bif Nat.beq pc 69 then some (.inl (o_il 3 1)) else none)) else (bif Nat.ble pc 70 then (bif Nat.beq pc 70 then some (.inl (o_iald)) else none) else (bif Nat.beq pc 71 then some (.inl (oS 1 (s_ii (fun a b => a + b)))) else none)))) else (bif Nat.ble pc 76 then (bif Nat.ble pc 74 then (bif Nat.ble pc 72 then (bif Nat.beq pc 72 then some (.inl (o_il 5 2)) else none) else (bif Nat.beq pc 74 then some (.inl (oS 1 (s_ii (fun a b => a + b)))) else none)) else (bif Nat.ble pc 75 then (bif Nat.beq pc 75 then some (.inl (o_bald)) else none) else (bif Nat.beq pc 76 then some (.inl (oS 3 (s_push (.int 255)))) else none))) else (bif Nat.ble pc 80 then (bif Nat.ble pc 79 then (bif Nat.beq pc 79 then some (.inl (oS 1 (s_ii (fun a b => a &&& b)))) else none) else (bif Nat.beq pc 80 then some (.inl (o_al 0 1)) else none)) else (bif Nat.ble pc 81 then (bif Nat.beq pc 81 then some (.inl (o_gP 11 36)) else none) else (bif Nat.ble pc 84 then (bif Nat.beq pc 84 then some (.inl (o_il 5 2)) else none) else (bif Nat.beq pc 86 then some (.inl (o_iald)) else none)))))) else (bif Nat.ble pc 105 then (bif Nat.ble pc 94 then (bif Nat.ble pc 90 then (bif Nat.ble pc 87 then (bif Nat.beq pc 87 then some (.inl (o_cne 94)) else none) else (bif Nat.beq pc 90 then some (.inl (oS 1 (s_push (.int 1)))) else none)) else (bif Nat.ble pc 91 then (bif Nat.beq pc 91 then some (.inl (o_goto 95)) else none) else (bif Nat.beq pc 94 then some (.inl (oS 1 (s_push (.int 0)))) else none))) else (bif Nat.ble pc 97 then (bif Nat.ble pc 95 then (bif Nat.beq pc 95 then some (.inl (o_is 4 2)) else none) else (bif Nat.beq pc 97 then some (.inl (o_inc 5 1)) else none)) else (bif Nat.ble pc 100 then (bif Nat.beq pc 100 then some (.inl (o_goto 42)) else none) else (bif Nat.ble pc 103 then (bif Nat.beq pc 103 then some (.inl (o_il 4 2)) else none) else (bif Nat.beq pc 105 then some (.inl (o_zeq 115)) else none))))) else (bif Nat.ble pc 113 then (bif Nat.ble pc 109 then (bif Nat.ble pc 108 then (bif Nat.beq pc 108 then some (.inl (o_al 0 1)) else none) else (bif Nat.beq pc 109 then some (.inl (o_gP 11 26)) else none)) else (bif Nat.ble pc 112 then (bif Nat.beq pc 112 then some (.inl (o_il 3 1)) else none) else (bif Nat.beq pc 113 then some (.inl (o_iald)) else none))) else (bif Nat.ble pc 115 then (bif Nat.ble pc 114 then (bif Nat.beq pc 114 then some (.inr (0, 0, 0, 0)) else none) else (bif Nat.beq pc 115 then some (.inl (o_inc 2 1)) else none)) else (bif Nat.ble pc 118 then (bif Nat.beq pc 118 then some (.inl (o_goto 2)) else none) else (bif Nat.ble pc 121 then (bif Nat.beq pc 121 then some (.inl (oS 1 (s_push (.int (-1))))) else none) else (bif Nat.beq pc 122 then some (.inr (0, 0, 0, 0)) else none)))))))
theorem k_157_0 : mOk M_157.1 M_157.2.1 M_157.2.2.1 M_157.2.2.2 0 (oS 1 (s_push (.int 0))) := ok_iconst dX11_sameAs_0 (by decide)
theorem k_157_1 : mOk M_157.1 M_157.2.1 M_157.2.2.1 M_157.2.2.2 1 (o_is 2 1) := ok_istore_n dX11_sameAs_1 rfl
theorem k_157_2 : mOk M_157.1 M_157.2.1 M_157.2.2.1 M_157.2.2.2 2 (o_il 2 1) := ok_iload_n dX11_sameAs_2 rfl
theorem k_157_3 : mOk M_157.1 M_157.2.1 M_157.2.2.1 M_157.2.2.2 3 (o_al 0 1) := ok_aload_n dX11_sameAs_3 rfl
theorem k_157_4 : mOk M_157.1 M_157.2.1 M_157.2.2.1 M_157.2.2.2 4 (o_gP 11 20) := ok_gP dX11_sameAs_4 f_RX11_57 rfl
theorem k_157_7 : mOk M_157.1 M_157.2.1 M_157.2.2.1 M_157.2.2.2 7 (o_il 1 1) := ok_iload_n dX11_sameAs_7 rfl
theorem k_157_8 : mOk M_157.1 M_157.2.1 M_157.2.2.1 M_157.2.2.2 8 (o_iald) := ok_iald dX11_sameAs_8
theorem k_157_9 : mOk M_157.1 M_157.2.1 M_157.2.2.1 M_157.2.2.2 9 (o_cge 121) := ok_cge dX11_sameAs_9 (by decide)
theorem k_157_12 : mOk M_157.1 M_157.2.1 M_157.2.2.1 M_157.2.2.2 12 (oS 2 (s_push (.int 100))) := ok_bipush dX11_sameAs_12 (by decide)
theorem k_157_14 : mOk M_157.1 M_157.2.1 M_157.2.2.1 M_157.2.2.2 14 (o_il 1 1) := ok_iload_n dX11_sameAs_14 rfl
theorem k_157_15 : mOk M_157.1 M_157.2.1 M_157.2.2.1 M_157.2.2.2 15 (oS 1 (s_ii (fun a b => a * b))) := ok_imul dX11_sameAs_15
theorem k_157_16 : mOk M_157.1 M_157.2.1 M_157.2.2.1 M_157.2.2.2 16 (o_il 2 1) := ok_iload_n dX11_sameAs_16 rfl
theorem k_157_17 : mOk M_157.1 M_157.2.1 M_157.2.2.1 M_157.2.2.2 17 (oS 1 (s_ii (fun a b => a + b))) := ok_iadd dX11_sameAs_17
theorem k_157_18 : mOk M_157.1 M_157.2.1 M_157.2.2.1 M_157.2.2.2 18 (o_is 3 1) := ok_istore_n dX11_sameAs_18 rfl
theorem k_157_19 : mOk M_157.1 M_157.2.1 M_157.2.2.1 M_157.2.2.2 19 (o_al 0 1) := ok_aload_n dX11_sameAs_19 rfl
theorem k_157_20 : mOk M_157.1 M_157.2.1 M_157.2.2.1 M_157.2.2.2 20 (o_gP 11 24) := ok_gP dX11_sameAs_20 f_RX11_69 rfl
theorem k_157_23 : mOk M_157.1 M_157.2.1 M_157.2.2.1 M_157.2.2.2 23 (o_il 3 1) := ok_iload_n dX11_sameAs_23 rfl
theorem k_157_24 : mOk M_157.1 M_157.2.1 M_157.2.2.1 M_157.2.2.2 24 (o_iald) := ok_iald dX11_sameAs_24
theorem k_157_25 : mOk M_157.1 M_157.2.1 M_157.2.2.1 M_157.2.2.2 25 (o_al 0 1) := ok_aload_n dX11_sameAs_25 rfl
theorem k_157_26 : mOk M_157.1 M_157.2.1 M_157.2.2.1 M_157.2.2.2 26 (o_gI 11 37) := ok_gI dX11_sameAs_26 f_RX11_240 (Or.inl rfl)
theorem k_157_29 : mOk M_157.1 M_157.2.1 M_157.2.2.1 M_157.2.2.2 29 (o_cne 36) := ok_cne dX11_sameAs_29 (by decide)
theorem k_157_32 : mOk M_157.1 M_157.2.1 M_157.2.2.1 M_157.2.2.2 32 (oS 1 (s_push (.int 1))) := ok_iconst dX11_sameAs_32 (by decide)
theorem k_157_33 : mOk M_157.1 M_157.2.1 M_157.2.2.1 M_157.2.2.2 33 (o_goto 37) := ok_goto dX11_sameAs_33 (by decide)
theorem k_157_36 : mOk M_157.1 M_157.2.1 M_157.2.2.1 M_157.2.2.2 36 (oS 1 (s_push (.int 0))) := ok_iconst dX11_sameAs_36 (by decide)
theorem k_157_37 : mOk M_157.1 M_157.2.1 M_157.2.2.1 M_157.2.2.2 37 (o_is 4 2) := ok_istore dX11_sameAs_37
theorem k_157_39 : mOk M_157.1 M_157.2.1 M_157.2.2.1 M_157.2.2.2 39 (oS 1 (s_push (.int 0))) := ok_iconst dX11_sameAs_39 (by decide)
theorem k_157_40 : mOk M_157.1 M_157.2.1 M_157.2.2.1 M_157.2.2.2 40 (o_is 5 2) := ok_istore dX11_sameAs_40
theorem k_157_42 : mOk M_157.1 M_157.2.1 M_157.2.2.1 M_157.2.2.2 42 (o_il 5 2) := ok_iload dX11_sameAs_42
theorem k_157_44 : mOk M_157.1 M_157.2.1 M_157.2.2.1 M_157.2.2.2 44 (o_al 0 1) := ok_aload_n dX11_sameAs_44 rfl
theorem k_157_45 : mOk M_157.1 M_157.2.1 M_157.2.2.1 M_157.2.2.2 45 (o_gI 11 37) := ok_gI dX11_sameAs_45 f_RX11_240 (Or.inl rfl)
theorem k_157_48 : mOk M_157.1 M_157.2.1 M_157.2.2.1 M_157.2.2.2 48 (o_cge 103) := ok_cge dX11_sameAs_48 (by decide)
theorem k_157_51 : mOk M_157.1 M_157.2.1 M_157.2.2.1 M_157.2.2.2 51 (o_il 4 2) := ok_iload dX11_sameAs_51
theorem k_157_53 : mOk M_157.1 M_157.2.1 M_157.2.2.1 M_157.2.2.2 53 (o_zeq 103) := ok_zeq dX11_sameAs_53 (by decide)
theorem k_157_56 : mOk M_157.1 M_157.2.1 M_157.2.2.1 M_157.2.2.2 56 (o_al 0 1) := ok_aload_n dX11_sameAs_56 rfl
theorem k_157_57 : mOk M_157.1 M_157.2.1 M_157.2.2.1 M_157.2.2.2 57 (o_gP 11 28) := ok_gP dX11_sameAs_57 f_RX11_81 rfl
theorem k_157_60 : mOk M_157.1 M_157.2.1 M_157.2.2.1 M_157.2.2.2 60 (oS 3 (s_push (.int 5000))) := ok_sipush dX11_sameAs_60 (by decide)
theorem k_157_63 : mOk M_157.1 M_157.2.1 M_157.2.2.1 M_157.2.2.2 63 (o_il 1 1) := ok_iload_n dX11_sameAs_63 rfl
theorem k_157_64 : mOk M_157.1 M_157.2.1 M_157.2.2.1 M_157.2.2.2 64 (oS 1 (s_ii (fun a b => a * b))) := ok_imul dX11_sameAs_64
theorem k_157_65 : mOk M_157.1 M_157.2.1 M_157.2.2.1 M_157.2.2.2 65 (o_al 0 1) := ok_aload_n dX11_sameAs_65 rfl
theorem k_157_66 : mOk M_157.1 M_157.2.1 M_157.2.2.1 M_157.2.2.2 66 (o_gP 11 25) := ok_gP dX11_sameAs_66 f_RX11_72 rfl
theorem k_157_69 : mOk M_157.1 M_157.2.1 M_157.2.2.1 M_157.2.2.2 69 (o_il 3 1) := ok_iload_n dX11_sameAs_69 rfl
theorem k_157_70 : mOk M_157.1 M_157.2.1 M_157.2.2.1 M_157.2.2.2 70 (o_iald) := ok_iald dX11_sameAs_70
theorem k_157_71 : mOk M_157.1 M_157.2.1 M_157.2.2.1 M_157.2.2.2 71 (oS 1 (s_ii (fun a b => a + b))) := ok_iadd dX11_sameAs_71
theorem k_157_72 : mOk M_157.1 M_157.2.1 M_157.2.2.1 M_157.2.2.2 72 (o_il 5 2) := ok_iload dX11_sameAs_72
theorem k_157_74 : mOk M_157.1 M_157.2.1 M_157.2.2.1 M_157.2.2.2 74 (oS 1 (s_ii (fun a b => a + b))) := ok_iadd dX11_sameAs_74
theorem k_157_75 : mOk M_157.1 M_157.2.1 M_157.2.2.1 M_157.2.2.2 75 (o_bald) := ok_bald dX11_sameAs_75
theorem k_157_76 : mOk M_157.1 M_157.2.1 M_157.2.2.1 M_157.2.2.2 76 (oS 3 (s_push (.int 255))) := ok_sipush dX11_sameAs_76 (by decide)
theorem k_157_79 : mOk M_157.1 M_157.2.1 M_157.2.2.1 M_157.2.2.2 79 (oS 1 (s_ii (fun a b => a &&& b))) := ok_iand dX11_sameAs_79
theorem k_157_80 : mOk M_157.1 M_157.2.1 M_157.2.2.1 M_157.2.2.2 80 (o_al 0 1) := ok_aload_n dX11_sameAs_80 rfl
theorem k_157_81 : mOk M_157.1 M_157.2.1 M_157.2.2.1 M_157.2.2.2 81 (o_gP 11 36) := ok_gP dX11_sameAs_81 f_RX11_106 rfl
theorem k_157_84 : mOk M_157.1 M_157.2.1 M_157.2.2.1 M_157.2.2.2 84 (o_il 5 2) := ok_iload dX11_sameAs_84
theorem k_157_86 : mOk M_157.1 M_157.2.1 M_157.2.2.1 M_157.2.2.2 86 (o_iald) := ok_iald dX11_sameAs_86
theorem k_157_87 : mOk M_157.1 M_157.2.1 M_157.2.2.1 M_157.2.2.2 87 (o_cne 94) := ok_cne dX11_sameAs_87 (by decide)
theorem k_157_90 : mOk M_157.1 M_157.2.1 M_157.2.2.1 M_157.2.2.2 90 (oS 1 (s_push (.int 1))) := ok_iconst dX11_sameAs_90 (by decide)
theorem k_157_91 : mOk M_157.1 M_157.2.1 M_157.2.2.1 M_157.2.2.2 91 (o_goto 95) := ok_goto dX11_sameAs_91 (by decide)
theorem k_157_94 : mOk M_157.1 M_157.2.1 M_157.2.2.1 M_157.2.2.2 94 (oS 1 (s_push (.int 0))) := ok_iconst dX11_sameAs_94 (by decide)
theorem k_157_95 : mOk M_157.1 M_157.2.1 M_157.2.2.1 M_157.2.2.2 95 (o_is 4 2) := ok_istore dX11_sameAs_95
theorem k_157_97 : mOk M_157.1 M_157.2.1 M_157.2.2.1 M_157.2.2.2 97 (o_inc 5 1) := ok_iinc dX11_sameAs_97 (by decide)
theorem k_157_100 : mOk M_157.1 M_157.2.1 M_157.2.2.1 M_157.2.2.2 100 (o_goto 42) := ok_goto dX11_sameAs_100 (by decide)
theorem k_157_103 : mOk M_157.1 M_157.2.1 M_157.2.2.1 M_157.2.2.2 103 (o_il 4 2) := ok_iload dX11_sameAs_103
theorem k_157_105 : mOk M_157.1 M_157.2.1 M_157.2.2.1 M_157.2.2.2 105 (o_zeq 115) := ok_zeq dX11_sameAs_105 (by decide)
theorem k_157_108 : mOk M_157.1 M_157.2.1 M_157.2.2.1 M_157.2.2.2 108 (o_al 0 1) := ok_aload_n dX11_sameAs_108 rfl
theorem k_157_109 : mOk M_157.1 M_157.2.1 M_157.2.2.1 M_157.2.2.2 109 (o_gP 11 26) := ok_gP dX11_sameAs_109 f_RX11_75 rfl
theorem k_157_112 : mOk M_157.1 M_157.2.1 M_157.2.2.1 M_157.2.2.2 112 (o_il 3 1) := ok_iload_n dX11_sameAs_112 rfl
theorem k_157_113 : mOk M_157.1 M_157.2.1 M_157.2.2.1 M_157.2.2.2 113 (o_iald) := ok_iald dX11_sameAs_113
theorem k_157_115 : mOk M_157.1 M_157.2.1 M_157.2.2.1 M_157.2.2.2 115 (o_inc 2 1) := ok_iinc dX11_sameAs_115 (by decide)
theorem k_157_118 : mOk M_157.1 M_157.2.1 M_157.2.2.1 M_157.2.2.2 118 (o_goto 2) := ok_goto dX11_sameAs_118 (by decide)
theorem k_157_121 : mOk M_157.1 M_157.2.1 M_157.2.2.1 M_157.2.2.2 121 (oS 1 (s_push (.int (-1)))) := ok_iconst dX11_sameAs_121 (by decide)
set_option maxRecDepth 20000 in
set_option maxHeartbeats 4000000 in
theorem tk_157 (l : Launch) (H9 : mThr l) (H10 : mSpl l) (pc : Nat) (q : mEnt) (h : tb_157 pc = some q) : EE l 157 pc q := nd h (fun h => nd h (fun h => nd h (fun h => nd h (fun h => nd h (fun h => nd h (fun h => lf (P := EE l 157) h k_157_0) (fun h => lf (P := EE l 157) h k_157_1)) (fun h => nd h (fun h => lf (P := EE l 157) h k_157_2) (fun h => lf (P := EE l 157) h k_157_3))) (fun h => nd h (fun h => nd h (fun h => lf (P := EE l 157) h k_157_4) (fun h => lf (P := EE l 157) h k_157_7)) (fun h => nd h (fun h => lf (P := EE l 157) h k_157_8) (fun h => lf (P := EE l 157) h k_157_9)))) (fun h => nd h (fun h => nd h (fun h => nd h (fun h => lf (P := EE l 157) h k_157_12) (fun h => lf (P := EE l 157) h k_157_14)) (fun h => nd h (fun h => lf (P := EE l 157) h k_157_15) (fun h => lf (P := EE l 157) h k_157_16))) (fun h => nd h (fun h => nd h (fun h => lf (P := EE l 157) h k_157_17) (fun h => lf (P := EE l 157) h k_157_18)) (fun h => nd h (fun h => lf (P := EE l 157) h k_157_19) (fun h => nd h (fun h => lf (P := EE l 157) h k_157_20) (fun h => lf (P := EE l 157) h k_157_23)))))) (fun h => nd h (fun h => nd h (fun h => nd h (fun h => nd h (fun h => lf (P := EE l 157) h k_157_24) (fun h => lf (P := EE l 157) h k_157_25)) (fun h => nd h (fun h => lf (P := EE l 157) h k_157_26) (fun h => lf (P := EE l 157) h k_157_29))) (fun h => nd h (fun h => nd h (fun h => lf (P := EE l 157) h k_157_32) (fun h => lf (P := EE l 157) h k_157_33)) (fun h => nd h (fun h => lf (P := EE l 157) h k_157_36) (fun h => nd h (fun h => lf (P := EE l 157) h k_157_37) (fun h => lf (P := EE l 157) h k_157_39))))) (fun h => nd h (fun h => nd h (fun h => nd h (fun h => lf (P := EE l 157) h k_157_40) (fun h => lf (P := EE l 157) h k_157_42)) (fun h => nd h (fun h => lf (P := EE l 157) h k_157_44) (fun h => lf (P := EE l 157) h k_157_45))) (fun h => nd h (fun h => nd h (fun h => lf (P := EE l 157) h k_157_48) (fun h => lf (P := EE l 157) h k_157_51)) (fun h => nd h (fun h => lf (P := EE l 157) h k_157_53) (fun h => nd h (fun h => lf (P := EE l 157) h k_157_56) (fun h => lf (P := EE l 157) h k_157_57))))))) (fun h => nd h (fun h => nd h (fun h => nd h (fun h => nd h (fun h => nd h (fun h => lf (P := EE l 157) h k_157_60) (fun h => lf (P := EE l 157) h k_157_63)) (fun h => nd h (fun h => lf (P := EE l 157) h k_157_64) (fun h => lf (P := EE l 157) h k_157_65))) (fun h => nd h (fun h => nd h (fun h => lf (P := EE l 157) h k_157_66) (fun h => lf (P := EE l 157) h k_157_69)) (fun h => nd h (fun h => lf (P := EE l 157) h k_157_70) (fun h => lf (P := EE l 157) h k_157_71)))) (fun h => nd h (fun h => nd h (fun h => nd h (fun h => lf (P := EE l 157) h k_157_72) (fun h => lf (P := EE l 157) h k_157_74)) (fun h => nd h (fun h => lf (P := EE l 157) h k_157_75) (fun h => lf (P := EE l 157) h k_157_76))) (fun h => nd h (fun h => nd h (fun h => lf (P := EE l 157) h k_157_79) (fun h => lf (P := EE l 157) h k_157_80)) (fun h => nd h (fun h => lf (P := EE l 157) h k_157_81) (fun h => nd h (fun h => lf (P := EE l 157) h k_157_84) (fun h => lf (P := EE l 157) h k_157_86)))))) (fun h => nd h (fun h => nd h (fun h => nd h (fun h => nd h (fun h => lf (P := EE l 157) h k_157_87) (fun h => lf (P := EE l 157) h k_157_90)) (fun h => nd h (fun h => lf (P := EE l 157) h k_157_91) (fun h => lf (P := EE l 157) h k_157_94))) (fun h => nd h (fun h => nd h (fun h => lf (P := EE l 157) h k_157_95) (fun h => lf (P := EE l 157) h k_157_97)) (fun h => nd h (fun h => lf (P := EE l 157) h k_157_100) (fun h => nd h (fun h => lf (P := EE l 157) h k_157_103) (fun h => lf (P := EE l 157) h k_157_105))))) (fun h => nd h (fun h => nd h (fun h => nd h (fun h => lf (P := EE l 157) h k_157_108) (fun h => lf (P := EE l 157) h k_157_109)) (fun h => nd h (fun h => lf (P := EE l 157) h k_157_112) (fun h => lf (P := EE l 157) h k_157_113))) (fun h => nd h (fun h => nd h (fun h => lf (P := EE l 157) h (EE_re (Or.inl ⟨rfl, dX11_sameAs_114, rfl⟩))) (fun h => lf (P := EE l 157) h k_157_115)) (fun h => nd h (fun h => lf (P := EE l 157) h k_157_118) (fun h => nd h (fun h => lf (P := EE l 157) h k_157_121) (fun h => lf (P := EE l 157) h (EE_re (Or.inl ⟨rfl, dX11_sameAs_122, rfl⟩)))))))))
theorem dX11_addTile_0 : decode cX11_addTile 0 = .ok (.aload_n 0, 1) := by decide +kernel
theorem dX11_addTile_1 : decode cX11_addTile 1 = .ok (.iload_n 1, 1) := by decide +kernel
theorem dX11_addTile_2 : decode cX11_addTile 2 = .ok (.invokevirtual 283, 3) := by decide +kernel
theorem dX11_addTile_5 : decode cX11_addTile 5 = .ok (.istore 5, 2) := by decide +kernel
theorem dX11_addTile_7 : decode cX11_addTile 7 = .ok (.aload_n 0, 1) := by decide +kernel
theorem dX11_addTile_8 : decode cX11_addTile 8 = .ok (.getfield 57, 3) := by decide +kernel
theorem dX11_addTile_11 : decode cX11_addTile 11 = .ok (.iload_n 1, 1) := by decide +kernel
theorem dX11_addTile_12 : decode cX11_addTile 12 = .ok (.iaload, 1) := by decide +kernel
theorem dX11_addTile_13 : decode cX11_addTile 13 = .ok (.bipush 100, 2) := by decide +kernel
theorem dX11_addTile_15 : decode cX11_addTile 15 = .ok (.if_icmp .eq 26, 3) := by decide +kernel
theorem dX11_addTile_18 : decode cX11_addTile 18 = .ok (.iload 5, 2) := by decide +kernel
theorem dX11_addTile_20 : decode cX11_addTile 20 = .ok (.iconst (-1), 1) := by decide +kernel
theorem dX11_addTile_21 : decode cX11_addTile 21 = .ok (.if_icmp .ne 22, 3) := by decide +kernel
theorem dX11_addTile_24 : decode cX11_addTile 24 = .ok (.aload_n 0, 1) := by decide +kernel
theorem dX11_addTile_25 : decode cX11_addTile 25 = .ok (.getfield 78, 3) := by decide +kernel
theorem dX11_addTile_28 : decode cX11_addTile 28 = .ok (.iload_n 1, 1) := by decide +kernel
theorem dX11_addTile_29 : decode cX11_addTile 29 = .ok (.iaload, 1) := by decide +kernel
theorem dX11_addTile_30 : decode cX11_addTile 30 = .ok (.aload_n 0, 1) := by decide +kernel
theorem dX11_addTile_31 : decode cX11_addTile 31 = .ok (.getfield 240, 3) := by decide +kernel
theorem dX11_addTile_34 : decode cX11_addTile 34 = .ok (.iadd, 1) := by decide +kernel
theorem dX11_addTile_35 : decode cX11_addTile 35 = .ok (.sipush 5000, 3) := by decide +kernel
theorem dX11_addTile_38 : decode cX11_addTile 38 = .ok (.if_icmp .le 5, 3) := by decide +kernel
theorem dX11_addTile_41 : decode cX11_addTile 41 = .ok (.iconst 0, 1) := by decide +kernel
theorem dX11_addTile_42 : decode cX11_addTile 42 = .ok (.ireturn, 1) := by decide +kernel
theorem dX11_addTile_43 : decode cX11_addTile 43 = .ok (.bipush 100, 2) := by decide +kernel
theorem dX11_addTile_45 : decode cX11_addTile 45 = .ok (.iload_n 1, 1) := by decide +kernel
theorem dX11_addTile_46 : decode cX11_addTile 46 = .ok (.imul, 1) := by decide +kernel
theorem dX11_addTile_47 : decode cX11_addTile 47 = .ok (.aload_n 0, 1) := by decide +kernel
theorem dX11_addTile_48 : decode cX11_addTile 48 = .ok (.getfield 57, 3) := by decide +kernel
theorem dX11_addTile_51 : decode cX11_addTile 51 = .ok (.iload_n 1, 1) := by decide +kernel
theorem dX11_addTile_52 : decode cX11_addTile 52 = .ok (.iaload, 1) := by decide +kernel
theorem dX11_addTile_53 : decode cX11_addTile 53 = .ok (.iadd, 1) := by decide +kernel
theorem dX11_addTile_54 : decode cX11_addTile 54 = .ok (.istore 6, 2) := by decide +kernel
theorem dX11_addTile_56 : decode cX11_addTile 56 = .ok (.aload_n 0, 1) := by decide +kernel
theorem dX11_addTile_57 : decode cX11_addTile 57 = .ok (.getfield 60, 3) := by decide +kernel
theorem dX11_addTile_60 : decode cX11_addTile 60 = .ok (.iload 6, 2) := by decide +kernel
theorem dX11_addTile_62 : decode cX11_addTile 62 = .ok (.iload_n 2, 1) := by decide +kernel
theorem dX11_addTile_63 : decode cX11_addTile 63 = .ok (.iastore, 1) := by decide +kernel
theorem dX11_addTile_64 : decode cX11_addTile 64 = .ok (.aload_n 0, 1) := by decide +kernel
theorem dX11_addTile_65 : decode cX11_addTile 65 = .ok (.getfield 63, 3) := by decide +kernel
theorem dX11_addTile_68 : decode cX11_addTile 68 = .ok (.iload 6, 2) := by decide +kernel
theorem dX11_addTile_70 : decode cX11_addTile 70 = .ok (.iload_n 3, 1) := by decide +kernel
theorem dX11_addTile_71 : decode cX11_addTile 71 = .ok (.iastore, 1) := by decide +kernel
theorem dX11_addTile_72 : decode cX11_addTile 72 = .ok (.aload_n 0, 1) := by decide +kernel
theorem dX11_addTile_73 : decode cX11_addTile 73 = .ok (.getfield 66, 3) := by decide +kernel
theorem dX11_addTile_76 : decode cX11_addTile 76 = .ok (.iload 6, 2) := by decide +kernel
theorem dX11_addTile_78 : decode cX11_addTile 78 = .ok (.iload 4, 2) := by decide +kernel
theorem dX11_addTile_80 : decode cX11_addTile 80 = .ok (.iastore, 1) := by decide +kernel
theorem dX11_addTile_81 : decode cX11_addTile 81 = .ok (.aload_n 0, 1) := by decide +kernel
theorem dX11_addTile_82 : decode cX11_addTile 82 = .ok (.getfield 69, 3) := by decide +kernel
theorem dX11_addTile_85 : decode cX11_addTile 85 = .ok (.iload 6, 2) := by decide +kernel
theorem dX11_addTile_87 : decode cX11_addTile 87 = .ok (.aload_n 0, 1) := by decide +kernel
theorem dX11_addTile_88 : decode cX11_addTile 88 = .ok (.getfield 240, 3) := by decide +kernel
theorem dX11_addTile_91 : decode cX11_addTile 91 = .ok (.iastore, 1) := by decide +kernel
theorem dX11_addTile_92 : decode cX11_addTile 92 = .ok (.aload_n 0, 1) := by decide +kernel
theorem dX11_addTile_93 : decode cX11_addTile 93 = .ok (.getfield 75, 3) := by decide +kernel
theorem dX11_addTile_96 : decode cX11_addTile 96 = .ok (.iload 6, 2) := by decide +kernel
theorem dX11_addTile_98 : decode cX11_addTile 98 = .ok (.iload 5, 2) := by decide +kernel
theorem dX11_addTile_100 : decode cX11_addTile 100 = .ok (.iconst (-1), 1) := by decide +kernel
theorem dX11_addTile_101 : decode cX11_addTile 101 = .ok (.if_icmp .ne 12, 3) := by decide +kernel
theorem dX11_addTile_104 : decode cX11_addTile 104 = .ok (.aload_n 0, 1) := by decide +kernel
theorem dX11_addTile_105 : decode cX11_addTile 105 = .ok (.getfield 57, 3) := by decide +kernel
theorem dX11_addTile_108 : decode cX11_addTile 108 = .ok (.iload_n 1, 1) := by decide +kernel
theorem dX11_addTile_109 : decode cX11_addTile 109 = .ok (.iaload, 1) := by decide +kernel
theorem dX11_addTile_110 : decode cX11_addTile 110 = .ok (.goto 5, 3) := by decide +kernel
theorem dX11_addTile_113 : decode cX11_addTile 113 = .ok (.iload 5, 2) := by decide +kernel
theorem dX11_addTile_115 : decode cX11_addTile 115 = .ok (.iastore, 1) := by decide +kernel
theorem dX11_addTile_116 : decode cX11_addTile 116 = .ok (.aload_n 0, 1) := by decide +kernel
theorem dX11_addTile_117 : decode cX11_addTile 117 = .ok (.getfield 72, 3) := by decide +kernel
theorem dX11_addTile_120 : decode cX11_addTile 120 = .ok (.iload 6, 2) := by decide +kernel
theorem dX11_addTile_122 : decode cX11_addTile 122 = .ok (.iload 5, 2) := by decide +kernel
theorem dX11_addTile_124 : decode cX11_addTile 124 = .ok (.iconst (-1), 1) := by decide +kernel
theorem dX11_addTile_125 : decode cX11_addTile 125 = .ok (.if_icmp .ne 12, 3) := by decide +kernel
theorem dX11_addTile_128 : decode cX11_addTile 128 = .ok (.aload_n 0, 1) := by decide +kernel
theorem dX11_addTile_129 : decode cX11_addTile 129 = .ok (.getfield 78, 3) := by decide +kernel
theorem dX11_addTile_132 : decode cX11_addTile 132 = .ok (.iload_n 1, 1) := by decide +kernel
theorem dX11_addTile_133 : decode cX11_addTile 133 = .ok (.iaload, 1) := by decide +kernel
theorem dX11_addTile_134 : decode cX11_addTile 134 = .ok (.goto 15, 3) := by decide +kernel
theorem dX11_addTile_137 : decode cX11_addTile 137 = .ok (.aload_n 0, 1) := by decide +kernel
theorem dX11_addTile_138 : decode cX11_addTile 138 = .ok (.getfield 72, 3) := by decide +kernel
theorem dX11_addTile_141 : decode cX11_addTile 141 = .ok (.bipush 100, 2) := by decide +kernel
theorem dX11_addTile_143 : decode cX11_addTile 143 = .ok (.iload_n 1, 1) := by decide +kernel
theorem dX11_addTile_144 : decode cX11_addTile 144 = .ok (.imul, 1) := by decide +kernel
theorem dX11_addTile_145 : decode cX11_addTile 145 = .ok (.iload 5, 2) := by decide +kernel
theorem dX11_addTile_147 : decode cX11_addTile 147 = .ok (.iadd, 1) := by decide +kernel
theorem dX11_addTile_148 : decode cX11_addTile 148 = .ok (.iaload, 1) := by decide +kernel
theorem dX11_addTile_149 : decode cX11_addTile 149 = .ok (.iastore, 1) := by decide +kernel
theorem dX11_addTile_150 : decode cX11_addTile 150 = .ok (.iload 5, 2) := by decide +kernel
theorem dX11_addTile_152 : decode cX11_addTile 152 = .ok (.iconst (-1), 1) := by decide +kernel
theorem dX11_addTile_153 : decode cX11_addTile 153 = .ok (.if_icmp .ne 62, 3) := by decide +kernel
theorem dX11_addTile_156 : decode cX11_addTile 156 = .ok (.iconst 0, 1) := by decide +kernel
theorem dX11_addTile_157 : decode cX11_addTile 157 = .ok (.istore 7, 2) := by decide +kernel
theorem dX11_addTile_159 : decode cX11_addTile 159 = .ok (.iload 7, 2) := by decide +kernel
theorem dX11_addTile_161 : decode cX11_addTile 161 = .ok (.aload_n 0, 1) := by decide +kernel
theorem dX11_addTile_162 : decode cX11_addTile 162 = .ok (.getfield 240, 3) := by decide +kernel
theorem dX11_addTile_165 : decode cX11_addTile 165 = .ok (.if_icmp .ge 37, 3) := by decide +kernel
theorem dX11_addTile_168 : decode cX11_addTile 168 = .ok (.aload_n 0, 1) := by decide +kernel
theorem dX11_addTile_169 : decode cX11_addTile 169 = .ok (.getfield 81, 3) := by decide +kernel
theorem dX11_addTile_172 : decode cX11_addTile 172 = .ok (.sipush 5000, 3) := by decide +kernel
theorem dX11_addTile_175 : decode cX11_addTile 175 = .ok (.iload_n 1, 1) := by decide +kernel
theorem dX11_addTile_176 : decode cX11_addTile 176 = .ok (.imul, 1) := by decide +kernel
theorem dX11_addTile_177 : decode cX11_addTile 177 = .ok (.aload_n 0, 1) := by decide +kernel
theorem dX11_addTile_178 : decode cX11_addTile 178 = .ok (.getfield 78, 3) := by decide +kernel
theorem dX11_addTile_181 : decode cX11_addTile 181 = .ok (.iload_n 1, 1) := by decide +kernel
theorem dX11_addTile_182 : decode cX11_addTile 182 = .ok (.iaload, 1) := by decide +kernel
theorem dX11_addTile_183 : decode cX11_addTile 183 = .ok (.iadd, 1) := by decide +kernel
theorem dX11_addTile_184 : decode cX11_addTile 184 = .ok (.iload 7, 2) := by decide +kernel
theorem dX11_addTile_186 : decode cX11_addTile 186 = .ok (.iadd, 1) := by decide +kernel
theorem dX11_addTile_187 : decode cX11_addTile 187 = .ok (.aload_n 0, 1) := by decide +kernel
theorem dX11_addTile_188 : decode cX11_addTile 188 = .ok (.getfield 106, 3) := by decide +kernel
theorem dX11_addTile_191 : decode cX11_addTile 191 = .ok (.iload 7, 2) := by decide +kernel
theorem dX11_addTile_193 : decode cX11_addTile 193 = .ok (.iaload, 1) := by decide +kernel
theorem dX11_addTile_194 : decode cX11_addTile 194 = .ok (.i2b, 1) := by decide +kernel
theorem dX11_addTile_195 : decode cX11_addTile 195 = .ok (.bastore, 1) := by decide +kernel
theorem dX11_addTile_196 : decode cX11_addTile 196 = .ok (.iinc 7 1, 3) := by decide +kernel
theorem dX11_addTile_199 : decode cX11_addTile 199 = .ok (.goto (-40), 3) := by decide +kernel
theorem dX11_addTile_202 : decode cX11_addTile 202 = .ok (.aload_n 0, 1) := by decide +kernel
theorem dX11_addTile_203 : decode cX11_addTile 203 = .ok (.getfield 78, 3) := by decide +kernel
theorem dX11_addTile_206 : decode cX11_addTile 206 = .ok (.iload_n 1, 1) := by decide +kernel
theorem dX11_addTile_207 : decode cX11_addTile 207 = .ok (.dup2, 1) := by decide +kernel
theorem dX11_addTile_208 : decode cX11_addTile 208 = .ok (.iaload, 1) := by decide +kernel
theorem dX11_addTile_209 : decode cX11_addTile 209 = .ok (.aload_n 0, 1) := by decide +kernel
theorem dX11_addTile_210 : decode cX11_addTile 210 = .ok (.getfield 240, 3) := by decide +kernel
theorem dX11_addTile_213 : decode cX11_addTile 213 = .ok (.iadd, 1) := by decide +kernel
theorem dX11_addTile_214 : decode cX11_addTile 214 = .ok (.iastore, 1) := by decide +kernel
theorem dX11_addTile_215 : decode cX11_addTile 215 = .ok (.aload_n 0, 1) := by decide +kernel
theorem dX11_addTile_216 : decode cX11_addTile 216 = .ok (.getfield 57, 3) := by decide +kernel
theorem dX11_addTile_219 : decode cX11_addTile 219 = .ok (.iload_n 1, 1) := by decide +kernel
theorem dX11_addTile_220 : decode cX11_addTile 220 = .ok (.dup2, 1) := by decide +kernel
theorem dX11_addTile_221 : decode cX11_addTile 221 = .ok (.iaload, 1) := by decide +kernel
theorem dX11_addTile_222 : decode cX11_addTile 222 = .ok (.iconst 1, 1) := by decide +kernel
theorem dX11_addTile_223 : decode cX11_addTile 223 = .ok (.iadd, 1) := by decide +kernel
theorem dX11_addTile_224 : decode cX11_addTile 224 = .ok (.iastore, 1) := by decide +kernel
theorem dX11_addTile_225 : decode cX11_addTile 225 = .ok (.iconst 1, 1) := by decide +kernel
theorem dX11_addTile_226 : decode cX11_addTile 226 = .ok (.ireturn, 1) := by decide +kernel
def tb_158 (pc : Nat) : Option mEnt := bif Nat.ble pc 115 then (bif Nat.ble pc 54 then (bif Nat.ble pc 28 then (bif Nat.ble pc 12 then (bif Nat.ble pc 5 then (bif Nat.ble pc 1 then (bif Nat.ble pc 0 then (bif Nat.beq pc 0 then some (.inl (o_al 0 1)) else none) else (bif Nat.beq pc 1 then some (.inl (o_il 1 1)) else none)) else (bif Nat.ble pc 2 then (bif Nat.beq pc 2 then some (.inr (3, 157, 2, 11)) else none) else (bif Nat.beq pc 5 then some (.inl (o_is 5 2)) else none))) else (bif Nat.ble pc 8 then (bif Nat.ble pc 7 then (bif Nat.beq pc 7 then some (.inl (o_al 0 1)) else none) else (bif Nat.beq pc 8 then some (.inl (o_gP 11 20)) else none)) else (bif Nat.ble pc 11 then (bif Nat.beq pc 11 then some (.inl (o_il 1 1)) else none) else (bif Nat.beq pc 12 then some (.inl (o_iald)) else none)))) else (bif Nat.ble pc 20 then (bif Nat.ble pc 15 then (bif Nat.ble pc 13 then (bif Nat.beq pc 13 then some (.inl (oS 2 (s_push (.int 100)))) else none) else (bif Nat.beq pc 15 then some (.inl (o_ceq 41)) else none)) else (bif Nat.ble pc 18 then (bif Nat.beq pc 18 then some (.inl (o_il 5 2)) else none) else (bif Nat.beq pc 20 then some (.inl (oS 1 (s_push (.int (-1))))) else none))) else (bif Nat.ble pc 24 then (bif Nat.ble pc 21 then (bif Nat.beq pc 21 then some (.inl (o_cne 43)) else none) else (bif Nat.beq pc 24 then some (.inl (o_al 0 1)) else none)) else (bif Nat.ble pc 25 then (bif Nat.beq pc 25 then some (.inl (o_gP 11 27)) else none) else (bif Nat.beq pc 28 then some (.inl (o_il 1 1)) else none))))) else (bif Nat.ble pc 42 then (bif Nat.ble pc 34 then (bif Nat.ble pc 30 then (bif Nat.ble pc 29 then (bif Nat.beq pc 29 then some (.inl (o_iald)) else none) else (bif Nat.beq pc 30 then some (.inl (o_al 0 1)) else none)) else (bif Nat.ble pc 31 then (bif Nat.beq pc 31 then some (.inl (o_gI 11 37)) else none) else (bif Nat.beq pc 34 then some (.inl (oS 1 (s_ii (fun a b => a + b)))) else none))) else (bif Nat.ble pc 38 then (bif Nat.ble pc 35 then (bif Nat.beq pc 35 then some (.inl (oS 3 (s_push (.int 5000)))) else none) else (bif Nat.beq pc 38 then some (.inl (o_cle 43)) else none)) else (bif Nat.ble pc 41 then (bif Nat.beq pc 41 then some (.inl (oS 1 (s_push (.int 0)))) else none) else (bif Nat.beq pc 42 then some (.inr (0, 0, 0, 4)) else none)))) else (bif Nat.ble pc 47 then (bif Nat.ble pc 45 then (bif Nat.ble pc 43 then (bif Nat.beq pc 43 then some (.inl (oS 2 (s_push (.int 100)))) else none) else (bif Nat.beq pc 45 then some (.inl (o_il 1 1)) else none)) else (bif Nat.ble pc 46 then (bif Nat.beq pc 46 then some (.inl (oS 1 (s_ii (fun a b => a * b)))) else none) else (bif Nat.beq pc 47 then some (.inl (o_al 0 1)) else none))) else (bif Nat.ble pc 51 then (bif Nat.ble pc 48 then (bif Nat.beq pc 48 then some (.inl (o_gP 11 20)) else none) else (bif Nat.beq pc 51 then some (.inl (o_il 1 1)) else none)) else (bif Nat.ble pc 52 then (bif Nat.beq pc 52 then some (.inl (o_iald)) else none) else (bif Nat.ble pc 53 then (bif Nat.beq pc 53 then some (.inl (oS 1 (s_ii (fun a b => a + b)))) else none) else (bif Nat.beq pc 54 then some (.inl (o_is 6 2)) else none))))))) else (bif Nat.ble pc 82 then (bif Nat.ble pc 68 then (bif Nat.ble pc 62 then (bif Nat.ble pc 57 then (bif Nat.ble pc 56 then (bif Nat.beq pc 56 then some (.inl (o_al 0 1)) else none) else (bif Nat.beq pc 57 then some (.inl (o_gP 11 21)) else none)) else (bif Nat.ble pc 60 then (bif Nat.beq pc 60 then some (.inl (o_il 6 2)) else none) else (bif Nat.beq pc 62 then some (.inl (o_il 2 1)) else none))) else (bif Nat.ble pc 64 then (bif Nat.ble pc 63 then (bif Nat.beq pc 63 then some (.inl (o_iast)) else none) else (bif Nat.beq pc 64 then some (.inl (o_al 0 1)) else none)) else (bif Nat.ble pc 65 then (bif Nat.beq pc 65 then some (.inl (o_gP 11 22)) else none) else (bif Nat.beq pc 68 then some (.inl (o_il 6 2)) else none)))) else (bif Nat.ble pc 73 then (bif Nat.ble pc 71 then (bif Nat.ble pc 70 then (bif Nat.beq pc 70 then some (.inl (o_il 3 1)) else none) else (bif Nat.beq pc 71 then some (.inl (o_iast)) else none)) else (bif Nat.ble pc 72 then (bif Nat.beq pc 72 then some (.inl (o_al 0 1)) else none) else (bif Nat.beq pc 73 then some (.inl (o_gP 11 23)) else none))) else (bif Nat.ble pc 78 then (bif Nat.ble pc 76 then (bif Nat.beq pc 76 then some (.inl (o_il 6 2)) else none) else (bif Nat.beq pc 78 then some (.inl (o_il 4 2)) else none)) else (bif Nat.ble pc 80 then (bif Nat.beq pc 80 then some (.inl (o_iast)) else none) else (bif Nat.ble pc 81 then (bif Nat.beq pc 81 then some (.inl (o_al 0 1)) else none) else (bif Nat.beq pc 82 then some (.inl (o_gP 11 24)) else none)))))) else (bif Nat.ble pc 98 then (bif Nat.ble pc 91 then (bif Nat.ble pc 87 then (bif Nat.ble pc 85 then (bif Nat.beq pc 85 then some (.inl (o_il 6 2)) else none) else (bif Nat.beq pc 87 then some (.inl (o_al 0 1)) else none)) else (bif Nat.ble pc 88 then (bif Nat.beq pc 88 then some (.inl (o_gI 11 37)) else none) else (bif Nat.beq pc 91 then some (.inl (o_iast)) else none))) else (bif Nat.ble pc 93 then (bif Nat.ble pc 92 then (bif Nat.beq pc 92 then some (.inl (o_al 0 1)) else none) else (bif Nat.beq pc 93 then some (.inl (o_gP 11 26)) else none)) else (bif Nat.ble pc 96 then (bif Nat.beq pc 96 then some (.inl (o_il 6 2)) else none) else (bif Nat.beq pc 98 then some (.inl (o_il 5 2)) else none)))) else (bif Nat.ble pc 105 then (bif Nat.ble pc 101 then (bif Nat.ble pc 100 then (bif Nat.beq pc 100 then some (.inl (oS 1 (s_push (.int (-1))))) else none) else (bif Nat.beq pc 101 then some (.inl (o_cne 113)) else none)) else (bif Nat.ble pc 104 then (bif Nat.beq pc 104 then some (.inl (o_al 0 1)) else none) else (bif Nat.beq pc 105 then some (.inl (o_gP 11 20)) else none))) else (bif Nat.ble pc 109 then (bif Nat.ble pc 108 then (bif Nat.beq pc 108 then some (.inl (o_il 1 1)) else none) else (bif Nat.beq pc 109 then some (.inl (o_iald)) else none)) else (bif Nat.ble pc 110 then (bif Nat.beq pc 110 then some (.inl (o_goto 115)) else none) else (bif Nat.ble pc 113 then (bif Nat.beq pc 113 then some (.inl (o_il 5 2)) else none) else (bif Nat.beq pc 115 then some (.inl (o_iast)) else none)))))))) else (bif Nat.ble pc 176 then (bif Nat.ble pc 145 then (bif Nat.ble pc 129 then (bif Nat.ble pc 122 then (bif Nat.ble pc 117 then (bif Nat.ble pc 116 then (bif Nat.beq pc 116 then some (.inl (o_al 0 1)) else none) else (bif Nat.beq pc 117 then some (.inl (o_gP 11 25)) else none)) else (bif Nat.ble pc 120 then (bif Nat.beq pc 120 then some (.inl (o_il 6 2)) else none) else (bif Nat.beq pc 122 then some (.inl (o_il 5 2)) else none))) else (bif Nat.ble pc 125 then (bif Nat.ble pc 124 then (bif Nat.beq pc 124 then some (.inl (oS 1 (s_push (.int (-1))))) else none) else (bif Nat.beq pc 125 then some (.inl (o_cne 137)) else none)) else (bif Nat.ble pc 128 then (bif Nat.beq pc 128 then some (.inl (o_al 0 1)) else none) else (bif Nat.beq pc 129 then some (.inl (o_gP 11 27)) else none)))) else (bif Nat.ble pc 137 then (bif Nat.ble pc 133 then (bif Nat.ble pc 132 then (bif Nat.beq pc 132 then some (.inl (o_il 1 1)) else none) else (bif Nat.beq pc 133 then some (.inl (o_iald)) else none)) else (bif Nat.ble pc 134 then (bif Nat.beq pc 134 then some (.inl (o_goto 149)) else none) else (bif Nat.beq pc 137 then some (.inl (o_al 0 1)) else none))) else (bif Nat.ble pc 141 then (bif Nat.ble pc 138 then (bif Nat.beq pc 138 then some (.inl (o_gP 11 25)) else none) else (bif Nat.beq pc 141 then some (.inl (oS 2 (s_push (.int 100)))) else none)) else (bif Nat.ble pc 143 then (bif Nat.beq pc 143 then some (.inl (o_il 1 1)) else none) else (bif Nat.ble pc 144 then (bif Nat.beq pc 144 then some (.inl (oS 1 (s_ii (fun a b => a * b)))) else none) else (bif Nat.beq pc 145 then some (.inl (o_il 5 2)) else none)))))) else (bif Nat.ble pc 157 then (bif Nat.ble pc 150 then (bif Nat.ble pc 148 then (bif Nat.ble pc 147 then (bif Nat.beq pc 147 then some (.inl (oS 1 (s_ii (fun a b => a + b)))) else none) else (bif Nat.beq pc 148 then some (.inl (o_iald)) else none)) else (bif Nat.ble pc 149 then (bif Nat.beq pc 149 then some (.inl (o_iast)) else none) else (bif Nat.beq pc 150 then some (.inl (o_il 5 2)) else none))) else (bif Nat.ble pc 153 then (bif Nat.ble pc 152 then (bif Nat.beq pc 152 then some (.inl (oS 1 (s_push (.int (-1))))) else none) else (bif Nat.beq pc 153 then some (.inl (o_cne 215)) else none)) else (bif Nat.ble pc 156 then (bif Nat.beq pc 156 then some (.inl (oS 1 (s_push (.int 0)))) else none) else (bif Nat.beq pc 157 then some (.inl (o_is 7 2)) else none)))) else (bif Nat.ble pc 165 then (bif Nat.ble pc 161 then (bif Nat.ble pc 159 then (bif Nat.beq pc 159 then some (.inl (o_il 7 2)) else none) else (bif Nat.beq pc 161 then some (.inl (o_al 0 1)) else none)) else (bif Nat.ble pc 162 then (bif Nat.beq pc 162 then some (.inl (o_gI 11 37)) else none) else (bif Nat.beq pc 165 then some (.inl (o_cge 202)) else none))) else (bif Nat.ble pc 169 then (bif Nat.ble pc 168 then (bif Nat.beq pc 168 then some (.inl (o_al 0 1)) else none) else (bif Nat.beq pc 169 then some (.inl (o_gP 11 28)) else none)) else (bif Nat.ble pc 172 then (bif Nat.beq pc 172 then some (.inl (oS 3 (s_push (.int 5000)))) else none) else (bif Nat.ble pc 175 then (bif Nat.beq pc 175 then some (.inl (o_il 1 1)) else none) else (bif Nat.beq pc 176 then some (.inl (oS 1 (s_ii (fun a b => a * b)))) else none))))))) else (bif Nat.ble pc 203 then (bif Nat.ble pc 187 then (bif Nat.ble pc 182 then (bif Nat.ble pc 178 then (bif Nat.ble pc 177 then (bif Nat.beq pc 177 then some (.inl (o_al 0 1)) else none) else (bif Nat.beq pc 178 then some (.inl (o_gP 11 27)) else none)) else (bif Nat.ble pc 181 then (bif Nat.beq pc 181 then some (.inl (o_il 1 1)) else none) else (bif Nat.beq pc 182 then some (.inl (o_iald)) else none))) else (bif Nat.ble pc 184 then (bif Nat.ble pc 183 then (bif Nat.beq pc 183 then some (.inl (oS 1 (s_ii (fun a b => a + b)))) else none) else (bif Nat.beq pc 184 then some (.inl (o_il 7 2)) else none)) else (bif Nat.ble pc 186 then (bif Nat.beq pc 186 then some (.inl (oS 1 (s_ii (fun a b => a + b)))) else none) else (bif Nat.beq pc 187 then some (.inl (o_al 0 1)) else none)))) else (bif Nat.ble pc 194 then (bif Nat.ble pc 191 then (bif Nat.ble pc 188 then (bif Nat.beq pc 188 then some (.inl (o_gP 11 36)) else none) else (bif Nat.beq pc 191 then some (.inl (o_il 7 2)) else none)) else (bif Nat.ble pc 193 then (bif Nat.beq pc 193 then some (.inl (o_iald)) else none) else (bif Nat.beq pc 194 then some (.inl (oS 1 (s_i1 (fun a => a.toInt8.toInt32)))) else none))) else (bif Nat.ble pc 196 then (bif Nat.ble pc 195 then (bif Nat.beq pc 195 then some (.inl (o_bast)) else none) else (bif Nat.beq pc 196 then some (.inl (o_inc 7 1)) else none)) else (bif Nat.ble pc 199 then (bif Nat.beq pc 199 then some (.inl (o_goto 159)) else none) else (bif Nat.ble pc 202 then (bif Nat.beq pc 202 then some (.inl (o_al 0 1)) else none) else (bif Nat.beq pc 203 then some (.inl (o_gP 11 27)) else none)))))) else (bif Nat.ble pc 215 then (bif Nat.ble pc 209 then (bif Nat.ble pc 207 then (bif Nat.ble pc 206 then (bif Nat.beq pc 206 then some (.inl (o_il 1 1)) else none) else (bif Nat.beq pc 207 then some (.inl (oS 1 s_dup2)) else none)) else (bif Nat.ble pc 208 then (bif Nat.beq pc 208 then some (.inl (o_iald)) else none) else (bif Nat.beq pc 209 then some (.inl (o_al 0 1)) else none))) else (bif Nat.ble pc 213 then (bif Nat.ble pc 210 then (bif Nat.beq pc 210 then some (.inl (o_gI 11 37)) else none) else (bif Nat.beq pc 213 then some (.inl (oS 1 (s_ii (fun a b => a + b)))) else none)) else (bif Nat.ble pc 214 then (bif Nat.beq pc 214 then some (.inl (o_iast)) else none) else (bif Nat.beq pc 215 then some (.inl (o_al 0 1)) else none)))) else (bif Nat.ble pc 221 then (bif Nat.ble pc 219 then (bif Nat.ble pc 216 then (bif Nat.beq pc 216 then some (.inl (o_gP 11 20)) else none) else (bif Nat.beq pc 219 then some (.inl (o_il 1 1)) else none)) else (bif Nat.ble pc 220 then (bif Nat.beq pc 220 then some (.inl (oS 1 s_dup2)) else none) else (bif Nat.beq pc 221 then some (.inl (o_iald)) else none))) else (bif Nat.ble pc 223 then (bif Nat.ble pc 222 then (bif Nat.beq pc 222 then some (.inl (oS 1 (s_push (.int 1)))) else none) else (bif Nat.beq pc 223 then some (.inl (oS 1 (s_ii (fun a b => a + b)))) else none)) else (bif Nat.ble pc 224 then (bif Nat.beq pc 224 then some (.inl (o_iast)) else none) else (bif Nat.ble pc 225 then (bif Nat.beq pc 225 then some (.inl (oS 1 (s_push (.int 1)))) else none) else (bif Nat.beq pc 226 then some (.inr (0, 0, 0, 4)) else none))))))))
theorem k_158_0 : mOk M_158.1 M_158.2.1 M_158.2.2.1 M_158.2.2.2 0 (o_al 0 1) := ok_aload_n dX11_addTile_0 rfl
theorem k_158_1 : mOk M_158.1 M_158.2.1 M_158.2.2.1 M_158.2.2.2 1 (o_il 1 1) := ok_iload_n dX11_addTile_1 rfl
theorem k_158_5 : mOk M_158.1 M_158.2.1 M_158.2.2.1 M_158.2.2.2 5 (o_is 5 2) := ok_istore dX11_addTile_5
theorem k_158_7 : mOk M_158.1 M_158.2.1 M_158.2.2.1 M_158.2.2.2 7 (o_al 0 1) := ok_aload_n dX11_addTile_7 rfl
theorem k_158_8 : mOk M_158.1 M_158.2.1 M_158.2.2.1 M_158.2.2.2 8 (o_gP 11 20) := ok_gP dX11_addTile_8 f_RX11_57 rfl
theorem k_158_11 : mOk M_158.1 M_158.2.1 M_158.2.2.1 M_158.2.2.2 11 (o_il 1 1) := ok_iload_n dX11_addTile_11 rfl
theorem k_158_12 : mOk M_158.1 M_158.2.1 M_158.2.2.1 M_158.2.2.2 12 (o_iald) := ok_iald dX11_addTile_12
theorem k_158_13 : mOk M_158.1 M_158.2.1 M_158.2.2.1 M_158.2.2.2 13 (oS 2 (s_push (.int 100))) := ok_bipush dX11_addTile_13 (by decide)
theorem k_158_15 : mOk M_158.1 M_158.2.1 M_158.2.2.1 M_158.2.2.2 15 (o_ceq 41) := ok_ceq dX11_addTile_15 (by decide)
theorem k_158_18 : mOk M_158.1 M_158.2.1 M_158.2.2.1 M_158.2.2.2 18 (o_il 5 2) := ok_iload dX11_addTile_18
theorem k_158_20 : mOk M_158.1 M_158.2.1 M_158.2.2.1 M_158.2.2.2 20 (oS 1 (s_push (.int (-1)))) := ok_iconst dX11_addTile_20 (by decide)
theorem k_158_21 : mOk M_158.1 M_158.2.1 M_158.2.2.1 M_158.2.2.2 21 (o_cne 43) := ok_cne dX11_addTile_21 (by decide)
theorem k_158_24 : mOk M_158.1 M_158.2.1 M_158.2.2.1 M_158.2.2.2 24 (o_al 0 1) := ok_aload_n dX11_addTile_24 rfl
theorem k_158_25 : mOk M_158.1 M_158.2.1 M_158.2.2.1 M_158.2.2.2 25 (o_gP 11 27) := ok_gP dX11_addTile_25 f_RX11_78 rfl
theorem k_158_28 : mOk M_158.1 M_158.2.1 M_158.2.2.1 M_158.2.2.2 28 (o_il 1 1) := ok_iload_n dX11_addTile_28 rfl
theorem k_158_29 : mOk M_158.1 M_158.2.1 M_158.2.2.1 M_158.2.2.2 29 (o_iald) := ok_iald dX11_addTile_29
theorem k_158_30 : mOk M_158.1 M_158.2.1 M_158.2.2.1 M_158.2.2.2 30 (o_al 0 1) := ok_aload_n dX11_addTile_30 rfl
theorem k_158_31 : mOk M_158.1 M_158.2.1 M_158.2.2.1 M_158.2.2.2 31 (o_gI 11 37) := ok_gI dX11_addTile_31 f_RX11_240 (Or.inl rfl)
theorem k_158_34 : mOk M_158.1 M_158.2.1 M_158.2.2.1 M_158.2.2.2 34 (oS 1 (s_ii (fun a b => a + b))) := ok_iadd dX11_addTile_34
theorem k_158_35 : mOk M_158.1 M_158.2.1 M_158.2.2.1 M_158.2.2.2 35 (oS 3 (s_push (.int 5000))) := ok_sipush dX11_addTile_35 (by decide)
theorem k_158_38 : mOk M_158.1 M_158.2.1 M_158.2.2.1 M_158.2.2.2 38 (o_cle 43) := ok_cle dX11_addTile_38 (by decide)
theorem k_158_41 : mOk M_158.1 M_158.2.1 M_158.2.2.1 M_158.2.2.2 41 (oS 1 (s_push (.int 0))) := ok_iconst dX11_addTile_41 (by decide)
theorem k_158_43 : mOk M_158.1 M_158.2.1 M_158.2.2.1 M_158.2.2.2 43 (oS 2 (s_push (.int 100))) := ok_bipush dX11_addTile_43 (by decide)
theorem k_158_45 : mOk M_158.1 M_158.2.1 M_158.2.2.1 M_158.2.2.2 45 (o_il 1 1) := ok_iload_n dX11_addTile_45 rfl
theorem k_158_46 : mOk M_158.1 M_158.2.1 M_158.2.2.1 M_158.2.2.2 46 (oS 1 (s_ii (fun a b => a * b))) := ok_imul dX11_addTile_46
theorem k_158_47 : mOk M_158.1 M_158.2.1 M_158.2.2.1 M_158.2.2.2 47 (o_al 0 1) := ok_aload_n dX11_addTile_47 rfl
theorem k_158_48 : mOk M_158.1 M_158.2.1 M_158.2.2.1 M_158.2.2.2 48 (o_gP 11 20) := ok_gP dX11_addTile_48 f_RX11_57 rfl
theorem k_158_51 : mOk M_158.1 M_158.2.1 M_158.2.2.1 M_158.2.2.2 51 (o_il 1 1) := ok_iload_n dX11_addTile_51 rfl
theorem k_158_52 : mOk M_158.1 M_158.2.1 M_158.2.2.1 M_158.2.2.2 52 (o_iald) := ok_iald dX11_addTile_52
theorem k_158_53 : mOk M_158.1 M_158.2.1 M_158.2.2.1 M_158.2.2.2 53 (oS 1 (s_ii (fun a b => a + b))) := ok_iadd dX11_addTile_53
theorem k_158_54 : mOk M_158.1 M_158.2.1 M_158.2.2.1 M_158.2.2.2 54 (o_is 6 2) := ok_istore dX11_addTile_54
theorem k_158_56 : mOk M_158.1 M_158.2.1 M_158.2.2.1 M_158.2.2.2 56 (o_al 0 1) := ok_aload_n dX11_addTile_56 rfl
theorem k_158_57 : mOk M_158.1 M_158.2.1 M_158.2.2.1 M_158.2.2.2 57 (o_gP 11 21) := ok_gP dX11_addTile_57 f_RX11_60 rfl
theorem k_158_60 : mOk M_158.1 M_158.2.1 M_158.2.2.1 M_158.2.2.2 60 (o_il 6 2) := ok_iload dX11_addTile_60
theorem k_158_62 : mOk M_158.1 M_158.2.1 M_158.2.2.1 M_158.2.2.2 62 (o_il 2 1) := ok_iload_n dX11_addTile_62 rfl
theorem k_158_63 : mOk M_158.1 M_158.2.1 M_158.2.2.1 M_158.2.2.2 63 (o_iast) := ok_iast dX11_addTile_63
theorem k_158_64 : mOk M_158.1 M_158.2.1 M_158.2.2.1 M_158.2.2.2 64 (o_al 0 1) := ok_aload_n dX11_addTile_64 rfl
theorem k_158_65 : mOk M_158.1 M_158.2.1 M_158.2.2.1 M_158.2.2.2 65 (o_gP 11 22) := ok_gP dX11_addTile_65 f_RX11_63 rfl
theorem k_158_68 : mOk M_158.1 M_158.2.1 M_158.2.2.1 M_158.2.2.2 68 (o_il 6 2) := ok_iload dX11_addTile_68
theorem k_158_70 : mOk M_158.1 M_158.2.1 M_158.2.2.1 M_158.2.2.2 70 (o_il 3 1) := ok_iload_n dX11_addTile_70 rfl
theorem k_158_71 : mOk M_158.1 M_158.2.1 M_158.2.2.1 M_158.2.2.2 71 (o_iast) := ok_iast dX11_addTile_71
theorem k_158_72 : mOk M_158.1 M_158.2.1 M_158.2.2.1 M_158.2.2.2 72 (o_al 0 1) := ok_aload_n dX11_addTile_72 rfl
theorem k_158_73 : mOk M_158.1 M_158.2.1 M_158.2.2.1 M_158.2.2.2 73 (o_gP 11 23) := ok_gP dX11_addTile_73 f_RX11_66 rfl
theorem k_158_76 : mOk M_158.1 M_158.2.1 M_158.2.2.1 M_158.2.2.2 76 (o_il 6 2) := ok_iload dX11_addTile_76
theorem k_158_78 : mOk M_158.1 M_158.2.1 M_158.2.2.1 M_158.2.2.2 78 (o_il 4 2) := ok_iload dX11_addTile_78
theorem k_158_80 : mOk M_158.1 M_158.2.1 M_158.2.2.1 M_158.2.2.2 80 (o_iast) := ok_iast dX11_addTile_80
theorem k_158_81 : mOk M_158.1 M_158.2.1 M_158.2.2.1 M_158.2.2.2 81 (o_al 0 1) := ok_aload_n dX11_addTile_81 rfl
theorem k_158_82 : mOk M_158.1 M_158.2.1 M_158.2.2.1 M_158.2.2.2 82 (o_gP 11 24) := ok_gP dX11_addTile_82 f_RX11_69 rfl
theorem k_158_85 : mOk M_158.1 M_158.2.1 M_158.2.2.1 M_158.2.2.2 85 (o_il 6 2) := ok_iload dX11_addTile_85
theorem k_158_87 : mOk M_158.1 M_158.2.1 M_158.2.2.1 M_158.2.2.2 87 (o_al 0 1) := ok_aload_n dX11_addTile_87 rfl
theorem k_158_88 : mOk M_158.1 M_158.2.1 M_158.2.2.1 M_158.2.2.2 88 (o_gI 11 37) := ok_gI dX11_addTile_88 f_RX11_240 (Or.inl rfl)
theorem k_158_91 : mOk M_158.1 M_158.2.1 M_158.2.2.1 M_158.2.2.2 91 (o_iast) := ok_iast dX11_addTile_91
theorem k_158_92 : mOk M_158.1 M_158.2.1 M_158.2.2.1 M_158.2.2.2 92 (o_al 0 1) := ok_aload_n dX11_addTile_92 rfl
theorem k_158_93 : mOk M_158.1 M_158.2.1 M_158.2.2.1 M_158.2.2.2 93 (o_gP 11 26) := ok_gP dX11_addTile_93 f_RX11_75 rfl
theorem k_158_96 : mOk M_158.1 M_158.2.1 M_158.2.2.1 M_158.2.2.2 96 (o_il 6 2) := ok_iload dX11_addTile_96
theorem k_158_98 : mOk M_158.1 M_158.2.1 M_158.2.2.1 M_158.2.2.2 98 (o_il 5 2) := ok_iload dX11_addTile_98
theorem k_158_100 : mOk M_158.1 M_158.2.1 M_158.2.2.1 M_158.2.2.2 100 (oS 1 (s_push (.int (-1)))) := ok_iconst dX11_addTile_100 (by decide)
theorem k_158_101 : mOk M_158.1 M_158.2.1 M_158.2.2.1 M_158.2.2.2 101 (o_cne 113) := ok_cne dX11_addTile_101 (by decide)
theorem k_158_104 : mOk M_158.1 M_158.2.1 M_158.2.2.1 M_158.2.2.2 104 (o_al 0 1) := ok_aload_n dX11_addTile_104 rfl
theorem k_158_105 : mOk M_158.1 M_158.2.1 M_158.2.2.1 M_158.2.2.2 105 (o_gP 11 20) := ok_gP dX11_addTile_105 f_RX11_57 rfl
theorem k_158_108 : mOk M_158.1 M_158.2.1 M_158.2.2.1 M_158.2.2.2 108 (o_il 1 1) := ok_iload_n dX11_addTile_108 rfl
theorem k_158_109 : mOk M_158.1 M_158.2.1 M_158.2.2.1 M_158.2.2.2 109 (o_iald) := ok_iald dX11_addTile_109
theorem k_158_110 : mOk M_158.1 M_158.2.1 M_158.2.2.1 M_158.2.2.2 110 (o_goto 115) := ok_goto dX11_addTile_110 (by decide)
theorem k_158_113 : mOk M_158.1 M_158.2.1 M_158.2.2.1 M_158.2.2.2 113 (o_il 5 2) := ok_iload dX11_addTile_113
theorem k_158_115 : mOk M_158.1 M_158.2.1 M_158.2.2.1 M_158.2.2.2 115 (o_iast) := ok_iast dX11_addTile_115
theorem k_158_116 : mOk M_158.1 M_158.2.1 M_158.2.2.1 M_158.2.2.2 116 (o_al 0 1) := ok_aload_n dX11_addTile_116 rfl
theorem k_158_117 : mOk M_158.1 M_158.2.1 M_158.2.2.1 M_158.2.2.2 117 (o_gP 11 25) := ok_gP dX11_addTile_117 f_RX11_72 rfl
theorem k_158_120 : mOk M_158.1 M_158.2.1 M_158.2.2.1 M_158.2.2.2 120 (o_il 6 2) := ok_iload dX11_addTile_120
theorem k_158_122 : mOk M_158.1 M_158.2.1 M_158.2.2.1 M_158.2.2.2 122 (o_il 5 2) := ok_iload dX11_addTile_122
theorem k_158_124 : mOk M_158.1 M_158.2.1 M_158.2.2.1 M_158.2.2.2 124 (oS 1 (s_push (.int (-1)))) := ok_iconst dX11_addTile_124 (by decide)
theorem k_158_125 : mOk M_158.1 M_158.2.1 M_158.2.2.1 M_158.2.2.2 125 (o_cne 137) := ok_cne dX11_addTile_125 (by decide)
theorem k_158_128 : mOk M_158.1 M_158.2.1 M_158.2.2.1 M_158.2.2.2 128 (o_al 0 1) := ok_aload_n dX11_addTile_128 rfl
theorem k_158_129 : mOk M_158.1 M_158.2.1 M_158.2.2.1 M_158.2.2.2 129 (o_gP 11 27) := ok_gP dX11_addTile_129 f_RX11_78 rfl
theorem k_158_132 : mOk M_158.1 M_158.2.1 M_158.2.2.1 M_158.2.2.2 132 (o_il 1 1) := ok_iload_n dX11_addTile_132 rfl
theorem k_158_133 : mOk M_158.1 M_158.2.1 M_158.2.2.1 M_158.2.2.2 133 (o_iald) := ok_iald dX11_addTile_133
theorem k_158_134 : mOk M_158.1 M_158.2.1 M_158.2.2.1 M_158.2.2.2 134 (o_goto 149) := ok_goto dX11_addTile_134 (by decide)
theorem k_158_137 : mOk M_158.1 M_158.2.1 M_158.2.2.1 M_158.2.2.2 137 (o_al 0 1) := ok_aload_n dX11_addTile_137 rfl
theorem k_158_138 : mOk M_158.1 M_158.2.1 M_158.2.2.1 M_158.2.2.2 138 (o_gP 11 25) := ok_gP dX11_addTile_138 f_RX11_72 rfl
theorem k_158_141 : mOk M_158.1 M_158.2.1 M_158.2.2.1 M_158.2.2.2 141 (oS 2 (s_push (.int 100))) := ok_bipush dX11_addTile_141 (by decide)
theorem k_158_143 : mOk M_158.1 M_158.2.1 M_158.2.2.1 M_158.2.2.2 143 (o_il 1 1) := ok_iload_n dX11_addTile_143 rfl
theorem k_158_144 : mOk M_158.1 M_158.2.1 M_158.2.2.1 M_158.2.2.2 144 (oS 1 (s_ii (fun a b => a * b))) := ok_imul dX11_addTile_144
theorem k_158_145 : mOk M_158.1 M_158.2.1 M_158.2.2.1 M_158.2.2.2 145 (o_il 5 2) := ok_iload dX11_addTile_145
theorem k_158_147 : mOk M_158.1 M_158.2.1 M_158.2.2.1 M_158.2.2.2 147 (oS 1 (s_ii (fun a b => a + b))) := ok_iadd dX11_addTile_147
theorem k_158_148 : mOk M_158.1 M_158.2.1 M_158.2.2.1 M_158.2.2.2 148 (o_iald) := ok_iald dX11_addTile_148
theorem k_158_149 : mOk M_158.1 M_158.2.1 M_158.2.2.1 M_158.2.2.2 149 (o_iast) := ok_iast dX11_addTile_149
theorem k_158_150 : mOk M_158.1 M_158.2.1 M_158.2.2.1 M_158.2.2.2 150 (o_il 5 2) := ok_iload dX11_addTile_150
theorem k_158_152 : mOk M_158.1 M_158.2.1 M_158.2.2.1 M_158.2.2.2 152 (oS 1 (s_push (.int (-1)))) := ok_iconst dX11_addTile_152 (by decide)
theorem k_158_153 : mOk M_158.1 M_158.2.1 M_158.2.2.1 M_158.2.2.2 153 (o_cne 215) := ok_cne dX11_addTile_153 (by decide)
theorem k_158_156 : mOk M_158.1 M_158.2.1 M_158.2.2.1 M_158.2.2.2 156 (oS 1 (s_push (.int 0))) := ok_iconst dX11_addTile_156 (by decide)
theorem k_158_157 : mOk M_158.1 M_158.2.1 M_158.2.2.1 M_158.2.2.2 157 (o_is 7 2) := ok_istore dX11_addTile_157
theorem k_158_159 : mOk M_158.1 M_158.2.1 M_158.2.2.1 M_158.2.2.2 159 (o_il 7 2) := ok_iload dX11_addTile_159
theorem k_158_161 : mOk M_158.1 M_158.2.1 M_158.2.2.1 M_158.2.2.2 161 (o_al 0 1) := ok_aload_n dX11_addTile_161 rfl
theorem k_158_162 : mOk M_158.1 M_158.2.1 M_158.2.2.1 M_158.2.2.2 162 (o_gI 11 37) := ok_gI dX11_addTile_162 f_RX11_240 (Or.inl rfl)
theorem k_158_165 : mOk M_158.1 M_158.2.1 M_158.2.2.1 M_158.2.2.2 165 (o_cge 202) := ok_cge dX11_addTile_165 (by decide)
theorem k_158_168 : mOk M_158.1 M_158.2.1 M_158.2.2.1 M_158.2.2.2 168 (o_al 0 1) := ok_aload_n dX11_addTile_168 rfl
theorem k_158_169 : mOk M_158.1 M_158.2.1 M_158.2.2.1 M_158.2.2.2 169 (o_gP 11 28) := ok_gP dX11_addTile_169 f_RX11_81 rfl
theorem k_158_172 : mOk M_158.1 M_158.2.1 M_158.2.2.1 M_158.2.2.2 172 (oS 3 (s_push (.int 5000))) := ok_sipush dX11_addTile_172 (by decide)
theorem k_158_175 : mOk M_158.1 M_158.2.1 M_158.2.2.1 M_158.2.2.2 175 (o_il 1 1) := ok_iload_n dX11_addTile_175 rfl
theorem k_158_176 : mOk M_158.1 M_158.2.1 M_158.2.2.1 M_158.2.2.2 176 (oS 1 (s_ii (fun a b => a * b))) := ok_imul dX11_addTile_176
theorem k_158_177 : mOk M_158.1 M_158.2.1 M_158.2.2.1 M_158.2.2.2 177 (o_al 0 1) := ok_aload_n dX11_addTile_177 rfl
theorem k_158_178 : mOk M_158.1 M_158.2.1 M_158.2.2.1 M_158.2.2.2 178 (o_gP 11 27) := ok_gP dX11_addTile_178 f_RX11_78 rfl
theorem k_158_181 : mOk M_158.1 M_158.2.1 M_158.2.2.1 M_158.2.2.2 181 (o_il 1 1) := ok_iload_n dX11_addTile_181 rfl
theorem k_158_182 : mOk M_158.1 M_158.2.1 M_158.2.2.1 M_158.2.2.2 182 (o_iald) := ok_iald dX11_addTile_182
theorem k_158_183 : mOk M_158.1 M_158.2.1 M_158.2.2.1 M_158.2.2.2 183 (oS 1 (s_ii (fun a b => a + b))) := ok_iadd dX11_addTile_183
theorem k_158_184 : mOk M_158.1 M_158.2.1 M_158.2.2.1 M_158.2.2.2 184 (o_il 7 2) := ok_iload dX11_addTile_184
theorem k_158_186 : mOk M_158.1 M_158.2.1 M_158.2.2.1 M_158.2.2.2 186 (oS 1 (s_ii (fun a b => a + b))) := ok_iadd dX11_addTile_186
theorem k_158_187 : mOk M_158.1 M_158.2.1 M_158.2.2.1 M_158.2.2.2 187 (o_al 0 1) := ok_aload_n dX11_addTile_187 rfl
theorem k_158_188 : mOk M_158.1 M_158.2.1 M_158.2.2.1 M_158.2.2.2 188 (o_gP 11 36) := ok_gP dX11_addTile_188 f_RX11_106 rfl
theorem k_158_191 : mOk M_158.1 M_158.2.1 M_158.2.2.1 M_158.2.2.2 191 (o_il 7 2) := ok_iload dX11_addTile_191
theorem k_158_193 : mOk M_158.1 M_158.2.1 M_158.2.2.1 M_158.2.2.2 193 (o_iald) := ok_iald dX11_addTile_193
theorem k_158_194 : mOk M_158.1 M_158.2.1 M_158.2.2.1 M_158.2.2.2 194 (oS 1 (s_i1 (fun a => a.toInt8.toInt32))) := ok_i2b dX11_addTile_194
theorem k_158_195 : mOk M_158.1 M_158.2.1 M_158.2.2.1 M_158.2.2.2 195 (o_bast) := ok_bast dX11_addTile_195
theorem k_158_196 : mOk M_158.1 M_158.2.1 M_158.2.2.1 M_158.2.2.2 196 (o_inc 7 1) := ok_iinc dX11_addTile_196 (by decide)
theorem k_158_199 : mOk M_158.1 M_158.2.1 M_158.2.2.1 M_158.2.2.2 199 (o_goto 159) := ok_goto dX11_addTile_199 (by decide)
theorem k_158_202 : mOk M_158.1 M_158.2.1 M_158.2.2.1 M_158.2.2.2 202 (o_al 0 1) := ok_aload_n dX11_addTile_202 rfl
theorem k_158_203 : mOk M_158.1 M_158.2.1 M_158.2.2.1 M_158.2.2.2 203 (o_gP 11 27) := ok_gP dX11_addTile_203 f_RX11_78 rfl
theorem k_158_206 : mOk M_158.1 M_158.2.1 M_158.2.2.1 M_158.2.2.2 206 (o_il 1 1) := ok_iload_n dX11_addTile_206 rfl
theorem k_158_207 : mOk M_158.1 M_158.2.1 M_158.2.2.1 M_158.2.2.2 207 (oS 1 s_dup2) := ok_dup2 dX11_addTile_207
theorem k_158_208 : mOk M_158.1 M_158.2.1 M_158.2.2.1 M_158.2.2.2 208 (o_iald) := ok_iald dX11_addTile_208
theorem k_158_209 : mOk M_158.1 M_158.2.1 M_158.2.2.1 M_158.2.2.2 209 (o_al 0 1) := ok_aload_n dX11_addTile_209 rfl
theorem k_158_210 : mOk M_158.1 M_158.2.1 M_158.2.2.1 M_158.2.2.2 210 (o_gI 11 37) := ok_gI dX11_addTile_210 f_RX11_240 (Or.inl rfl)
theorem k_158_213 : mOk M_158.1 M_158.2.1 M_158.2.2.1 M_158.2.2.2 213 (oS 1 (s_ii (fun a b => a + b))) := ok_iadd dX11_addTile_213
theorem k_158_214 : mOk M_158.1 M_158.2.1 M_158.2.2.1 M_158.2.2.2 214 (o_iast) := ok_iast dX11_addTile_214
theorem k_158_215 : mOk M_158.1 M_158.2.1 M_158.2.2.1 M_158.2.2.2 215 (o_al 0 1) := ok_aload_n dX11_addTile_215 rfl
theorem k_158_216 : mOk M_158.1 M_158.2.1 M_158.2.2.1 M_158.2.2.2 216 (o_gP 11 20) := ok_gP dX11_addTile_216 f_RX11_57 rfl
theorem k_158_219 : mOk M_158.1 M_158.2.1 M_158.2.2.1 M_158.2.2.2 219 (o_il 1 1) := ok_iload_n dX11_addTile_219 rfl
theorem k_158_220 : mOk M_158.1 M_158.2.1 M_158.2.2.1 M_158.2.2.2 220 (oS 1 s_dup2) := ok_dup2 dX11_addTile_220
theorem k_158_221 : mOk M_158.1 M_158.2.1 M_158.2.2.1 M_158.2.2.2 221 (o_iald) := ok_iald dX11_addTile_221
theorem k_158_222 : mOk M_158.1 M_158.2.1 M_158.2.2.1 M_158.2.2.2 222 (oS 1 (s_push (.int 1))) := ok_iconst dX11_addTile_222 (by decide)
theorem k_158_223 : mOk M_158.1 M_158.2.1 M_158.2.2.1 M_158.2.2.2 223 (oS 1 (s_ii (fun a b => a + b))) := ok_iadd dX11_addTile_223
theorem k_158_224 : mOk M_158.1 M_158.2.1 M_158.2.2.1 M_158.2.2.2 224 (o_iast) := ok_iast dX11_addTile_224
theorem k_158_225 : mOk M_158.1 M_158.2.1 M_158.2.2.1 M_158.2.2.2 225 (oS 1 (s_push (.int 1))) := ok_iconst dX11_addTile_225 (by decide)
set_option maxRecDepth 20000 in
set_option maxHeartbeats 4000000 in
theorem tk_158 (l : Launch) (H9 : mThr l) (H10 : mSpl l) (pc : Nat) (q : mEnt) (h : tb_158 pc = some q) : EE l 158 pc q := nd h (fun h => nd h (fun h => nd h (fun h => nd h (fun h => nd h (fun h => nd h (fun h => nd h (fun h => lf (P := EE l 158) h k_158_0) (fun h => lf (P := EE l 158) h k_158_1)) (fun h => nd h (fun h => lf (P := EE l 158) h (EE_ca (by decide) (⟨m_1380, m_81, ⟨by decide, by decide⟩, by decide +kernel, ⟨by decide, by decide⟩, 283, 1, by decide +kernel, Or.inr (Or.inr (Or.inl ⟨rfl, rfl, dX11_addTile_2, m_1377, m_1379, _, rfl, by decide, m_57⟩))⟩) rfl)) (fun h => lf (P := EE l 158) h k_158_5))) (fun h => nd h (fun h => nd h (fun h => lf (P := EE l 158) h k_158_7) (fun h => lf (P := EE l 158) h k_158_8)) (fun h => nd h (fun h => lf (P := EE l 158) h k_158_11) (fun h => lf (P := EE l 158) h k_158_12)))) (fun h => nd h (fun h => nd h (fun h => nd h (fun h => lf (P := EE l 158) h k_158_13) (fun h => lf (P := EE l 158) h k_158_15)) (fun h => nd h (fun h => lf (P := EE l 158) h k_158_18) (fun h => lf (P := EE l 158) h k_158_20))) (fun h => nd h (fun h => nd h (fun h => lf (P := EE l 158) h k_158_21) (fun h => lf (P := EE l 158) h k_158_24)) (fun h => nd h (fun h => lf (P := EE l 158) h k_158_25) (fun h => lf (P := EE l 158) h k_158_28))))) (fun h => nd h (fun h => nd h (fun h => nd h (fun h => nd h (fun h => lf (P := EE l 158) h k_158_29) (fun h => lf (P := EE l 158) h k_158_30)) (fun h => nd h (fun h => lf (P := EE l 158) h k_158_31) (fun h => lf (P := EE l 158) h k_158_34))) (fun h => nd h (fun h => nd h (fun h => lf (P := EE l 158) h k_158_35) (fun h => lf (P := EE l 158) h k_158_38)) (fun h => nd h (fun h => lf (P := EE l 158) h k_158_41) (fun h => lf (P := EE l 158) h (EE_re (Or.inr (Or.inl ⟨rfl, dX11_addTile_42, rfl⟩))))))) (fun h => nd h (fun h => nd h (fun h => nd h (fun h => lf (P := EE l 158) h k_158_43) (fun h => lf (P := EE l 158) h k_158_45)) (fun h => nd h (fun h => lf (P := EE l 158) h k_158_46) (fun h => lf (P := EE l 158) h k_158_47))) (fun h => nd h (fun h => nd h (fun h => lf (P := EE l 158) h k_158_48) (fun h => lf (P := EE l 158) h k_158_51)) (fun h => nd h (fun h => lf (P := EE l 158) h k_158_52) (fun h => nd h (fun h => lf (P := EE l 158) h k_158_53) (fun h => lf (P := EE l 158) h k_158_54))))))) (fun h => nd h (fun h => nd h (fun h => nd h (fun h => nd h (fun h => nd h (fun h => lf (P := EE l 158) h k_158_56) (fun h => lf (P := EE l 158) h k_158_57)) (fun h => nd h (fun h => lf (P := EE l 158) h k_158_60) (fun h => lf (P := EE l 158) h k_158_62))) (fun h => nd h (fun h => nd h (fun h => lf (P := EE l 158) h k_158_63) (fun h => lf (P := EE l 158) h k_158_64)) (fun h => nd h (fun h => lf (P := EE l 158) h k_158_65) (fun h => lf (P := EE l 158) h k_158_68)))) (fun h => nd h (fun h => nd h (fun h => nd h (fun h => lf (P := EE l 158) h k_158_70) (fun h => lf (P := EE l 158) h k_158_71)) (fun h => nd h (fun h => lf (P := EE l 158) h k_158_72) (fun h => lf (P := EE l 158) h k_158_73))) (fun h => nd h (fun h => nd h (fun h => lf (P := EE l 158) h k_158_76) (fun h => lf (P := EE l 158) h k_158_78)) (fun h => nd h (fun h => lf (P := EE l 158) h k_158_80) (fun h => nd h (fun h => lf (P := EE l 158) h k_158_81) (fun h => lf (P := EE l 158) h k_158_82)))))) (fun h => nd h (fun h => nd h (fun h => nd h (fun h => nd h (fun h => lf (P := EE l 158) h k_158_85) (fun h => lf (P := EE l 158) h k_158_87)) (fun h => nd h (fun h => lf (P := EE l 158) h k_158_88) (fun h => lf (P := EE l 158) h k_158_91))) (fun h => nd h (fun h => nd h (fun h => lf (P := EE l 158) h k_158_92) (fun h => lf (P := EE l 158) h k_158_93)) (fun h => nd h (fun h => lf (P := EE l 158) h k_158_96) (fun h => lf (P := EE l 158) h k_158_98)))) (fun h => nd h (fun h => nd h (fun h => nd h (fun h => lf (P := EE l 158) h k_158_100) (fun h => lf (P := EE l 158) h k_158_101)) (fun h => nd h (fun h => lf (P := EE l 158) h k_158_104) (fun h => lf (P := EE l 158) h k_158_105))) (fun h => nd h (fun h => nd h (fun h => lf (P := EE l 158) h k_158_108) (fun h => lf (P := EE l 158) h k_158_109)) (fun h => nd h (fun h => lf (P := EE l 158) h k_158_110) (fun h => nd h (fun h => lf (P := EE l 158) h k_158_113) (fun h => lf (P := EE l 158) h k_158_115)))))))) (fun h => nd h (fun h => nd h (fun h => nd h (fun h => nd h (fun h => nd h (fun h => nd h (fun h => lf (P := EE l 158) h k_158_116) (fun h => lf (P := EE l 158) h k_158_117)) (fun h => nd h (fun h => lf (P := EE l 158) h k_158_120) (fun h => lf (P := EE l 158) h k_158_122))) (fun h => nd h (fun h => nd h (fun h => lf (P := EE l 158) h k_158_124) (fun h => lf (P := EE l 158) h k_158_125)) (fun h => nd h (fun h => lf (P := EE l 158) h k_158_128) (fun h => lf (P := EE l 158) h k_158_129)))) (fun h => nd h (fun h => nd h (fun h => nd h (fun h => lf (P := EE l 158) h k_158_132) (fun h => lf (P := EE l 158) h k_158_133)) (fun h => nd h (fun h => lf (P := EE l 158) h k_158_134) (fun h => lf (P := EE l 158) h k_158_137))) (fun h => nd h (fun h => nd h (fun h => lf (P := EE l 158) h k_158_138) (fun h => lf (P := EE l 158) h k_158_141)) (fun h => nd h (fun h => lf (P := EE l 158) h k_158_143) (fun h => nd h (fun h => lf (P := EE l 158) h k_158_144) (fun h => lf (P := EE l 158) h k_158_145)))))) (fun h => nd h (fun h => nd h (fun h => nd h (fun h => nd h (fun h => lf (P := EE l 158) h k_158_147) (fun h => lf (P := EE l 158) h k_158_148)) (fun h => nd h (fun h => lf (P := EE l 158) h k_158_149) (fun h => lf (P := EE l 158) h k_158_150))) (fun h => nd h (fun h => nd h (fun h => lf (P := EE l 158) h k_158_152) (fun h => lf (P := EE l 158) h k_158_153)) (fun h => nd h (fun h => lf (P := EE l 158) h k_158_156) (fun h => lf (P := EE l 158) h k_158_157)))) (fun h => nd h (fun h => nd h (fun h => nd h (fun h => lf (P := EE l 158) h k_158_159) (fun h => lf (P := EE l 158) h k_158_161)) (fun h => nd h (fun h => lf (P := EE l 158) h k_158_162) (fun h => lf (P := EE l 158) h k_158_165))) (fun h => nd h (fun h => nd h (fun h => lf (P := EE l 158) h k_158_168) (fun h => lf (P := EE l 158) h k_158_169)) (fun h => nd h (fun h => lf (P := EE l 158) h k_158_172) (fun h => nd h (fun h => lf (P := EE l 158) h k_158_175) (fun h => lf (P := EE l 158) h k_158_176))))))) (fun h => nd h (fun h => nd h (fun h => nd h (fun h => nd h (fun h => nd h (fun h => lf (P := EE l 158) h k_158_177) (fun h => lf (P := EE l 158) h k_158_178)) (fun h => nd h (fun h => lf (P := EE l 158) h k_158_181) (fun h => lf (P := EE l 158) h k_158_182))) (fun h => nd h (fun h => nd h (fun h => lf (P := EE l 158) h k_158_183) (fun h => lf (P := EE l 158) h k_158_184)) (fun h => nd h (fun h => lf (P := EE l 158) h k_158_186) (fun h => lf (P := EE l 158) h k_158_187)))) (fun h => nd h (fun h => nd h (fun h => nd h (fun h => lf (P := EE l 158) h k_158_188) (fun h => lf (P := EE l 158) h k_158_191)) (fun h => nd h (fun h => lf (P := EE l 158) h k_158_193) (fun h => lf (P := EE l 158) h k_158_194))) (fun h => nd h (fun h => nd h (fun h => lf (P := EE l 158) h k_158_195) (fun h => lf (P := EE l 158) h k_158_196)) (fun h => nd h (fun h => lf (P := EE l 158) h k_158_199) (fun h => nd h (fun h => lf (P := EE l 158) h k_158_202) (fun h => lf (P := EE l 158) h k_158_203)))))) (fun h => nd h (fun h => nd h (fun h => nd h (fun h => nd h (fun h => lf (P := EE l 158) h k_158_206) (fun h => lf (P := EE l 158) h k_158_207)) (fun h => nd h (fun h => lf (P := EE l 158) h k_158_208) (fun h => lf (P := EE l 158) h k_158_209))) (fun h => nd h (fun h => nd h (fun h => lf (P := EE l 158) h k_158_210) (fun h => lf (P := EE l 158) h k_158_213)) (fun h => nd h (fun h => lf (P := EE l 158) h k_158_214) (fun h => lf (P := EE l 158) h k_158_215)))) (fun h => nd h (fun h => nd h (fun h => nd h (fun h => lf (P := EE l 158) h k_158_216) (fun h => lf (P := EE l 158) h k_158_219)) (fun h => nd h (fun h => lf (P := EE l 158) h k_158_220) (fun h => lf (P := EE l 158) h k_158_221))) (fun h => nd h (fun h => nd h (fun h => lf (P := EE l 158) h k_158_222) (fun h => lf (P := EE l 158) h k_158_223)) (fun h => nd h (fun h => lf (P := EE l 158) h k_158_224) (fun h => nd h (fun h => lf (P := EE l 158) h k_158_225) (fun h => lf (P := EE l 158) h (EE_re (Or.inr (Or.inl ⟨rfl, dX11_addTile_226, rfl⟩)))))))))))
theorem dX11_addMembers_0 : decode cX11_addMembers 0 = .ok (.aload_n 0, 1) := by decide +kernel
theorem dX11_addMembers_1 : decode cX11_addMembers 1 = .ok (.getfield 85, 3) := by decide +kernel
theorem dX11_addMembers_4 : decode cX11_addMembers 4 = .ok (.iload_n 1, 1) := by decide +kernel
theorem dX11_addMembers_5 : decode cX11_addMembers 5 = .ok (.iconst 0, 1) := by decide +kernel
theorem dX11_addMembers_6 : decode cX11_addMembers 6 = .ok (.iastore, 1) := by decide +kernel
theorem dX11_addMembers_7 : decode cX11_addMembers 7 = .ok (.iconst 0, 1) := by decide +kernel
theorem dX11_addMembers_8 : decode cX11_addMembers 8 = .ok (.istore_n 3, 1) := by decide +kernel
theorem dX11_addMembers_9 : decode cX11_addMembers 9 = .ok (.iload_n 3, 1) := by decide +kernel
theorem dX11_addMembers_10 : decode cX11_addMembers 10 = .ok (.aload_n 0, 1) := by decide +kernel
theorem dX11_addMembers_11 : decode cX11_addMembers 11 = .ok (.getfield 7, 3) := by decide +kernel
theorem dX11_addMembers_14 : decode cX11_addMembers 14 = .ok (.iload_n 2, 1) := by decide +kernel
theorem dX11_addMembers_15 : decode cX11_addMembers 15 = .ok (.iaload, 1) := by decide +kernel
theorem dX11_addMembers_16 : decode cX11_addMembers 16 = .ok (.if_icmp .ge 155, 3) := by decide +kernel
theorem dX11_addMembers_19 : decode cX11_addMembers 19 = .ok (.bipush 24, 2) := by decide +kernel
theorem dX11_addMembers_21 : decode cX11_addMembers 21 = .ok (.iload_n 2, 1) := by decide +kernel
theorem dX11_addMembers_22 : decode cX11_addMembers 22 = .ok (.imul, 1) := by decide +kernel
theorem dX11_addMembers_23 : decode cX11_addMembers 23 = .ok (.iload_n 3, 1) := by decide +kernel
theorem dX11_addMembers_24 : decode cX11_addMembers 24 = .ok (.iadd, 1) := by decide +kernel
theorem dX11_addMembers_25 : decode cX11_addMembers 25 = .ok (.istore 4, 2) := by decide +kernel
theorem dX11_addMembers_27 : decode cX11_addMembers 27 = .ok (.aload_n 0, 1) := by decide +kernel
theorem dX11_addMembers_28 : decode cX11_addMembers 28 = .ok (.getfield 22, 3) := by decide +kernel
theorem dX11_addMembers_31 : decode cX11_addMembers 31 = .ok (.iload 4, 2) := by decide +kernel
theorem dX11_addMembers_33 : decode cX11_addMembers 33 = .ok (.iaload, 1) := by decide +kernel
theorem dX11_addMembers_34 : decode cX11_addMembers 34 = .ok (.aload_n 0, 1) := by decide +kernel
theorem dX11_addMembers_35 : decode cX11_addMembers 35 = .ok (.getfield 44, 3) := by decide +kernel
theorem dX11_addMembers_38 : decode cX11_addMembers 38 = .ok (.iconst 4, 1) := by decide +kernel
theorem dX11_addMembers_39 : decode cX11_addMembers 39 = .ok (.iaload, 1) := by decide +kernel
theorem dX11_addMembers_40 : decode cX11_addMembers 40 = .ok (.if_icmp .gt 125, 3) := by decide +kernel
theorem dX11_addMembers_43 : decode cX11_addMembers 43 = .ok (.aload_n 0, 1) := by decide +kernel
theorem dX11_addMembers_44 : decode cX11_addMembers 44 = .ok (.iload 4, 2) := by decide +kernel
theorem dX11_addMembers_46 : decode cX11_addMembers 46 = .ok (.invokevirtual 286, 3) := by decide +kernel
theorem dX11_addMembers_49 : decode cX11_addMembers 49 = .ok (.ifCond .eq 116, 3) := by decide +kernel
theorem dX11_addMembers_52 : decode cX11_addMembers 52 = .ok (.bipush 24, 2) := by decide +kernel
theorem dX11_addMembers_54 : decode cX11_addMembers 54 = .ok (.iload_n 1, 1) := by decide +kernel
theorem dX11_addMembers_55 : decode cX11_addMembers 55 = .ok (.imul, 1) := by decide +kernel
theorem dX11_addMembers_56 : decode cX11_addMembers 56 = .ok (.aload_n 0, 1) := by decide +kernel
theorem dX11_addMembers_57 : decode cX11_addMembers 57 = .ok (.getfield 85, 3) := by decide +kernel
theorem dX11_addMembers_60 : decode cX11_addMembers 60 = .ok (.iload_n 1, 1) := by decide +kernel
theorem dX11_addMembers_61 : decode cX11_addMembers 61 = .ok (.iaload, 1) := by decide +kernel
theorem dX11_addMembers_62 : decode cX11_addMembers 62 = .ok (.iadd, 1) := by decide +kernel
theorem dX11_addMembers_63 : decode cX11_addMembers 63 = .ok (.istore 5, 2) := by decide +kernel
theorem dX11_addMembers_65 : decode cX11_addMembers 65 = .ok (.aload_n 0, 1) := by decide +kernel
theorem dX11_addMembers_66 : decode cX11_addMembers 66 = .ok (.getfield 88, 3) := by decide +kernel
theorem dX11_addMembers_69 : decode cX11_addMembers 69 = .ok (.iload 5, 2) := by decide +kernel
theorem dX11_addMembers_71 : decode cX11_addMembers 71 = .ok (.aload_n 0, 1) := by decide +kernel
theorem dX11_addMembers_72 : decode cX11_addMembers 72 = .ok (.getfield 13, 3) := by decide +kernel
theorem dX11_addMembers_75 : decode cX11_addMembers 75 = .ok (.iload 4, 2) := by decide +kernel
theorem dX11_addMembers_77 : decode cX11_addMembers 77 = .ok (.iaload, 1) := by decide +kernel
theorem dX11_addMembers_78 : decode cX11_addMembers 78 = .ok (.iastore, 1) := by decide +kernel
theorem dX11_addMembers_79 : decode cX11_addMembers 79 = .ok (.aload_n 0, 1) := by decide +kernel
theorem dX11_addMembers_80 : decode cX11_addMembers 80 = .ok (.getfield 91, 3) := by decide +kernel
theorem dX11_addMembers_83 : decode cX11_addMembers 83 = .ok (.iload 5, 2) := by decide +kernel
theorem dX11_addMembers_85 : decode cX11_addMembers 85 = .ok (.aload_n 0, 1) := by decide +kernel
theorem dX11_addMembers_86 : decode cX11_addMembers 86 = .ok (.getfield 16, 3) := by decide +kernel
theorem dX11_addMembers_89 : decode cX11_addMembers 89 = .ok (.iload 4, 2) := by decide +kernel
theorem dX11_addMembers_91 : decode cX11_addMembers 91 = .ok (.iaload, 1) := by decide +kernel
theorem dX11_addMembers_92 : decode cX11_addMembers 92 = .ok (.iastore, 1) := by decide +kernel
theorem dX11_addMembers_93 : decode cX11_addMembers 93 = .ok (.aload_n 0, 1) := by decide +kernel
theorem dX11_addMembers_94 : decode cX11_addMembers 94 = .ok (.getfield 94, 3) := by decide +kernel
theorem dX11_addMembers_97 : decode cX11_addMembers 97 = .ok (.iload 5, 2) := by decide +kernel
theorem dX11_addMembers_99 : decode cX11_addMembers 99 = .ok (.aload_n 0, 1) := by decide +kernel
theorem dX11_addMembers_100 : decode cX11_addMembers 100 = .ok (.getfield 19, 3) := by decide +kernel
theorem dX11_addMembers_103 : decode cX11_addMembers 103 = .ok (.iload 4, 2) := by decide +kernel
theorem dX11_addMembers_105 : decode cX11_addMembers 105 = .ok (.iaload, 1) := by decide +kernel
theorem dX11_addMembers_106 : decode cX11_addMembers 106 = .ok (.iastore, 1) := by decide +kernel
theorem dX11_addMembers_107 : decode cX11_addMembers 107 = .ok (.aload_n 0, 1) := by decide +kernel
theorem dX11_addMembers_108 : decode cX11_addMembers 108 = .ok (.getfield 97, 3) := by decide +kernel
theorem dX11_addMembers_111 : decode cX11_addMembers 111 = .ok (.iload 5, 2) := by decide +kernel
theorem dX11_addMembers_113 : decode cX11_addMembers 113 = .ok (.aload_n 0, 1) := by decide +kernel
theorem dX11_addMembers_114 : decode cX11_addMembers 114 = .ok (.getfield 25, 3) := by decide +kernel
theorem dX11_addMembers_117 : decode cX11_addMembers 117 = .ok (.iload 4, 2) := by decide +kernel
theorem dX11_addMembers_119 : decode cX11_addMembers 119 = .ok (.laload, 1) := by decide +kernel
theorem dX11_addMembers_120 : decode cX11_addMembers 120 = .ok (.lastore, 1) := by decide +kernel
theorem dX11_addMembers_121 : decode cX11_addMembers 121 = .ok (.aload_n 0, 1) := by decide +kernel
theorem dX11_addMembers_122 : decode cX11_addMembers 122 = .ok (.getfield 100, 3) := by decide +kernel
theorem dX11_addMembers_125 : decode cX11_addMembers 125 = .ok (.iload 5, 2) := by decide +kernel
theorem dX11_addMembers_127 : decode cX11_addMembers 127 = .ok (.aload_n 0, 1) := by decide +kernel
theorem dX11_addMembers_128 : decode cX11_addMembers 128 = .ok (.getfield 32, 3) := by decide +kernel
theorem dX11_addMembers_131 : decode cX11_addMembers 131 = .ok (.bipush 12, 2) := by decide +kernel
theorem dX11_addMembers_133 : decode cX11_addMembers 133 = .ok (.iload 4, 2) := by decide +kernel
theorem dX11_addMembers_135 : decode cX11_addMembers 135 = .ok (.imul, 1) := by decide +kernel
theorem dX11_addMembers_136 : decode cX11_addMembers 136 = .ok (.iaload, 1) := by decide +kernel
theorem dX11_addMembers_137 : decode cX11_addMembers 137 = .ok (.iastore, 1) := by decide +kernel
theorem dX11_addMembers_138 : decode cX11_addMembers 138 = .ok (.aload_n 0, 1) := by decide +kernel
theorem dX11_addMembers_139 : decode cX11_addMembers 139 = .ok (.getfield 103, 3) := by decide +kernel
theorem dX11_addMembers_142 : decode cX11_addMembers 142 = .ok (.iload 5, 2) := by decide +kernel
theorem dX11_addMembers_144 : decode cX11_addMembers 144 = .ok (.aload_n 0, 1) := by decide +kernel
theorem dX11_addMembers_145 : decode cX11_addMembers 145 = .ok (.getfield 35, 3) := by decide +kernel
theorem dX11_addMembers_148 : decode cX11_addMembers 148 = .ok (.bipush 12, 2) := by decide +kernel
theorem dX11_addMembers_150 : decode cX11_addMembers 150 = .ok (.iload 4, 2) := by decide +kernel
theorem dX11_addMembers_152 : decode cX11_addMembers 152 = .ok (.imul, 1) := by decide +kernel
theorem dX11_addMembers_153 : decode cX11_addMembers 153 = .ok (.iaload, 1) := by decide +kernel
theorem dX11_addMembers_154 : decode cX11_addMembers 154 = .ok (.iastore, 1) := by decide +kernel
theorem dX11_addMembers_155 : decode cX11_addMembers 155 = .ok (.aload_n 0, 1) := by decide +kernel
theorem dX11_addMembers_156 : decode cX11_addMembers 156 = .ok (.getfield 85, 3) := by decide +kernel
theorem dX11_addMembers_159 : decode cX11_addMembers 159 = .ok (.iload_n 1, 1) := by decide +kernel
theorem dX11_addMembers_160 : decode cX11_addMembers 160 = .ok (.dup2, 1) := by decide +kernel
theorem dX11_addMembers_161 : decode cX11_addMembers 161 = .ok (.iaload, 1) := by decide +kernel
theorem dX11_addMembers_162 : decode cX11_addMembers 162 = .ok (.iconst 1, 1) := by decide +kernel
theorem dX11_addMembers_163 : decode cX11_addMembers 163 = .ok (.iadd, 1) := by decide +kernel
theorem dX11_addMembers_164 : decode cX11_addMembers 164 = .ok (.iastore, 1) := by decide +kernel
theorem dX11_addMembers_165 : decode cX11_addMembers 165 = .ok (.iinc 3 1, 3) := by decide +kernel
theorem dX11_addMembers_168 : decode cX11_addMembers 168 = .ok (.goto (-159), 3) := by decide +kernel
theorem dX11_addMembers_171 : decode cX11_addMembers 171 = .ok (.return_, 1) := by decide +kernel
def tb_159 (pc : Nat) : Option mEnt := bif Nat.ble pc 83 then (bif Nat.ble pc 38 then (bif Nat.ble pc 16 then (bif Nat.ble pc 7 then (bif Nat.ble pc 4 then (bif Nat.ble pc 0 then (bif Nat.beq pc 0 then some (.inl (o_al 0 1)) else none) else (bif Nat.ble pc 1 then (bif Nat.beq pc 1 then some (.inl (o_gP 11 29)) else none) else (bif Nat.beq pc 4 then some (.inl (o_il 1 1)) else none))) else (bif Nat.ble pc 5 then (bif Nat.beq pc 5 then some (.inl (oS 1 (s_push (.int 0)))) else none) else (bif Nat.ble pc 6 then (bif Nat.beq pc 6 then some (.inl (o_iast)) else none) else (bif Nat.beq pc 7 then some (.inl (oS 1 (s_push (.int 0)))) else none)))) else (bif Nat.ble pc 10 then (bif Nat.ble pc 8 then (bif Nat.beq pc 8 then some (.inl (o_is 3 1)) else none) else (bif Nat.ble pc 9 then (bif Nat.beq pc 9 then some (.inl (o_il 3 1)) else none) else (bif Nat.beq pc 10 then some (.inl (o_al 0 1)) else none))) else (bif Nat.ble pc 14 then (bif Nat.ble pc 11 then (bif Nat.beq pc 11 then some (.inl (o_gP 11 0)) else none) else (bif Nat.beq pc 14 then some (.inl (o_il 2 1)) else none)) else (bif Nat.ble pc 15 then (bif Nat.beq pc 15 then some (.inl (o_iald)) else none) else (bif Nat.beq pc 16 then some (.inl (o_cge 171)) else none))))) else (bif Nat.ble pc 25 then (bif Nat.ble pc 22 then (bif Nat.ble pc 19 then (bif Nat.beq pc 19 then some (.inl (oS 2 (s_push (.int 24)))) else none) else (bif Nat.ble pc 21 then (bif Nat.beq pc 21 then some (.inl (o_il 2 1)) else none) else (bif Nat.beq pc 22 then some (.inl (oS 1 (s_ii (fun a b => a * b)))) else none))) else (bif Nat.ble pc 23 then (bif Nat.beq pc 23 then some (.inl (o_il 3 1)) else none) else (bif Nat.ble pc 24 then (bif Nat.beq pc 24 then some (.inl (oS 1 (s_ii (fun a b => a + b)))) else none) else (bif Nat.beq pc 25 then some (.inl (o_is 4 2)) else none)))) else (bif Nat.ble pc 31 then (bif Nat.ble pc 27 then (bif Nat.beq pc 27 then some (.inl (o_al 0 1)) else none) else (bif Nat.ble pc 28 then (bif Nat.beq pc 28 then some (.inl (o_gP 11 4)) else none) else (bif Nat.beq pc 31 then some (.inl (o_il 4 2)) else none))) else (bif Nat.ble pc 34 then (bif Nat.ble pc 33 then (bif Nat.beq pc 33 then some (.inl (o_iald)) else none) else (bif Nat.beq pc 34 then some (.inl (o_al 0 1)) else none)) else (bif Nat.ble pc 35 then (bif Nat.beq pc 35 then some (.inl (o_gP 11 14)) else none) else (bif Nat.beq pc 38 then some (.inl (oS 1 (s_push (.int 4)))) else none)))))) else (bif Nat.ble pc 61 then (bif Nat.ble pc 49 then (bif Nat.ble pc 43 then (bif Nat.ble pc 39 then (bif Nat.beq pc 39 then some (.inl (o_iald)) else none) else (bif Nat.ble pc 40 then (bif Nat.beq pc 40 then some (.inl (o_cgt 165)) else none) else (bif Nat.beq pc 43 then some (.inl (o_al 0 1)) else none))) else (bif Nat.ble pc 44 then (bif Nat.beq pc 44 then some (.inl (o_il 4 2)) else none) else (bif Nat.ble pc 46 then (bif Nat.beq pc 46 then some (.inr (3, 155, 2, 11)) else none) else (bif Nat.beq pc 49 then some (.inl (o_zeq 165)) else none)))) else (bif Nat.ble pc 55 then (bif Nat.ble pc 52 then (bif Nat.beq pc 52 then some (.inl (oS 2 (s_push (.int 24)))) else none) else (bif Nat.ble pc 54 then (bif Nat.beq pc 54 then some (.inl (o_il 1 1)) else none) else (bif Nat.beq pc 55 then some (.inl (oS 1 (s_ii (fun a b => a * b)))) else none))) else (bif Nat.ble pc 57 then (bif Nat.ble pc 56 then (bif Nat.beq pc 56 then some (.inl (o_al 0 1)) else none) else (bif Nat.beq pc 57 then some (.inl (o_gP 11 29)) else none)) else (bif Nat.ble pc 60 then (bif Nat.beq pc 60 then some (.inl (o_il 1 1)) else none) else (bif Nat.beq pc 61 then some (.inl (o_iald)) else none))))) else (bif Nat.ble pc 71 then (bif Nat.ble pc 65 then (bif Nat.ble pc 62 then (bif Nat.beq pc 62 then some (.inl (oS 1 (s_ii (fun a b => a + b)))) else none) else (bif Nat.ble pc 63 then (bif Nat.beq pc 63 then some (.inl (o_is 5 2)) else none) else (bif Nat.beq pc 65 then some (.inl (o_al 0 1)) else none))) else (bif Nat.ble pc 66 then (bif Nat.beq pc 66 then some (.inl (o_gP 11 30)) else none) else (bif Nat.ble pc 69 then (bif Nat.beq pc 69 then some (.inl (o_il 5 2)) else none) else (bif Nat.beq pc 71 then some (.inl (o_al 0 1)) else none)))) else (bif Nat.ble pc 77 then (bif Nat.ble pc 72 then (bif Nat.beq pc 72 then some (.inl (o_gP 11 1)) else none) else (bif Nat.ble pc 75 then (bif Nat.beq pc 75 then some (.inl (o_il 4 2)) else none) else (bif Nat.beq pc 77 then some (.inl (o_iald)) else none))) else (bif Nat.ble pc 79 then (bif Nat.ble pc 78 then (bif Nat.beq pc 78 then some (.inl (o_iast)) else none) else (bif Nat.beq pc 79 then some (.inl (o_al 0 1)) else none)) else (bif Nat.ble pc 80 then (bif Nat.beq pc 80 then some (.inl (o_gP 11 31)) else none) else (bif Nat.beq pc 83 then some (.inl (o_il 5 2)) else none))))))) else (bif Nat.ble pc 128 then (bif Nat.ble pc 106 then (bif Nat.ble pc 93 then (bif Nat.ble pc 89 then (bif Nat.ble pc 85 then (bif Nat.beq pc 85 then some (.inl (o_al 0 1)) else none) else (bif Nat.ble pc 86 then (bif Nat.beq pc 86 then some (.inl (o_gP 11 2)) else none) else (bif Nat.beq pc 89 then some (.inl (o_il 4 2)) else none))) else (bif Nat.ble pc 91 then (bif Nat.beq pc 91 then some (.inl (o_iald)) else none) else (bif Nat.ble pc 92 then (bif Nat.beq pc 92 then some (.inl (o_iast)) else none) else (bif Nat.beq pc 93 then some (.inl (o_al 0 1)) else none)))) else (bif Nat.ble pc 99 then (bif Nat.ble pc 94 then (bif Nat.beq pc 94 then some (.inl (o_gP 11 32)) else none) else (bif Nat.ble pc 97 then (bif Nat.beq pc 97 then some (.inl (o_il 5 2)) else none) else (bif Nat.beq pc 99 then some (.inl (o_al 0 1)) else none))) else (bif Nat.ble pc 103 then (bif Nat.ble pc 100 then (bif Nat.beq pc 100 then some (.inl (o_gP 11 3)) else none) else (bif Nat.beq pc 103 then some (.inl (o_il 4 2)) else none)) else (bif Nat.ble pc 105 then (bif Nat.beq pc 105 then some (.inl (o_iald)) else none) else (bif Nat.beq pc 106 then some (.inl (o_iast)) else none))))) else (bif Nat.ble pc 117 then (bif Nat.ble pc 111 then (bif Nat.ble pc 107 then (bif Nat.beq pc 107 then some (.inl (o_al 0 1)) else none) else (bif Nat.ble pc 108 then (bif Nat.beq pc 108 then some (.inl (o_gP 11 33)) else none) else (bif Nat.beq pc 111 then some (.inl (o_il 5 2)) else none))) else (bif Nat.ble pc 113 then (bif Nat.beq pc 113 then some (.inl (o_al 0 1)) else none) else (bif Nat.ble pc 114 then (bif Nat.beq pc 114 then some (.inl (o_gP 11 5)) else none) else (bif Nat.beq pc 117 then some (.inl (o_il 4 2)) else none)))) else (bif Nat.ble pc 121 then (bif Nat.ble pc 119 then (bif Nat.beq pc 119 then some (.inl (o_lald)) else none) else (bif Nat.ble pc 120 then (bif Nat.beq pc 120 then some (.inl (o_last)) else none) else (bif Nat.beq pc 121 then some (.inl (o_al 0 1)) else none))) else (bif Nat.ble pc 125 then (bif Nat.ble pc 122 then (bif Nat.beq pc 122 then some (.inl (o_gP 11 34)) else none) else (bif Nat.beq pc 125 then some (.inl (o_il 5 2)) else none)) else (bif Nat.ble pc 127 then (bif Nat.beq pc 127 then some (.inl (o_al 0 1)) else none) else (bif Nat.beq pc 128 then some (.inl (o_gP 11 7)) else none)))))) else (bif Nat.ble pc 152 then (bif Nat.ble pc 138 then (bif Nat.ble pc 135 then (bif Nat.ble pc 131 then (bif Nat.beq pc 131 then some (.inl (oS 2 (s_push (.int 12)))) else none) else (bif Nat.ble pc 133 then (bif Nat.beq pc 133 then some (.inl (o_il 4 2)) else none) else (bif Nat.beq pc 135 then some (.inl (oS 1 (s_ii (fun a b => a * b)))) else none))) else (bif Nat.ble pc 136 then (bif Nat.beq pc 136 then some (.inl (o_iald)) else none) else (bif Nat.ble pc 137 then (bif Nat.beq pc 137 then some (.inl (o_iast)) else none) else (bif Nat.beq pc 138 then some (.inl (o_al 0 1)) else none)))) else (bif Nat.ble pc 144 then (bif Nat.ble pc 139 then (bif Nat.beq pc 139 then some (.inl (o_gP 11 35)) else none) else (bif Nat.ble pc 142 then (bif Nat.beq pc 142 then some (.inl (o_il 5 2)) else none) else (bif Nat.beq pc 144 then some (.inl (o_al 0 1)) else none))) else (bif Nat.ble pc 148 then (bif Nat.ble pc 145 then (bif Nat.beq pc 145 then some (.inl (o_gP 11 8)) else none) else (bif Nat.beq pc 148 then some (.inl (oS 2 (s_push (.int 12)))) else none)) else (bif Nat.ble pc 150 then (bif Nat.beq pc 150 then some (.inl (o_il 4 2)) else none) else (bif Nat.beq pc 152 then some (.inl (oS 1 (s_ii (fun a b => a * b)))) else none))))) else (bif Nat.ble pc 160 then (bif Nat.ble pc 155 then (bif Nat.ble pc 153 then (bif Nat.beq pc 153 then some (.inl (o_iald)) else none) else (bif Nat.ble pc 154 then (bif Nat.beq pc 154 then some (.inl (o_iast)) else none) else (bif Nat.beq pc 155 then some (.inl (o_al 0 1)) else none))) else (bif Nat.ble pc 156 then (bif Nat.beq pc 156 then some (.inl (o_gP 11 29)) else none) else (bif Nat.ble pc 159 then (bif Nat.beq pc 159 then some (.inl (o_il 1 1)) else none) else (bif Nat.beq pc 160 then some (.inl (oS 1 s_dup2)) else none)))) else (bif Nat.ble pc 163 then (bif Nat.ble pc 161 then (bif Nat.beq pc 161 then some (.inl (o_iald)) else none) else (bif Nat.ble pc 162 then (bif Nat.beq pc 162 then some (.inl (oS 1 (s_push (.int 1)))) else none) else (bif Nat.beq pc 163 then some (.inl (oS 1 (s_ii (fun a b => a + b)))) else none))) else (bif Nat.ble pc 165 then (bif Nat.ble pc 164 then (bif Nat.beq pc 164 then some (.inl (o_iast)) else none) else (bif Nat.beq pc 165 then some (.inl (o_inc 3 1)) else none)) else (bif Nat.ble pc 168 then (bif Nat.beq pc 168 then some (.inl (o_goto 9)) else none) else (bif Nat.beq pc 171 then some (.inr (0, 0, 0, 3)) else none)))))))
theorem k_159_0 : mOk M_159.1 M_159.2.1 M_159.2.2.1 M_159.2.2.2 0 (o_al 0 1) := ok_aload_n dX11_addMembers_0 rfl
theorem k_159_1 : mOk M_159.1 M_159.2.1 M_159.2.2.1 M_159.2.2.2 1 (o_gP 11 29) := ok_gP dX11_addMembers_1 f_RX11_85 rfl
theorem k_159_4 : mOk M_159.1 M_159.2.1 M_159.2.2.1 M_159.2.2.2 4 (o_il 1 1) := ok_iload_n dX11_addMembers_4 rfl
theorem k_159_5 : mOk M_159.1 M_159.2.1 M_159.2.2.1 M_159.2.2.2 5 (oS 1 (s_push (.int 0))) := ok_iconst dX11_addMembers_5 (by decide)
theorem k_159_6 : mOk M_159.1 M_159.2.1 M_159.2.2.1 M_159.2.2.2 6 (o_iast) := ok_iast dX11_addMembers_6
theorem k_159_7 : mOk M_159.1 M_159.2.1 M_159.2.2.1 M_159.2.2.2 7 (oS 1 (s_push (.int 0))) := ok_iconst dX11_addMembers_7 (by decide)
theorem k_159_8 : mOk M_159.1 M_159.2.1 M_159.2.2.1 M_159.2.2.2 8 (o_is 3 1) := ok_istore_n dX11_addMembers_8 rfl
theorem k_159_9 : mOk M_159.1 M_159.2.1 M_159.2.2.1 M_159.2.2.2 9 (o_il 3 1) := ok_iload_n dX11_addMembers_9 rfl
theorem k_159_10 : mOk M_159.1 M_159.2.1 M_159.2.2.1 M_159.2.2.2 10 (o_al 0 1) := ok_aload_n dX11_addMembers_10 rfl
theorem k_159_11 : mOk M_159.1 M_159.2.1 M_159.2.2.1 M_159.2.2.2 11 (o_gP 11 0) := ok_gP dX11_addMembers_11 f_RX11_7 rfl
theorem k_159_14 : mOk M_159.1 M_159.2.1 M_159.2.2.1 M_159.2.2.2 14 (o_il 2 1) := ok_iload_n dX11_addMembers_14 rfl
theorem k_159_15 : mOk M_159.1 M_159.2.1 M_159.2.2.1 M_159.2.2.2 15 (o_iald) := ok_iald dX11_addMembers_15
theorem k_159_16 : mOk M_159.1 M_159.2.1 M_159.2.2.1 M_159.2.2.2 16 (o_cge 171) := ok_cge dX11_addMembers_16 (by decide)
theorem k_159_19 : mOk M_159.1 M_159.2.1 M_159.2.2.1 M_159.2.2.2 19 (oS 2 (s_push (.int 24))) := ok_bipush dX11_addMembers_19 (by decide)
theorem k_159_21 : mOk M_159.1 M_159.2.1 M_159.2.2.1 M_159.2.2.2 21 (o_il 2 1) := ok_iload_n dX11_addMembers_21 rfl
theorem k_159_22 : mOk M_159.1 M_159.2.1 M_159.2.2.1 M_159.2.2.2 22 (oS 1 (s_ii (fun a b => a * b))) := ok_imul dX11_addMembers_22
theorem k_159_23 : mOk M_159.1 M_159.2.1 M_159.2.2.1 M_159.2.2.2 23 (o_il 3 1) := ok_iload_n dX11_addMembers_23 rfl
theorem k_159_24 : mOk M_159.1 M_159.2.1 M_159.2.2.1 M_159.2.2.2 24 (oS 1 (s_ii (fun a b => a + b))) := ok_iadd dX11_addMembers_24
theorem k_159_25 : mOk M_159.1 M_159.2.1 M_159.2.2.1 M_159.2.2.2 25 (o_is 4 2) := ok_istore dX11_addMembers_25
theorem k_159_27 : mOk M_159.1 M_159.2.1 M_159.2.2.1 M_159.2.2.2 27 (o_al 0 1) := ok_aload_n dX11_addMembers_27 rfl
theorem k_159_28 : mOk M_159.1 M_159.2.1 M_159.2.2.1 M_159.2.2.2 28 (o_gP 11 4) := ok_gP dX11_addMembers_28 f_RX11_22 rfl
theorem k_159_31 : mOk M_159.1 M_159.2.1 M_159.2.2.1 M_159.2.2.2 31 (o_il 4 2) := ok_iload dX11_addMembers_31
theorem k_159_33 : mOk M_159.1 M_159.2.1 M_159.2.2.1 M_159.2.2.2 33 (o_iald) := ok_iald dX11_addMembers_33
theorem k_159_34 : mOk M_159.1 M_159.2.1 M_159.2.2.1 M_159.2.2.2 34 (o_al 0 1) := ok_aload_n dX11_addMembers_34 rfl
theorem k_159_35 : mOk M_159.1 M_159.2.1 M_159.2.2.1 M_159.2.2.2 35 (o_gP 11 14) := ok_gP dX11_addMembers_35 f_RX11_44 rfl
theorem k_159_38 : mOk M_159.1 M_159.2.1 M_159.2.2.1 M_159.2.2.2 38 (oS 1 (s_push (.int 4))) := ok_iconst dX11_addMembers_38 (by decide)
theorem k_159_39 : mOk M_159.1 M_159.2.1 M_159.2.2.1 M_159.2.2.2 39 (o_iald) := ok_iald dX11_addMembers_39
theorem k_159_40 : mOk M_159.1 M_159.2.1 M_159.2.2.1 M_159.2.2.2 40 (o_cgt 165) := ok_cgt dX11_addMembers_40 (by decide)
theorem k_159_43 : mOk M_159.1 M_159.2.1 M_159.2.2.1 M_159.2.2.2 43 (o_al 0 1) := ok_aload_n dX11_addMembers_43 rfl
theorem k_159_44 : mOk M_159.1 M_159.2.1 M_159.2.2.1 M_159.2.2.2 44 (o_il 4 2) := ok_iload dX11_addMembers_44
theorem k_159_49 : mOk M_159.1 M_159.2.1 M_159.2.2.1 M_159.2.2.2 49 (o_zeq 165) := ok_zeq dX11_addMembers_49 (by decide)
theorem k_159_52 : mOk M_159.1 M_159.2.1 M_159.2.2.1 M_159.2.2.2 52 (oS 2 (s_push (.int 24))) := ok_bipush dX11_addMembers_52 (by decide)
theorem k_159_54 : mOk M_159.1 M_159.2.1 M_159.2.2.1 M_159.2.2.2 54 (o_il 1 1) := ok_iload_n dX11_addMembers_54 rfl
theorem k_159_55 : mOk M_159.1 M_159.2.1 M_159.2.2.1 M_159.2.2.2 55 (oS 1 (s_ii (fun a b => a * b))) := ok_imul dX11_addMembers_55
theorem k_159_56 : mOk M_159.1 M_159.2.1 M_159.2.2.1 M_159.2.2.2 56 (o_al 0 1) := ok_aload_n dX11_addMembers_56 rfl
theorem k_159_57 : mOk M_159.1 M_159.2.1 M_159.2.2.1 M_159.2.2.2 57 (o_gP 11 29) := ok_gP dX11_addMembers_57 f_RX11_85 rfl
theorem k_159_60 : mOk M_159.1 M_159.2.1 M_159.2.2.1 M_159.2.2.2 60 (o_il 1 1) := ok_iload_n dX11_addMembers_60 rfl
theorem k_159_61 : mOk M_159.1 M_159.2.1 M_159.2.2.1 M_159.2.2.2 61 (o_iald) := ok_iald dX11_addMembers_61
theorem k_159_62 : mOk M_159.1 M_159.2.1 M_159.2.2.1 M_159.2.2.2 62 (oS 1 (s_ii (fun a b => a + b))) := ok_iadd dX11_addMembers_62
theorem k_159_63 : mOk M_159.1 M_159.2.1 M_159.2.2.1 M_159.2.2.2 63 (o_is 5 2) := ok_istore dX11_addMembers_63
theorem k_159_65 : mOk M_159.1 M_159.2.1 M_159.2.2.1 M_159.2.2.2 65 (o_al 0 1) := ok_aload_n dX11_addMembers_65 rfl
theorem k_159_66 : mOk M_159.1 M_159.2.1 M_159.2.2.1 M_159.2.2.2 66 (o_gP 11 30) := ok_gP dX11_addMembers_66 f_RX11_88 rfl
theorem k_159_69 : mOk M_159.1 M_159.2.1 M_159.2.2.1 M_159.2.2.2 69 (o_il 5 2) := ok_iload dX11_addMembers_69
theorem k_159_71 : mOk M_159.1 M_159.2.1 M_159.2.2.1 M_159.2.2.2 71 (o_al 0 1) := ok_aload_n dX11_addMembers_71 rfl
theorem k_159_72 : mOk M_159.1 M_159.2.1 M_159.2.2.1 M_159.2.2.2 72 (o_gP 11 1) := ok_gP dX11_addMembers_72 f_RX11_13 rfl
theorem k_159_75 : mOk M_159.1 M_159.2.1 M_159.2.2.1 M_159.2.2.2 75 (o_il 4 2) := ok_iload dX11_addMembers_75
theorem k_159_77 : mOk M_159.1 M_159.2.1 M_159.2.2.1 M_159.2.2.2 77 (o_iald) := ok_iald dX11_addMembers_77
theorem k_159_78 : mOk M_159.1 M_159.2.1 M_159.2.2.1 M_159.2.2.2 78 (o_iast) := ok_iast dX11_addMembers_78
theorem k_159_79 : mOk M_159.1 M_159.2.1 M_159.2.2.1 M_159.2.2.2 79 (o_al 0 1) := ok_aload_n dX11_addMembers_79 rfl
theorem k_159_80 : mOk M_159.1 M_159.2.1 M_159.2.2.1 M_159.2.2.2 80 (o_gP 11 31) := ok_gP dX11_addMembers_80 f_RX11_91 rfl
theorem k_159_83 : mOk M_159.1 M_159.2.1 M_159.2.2.1 M_159.2.2.2 83 (o_il 5 2) := ok_iload dX11_addMembers_83
theorem k_159_85 : mOk M_159.1 M_159.2.1 M_159.2.2.1 M_159.2.2.2 85 (o_al 0 1) := ok_aload_n dX11_addMembers_85 rfl
theorem k_159_86 : mOk M_159.1 M_159.2.1 M_159.2.2.1 M_159.2.2.2 86 (o_gP 11 2) := ok_gP dX11_addMembers_86 f_RX11_16 rfl
theorem k_159_89 : mOk M_159.1 M_159.2.1 M_159.2.2.1 M_159.2.2.2 89 (o_il 4 2) := ok_iload dX11_addMembers_89
theorem k_159_91 : mOk M_159.1 M_159.2.1 M_159.2.2.1 M_159.2.2.2 91 (o_iald) := ok_iald dX11_addMembers_91
theorem k_159_92 : mOk M_159.1 M_159.2.1 M_159.2.2.1 M_159.2.2.2 92 (o_iast) := ok_iast dX11_addMembers_92
theorem k_159_93 : mOk M_159.1 M_159.2.1 M_159.2.2.1 M_159.2.2.2 93 (o_al 0 1) := ok_aload_n dX11_addMembers_93 rfl
theorem k_159_94 : mOk M_159.1 M_159.2.1 M_159.2.2.1 M_159.2.2.2 94 (o_gP 11 32) := ok_gP dX11_addMembers_94 f_RX11_94 rfl
theorem k_159_97 : mOk M_159.1 M_159.2.1 M_159.2.2.1 M_159.2.2.2 97 (o_il 5 2) := ok_iload dX11_addMembers_97
theorem k_159_99 : mOk M_159.1 M_159.2.1 M_159.2.2.1 M_159.2.2.2 99 (o_al 0 1) := ok_aload_n dX11_addMembers_99 rfl
theorem k_159_100 : mOk M_159.1 M_159.2.1 M_159.2.2.1 M_159.2.2.2 100 (o_gP 11 3) := ok_gP dX11_addMembers_100 f_RX11_19 rfl
theorem k_159_103 : mOk M_159.1 M_159.2.1 M_159.2.2.1 M_159.2.2.2 103 (o_il 4 2) := ok_iload dX11_addMembers_103
theorem k_159_105 : mOk M_159.1 M_159.2.1 M_159.2.2.1 M_159.2.2.2 105 (o_iald) := ok_iald dX11_addMembers_105
theorem k_159_106 : mOk M_159.1 M_159.2.1 M_159.2.2.1 M_159.2.2.2 106 (o_iast) := ok_iast dX11_addMembers_106
theorem k_159_107 : mOk M_159.1 M_159.2.1 M_159.2.2.1 M_159.2.2.2 107 (o_al 0 1) := ok_aload_n dX11_addMembers_107 rfl
theorem k_159_108 : mOk M_159.1 M_159.2.1 M_159.2.2.1 M_159.2.2.2 108 (o_gP 11 33) := ok_gP dX11_addMembers_108 f_RX11_97 rfl
theorem k_159_111 : mOk M_159.1 M_159.2.1 M_159.2.2.1 M_159.2.2.2 111 (o_il 5 2) := ok_iload dX11_addMembers_111
theorem k_159_113 : mOk M_159.1 M_159.2.1 M_159.2.2.1 M_159.2.2.2 113 (o_al 0 1) := ok_aload_n dX11_addMembers_113 rfl
theorem k_159_114 : mOk M_159.1 M_159.2.1 M_159.2.2.1 M_159.2.2.2 114 (o_gP 11 5) := ok_gP dX11_addMembers_114 f_RX11_25 rfl
theorem k_159_117 : mOk M_159.1 M_159.2.1 M_159.2.2.1 M_159.2.2.2 117 (o_il 4 2) := ok_iload dX11_addMembers_117
theorem k_159_119 : mOk M_159.1 M_159.2.1 M_159.2.2.1 M_159.2.2.2 119 (o_lald) := ok_lald dX11_addMembers_119
theorem k_159_120 : mOk M_159.1 M_159.2.1 M_159.2.2.1 M_159.2.2.2 120 (o_last) := ok_last dX11_addMembers_120
theorem k_159_121 : mOk M_159.1 M_159.2.1 M_159.2.2.1 M_159.2.2.2 121 (o_al 0 1) := ok_aload_n dX11_addMembers_121 rfl
theorem k_159_122 : mOk M_159.1 M_159.2.1 M_159.2.2.1 M_159.2.2.2 122 (o_gP 11 34) := ok_gP dX11_addMembers_122 f_RX11_100 rfl
theorem k_159_125 : mOk M_159.1 M_159.2.1 M_159.2.2.1 M_159.2.2.2 125 (o_il 5 2) := ok_iload dX11_addMembers_125
theorem k_159_127 : mOk M_159.1 M_159.2.1 M_159.2.2.1 M_159.2.2.2 127 (o_al 0 1) := ok_aload_n dX11_addMembers_127 rfl
theorem k_159_128 : mOk M_159.1 M_159.2.1 M_159.2.2.1 M_159.2.2.2 128 (o_gP 11 7) := ok_gP dX11_addMembers_128 f_RX11_32 rfl
theorem k_159_131 : mOk M_159.1 M_159.2.1 M_159.2.2.1 M_159.2.2.2 131 (oS 2 (s_push (.int 12))) := ok_bipush dX11_addMembers_131 (by decide)
theorem k_159_133 : mOk M_159.1 M_159.2.1 M_159.2.2.1 M_159.2.2.2 133 (o_il 4 2) := ok_iload dX11_addMembers_133
theorem k_159_135 : mOk M_159.1 M_159.2.1 M_159.2.2.1 M_159.2.2.2 135 (oS 1 (s_ii (fun a b => a * b))) := ok_imul dX11_addMembers_135
theorem k_159_136 : mOk M_159.1 M_159.2.1 M_159.2.2.1 M_159.2.2.2 136 (o_iald) := ok_iald dX11_addMembers_136
theorem k_159_137 : mOk M_159.1 M_159.2.1 M_159.2.2.1 M_159.2.2.2 137 (o_iast) := ok_iast dX11_addMembers_137
theorem k_159_138 : mOk M_159.1 M_159.2.1 M_159.2.2.1 M_159.2.2.2 138 (o_al 0 1) := ok_aload_n dX11_addMembers_138 rfl
theorem k_159_139 : mOk M_159.1 M_159.2.1 M_159.2.2.1 M_159.2.2.2 139 (o_gP 11 35) := ok_gP dX11_addMembers_139 f_RX11_103 rfl
theorem k_159_142 : mOk M_159.1 M_159.2.1 M_159.2.2.1 M_159.2.2.2 142 (o_il 5 2) := ok_iload dX11_addMembers_142
theorem k_159_144 : mOk M_159.1 M_159.2.1 M_159.2.2.1 M_159.2.2.2 144 (o_al 0 1) := ok_aload_n dX11_addMembers_144 rfl
theorem k_159_145 : mOk M_159.1 M_159.2.1 M_159.2.2.1 M_159.2.2.2 145 (o_gP 11 8) := ok_gP dX11_addMembers_145 f_RX11_35 rfl
theorem k_159_148 : mOk M_159.1 M_159.2.1 M_159.2.2.1 M_159.2.2.2 148 (oS 2 (s_push (.int 12))) := ok_bipush dX11_addMembers_148 (by decide)
theorem k_159_150 : mOk M_159.1 M_159.2.1 M_159.2.2.1 M_159.2.2.2 150 (o_il 4 2) := ok_iload dX11_addMembers_150
theorem k_159_152 : mOk M_159.1 M_159.2.1 M_159.2.2.1 M_159.2.2.2 152 (oS 1 (s_ii (fun a b => a * b))) := ok_imul dX11_addMembers_152
theorem k_159_153 : mOk M_159.1 M_159.2.1 M_159.2.2.1 M_159.2.2.2 153 (o_iald) := ok_iald dX11_addMembers_153
theorem k_159_154 : mOk M_159.1 M_159.2.1 M_159.2.2.1 M_159.2.2.2 154 (o_iast) := ok_iast dX11_addMembers_154
theorem k_159_155 : mOk M_159.1 M_159.2.1 M_159.2.2.1 M_159.2.2.2 155 (o_al 0 1) := ok_aload_n dX11_addMembers_155 rfl
theorem k_159_156 : mOk M_159.1 M_159.2.1 M_159.2.2.1 M_159.2.2.2 156 (o_gP 11 29) := ok_gP dX11_addMembers_156 f_RX11_85 rfl
theorem k_159_159 : mOk M_159.1 M_159.2.1 M_159.2.2.1 M_159.2.2.2 159 (o_il 1 1) := ok_iload_n dX11_addMembers_159 rfl
theorem k_159_160 : mOk M_159.1 M_159.2.1 M_159.2.2.1 M_159.2.2.2 160 (oS 1 s_dup2) := ok_dup2 dX11_addMembers_160
theorem k_159_161 : mOk M_159.1 M_159.2.1 M_159.2.2.1 M_159.2.2.2 161 (o_iald) := ok_iald dX11_addMembers_161
theorem k_159_162 : mOk M_159.1 M_159.2.1 M_159.2.2.1 M_159.2.2.2 162 (oS 1 (s_push (.int 1))) := ok_iconst dX11_addMembers_162 (by decide)
theorem k_159_163 : mOk M_159.1 M_159.2.1 M_159.2.2.1 M_159.2.2.2 163 (oS 1 (s_ii (fun a b => a + b))) := ok_iadd dX11_addMembers_163
theorem k_159_164 : mOk M_159.1 M_159.2.1 M_159.2.2.1 M_159.2.2.2 164 (o_iast) := ok_iast dX11_addMembers_164
theorem k_159_165 : mOk M_159.1 M_159.2.1 M_159.2.2.1 M_159.2.2.2 165 (o_inc 3 1) := ok_iinc dX11_addMembers_165 (by decide)
theorem k_159_168 : mOk M_159.1 M_159.2.1 M_159.2.2.1 M_159.2.2.2 168 (o_goto 9) := ok_goto dX11_addMembers_168 (by decide)
set_option maxRecDepth 20000 in
set_option maxHeartbeats 4000000 in
theorem tk_159 (l : Launch) (H9 : mThr l) (H10 : mSpl l) (pc : Nat) (q : mEnt) (h : tb_159 pc = some q) : EE l 159 pc q := nd h (fun h => nd h (fun h => nd h (fun h => nd h (fun h => nd h (fun h => nd h (fun h => lf (P := EE l 159) h k_159_0) (fun h => nd h (fun h => lf (P := EE l 159) h k_159_1) (fun h => lf (P := EE l 159) h k_159_4))) (fun h => nd h (fun h => lf (P := EE l 159) h k_159_5) (fun h => nd h (fun h => lf (P := EE l 159) h k_159_6) (fun h => lf (P := EE l 159) h k_159_7)))) (fun h => nd h (fun h => nd h (fun h => lf (P := EE l 159) h k_159_8) (fun h => nd h (fun h => lf (P := EE l 159) h k_159_9) (fun h => lf (P := EE l 159) h k_159_10))) (fun h => nd h (fun h => nd h (fun h => lf (P := EE l 159) h k_159_11) (fun h => lf (P := EE l 159) h k_159_14)) (fun h => nd h (fun h => lf (P := EE l 159) h k_159_15) (fun h => lf (P := EE l 159) h k_159_16))))) (fun h => nd h (fun h => nd h (fun h => nd h (fun h => lf (P := EE l 159) h k_159_19) (fun h => nd h (fun h => lf (P := EE l 159) h k_159_21) (fun h => lf (P := EE l 159) h k_159_22))) (fun h => nd h (fun h => lf (P := EE l 159) h k_159_23) (fun h => nd h (fun h => lf (P := EE l 159) h k_159_24) (fun h => lf (P := EE l 159) h k_159_25)))) (fun h => nd h (fun h => nd h (fun h => lf (P := EE l 159) h k_159_27) (fun h => nd h (fun h => lf (P := EE l 159) h k_159_28) (fun h => lf (P := EE l 159) h k_159_31))) (fun h => nd h (fun h => nd h (fun h => lf (P := EE l 159) h k_159_33) (fun h => lf (P := EE l 159) h k_159_34)) (fun h => nd h (fun h => lf (P := EE l 159) h k_159_35) (fun h => lf (P := EE l 159) h k_159_38)))))) (fun h => nd h (fun h => nd h (fun h => nd h (fun h => nd h (fun h => lf (P := EE l 159) h k_159_39) (fun h => nd h (fun h => lf (P := EE l 159) h k_159_40) (fun h => lf (P := EE l 159) h k_159_43))) (fun h => nd h (fun h => lf (P := EE l 159) h k_159_44) (fun h => nd h (fun h => lf (P := EE l 159) h (EE_ca (by decide) (⟨m_1388, m_81, ⟨by decide, by decide⟩, by decide +kernel, ⟨by decide, by decide⟩, 286, 1, by decide +kernel, Or.inr (Or.inr (Or.inl ⟨rfl, rfl, dX11_addMembers_46, m_1385, m_1387, _, rfl, by decide, m_59⟩))⟩) rfl)) (fun h => lf (P := EE l 159) h k_159_49)))) (fun h => nd h (fun h => nd h (fun h => lf (P := EE l 159) h k_159_52) (fun h => nd h (fun h => lf (P := EE l 159) h k_159_54) (fun h => lf (P := EE l 159) h k_159_55))) (fun h => nd h (fun h => nd h (fun h => lf (P := EE l 159) h k_159_56) (fun h => lf (P := EE l 159) h k_159_57)) (fun h => nd h (fun h => lf (P := EE l 159) h k_159_60) (fun h => lf (P := EE l 159) h k_159_61))))) (fun h => nd h (fun h => nd h (fun h => nd h (fun h => lf (P := EE l 159) h k_159_62) (fun h => nd h (fun h => lf (P := EE l 159) h k_159_63) (fun h => lf (P := EE l 159) h k_159_65))) (fun h => nd h (fun h => lf (P := EE l 159) h k_159_66) (fun h => nd h (fun h => lf (P := EE l 159) h k_159_69) (fun h => lf (P := EE l 159) h k_159_71)))) (fun h => nd h (fun h => nd h (fun h => lf (P := EE l 159) h k_159_72) (fun h => nd h (fun h => lf (P := EE l 159) h k_159_75) (fun h => lf (P := EE l 159) h k_159_77))) (fun h => nd h (fun h => nd h (fun h => lf (P := EE l 159) h k_159_78) (fun h => lf (P := EE l 159) h k_159_79)) (fun h => nd h (fun h => lf (P := EE l 159) h k_159_80) (fun h => lf (P := EE l 159) h k_159_83))))))) (fun h => nd h (fun h => nd h (fun h => nd h (fun h => nd h (fun h => nd h (fun h => lf (P := EE l 159) h k_159_85) (fun h => nd h (fun h => lf (P := EE l 159) h k_159_86) (fun h => lf (P := EE l 159) h k_159_89))) (fun h => nd h (fun h => lf (P := EE l 159) h k_159_91) (fun h => nd h (fun h => lf (P := EE l 159) h k_159_92) (fun h => lf (P := EE l 159) h k_159_93)))) (fun h => nd h (fun h => nd h (fun h => lf (P := EE l 159) h k_159_94) (fun h => nd h (fun h => lf (P := EE l 159) h k_159_97) (fun h => lf (P := EE l 159) h k_159_99))) (fun h => nd h (fun h => nd h (fun h => lf (P := EE l 159) h k_159_100) (fun h => lf (P := EE l 159) h k_159_103)) (fun h => nd h (fun h => lf (P := EE l 159) h k_159_105) (fun h => lf (P := EE l 159) h k_159_106))))) (fun h => nd h (fun h => nd h (fun h => nd h (fun h => lf (P := EE l 159) h k_159_107) (fun h => nd h (fun h => lf (P := EE l 159) h k_159_108) (fun h => lf (P := EE l 159) h k_159_111))) (fun h => nd h (fun h => lf (P := EE l 159) h k_159_113) (fun h => nd h (fun h => lf (P := EE l 159) h k_159_114) (fun h => lf (P := EE l 159) h k_159_117)))) (fun h => nd h (fun h => nd h (fun h => lf (P := EE l 159) h k_159_119) (fun h => nd h (fun h => lf (P := EE l 159) h k_159_120) (fun h => lf (P := EE l 159) h k_159_121))) (fun h => nd h (fun h => nd h (fun h => lf (P := EE l 159) h k_159_122) (fun h => lf (P := EE l 159) h k_159_125)) (fun h => nd h (fun h => lf (P := EE l 159) h k_159_127) (fun h => lf (P := EE l 159) h k_159_128)))))) (fun h => nd h (fun h => nd h (fun h => nd h (fun h => nd h (fun h => lf (P := EE l 159) h k_159_131) (fun h => nd h (fun h => lf (P := EE l 159) h k_159_133) (fun h => lf (P := EE l 159) h k_159_135))) (fun h => nd h (fun h => lf (P := EE l 159) h k_159_136) (fun h => nd h (fun h => lf (P := EE l 159) h k_159_137) (fun h => lf (P := EE l 159) h k_159_138)))) (fun h => nd h (fun h => nd h (fun h => lf (P := EE l 159) h k_159_139) (fun h => nd h (fun h => lf (P := EE l 159) h k_159_142) (fun h => lf (P := EE l 159) h k_159_144))) (fun h => nd h (fun h => nd h (fun h => lf (P := EE l 159) h k_159_145) (fun h => lf (P := EE l 159) h k_159_148)) (fun h => nd h (fun h => lf (P := EE l 159) h k_159_150) (fun h => lf (P := EE l 159) h k_159_152))))) (fun h => nd h (fun h => nd h (fun h => nd h (fun h => lf (P := EE l 159) h k_159_153) (fun h => nd h (fun h => lf (P := EE l 159) h k_159_154) (fun h => lf (P := EE l 159) h k_159_155))) (fun h => nd h (fun h => lf (P := EE l 159) h k_159_156) (fun h => nd h (fun h => lf (P := EE l 159) h k_159_159) (fun h => lf (P := EE l 159) h k_159_160)))) (fun h => nd h (fun h => nd h (fun h => lf (P := EE l 159) h k_159_161) (fun h => nd h (fun h => lf (P := EE l 159) h k_159_162) (fun h => lf (P := EE l 159) h k_159_163))) (fun h => nd h (fun h => nd h (fun h => lf (P := EE l 159) h k_159_164) (fun h => lf (P := EE l 159) h k_159_165)) (fun h => nd h (fun h => lf (P := EE l 159) h k_159_168) (fun h => lf (P := EE l 159) h (EE_re (Or.inr (Or.inr (Or.inr (Or.inr ⟨rfl, dX11_addMembers_171, rfl⟩))))))))))))
theorem dX11_makePack_0 : decode cX11_makePack 0 = .ok (.aload_n 0, 1) := by decide +kernel
theorem dX11_makePack_1 : decode cX11_makePack 1 = .ok (.iload_n 2, 1) := by decide +kernel
theorem dX11_makePack_2 : decode cX11_makePack 2 = .ok (.invokevirtual 260, 3) := by decide +kernel
theorem dX11_makePack_5 : decode cX11_makePack 5 = .ok (.istore_n 3, 1) := by decide +kernel
theorem dX11_makePack_6 : decode cX11_makePack 6 = .ok (.aload_n 0, 1) := by decide +kernel
theorem dX11_makePack_7 : decode cX11_makePack 7 = .ok (.getfield 57, 3) := by decide +kernel
theorem dX11_makePack_10 : decode cX11_makePack 10 = .ok (.iload_n 1, 1) := by decide +kernel
theorem dX11_makePack_11 : decode cX11_makePack 11 = .ok (.iconst 0, 1) := by decide +kernel
theorem dX11_makePack_12 : decode cX11_makePack 12 = .ok (.iastore, 1) := by decide +kernel
theorem dX11_makePack_13 : decode cX11_makePack 13 = .ok (.aload_n 0, 1) := by decide +kernel
theorem dX11_makePack_14 : decode cX11_makePack 14 = .ok (.getfield 78, 3) := by decide +kernel
theorem dX11_makePack_17 : decode cX11_makePack 17 = .ok (.iload_n 1, 1) := by decide +kernel
theorem dX11_makePack_18 : decode cX11_makePack 18 = .ok (.iconst 0, 1) := by decide +kernel
theorem dX11_makePack_19 : decode cX11_makePack 19 = .ok (.iastore, 1) := by decide +kernel
theorem dX11_makePack_20 : decode cX11_makePack 20 = .ok (.aload_n 0, 1) := by decide +kernel
theorem dX11_makePack_21 : decode cX11_makePack 21 = .ok (.getfield 51, 3) := by decide +kernel
theorem dX11_makePack_24 : decode cX11_makePack 24 = .ok (.iload_n 1, 1) := by decide +kernel
theorem dX11_makePack_25 : decode cX11_makePack 25 = .ok (.iload_n 2, 1) := by decide +kernel
theorem dX11_makePack_26 : decode cX11_makePack 26 = .ok (.iastore, 1) := by decide +kernel
theorem dX11_makePack_27 : decode cX11_makePack 27 = .ok (.iconst 0, 1) := by decide +kernel
theorem dX11_makePack_28 : decode cX11_makePack 28 = .ok (.istore 4, 2) := by decide +kernel
theorem dX11_makePack_30 : decode cX11_makePack 30 = .ok (.iload 4, 2) := by decide +kernel
theorem dX11_makePack_32 : decode cX11_makePack 32 = .ok (.iconst 5, 1) := by decide +kernel
theorem dX11_makePack_33 : decode cX11_makePack 33 = .ok (.if_icmp .ge 27, 3) := by decide +kernel
theorem dX11_makePack_36 : decode cX11_makePack 36 = .ok (.aload_n 0, 1) := by decide +kernel
theorem dX11_makePack_37 : decode cX11_makePack 37 = .ok (.getfield 54, 3) := by decide +kernel
theorem dX11_makePack_40 : decode cX11_makePack 40 = .ok (.iconst 5, 1) := by decide +kernel
theorem dX11_makePack_41 : decode cX11_makePack 41 = .ok (.iload_n 1, 1) := by decide +kernel
theorem dX11_makePack_42 : decode cX11_makePack 42 = .ok (.imul, 1) := by decide +kernel
theorem dX11_makePack_43 : decode cX11_makePack 43 = .ok (.iload 4, 2) := by decide +kernel
theorem dX11_makePack_45 : decode cX11_makePack 45 = .ok (.iadd, 1) := by decide +kernel
theorem dX11_makePack_46 : decode cX11_makePack 46 = .ok (.aload_n 0, 1) := by decide +kernel
theorem dX11_makePack_47 : decode cX11_makePack 47 = .ok (.getfield 44, 3) := by decide +kernel
theorem dX11_makePack_50 : decode cX11_makePack 50 = .ok (.iload 4, 2) := by decide +kernel
theorem dX11_makePack_52 : decode cX11_makePack 52 = .ok (.iaload, 1) := by decide +kernel
theorem dX11_makePack_53 : decode cX11_makePack 53 = .ok (.iastore, 1) := by decide +kernel
theorem dX11_makePack_54 : decode cX11_makePack 54 = .ok (.iinc 4 1, 3) := by decide +kernel
theorem dX11_makePack_57 : decode cX11_makePack 57 = .ok (.goto (-27), 3) := by decide +kernel
theorem dX11_makePack_60 : decode cX11_makePack 60 = .ok (.iconst 0, 1) := by decide +kernel
theorem dX11_makePack_61 : decode cX11_makePack 61 = .ok (.istore 4, 2) := by decide +kernel
theorem dX11_makePack_63 : decode cX11_makePack 63 = .ok (.iload 4, 2) := by decide +kernel
theorem dX11_makePack_65 : decode cX11_makePack 65 = .ok (.aload_n 0, 1) := by decide +kernel
theorem dX11_makePack_66 : decode cX11_makePack 66 = .ok (.getfield 44, 3) := by decide +kernel
theorem dX11_makePack_69 : decode cX11_makePack 69 = .ok (.iconst 4, 1) := by decide +kernel
theorem dX11_makePack_70 : decode cX11_makePack 70 = .ok (.iaload, 1) := by decide +kernel
theorem dX11_makePack_71 : decode cX11_makePack 71 = .ok (.if_icmp .gt 167, 3) := by decide +kernel
theorem dX11_makePack_74 : decode cX11_makePack 74 = .ok (.iconst 0, 1) := by decide +kernel
theorem dX11_makePack_75 : decode cX11_makePack 75 = .ok (.istore 5, 2) := by decide +kernel
theorem dX11_makePack_77 : decode cX11_makePack 77 = .ok (.iload 5, 2) := by decide +kernel
theorem dX11_makePack_79 : decode cX11_makePack 79 = .ok (.iconst 1, 1) := by decide +kernel
theorem dX11_makePack_80 : decode cX11_makePack 80 = .ok (.iconst 2, 1) := by decide +kernel
theorem dX11_makePack_81 : decode cX11_makePack 81 = .ok (.iload 4, 2) := by decide +kernel
theorem dX11_makePack_83 : decode cX11_makePack 83 = .ok (.imul, 1) := by decide +kernel
theorem dX11_makePack_84 : decode cX11_makePack 84 = .ok (.ishl, 1) := by decide +kernel
theorem dX11_makePack_85 : decode cX11_makePack 85 = .ok (.if_icmp .ge 147, 3) := by decide +kernel
theorem dX11_makePack_88 : decode cX11_makePack 88 = .ok (.iconst 0, 1) := by decide +kernel
theorem dX11_makePack_89 : decode cX11_makePack 89 = .ok (.istore 6, 2) := by decide +kernel
theorem dX11_makePack_91 : decode cX11_makePack 91 = .ok (.iconst 0, 1) := by decide +kernel
theorem dX11_makePack_92 : decode cX11_makePack 92 = .ok (.istore 7, 2) := by decide +kernel
theorem dX11_makePack_94 : decode cX11_makePack 94 = .ok (.iconst 0, 1) := by decide +kernel
theorem dX11_makePack_95 : decode cX11_makePack 95 = .ok (.istore 8, 2) := by decide +kernel
theorem dX11_makePack_97 : decode cX11_makePack 97 = .ok (.iload 8, 2) := by decide +kernel
theorem dX11_makePack_99 : decode cX11_makePack 99 = .ok (.iload 4, 2) := by decide +kernel
theorem dX11_makePack_101 : decode cX11_makePack 101 = .ok (.if_icmp .ge 45, 3) := by decide +kernel
theorem dX11_makePack_104 : decode cX11_makePack 104 = .ok (.iload 6, 2) := by decide +kernel
theorem dX11_makePack_106 : decode cX11_makePack 106 = .ok (.iload 5, 2) := by decide +kernel
theorem dX11_makePack_108 : decode cX11_makePack 108 = .ok (.iconst 2, 1) := by decide +kernel
theorem dX11_makePack_109 : decode cX11_makePack 109 = .ok (.iload 8, 2) := by decide +kernel
theorem dX11_makePack_111 : decode cX11_makePack 111 = .ok (.imul, 1) := by decide +kernel
theorem dX11_makePack_112 : decode cX11_makePack 112 = .ok (.ishr, 1) := by decide +kernel
theorem dX11_makePack_113 : decode cX11_makePack 113 = .ok (.iconst 1, 1) := by decide +kernel
theorem dX11_makePack_114 : decode cX11_makePack 114 = .ok (.iand, 1) := by decide +kernel
theorem dX11_makePack_115 : decode cX11_makePack 115 = .ok (.iload 8, 2) := by decide +kernel
theorem dX11_makePack_117 : decode cX11_makePack 117 = .ok (.ishl, 1) := by decide +kernel
theorem dX11_makePack_118 : decode cX11_makePack 118 = .ok (.ior, 1) := by decide +kernel
theorem dX11_makePack_119 : decode cX11_makePack 119 = .ok (.istore 6, 2) := by decide +kernel
theorem dX11_makePack_121 : decode cX11_makePack 121 = .ok (.iload 7, 2) := by decide +kernel
theorem dX11_makePack_123 : decode cX11_makePack 123 = .ok (.iload 5, 2) := by decide +kernel
theorem dX11_makePack_125 : decode cX11_makePack 125 = .ok (.iconst 2, 1) := by decide +kernel
theorem dX11_makePack_126 : decode cX11_makePack 126 = .ok (.iload 8, 2) := by decide +kernel
theorem dX11_makePack_128 : decode cX11_makePack 128 = .ok (.imul, 1) := by decide +kernel
theorem dX11_makePack_129 : decode cX11_makePack 129 = .ok (.iconst 1, 1) := by decide +kernel
theorem dX11_makePack_130 : decode cX11_makePack 130 = .ok (.iadd, 1) := by decide +kernel
theorem dX11_makePack_131 : decode cX11_makePack 131 = .ok (.ishr, 1) := by decide +kernel
theorem dX11_makePack_132 : decode cX11_makePack 132 = .ok (.iconst 1, 1) := by decide +kernel
theorem dX11_makePack_133 : decode cX11_makePack 133 = .ok (.iand, 1) := by decide +kernel
theorem dX11_makePack_134 : decode cX11_makePack 134 = .ok (.iload 8, 2) := by decide +kernel
theorem dX11_makePack_136 : decode cX11_makePack 136 = .ok (.ishl, 1) := by decide +kernel
theorem dX11_makePack_137 : decode cX11_makePack 137 = .ok (.ior, 1) := by decide +kernel
theorem dX11_makePack_138 : decode cX11_makePack 138 = .ok (.istore 7, 2) := by decide +kernel
theorem dX11_makePack_140 : decode cX11_makePack 140 = .ok (.iinc 8 1, 3) := by decide +kernel
theorem dX11_makePack_143 : decode cX11_makePack 143 = .ok (.goto (-46), 3) := by decide +kernel
theorem dX11_makePack_146 : decode cX11_makePack 146 = .ok (.aload_n 0, 1) := by decide +kernel
theorem dX11_makePack_147 : decode cX11_makePack 147 = .ok (.iload 4, 2) := by decide +kernel
theorem dX11_makePack_149 : decode cX11_makePack 149 = .ok (.iload 6, 2) := by decide +kernel
theorem dX11_makePack_151 : decode cX11_makePack 151 = .ok (.aload_n 0, 1) := by decide +kernel
theorem dX11_makePack_152 : decode cX11_makePack 152 = .ok (.getfield 44, 3) := by decide +kernel
theorem dX11_makePack_155 : decode cX11_makePack 155 = .ok (.iconst 0, 1) := by decide +kernel
theorem dX11_makePack_156 : decode cX11_makePack 156 = .ok (.iaload, 1) := by decide +kernel
theorem dX11_makePack_157 : decode cX11_makePack 157 = .ok (.aload_n 0, 1) := by decide +kernel
theorem dX11_makePack_158 : decode cX11_makePack 158 = .ok (.getfield 44, 3) := by decide +kernel
theorem dX11_makePack_161 : decode cX11_makePack 161 = .ok (.iconst 2, 1) := by decide +kernel
theorem dX11_makePack_162 : decode cX11_makePack 162 = .ok (.iaload, 1) := by decide +kernel
theorem dX11_makePack_163 : decode cX11_makePack 163 = .ok (.invokevirtual 289, 3) := by decide +kernel
theorem dX11_makePack_166 : decode cX11_makePack 166 = .ok (.ifCond .eq 60, 3) := by decide +kernel
theorem dX11_makePack_169 : decode cX11_makePack 169 = .ok (.aload_n 0, 1) := by decide +kernel
theorem dX11_makePack_170 : decode cX11_makePack 170 = .ok (.iload 4, 2) := by decide +kernel
theorem dX11_makePack_172 : decode cX11_makePack 172 = .ok (.iload 7, 2) := by decide +kernel
theorem dX11_makePack_174 : decode cX11_makePack 174 = .ok (.aload_n 0, 1) := by decide +kernel
theorem dX11_makePack_175 : decode cX11_makePack 175 = .ok (.getfield 44, 3) := by decide +kernel
theorem dX11_makePack_178 : decode cX11_makePack 178 = .ok (.iconst 1, 1) := by decide +kernel
theorem dX11_makePack_179 : decode cX11_makePack 179 = .ok (.iaload, 1) := by decide +kernel
theorem dX11_makePack_180 : decode cX11_makePack 180 = .ok (.aload_n 0, 1) := by decide +kernel
theorem dX11_makePack_181 : decode cX11_makePack 181 = .ok (.getfield 44, 3) := by decide +kernel
theorem dX11_makePack_184 : decode cX11_makePack 184 = .ok (.iconst 3, 1) := by decide +kernel
theorem dX11_makePack_185 : decode cX11_makePack 185 = .ok (.iaload, 1) := by decide +kernel
theorem dX11_makePack_186 : decode cX11_makePack 186 = .ok (.invokevirtual 289, 3) := by decide +kernel
theorem dX11_makePack_189 : decode cX11_makePack 189 = .ok (.ifCond .eq 37, 3) := by decide +kernel
theorem dX11_makePack_192 : decode cX11_makePack 192 = .ok (.aload_n 0, 1) := by decide +kernel
theorem dX11_makePack_193 : decode cX11_makePack 193 = .ok (.iload_n 3, 1) := by decide +kernel
theorem dX11_makePack_194 : decode cX11_makePack 194 = .ok (.iload 4, 2) := by decide +kernel
theorem dX11_makePack_196 : decode cX11_makePack 196 = .ok (.iload 6, 2) := by decide +kernel
theorem dX11_makePack_198 : decode cX11_makePack 198 = .ok (.iload 7, 2) := by decide +kernel
theorem dX11_makePack_200 : decode cX11_makePack 200 = .ok (.invokevirtual 264, 3) := by decide +kernel
theorem dX11_makePack_203 : decode cX11_makePack 203 = .ok (.aload_n 0, 1) := by decide +kernel
theorem dX11_makePack_204 : decode cX11_makePack 204 = .ok (.getfield 240, 3) := by decide +kernel
theorem dX11_makePack_207 : decode cX11_makePack 207 = .ok (.ifCond .le 19, 3) := by decide +kernel
theorem dX11_makePack_210 : decode cX11_makePack 210 = .ok (.aload_n 0, 1) := by decide +kernel
theorem dX11_makePack_211 : decode cX11_makePack 211 = .ok (.iload_n 1, 1) := by decide +kernel
theorem dX11_makePack_212 : decode cX11_makePack 212 = .ok (.iload 4, 2) := by decide +kernel
theorem dX11_makePack_214 : decode cX11_makePack 214 = .ok (.iload 6, 2) := by decide +kernel
theorem dX11_makePack_216 : decode cX11_makePack 216 = .ok (.iload 7, 2) := by decide +kernel
theorem dX11_makePack_218 : decode cX11_makePack 218 = .ok (.invokevirtual 292, 3) := by decide +kernel
theorem dX11_makePack_221 : decode cX11_makePack 221 = .ok (.ifCond .ne 5, 3) := by decide +kernel
theorem dX11_makePack_224 : decode cX11_makePack 224 = .ok (.iconst 0, 1) := by decide +kernel
theorem dX11_makePack_225 : decode cX11_makePack 225 = .ok (.ireturn, 1) := by decide +kernel
theorem dX11_makePack_226 : decode cX11_makePack 226 = .ok (.iinc 5 1, 3) := by decide +kernel
theorem dX11_makePack_229 : decode cX11_makePack 229 = .ok (.goto (-152), 3) := by decide +kernel
theorem dX11_makePack_232 : decode cX11_makePack 232 = .ok (.iinc 4 1, 3) := by decide +kernel
theorem dX11_makePack_235 : decode cX11_makePack 235 = .ok (.goto (-172), 3) := by decide +kernel
theorem dX11_makePack_238 : decode cX11_makePack 238 = .ok (.aload_n 0, 1) := by decide +kernel
theorem dX11_makePack_239 : decode cX11_makePack 239 = .ok (.iload_n 1, 1) := by decide +kernel
theorem dX11_makePack_240 : decode cX11_makePack 240 = .ok (.iload_n 3, 1) := by decide +kernel
theorem dX11_makePack_241 : decode cX11_makePack 241 = .ok (.invokevirtual 295, 3) := by decide +kernel
theorem dX11_makePack_244 : decode cX11_makePack 244 = .ok (.aload_n 0, 1) := by decide +kernel
theorem dX11_makePack_245 : decode cX11_makePack 245 = .ok (.getfield 47, 3) := by decide +kernel
theorem dX11_makePack_248 : decode cX11_makePack 248 = .ok (.iload_n 1, 1) := by decide +kernel
theorem dX11_makePack_249 : decode cX11_makePack 249 = .ok (.iconst 1, 1) := by decide +kernel
theorem dX11_makePack_250 : decode cX11_makePack 250 = .ok (.bastore, 1) := by decide +kernel
theorem dX11_makePack_251 : decode cX11_makePack 251 = .ok (.iconst 1, 1) := by decide +kernel
theorem dX11_makePack_252 : decode cX11_makePack 252 = .ok (.ireturn, 1) := by decide +kernel
def tb_160 (pc : Nat) : Option mEnt := bif Nat.ble pc 118 then (bif Nat.ble pc 54 then (bif Nat.ble pc 25 then (bif Nat.ble pc 12 then (bif Nat.ble pc 5 then (bif Nat.ble pc 1 then (bif Nat.ble pc 0 then (bif Nat.beq pc 0 then some (.inl (o_al 0 1)) else none) else (bif Nat.beq pc 1 then some (.inl (o_il 2 1)) else none)) else (bif Nat.ble pc 2 then (bif Nat.beq pc 2 then some (.inr (3, 130, 2, 11)) else none) else (bif Nat.beq pc 5 then some (.inl (o_is 3 1)) else none))) else (bif Nat.ble pc 7 then (bif Nat.ble pc 6 then (bif Nat.beq pc 6 then some (.inl (o_al 0 1)) else none) else (bif Nat.beq pc 7 then some (.inl (o_gP 11 20)) else none)) else (bif Nat.ble pc 10 then (bif Nat.beq pc 10 then some (.inl (o_il 1 1)) else none) else (bif Nat.ble pc 11 then (bif Nat.beq pc 11 then some (.inl (oS 1 (s_push (.int 0)))) else none) else (bif Nat.beq pc 12 then some (.inl (o_iast)) else none))))) else (bif Nat.ble pc 18 then (bif Nat.ble pc 14 then (bif Nat.ble pc 13 then (bif Nat.beq pc 13 then some (.inl (o_al 0 1)) else none) else (bif Nat.beq pc 14 then some (.inl (o_gP 11 27)) else none)) else (bif Nat.ble pc 17 then (bif Nat.beq pc 17 then some (.inl (o_il 1 1)) else none) else (bif Nat.beq pc 18 then some (.inl (oS 1 (s_push (.int 0)))) else none))) else (bif Nat.ble pc 20 then (bif Nat.ble pc 19 then (bif Nat.beq pc 19 then some (.inl (o_iast)) else none) else (bif Nat.beq pc 20 then some (.inl (o_al 0 1)) else none)) else (bif Nat.ble pc 21 then (bif Nat.beq pc 21 then some (.inl (o_gP 11 18)) else none) else (bif Nat.ble pc 24 then (bif Nat.beq pc 24 then some (.inl (o_il 1 1)) else none) else (bif Nat.beq pc 25 then some (.inl (o_il 2 1)) else none)))))) else (bif Nat.ble pc 40 then (bif Nat.ble pc 30 then (bif Nat.ble pc 27 then (bif Nat.ble pc 26 then (bif Nat.beq pc 26 then some (.inl (o_iast)) else none) else (bif Nat.beq pc 27 then some (.inl (oS 1 (s_push (.int 0)))) else none)) else (bif Nat.ble pc 28 then (bif Nat.beq pc 28 then some (.inl (o_is 4 2)) else none) else (bif Nat.beq pc 30 then some (.inl (o_il 4 2)) else none))) else (bif Nat.ble pc 33 then (bif Nat.ble pc 32 then (bif Nat.beq pc 32 then some (.inl (oS 1 (s_push (.int 5)))) else none) else (bif Nat.beq pc 33 then some (.inl (o_cge 60)) else none)) else (bif Nat.ble pc 36 then (bif Nat.beq pc 36 then some (.inl (o_al 0 1)) else none) else (bif Nat.ble pc 37 then (bif Nat.beq pc 37 then some (.inl (o_gP 11 19)) else none) else (bif Nat.beq pc 40 then some (.inl (oS 1 (s_push (.int 5)))) else none))))) else (bif Nat.ble pc 46 then (bif Nat.ble pc 42 then (bif Nat.ble pc 41 then (bif Nat.beq pc 41 then some (.inl (o_il 1 1)) else none) else (bif Nat.beq pc 42 then some (.inl (oS 1 (s_ii (fun a b => a * b)))) else none)) else (bif Nat.ble pc 43 then (bif Nat.beq pc 43 then some (.inl (o_il 4 2)) else none) else (bif Nat.ble pc 45 then (bif Nat.beq pc 45 then some (.inl (oS 1 (s_ii (fun a b => a + b)))) else none) else (bif Nat.beq pc 46 then some (.inl (o_al 0 1)) else none)))) else (bif Nat.ble pc 50 then (bif Nat.ble pc 47 then (bif Nat.beq pc 47 then some (.inl (o_gP 11 14)) else none) else (bif Nat.beq pc 50 then some (.inl (o_il 4 2)) else none)) else (bif Nat.ble pc 52 then (bif Nat.beq pc 52 then some (.inl (o_iald)) else none) else (bif Nat.ble pc 53 then (bif Nat.beq pc 53 then some (.inl (o_iast)) else none) else (bif Nat.beq pc 54 then some (.inl (o_inc 4 1)) else none))))))) else (bif Nat.ble pc 88 then (bif Nat.ble pc 71 then (bif Nat.ble pc 63 then (bif Nat.ble pc 60 then (bif Nat.ble pc 57 then (bif Nat.beq pc 57 then some (.inl (o_goto 30)) else none) else (bif Nat.beq pc 60 then some (.inl (oS 1 (s_push (.int 0)))) else none)) else (bif Nat.ble pc 61 then (bif Nat.beq pc 61 then some (.inl (o_is 4 2)) else none) else (bif Nat.beq pc 63 then some (.inl (o_il 4 2)) else none))) else (bif Nat.ble pc 66 then (bif Nat.ble pc 65 then (bif Nat.beq pc 65 then some (.inl (o_al 0 1)) else none) else (bif Nat.beq pc 66 then some (.inl (o_gP 11 14)) else none)) else (bif Nat.ble pc 69 then (bif Nat.beq pc 69 then some (.inl (oS 1 (s_push (.int 4)))) else none) else (bif Nat.ble pc 70 then (bif Nat.beq pc 70 then some (.inl (o_iald)) else none) else (bif Nat.beq pc 71 then some (.inl (o_cgt 238)) else none))))) else (bif Nat.ble pc 80 then (bif Nat.ble pc 75 then (bif Nat.ble pc 74 then (bif Nat.beq pc 74 then some (.inl (oS 1 (s_push (.int 0)))) else none) else (bif Nat.beq pc 75 then some (.inl (o_is 5 2)) else none)) else (bif Nat.ble pc 77 then (bif Nat.beq pc 77 then some (.inl (o_il 5 2)) else none) else (bif Nat.ble pc 79 then (bif Nat.beq pc 79 then some (.inl (oS 1 (s_push (.int 1)))) else none) else (bif Nat.beq pc 80 then some (.inl (oS 1 (s_push (.int 2)))) else none)))) else (bif Nat.ble pc 83 then (bif Nat.ble pc 81 then (bif Nat.beq pc 81 then some (.inl (o_il 4 2)) else none) else (bif Nat.beq pc 83 then some (.inl (oS 1 (s_ii (fun a b => a * b)))) else none)) else (bif Nat.ble pc 84 then (bif Nat.beq pc 84 then some (.inl (oS 1 (s_ii (fun a b => a <<< (b &&& 31))))) else none) else (bif Nat.ble pc 85 then (bif Nat.beq pc 85 then some (.inl (o_cge 232)) else none) else (bif Nat.beq pc 88 then some (.inl (oS 1 (s_push (.int 0)))) else none)))))) else (bif Nat.ble pc 104 then (bif Nat.ble pc 94 then (bif Nat.ble pc 91 then (bif Nat.ble pc 89 then (bif Nat.beq pc 89 then some (.inl (o_is 6 2)) else none) else (bif Nat.beq pc 91 then some (.inl (oS 1 (s_push (.int 0)))) else none)) else (bif Nat.ble pc 92 then (bif Nat.beq pc 92 then some (.inl (o_is 7 2)) else none) else (bif Nat.beq pc 94 then some (.inl (oS 1 (s_push (.int 0)))) else none))) else (bif Nat.ble pc 97 then (bif Nat.ble pc 95 then (bif Nat.beq pc 95 then some (.inl (o_is 8 2)) else none) else (bif Nat.beq pc 97 then some (.inl (o_il 8 2)) else none)) else (bif Nat.ble pc 99 then (bif Nat.beq pc 99 then some (.inl (o_il 4 2)) else none) else (bif Nat.ble pc 101 then (bif Nat.beq pc 101 then some (.inl (o_cge 146)) else none) else (bif Nat.beq pc 104 then some (.inl (o_il 6 2)) else none))))) else (bif Nat.ble pc 112 then (bif Nat.ble pc 108 then (bif Nat.ble pc 106 then (bif Nat.beq pc 106 then some (.inl (o_il 5 2)) else none) else (bif Nat.beq pc 108 then some (.inl (oS 1 (s_push (.int 2)))) else none)) else (bif Nat.ble pc 109 then (bif Nat.beq pc 109 then some (.inl (o_il 8 2)) else none) else (bif Nat.ble pc 111 then (bif Nat.beq pc 111 then some (.inl (oS 1 (s_ii (fun a b => a * b)))) else none) else (bif Nat.beq pc 112 then some (.inl (oS 1 (s_ii (fun a b => a >>> (b &&& 31))))) else none)))) else (bif Nat.ble pc 114 then (bif Nat.ble pc 113 then (bif Nat.beq pc 113 then some (.inl (oS 1 (s_push (.int 1)))) else none) else (bif Nat.beq pc 114 then some (.inl (oS 1 (s_ii (fun a b => a &&& b)))) else none)) else (bif Nat.ble pc 115 then (bif Nat.beq pc 115 then some (.inl (o_il 8 2)) else none) else (bif Nat.ble pc 117 then (bif Nat.beq pc 117 then some (.inl (oS 1 (s_ii (fun a b => a <<< (b &&& 31))))) else none) else (bif Nat.beq pc 118 then some (.inl (oS 1 (s_ii (fun a b => a ||| b)))) else none)))))))) else (bif Nat.ble pc 180 then (bif Nat.ble pc 147 then (bif Nat.ble pc 131 then (bif Nat.ble pc 125 then (bif Nat.ble pc 121 then (bif Nat.ble pc 119 then (bif Nat.beq pc 119 then some (.inl (o_is 6 2)) else none) else (bif Nat.beq pc 121 then some (.inl (o_il 7 2)) else none)) else (bif Nat.ble pc 123 then (bif Nat.beq pc 123 then some (.inl (o_il 5 2)) else none) else (bif Nat.beq pc 125 then some (.inl (oS 1 (s_push (.int 2)))) else none))) else (bif Nat.ble pc 128 then (bif Nat.ble pc 126 then (bif Nat.beq pc 126 then some (.inl (o_il 8 2)) else none) else (bif Nat.beq pc 128 then some (.inl (oS 1 (s_ii (fun a b => a * b)))) else none)) else (bif Nat.ble pc 129 then (bif Nat.beq pc 129 then some (.inl (oS 1 (s_push (.int 1)))) else none) else (bif Nat.ble pc 130 then (bif Nat.beq pc 130 then some (.inl (oS 1 (s_ii (fun a b => a + b)))) else none) else (bif Nat.beq pc 131 then some (.inl (oS 1 (s_ii (fun a b => a >>> (b &&& 31))))) else none))))) else (bif Nat.ble pc 137 then (bif Nat.ble pc 133 then (bif Nat.ble pc 132 then (bif Nat.beq pc 132 then some (.inl (oS 1 (s_push (.int 1)))) else none) else (bif Nat.beq pc 133 then some (.inl (oS 1 (s_ii (fun a b => a &&& b)))) else none)) else (bif Nat.ble pc 134 then (bif Nat.beq pc 134 then some (.inl (o_il 8 2)) else none) else (bif Nat.ble pc 136 then (bif Nat.beq pc 136 then some (.inl (oS 1 (s_ii (fun a b => a <<< (b &&& 31))))) else none) else (bif Nat.beq pc 137 then some (.inl (oS 1 (s_ii (fun a b => a ||| b)))) else none)))) else (bif Nat.ble pc 140 then (bif Nat.ble pc 138 then (bif Nat.beq pc 138 then some (.inl (o_is 7 2)) else none) else (bif Nat.beq pc 140 then some (.inl (o_inc 8 1)) else none)) else (bif Nat.ble pc 143 then (bif Nat.beq pc 143 then some (.inl (o_goto 97)) else none) else (bif Nat.ble pc 146 then (bif Nat.beq pc 146 then some (.inl (o_al 0 1)) else none) else (bif Nat.beq pc 147 then some (.inl (o_il 4 2)) else none)))))) else (bif Nat.ble pc 162 then (bif Nat.ble pc 155 then (bif Nat.ble pc 151 then (bif Nat.ble pc 149 then (bif Nat.beq pc 149 then some (.inl (o_il 6 2)) else none) else (bif Nat.beq pc 151 then some (.inl (o_al 0 1)) else none)) else (bif Nat.ble pc 152 then (bif Nat.beq pc 152 then some (.inl (o_gP 11 14)) else none) else (bif Nat.beq pc 155 then some (.inl (oS 1 (s_push (.int 0)))) else none))) else (bif Nat.ble pc 157 then (bif Nat.ble pc 156 then (bif Nat.beq pc 156 then some (.inl (o_iald)) else none) else (bif Nat.beq pc 157 then some (.inl (o_al 0 1)) else none)) else (bif Nat.ble pc 158 then (bif Nat.beq pc 158 then some (.inl (o_gP 11 14)) else none) else (bif Nat.ble pc 161 then (bif Nat.beq pc 161 then some (.inl (oS 1 (s_push (.int 2)))) else none) else (bif Nat.beq pc 162 then some (.inl (o_iald)) else none))))) else (bif Nat.ble pc 172 then (bif Nat.ble pc 166 then (bif Nat.ble pc 163 then (bif Nat.beq pc 163 then some (.inr (3, 156, 5, 11)) else none) else (bif Nat.beq pc 166 then some (.inl (o_zeq 226)) else none)) else (bif Nat.ble pc 169 then (bif Nat.beq pc 169 then some (.inl (o_al 0 1)) else none) else (bif Nat.ble pc 170 then (bif Nat.beq pc 170 then some (.inl (o_il 4 2)) else none) else (bif Nat.beq pc 172 then some (.inl (o_il 7 2)) else none)))) else (bif Nat.ble pc 175 then (bif Nat.ble pc 174 then (bif Nat.beq pc 174 then some (.inl (o_al 0 1)) else none) else (bif Nat.beq pc 175 then some (.inl (o_gP 11 14)) else none)) else (bif Nat.ble pc 178 then (bif Nat.beq pc 178 then some (.inl (oS 1 (s_push (.int 1)))) else none) else (bif Nat.ble pc 179 then (bif Nat.beq pc 179 then some (.inl (o_iald)) else none) else (bif Nat.beq pc 180 then some (.inl (o_al 0 1)) else none))))))) else (bif Nat.ble pc 216 then (bif Nat.ble pc 196 then (bif Nat.ble pc 186 then (bif Nat.ble pc 184 then (bif Nat.ble pc 181 then (bif Nat.beq pc 181 then some (.inl (o_gP 11 14)) else none) else (bif Nat.beq pc 184 then some (.inl (oS 1 (s_push (.int 3)))) else none)) else (bif Nat.ble pc 185 then (bif Nat.beq pc 185 then some (.inl (o_iald)) else none) else (bif Nat.beq pc 186 then some (.inr (3, 156, 5, 11)) else none))) else (bif Nat.ble pc 192 then (bif Nat.ble pc 189 then (bif Nat.beq pc 189 then some (.inl (o_zeq 226)) else none) else (bif Nat.beq pc 192 then some (.inl (o_al 0 1)) else none)) else (bif Nat.ble pc 193 then (bif Nat.beq pc 193 then some (.inl (o_il 3 1)) else none) else (bif Nat.ble pc 194 then (bif Nat.beq pc 194 then some (.inl (o_il 4 2)) else none) else (bif Nat.beq pc 196 then some (.inl (o_il 6 2)) else none))))) else (bif Nat.ble pc 207 then (bif Nat.ble pc 200 then (bif Nat.ble pc 198 then (bif Nat.beq pc 198 then some (.inl (o_il 7 2)) else none) else (bif Nat.beq pc 200 then some (.inr (3, 149, 5, 11)) else none)) else (bif Nat.ble pc 203 then (bif Nat.beq pc 203 then some (.inl (o_al 0 1)) else none) else (bif Nat.ble pc 204 then (bif Nat.beq pc 204 then some (.inl (o_gI 11 37)) else none) else (bif Nat.beq pc 207 then some (.inl (o_zle 226)) else none)))) else (bif Nat.ble pc 211 then (bif Nat.ble pc 210 then (bif Nat.beq pc 210 then some (.inl (o_al 0 1)) else none) else (bif Nat.beq pc 211 then some (.inl (o_il 1 1)) else none)) else (bif Nat.ble pc 212 then (bif Nat.beq pc 212 then some (.inl (o_il 4 2)) else none) else (bif Nat.ble pc 214 then (bif Nat.beq pc 214 then some (.inl (o_il 6 2)) else none) else (bif Nat.beq pc 216 then some (.inl (o_il 7 2)) else none)))))) else (bif Nat.ble pc 238 then (bif Nat.ble pc 225 then (bif Nat.ble pc 221 then (bif Nat.ble pc 218 then (bif Nat.beq pc 218 then some (.inr (3, 158, 5, 11)) else none) else (bif Nat.beq pc 221 then some (.inl (o_zne 226)) else none)) else (bif Nat.ble pc 224 then (bif Nat.beq pc 224 then some (.inl (oS 1 (s_push (.int 0)))) else none) else (bif Nat.beq pc 225 then some (.inr (0, 0, 0, 4)) else none))) else (bif Nat.ble pc 229 then (bif Nat.ble pc 226 then (bif Nat.beq pc 226 then some (.inl (o_inc 5 1)) else none) else (bif Nat.beq pc 229 then some (.inl (o_goto 77)) else none)) else (bif Nat.ble pc 232 then (bif Nat.beq pc 232 then some (.inl (o_inc 4 1)) else none) else (bif Nat.ble pc 235 then (bif Nat.beq pc 235 then some (.inl (o_goto 63)) else none) else (bif Nat.beq pc 238 then some (.inl (o_al 0 1)) else none))))) else (bif Nat.ble pc 245 then (bif Nat.ble pc 240 then (bif Nat.ble pc 239 then (bif Nat.beq pc 239 then some (.inl (o_il 1 1)) else none) else (bif Nat.beq pc 240 then some (.inl (o_il 3 1)) else none)) else (bif Nat.ble pc 241 then (bif Nat.beq pc 241 then some (.inr (3, 159, 3, 11)) else none) else (bif Nat.ble pc 244 then (bif Nat.beq pc 244 then some (.inl (o_al 0 1)) else none) else (bif Nat.beq pc 245 then some (.inl (o_gP 11 17)) else none)))) else (bif Nat.ble pc 249 then (bif Nat.ble pc 248 then (bif Nat.beq pc 248 then some (.inl (o_il 1 1)) else none) else (bif Nat.beq pc 249 then some (.inl (oS 1 (s_push (.int 1)))) else none)) else (bif Nat.ble pc 250 then (bif Nat.beq pc 250 then some (.inl (o_bast)) else none) else (bif Nat.ble pc 251 then (bif Nat.beq pc 251 then some (.inl (oS 1 (s_push (.int 1)))) else none) else (bif Nat.beq pc 252 then some (.inr (0, 0, 0, 4)) else none))))))))
theorem k_160_0 : mOk M_160.1 M_160.2.1 M_160.2.2.1 M_160.2.2.2 0 (o_al 0 1) := ok_aload_n dX11_makePack_0 rfl
theorem k_160_1 : mOk M_160.1 M_160.2.1 M_160.2.2.1 M_160.2.2.2 1 (o_il 2 1) := ok_iload_n dX11_makePack_1 rfl
theorem k_160_5 : mOk M_160.1 M_160.2.1 M_160.2.2.1 M_160.2.2.2 5 (o_is 3 1) := ok_istore_n dX11_makePack_5 rfl
theorem k_160_6 : mOk M_160.1 M_160.2.1 M_160.2.2.1 M_160.2.2.2 6 (o_al 0 1) := ok_aload_n dX11_makePack_6 rfl
theorem k_160_7 : mOk M_160.1 M_160.2.1 M_160.2.2.1 M_160.2.2.2 7 (o_gP 11 20) := ok_gP dX11_makePack_7 f_RX11_57 rfl
theorem k_160_10 : mOk M_160.1 M_160.2.1 M_160.2.2.1 M_160.2.2.2 10 (o_il 1 1) := ok_iload_n dX11_makePack_10 rfl
theorem k_160_11 : mOk M_160.1 M_160.2.1 M_160.2.2.1 M_160.2.2.2 11 (oS 1 (s_push (.int 0))) := ok_iconst dX11_makePack_11 (by decide)
theorem k_160_12 : mOk M_160.1 M_160.2.1 M_160.2.2.1 M_160.2.2.2 12 (o_iast) := ok_iast dX11_makePack_12
theorem k_160_13 : mOk M_160.1 M_160.2.1 M_160.2.2.1 M_160.2.2.2 13 (o_al 0 1) := ok_aload_n dX11_makePack_13 rfl
theorem k_160_14 : mOk M_160.1 M_160.2.1 M_160.2.2.1 M_160.2.2.2 14 (o_gP 11 27) := ok_gP dX11_makePack_14 f_RX11_78 rfl
theorem k_160_17 : mOk M_160.1 M_160.2.1 M_160.2.2.1 M_160.2.2.2 17 (o_il 1 1) := ok_iload_n dX11_makePack_17 rfl
theorem k_160_18 : mOk M_160.1 M_160.2.1 M_160.2.2.1 M_160.2.2.2 18 (oS 1 (s_push (.int 0))) := ok_iconst dX11_makePack_18 (by decide)
theorem k_160_19 : mOk M_160.1 M_160.2.1 M_160.2.2.1 M_160.2.2.2 19 (o_iast) := ok_iast dX11_makePack_19
theorem k_160_20 : mOk M_160.1 M_160.2.1 M_160.2.2.1 M_160.2.2.2 20 (o_al 0 1) := ok_aload_n dX11_makePack_20 rfl
theorem k_160_21 : mOk M_160.1 M_160.2.1 M_160.2.2.1 M_160.2.2.2 21 (o_gP 11 18) := ok_gP dX11_makePack_21 f_RX11_51 rfl
theorem k_160_24 : mOk M_160.1 M_160.2.1 M_160.2.2.1 M_160.2.2.2 24 (o_il 1 1) := ok_iload_n dX11_makePack_24 rfl
theorem k_160_25 : mOk M_160.1 M_160.2.1 M_160.2.2.1 M_160.2.2.2 25 (o_il 2 1) := ok_iload_n dX11_makePack_25 rfl
theorem k_160_26 : mOk M_160.1 M_160.2.1 M_160.2.2.1 M_160.2.2.2 26 (o_iast) := ok_iast dX11_makePack_26
theorem k_160_27 : mOk M_160.1 M_160.2.1 M_160.2.2.1 M_160.2.2.2 27 (oS 1 (s_push (.int 0))) := ok_iconst dX11_makePack_27 (by decide)
theorem k_160_28 : mOk M_160.1 M_160.2.1 M_160.2.2.1 M_160.2.2.2 28 (o_is 4 2) := ok_istore dX11_makePack_28
theorem k_160_30 : mOk M_160.1 M_160.2.1 M_160.2.2.1 M_160.2.2.2 30 (o_il 4 2) := ok_iload dX11_makePack_30
theorem k_160_32 : mOk M_160.1 M_160.2.1 M_160.2.2.1 M_160.2.2.2 32 (oS 1 (s_push (.int 5))) := ok_iconst dX11_makePack_32 (by decide)
theorem k_160_33 : mOk M_160.1 M_160.2.1 M_160.2.2.1 M_160.2.2.2 33 (o_cge 60) := ok_cge dX11_makePack_33 (by decide)
theorem k_160_36 : mOk M_160.1 M_160.2.1 M_160.2.2.1 M_160.2.2.2 36 (o_al 0 1) := ok_aload_n dX11_makePack_36 rfl
theorem k_160_37 : mOk M_160.1 M_160.2.1 M_160.2.2.1 M_160.2.2.2 37 (o_gP 11 19) := ok_gP dX11_makePack_37 f_RX11_54 rfl
theorem k_160_40 : mOk M_160.1 M_160.2.1 M_160.2.2.1 M_160.2.2.2 40 (oS 1 (s_push (.int 5))) := ok_iconst dX11_makePack_40 (by decide)
theorem k_160_41 : mOk M_160.1 M_160.2.1 M_160.2.2.1 M_160.2.2.2 41 (o_il 1 1) := ok_iload_n dX11_makePack_41 rfl
theorem k_160_42 : mOk M_160.1 M_160.2.1 M_160.2.2.1 M_160.2.2.2 42 (oS 1 (s_ii (fun a b => a * b))) := ok_imul dX11_makePack_42
theorem k_160_43 : mOk M_160.1 M_160.2.1 M_160.2.2.1 M_160.2.2.2 43 (o_il 4 2) := ok_iload dX11_makePack_43
theorem k_160_45 : mOk M_160.1 M_160.2.1 M_160.2.2.1 M_160.2.2.2 45 (oS 1 (s_ii (fun a b => a + b))) := ok_iadd dX11_makePack_45
theorem k_160_46 : mOk M_160.1 M_160.2.1 M_160.2.2.1 M_160.2.2.2 46 (o_al 0 1) := ok_aload_n dX11_makePack_46 rfl
theorem k_160_47 : mOk M_160.1 M_160.2.1 M_160.2.2.1 M_160.2.2.2 47 (o_gP 11 14) := ok_gP dX11_makePack_47 f_RX11_44 rfl
theorem k_160_50 : mOk M_160.1 M_160.2.1 M_160.2.2.1 M_160.2.2.2 50 (o_il 4 2) := ok_iload dX11_makePack_50
theorem k_160_52 : mOk M_160.1 M_160.2.1 M_160.2.2.1 M_160.2.2.2 52 (o_iald) := ok_iald dX11_makePack_52
theorem k_160_53 : mOk M_160.1 M_160.2.1 M_160.2.2.1 M_160.2.2.2 53 (o_iast) := ok_iast dX11_makePack_53
theorem k_160_54 : mOk M_160.1 M_160.2.1 M_160.2.2.1 M_160.2.2.2 54 (o_inc 4 1) := ok_iinc dX11_makePack_54 (by decide)
theorem k_160_57 : mOk M_160.1 M_160.2.1 M_160.2.2.1 M_160.2.2.2 57 (o_goto 30) := ok_goto dX11_makePack_57 (by decide)
theorem k_160_60 : mOk M_160.1 M_160.2.1 M_160.2.2.1 M_160.2.2.2 60 (oS 1 (s_push (.int 0))) := ok_iconst dX11_makePack_60 (by decide)
theorem k_160_61 : mOk M_160.1 M_160.2.1 M_160.2.2.1 M_160.2.2.2 61 (o_is 4 2) := ok_istore dX11_makePack_61
theorem k_160_63 : mOk M_160.1 M_160.2.1 M_160.2.2.1 M_160.2.2.2 63 (o_il 4 2) := ok_iload dX11_makePack_63
theorem k_160_65 : mOk M_160.1 M_160.2.1 M_160.2.2.1 M_160.2.2.2 65 (o_al 0 1) := ok_aload_n dX11_makePack_65 rfl
theorem k_160_66 : mOk M_160.1 M_160.2.1 M_160.2.2.1 M_160.2.2.2 66 (o_gP 11 14) := ok_gP dX11_makePack_66 f_RX11_44 rfl
theorem k_160_69 : mOk M_160.1 M_160.2.1 M_160.2.2.1 M_160.2.2.2 69 (oS 1 (s_push (.int 4))) := ok_iconst dX11_makePack_69 (by decide)
theorem k_160_70 : mOk M_160.1 M_160.2.1 M_160.2.2.1 M_160.2.2.2 70 (o_iald) := ok_iald dX11_makePack_70
theorem k_160_71 : mOk M_160.1 M_160.2.1 M_160.2.2.1 M_160.2.2.2 71 (o_cgt 238) := ok_cgt dX11_makePack_71 (by decide)
theorem k_160_74 : mOk M_160.1 M_160.2.1 M_160.2.2.1 M_160.2.2.2 74 (oS 1 (s_push (.int 0))) := ok_iconst dX11_makePack_74 (by decide)
theorem k_160_75 : mOk M_160.1 M_160.2.1 M_160.2.2.1 M_160.2.2.2 75 (o_is 5 2) := ok_istore dX11_makePack_75
theorem k_160_77 : mOk M_160.1 M_160.2.1 M_160.2.2.1 M_160.2.2.2 77 (o_il 5 2) := ok_iload dX11_makePack_77
theorem k_160_79 : mOk M_160.1 M_160.2.1 M_160.2.2.1 M_160.2.2.2 79 (oS 1 (s_push (.int 1))) := ok_iconst dX11_makePack_79 (by decide)
theorem k_160_80 : mOk M_160.1 M_160.2.1 M_160.2.2.1 M_160.2.2.2 80 (oS 1 (s_push (.int 2))) := ok_iconst dX11_makePack_80 (by decide)
theorem k_160_81 : mOk M_160.1 M_160.2.1 M_160.2.2.1 M_160.2.2.2 81 (o_il 4 2) := ok_iload dX11_makePack_81
theorem k_160_83 : mOk M_160.1 M_160.2.1 M_160.2.2.1 M_160.2.2.2 83 (oS 1 (s_ii (fun a b => a * b))) := ok_imul dX11_makePack_83
theorem k_160_84 : mOk M_160.1 M_160.2.1 M_160.2.2.1 M_160.2.2.2 84 (oS 1 (s_ii (fun a b => a <<< (b &&& 31)))) := ok_ishl dX11_makePack_84
theorem k_160_85 : mOk M_160.1 M_160.2.1 M_160.2.2.1 M_160.2.2.2 85 (o_cge 232) := ok_cge dX11_makePack_85 (by decide)
theorem k_160_88 : mOk M_160.1 M_160.2.1 M_160.2.2.1 M_160.2.2.2 88 (oS 1 (s_push (.int 0))) := ok_iconst dX11_makePack_88 (by decide)
theorem k_160_89 : mOk M_160.1 M_160.2.1 M_160.2.2.1 M_160.2.2.2 89 (o_is 6 2) := ok_istore dX11_makePack_89
theorem k_160_91 : mOk M_160.1 M_160.2.1 M_160.2.2.1 M_160.2.2.2 91 (oS 1 (s_push (.int 0))) := ok_iconst dX11_makePack_91 (by decide)
theorem k_160_92 : mOk M_160.1 M_160.2.1 M_160.2.2.1 M_160.2.2.2 92 (o_is 7 2) := ok_istore dX11_makePack_92
theorem k_160_94 : mOk M_160.1 M_160.2.1 M_160.2.2.1 M_160.2.2.2 94 (oS 1 (s_push (.int 0))) := ok_iconst dX11_makePack_94 (by decide)
theorem k_160_95 : mOk M_160.1 M_160.2.1 M_160.2.2.1 M_160.2.2.2 95 (o_is 8 2) := ok_istore dX11_makePack_95
theorem k_160_97 : mOk M_160.1 M_160.2.1 M_160.2.2.1 M_160.2.2.2 97 (o_il 8 2) := ok_iload dX11_makePack_97
theorem k_160_99 : mOk M_160.1 M_160.2.1 M_160.2.2.1 M_160.2.2.2 99 (o_il 4 2) := ok_iload dX11_makePack_99
theorem k_160_101 : mOk M_160.1 M_160.2.1 M_160.2.2.1 M_160.2.2.2 101 (o_cge 146) := ok_cge dX11_makePack_101 (by decide)
theorem k_160_104 : mOk M_160.1 M_160.2.1 M_160.2.2.1 M_160.2.2.2 104 (o_il 6 2) := ok_iload dX11_makePack_104
theorem k_160_106 : mOk M_160.1 M_160.2.1 M_160.2.2.1 M_160.2.2.2 106 (o_il 5 2) := ok_iload dX11_makePack_106
theorem k_160_108 : mOk M_160.1 M_160.2.1 M_160.2.2.1 M_160.2.2.2 108 (oS 1 (s_push (.int 2))) := ok_iconst dX11_makePack_108 (by decide)
theorem k_160_109 : mOk M_160.1 M_160.2.1 M_160.2.2.1 M_160.2.2.2 109 (o_il 8 2) := ok_iload dX11_makePack_109
theorem k_160_111 : mOk M_160.1 M_160.2.1 M_160.2.2.1 M_160.2.2.2 111 (oS 1 (s_ii (fun a b => a * b))) := ok_imul dX11_makePack_111
theorem k_160_112 : mOk M_160.1 M_160.2.1 M_160.2.2.1 M_160.2.2.2 112 (oS 1 (s_ii (fun a b => a >>> (b &&& 31)))) := ok_ishr dX11_makePack_112
theorem k_160_113 : mOk M_160.1 M_160.2.1 M_160.2.2.1 M_160.2.2.2 113 (oS 1 (s_push (.int 1))) := ok_iconst dX11_makePack_113 (by decide)
theorem k_160_114 : mOk M_160.1 M_160.2.1 M_160.2.2.1 M_160.2.2.2 114 (oS 1 (s_ii (fun a b => a &&& b))) := ok_iand dX11_makePack_114
theorem k_160_115 : mOk M_160.1 M_160.2.1 M_160.2.2.1 M_160.2.2.2 115 (o_il 8 2) := ok_iload dX11_makePack_115
theorem k_160_117 : mOk M_160.1 M_160.2.1 M_160.2.2.1 M_160.2.2.2 117 (oS 1 (s_ii (fun a b => a <<< (b &&& 31)))) := ok_ishl dX11_makePack_117
theorem k_160_118 : mOk M_160.1 M_160.2.1 M_160.2.2.1 M_160.2.2.2 118 (oS 1 (s_ii (fun a b => a ||| b))) := ok_ior dX11_makePack_118
theorem k_160_119 : mOk M_160.1 M_160.2.1 M_160.2.2.1 M_160.2.2.2 119 (o_is 6 2) := ok_istore dX11_makePack_119
theorem k_160_121 : mOk M_160.1 M_160.2.1 M_160.2.2.1 M_160.2.2.2 121 (o_il 7 2) := ok_iload dX11_makePack_121
theorem k_160_123 : mOk M_160.1 M_160.2.1 M_160.2.2.1 M_160.2.2.2 123 (o_il 5 2) := ok_iload dX11_makePack_123
theorem k_160_125 : mOk M_160.1 M_160.2.1 M_160.2.2.1 M_160.2.2.2 125 (oS 1 (s_push (.int 2))) := ok_iconst dX11_makePack_125 (by decide)
theorem k_160_126 : mOk M_160.1 M_160.2.1 M_160.2.2.1 M_160.2.2.2 126 (o_il 8 2) := ok_iload dX11_makePack_126
theorem k_160_128 : mOk M_160.1 M_160.2.1 M_160.2.2.1 M_160.2.2.2 128 (oS 1 (s_ii (fun a b => a * b))) := ok_imul dX11_makePack_128
theorem k_160_129 : mOk M_160.1 M_160.2.1 M_160.2.2.1 M_160.2.2.2 129 (oS 1 (s_push (.int 1))) := ok_iconst dX11_makePack_129 (by decide)
theorem k_160_130 : mOk M_160.1 M_160.2.1 M_160.2.2.1 M_160.2.2.2 130 (oS 1 (s_ii (fun a b => a + b))) := ok_iadd dX11_makePack_130
theorem k_160_131 : mOk M_160.1 M_160.2.1 M_160.2.2.1 M_160.2.2.2 131 (oS 1 (s_ii (fun a b => a >>> (b &&& 31)))) := ok_ishr dX11_makePack_131
theorem k_160_132 : mOk M_160.1 M_160.2.1 M_160.2.2.1 M_160.2.2.2 132 (oS 1 (s_push (.int 1))) := ok_iconst dX11_makePack_132 (by decide)
theorem k_160_133 : mOk M_160.1 M_160.2.1 M_160.2.2.1 M_160.2.2.2 133 (oS 1 (s_ii (fun a b => a &&& b))) := ok_iand dX11_makePack_133
theorem k_160_134 : mOk M_160.1 M_160.2.1 M_160.2.2.1 M_160.2.2.2 134 (o_il 8 2) := ok_iload dX11_makePack_134
theorem k_160_136 : mOk M_160.1 M_160.2.1 M_160.2.2.1 M_160.2.2.2 136 (oS 1 (s_ii (fun a b => a <<< (b &&& 31)))) := ok_ishl dX11_makePack_136
theorem k_160_137 : mOk M_160.1 M_160.2.1 M_160.2.2.1 M_160.2.2.2 137 (oS 1 (s_ii (fun a b => a ||| b))) := ok_ior dX11_makePack_137
theorem k_160_138 : mOk M_160.1 M_160.2.1 M_160.2.2.1 M_160.2.2.2 138 (o_is 7 2) := ok_istore dX11_makePack_138
theorem k_160_140 : mOk M_160.1 M_160.2.1 M_160.2.2.1 M_160.2.2.2 140 (o_inc 8 1) := ok_iinc dX11_makePack_140 (by decide)
theorem k_160_143 : mOk M_160.1 M_160.2.1 M_160.2.2.1 M_160.2.2.2 143 (o_goto 97) := ok_goto dX11_makePack_143 (by decide)
theorem k_160_146 : mOk M_160.1 M_160.2.1 M_160.2.2.1 M_160.2.2.2 146 (o_al 0 1) := ok_aload_n dX11_makePack_146 rfl
theorem k_160_147 : mOk M_160.1 M_160.2.1 M_160.2.2.1 M_160.2.2.2 147 (o_il 4 2) := ok_iload dX11_makePack_147
theorem k_160_149 : mOk M_160.1 M_160.2.1 M_160.2.2.1 M_160.2.2.2 149 (o_il 6 2) := ok_iload dX11_makePack_149
theorem k_160_151 : mOk M_160.1 M_160.2.1 M_160.2.2.1 M_160.2.2.2 151 (o_al 0 1) := ok_aload_n dX11_makePack_151 rfl
theorem k_160_152 : mOk M_160.1 M_160.2.1 M_160.2.2.1 M_160.2.2.2 152 (o_gP 11 14) := ok_gP dX11_makePack_152 f_RX11_44 rfl
theorem k_160_155 : mOk M_160.1 M_160.2.1 M_160.2.2.1 M_160.2.2.2 155 (oS 1 (s_push (.int 0))) := ok_iconst dX11_makePack_155 (by decide)
theorem k_160_156 : mOk M_160.1 M_160.2.1 M_160.2.2.1 M_160.2.2.2 156 (o_iald) := ok_iald dX11_makePack_156
theorem k_160_157 : mOk M_160.1 M_160.2.1 M_160.2.2.1 M_160.2.2.2 157 (o_al 0 1) := ok_aload_n dX11_makePack_157 rfl
theorem k_160_158 : mOk M_160.1 M_160.2.1 M_160.2.2.1 M_160.2.2.2 158 (o_gP 11 14) := ok_gP dX11_makePack_158 f_RX11_44 rfl
theorem k_160_161 : mOk M_160.1 M_160.2.1 M_160.2.2.1 M_160.2.2.2 161 (oS 1 (s_push (.int 2))) := ok_iconst dX11_makePack_161 (by decide)
theorem k_160_162 : mOk M_160.1 M_160.2.1 M_160.2.2.1 M_160.2.2.2 162 (o_iald) := ok_iald dX11_makePack_162
theorem k_160_166 : mOk M_160.1 M_160.2.1 M_160.2.2.1 M_160.2.2.2 166 (o_zeq 226) := ok_zeq dX11_makePack_166 (by decide)
theorem k_160_169 : mOk M_160.1 M_160.2.1 M_160.2.2.1 M_160.2.2.2 169 (o_al 0 1) := ok_aload_n dX11_makePack_169 rfl
theorem k_160_170 : mOk M_160.1 M_160.2.1 M_160.2.2.1 M_160.2.2.2 170 (o_il 4 2) := ok_iload dX11_makePack_170
theorem k_160_172 : mOk M_160.1 M_160.2.1 M_160.2.2.1 M_160.2.2.2 172 (o_il 7 2) := ok_iload dX11_makePack_172
theorem k_160_174 : mOk M_160.1 M_160.2.1 M_160.2.2.1 M_160.2.2.2 174 (o_al 0 1) := ok_aload_n dX11_makePack_174 rfl
theorem k_160_175 : mOk M_160.1 M_160.2.1 M_160.2.2.1 M_160.2.2.2 175 (o_gP 11 14) := ok_gP dX11_makePack_175 f_RX11_44 rfl
theorem k_160_178 : mOk M_160.1 M_160.2.1 M_160.2.2.1 M_160.2.2.2 178 (oS 1 (s_push (.int 1))) := ok_iconst dX11_makePack_178 (by decide)
theorem k_160_179 : mOk M_160.1 M_160.2.1 M_160.2.2.1 M_160.2.2.2 179 (o_iald) := ok_iald dX11_makePack_179
theorem k_160_180 : mOk M_160.1 M_160.2.1 M_160.2.2.1 M_160.2.2.2 180 (o_al 0 1) := ok_aload_n dX11_makePack_180 rfl
theorem k_160_181 : mOk M_160.1 M_160.2.1 M_160.2.2.1 M_160.2.2.2 181 (o_gP 11 14) := ok_gP dX11_makePack_181 f_RX11_44 rfl
theorem k_160_184 : mOk M_160.1 M_160.2.1 M_160.2.2.1 M_160.2.2.2 184 (oS 1 (s_push (.int 3))) := ok_iconst dX11_makePack_184 (by decide)
theorem k_160_185 : mOk M_160.1 M_160.2.1 M_160.2.2.1 M_160.2.2.2 185 (o_iald) := ok_iald dX11_makePack_185
theorem k_160_189 : mOk M_160.1 M_160.2.1 M_160.2.2.1 M_160.2.2.2 189 (o_zeq 226) := ok_zeq dX11_makePack_189 (by decide)
theorem k_160_192 : mOk M_160.1 M_160.2.1 M_160.2.2.1 M_160.2.2.2 192 (o_al 0 1) := ok_aload_n dX11_makePack_192 rfl
theorem k_160_193 : mOk M_160.1 M_160.2.1 M_160.2.2.1 M_160.2.2.2 193 (o_il 3 1) := ok_iload_n dX11_makePack_193 rfl
theorem k_160_194 : mOk M_160.1 M_160.2.1 M_160.2.2.1 M_160.2.2.2 194 (o_il 4 2) := ok_iload dX11_makePack_194
theorem k_160_196 : mOk M_160.1 M_160.2.1 M_160.2.2.1 M_160.2.2.2 196 (o_il 6 2) := ok_iload dX11_makePack_196
theorem k_160_198 : mOk M_160.1 M_160.2.1 M_160.2.2.1 M_160.2.2.2 198 (o_il 7 2) := ok_iload dX11_makePack_198
theorem k_160_203 : mOk M_160.1 M_160.2.1 M_160.2.2.1 M_160.2.2.2 203 (o_al 0 1) := ok_aload_n dX11_makePack_203 rfl
theorem k_160_204 : mOk M_160.1 M_160.2.1 M_160.2.2.1 M_160.2.2.2 204 (o_gI 11 37) := ok_gI dX11_makePack_204 f_RX11_240 (Or.inl rfl)
theorem k_160_207 : mOk M_160.1 M_160.2.1 M_160.2.2.1 M_160.2.2.2 207 (o_zle 226) := ok_zle dX11_makePack_207 (by decide)
theorem k_160_210 : mOk M_160.1 M_160.2.1 M_160.2.2.1 M_160.2.2.2 210 (o_al 0 1) := ok_aload_n dX11_makePack_210 rfl
theorem k_160_211 : mOk M_160.1 M_160.2.1 M_160.2.2.1 M_160.2.2.2 211 (o_il 1 1) := ok_iload_n dX11_makePack_211 rfl
theorem k_160_212 : mOk M_160.1 M_160.2.1 M_160.2.2.1 M_160.2.2.2 212 (o_il 4 2) := ok_iload dX11_makePack_212
theorem k_160_214 : mOk M_160.1 M_160.2.1 M_160.2.2.1 M_160.2.2.2 214 (o_il 6 2) := ok_iload dX11_makePack_214
theorem k_160_216 : mOk M_160.1 M_160.2.1 M_160.2.2.1 M_160.2.2.2 216 (o_il 7 2) := ok_iload dX11_makePack_216
theorem k_160_221 : mOk M_160.1 M_160.2.1 M_160.2.2.1 M_160.2.2.2 221 (o_zne 226) := ok_zne dX11_makePack_221 (by decide)
theorem k_160_224 : mOk M_160.1 M_160.2.1 M_160.2.2.1 M_160.2.2.2 224 (oS 1 (s_push (.int 0))) := ok_iconst dX11_makePack_224 (by decide)
theorem k_160_226 : mOk M_160.1 M_160.2.1 M_160.2.2.1 M_160.2.2.2 226 (o_inc 5 1) := ok_iinc dX11_makePack_226 (by decide)
theorem k_160_229 : mOk M_160.1 M_160.2.1 M_160.2.2.1 M_160.2.2.2 229 (o_goto 77) := ok_goto dX11_makePack_229 (by decide)
theorem k_160_232 : mOk M_160.1 M_160.2.1 M_160.2.2.1 M_160.2.2.2 232 (o_inc 4 1) := ok_iinc dX11_makePack_232 (by decide)
theorem k_160_235 : mOk M_160.1 M_160.2.1 M_160.2.2.1 M_160.2.2.2 235 (o_goto 63) := ok_goto dX11_makePack_235 (by decide)
theorem k_160_238 : mOk M_160.1 M_160.2.1 M_160.2.2.1 M_160.2.2.2 238 (o_al 0 1) := ok_aload_n dX11_makePack_238 rfl
theorem k_160_239 : mOk M_160.1 M_160.2.1 M_160.2.2.1 M_160.2.2.2 239 (o_il 1 1) := ok_iload_n dX11_makePack_239 rfl
theorem k_160_240 : mOk M_160.1 M_160.2.1 M_160.2.2.1 M_160.2.2.2 240 (o_il 3 1) := ok_iload_n dX11_makePack_240 rfl
theorem k_160_244 : mOk M_160.1 M_160.2.1 M_160.2.2.1 M_160.2.2.2 244 (o_al 0 1) := ok_aload_n dX11_makePack_244 rfl
theorem k_160_245 : mOk M_160.1 M_160.2.1 M_160.2.2.1 M_160.2.2.2 245 (o_gP 11 17) := ok_gP dX11_makePack_245 f_RX11_47 rfl
theorem k_160_248 : mOk M_160.1 M_160.2.1 M_160.2.2.1 M_160.2.2.2 248 (o_il 1 1) := ok_iload_n dX11_makePack_248 rfl
theorem k_160_249 : mOk M_160.1 M_160.2.1 M_160.2.2.1 M_160.2.2.2 249 (oS 1 (s_push (.int 1))) := ok_iconst dX11_makePack_249 (by decide)
theorem k_160_250 : mOk M_160.1 M_160.2.1 M_160.2.2.1 M_160.2.2.2 250 (o_bast) := ok_bast dX11_makePack_250
theorem k_160_251 : mOk M_160.1 M_160.2.1 M_160.2.2.1 M_160.2.2.2 251 (oS 1 (s_push (.int 1))) := ok_iconst dX11_makePack_251 (by decide)
set_option maxRecDepth 20000 in
set_option maxHeartbeats 4000000 in
theorem tk_160 (l : Launch) (H9 : mThr l) (H10 : mSpl l) (pc : Nat) (q : mEnt) (h : tb_160 pc = some q) : EE l 160 pc q := nd h (fun h => nd h (fun h => nd h (fun h => nd h (fun h => nd h (fun h => nd h (fun h => nd h (fun h => lf (P := EE l 160) h k_160_0) (fun h => lf (P := EE l 160) h k_160_1)) (fun h => nd h (fun h => lf (P := EE l 160) h (EE_ca (by decide) (⟨m_1276, m_81, ⟨by decide, by decide⟩, by decide +kernel, ⟨by decide, by decide⟩, 260, 1, by decide +kernel, Or.inr (Or.inr (Or.inl ⟨rfl, rfl, dX11_makePack_2, m_1273, m_1275, _, rfl, by decide, m_36⟩))⟩) rfl)) (fun h => lf (P := EE l 160) h k_160_5))) (fun h => nd h (fun h => nd h (fun h => lf (P := EE l 160) h k_160_6) (fun h => lf (P := EE l 160) h k_160_7)) (fun h => nd h (fun h => lf (P := EE l 160) h k_160_10) (fun h => nd h (fun h => lf (P := EE l 160) h k_160_11) (fun h => lf (P := EE l 160) h k_160_12))))) (fun h => nd h (fun h => nd h (fun h => nd h (fun h => lf (P := EE l 160) h k_160_13) (fun h => lf (P := EE l 160) h k_160_14)) (fun h => nd h (fun h => lf (P := EE l 160) h k_160_17) (fun h => lf (P := EE l 160) h k_160_18))) (fun h => nd h (fun h => nd h (fun h => lf (P := EE l 160) h k_160_19) (fun h => lf (P := EE l 160) h k_160_20)) (fun h => nd h (fun h => lf (P := EE l 160) h k_160_21) (fun h => nd h (fun h => lf (P := EE l 160) h k_160_24) (fun h => lf (P := EE l 160) h k_160_25)))))) (fun h => nd h (fun h => nd h (fun h => nd h (fun h => nd h (fun h => lf (P := EE l 160) h k_160_26) (fun h => lf (P := EE l 160) h k_160_27)) (fun h => nd h (fun h => lf (P := EE l 160) h k_160_28) (fun h => lf (P := EE l 160) h k_160_30))) (fun h => nd h (fun h => nd h (fun h => lf (P := EE l 160) h k_160_32) (fun h => lf (P := EE l 160) h k_160_33)) (fun h => nd h (fun h => lf (P := EE l 160) h k_160_36) (fun h => nd h (fun h => lf (P := EE l 160) h k_160_37) (fun h => lf (P := EE l 160) h k_160_40))))) (fun h => nd h (fun h => nd h (fun h => nd h (fun h => lf (P := EE l 160) h k_160_41) (fun h => lf (P := EE l 160) h k_160_42)) (fun h => nd h (fun h => lf (P := EE l 160) h k_160_43) (fun h => nd h (fun h => lf (P := EE l 160) h k_160_45) (fun h => lf (P := EE l 160) h k_160_46)))) (fun h => nd h (fun h => nd h (fun h => lf (P := EE l 160) h k_160_47) (fun h => lf (P := EE l 160) h k_160_50)) (fun h => nd h (fun h => lf (P := EE l 160) h k_160_52) (fun h => nd h (fun h => lf (P := EE l 160) h k_160_53) (fun h => lf (P := EE l 160) h k_160_54))))))) (fun h => nd h (fun h => nd h (fun h => nd h (fun h => nd h (fun h => nd h (fun h => lf (P := EE l 160) h k_160_57) (fun h => lf (P := EE l 160) h k_160_60)) (fun h => nd h (fun h => lf (P := EE l 160) h k_160_61) (fun h => lf (P := EE l 160) h k_160_63))) (fun h => nd h (fun h => nd h (fun h => lf (P := EE l 160) h k_160_65) (fun h => lf (P := EE l 160) h k_160_66)) (fun h => nd h (fun h => lf (P := EE l 160) h k_160_69) (fun h => nd h (fun h => lf (P := EE l 160) h k_160_70) (fun h => lf (P := EE l 160) h k_160_71))))) (fun h => nd h (fun h => nd h (fun h => nd h (fun h => lf (P := EE l 160) h k_160_74) (fun h => lf (P := EE l 160) h k_160_75)) (fun h => nd h (fun h => lf (P := EE l 160) h k_160_77) (fun h => nd h (fun h => lf (P := EE l 160) h k_160_79) (fun h => lf (P := EE l 160) h k_160_80)))) (fun h => nd h (fun h => nd h (fun h => lf (P := EE l 160) h k_160_81) (fun h => lf (P := EE l 160) h k_160_83)) (fun h => nd h (fun h => lf (P := EE l 160) h k_160_84) (fun h => nd h (fun h => lf (P := EE l 160) h k_160_85) (fun h => lf (P := EE l 160) h k_160_88)))))) (fun h => nd h (fun h => nd h (fun h => nd h (fun h => nd h (fun h => lf (P := EE l 160) h k_160_89) (fun h => lf (P := EE l 160) h k_160_91)) (fun h => nd h (fun h => lf (P := EE l 160) h k_160_92) (fun h => lf (P := EE l 160) h k_160_94))) (fun h => nd h (fun h => nd h (fun h => lf (P := EE l 160) h k_160_95) (fun h => lf (P := EE l 160) h k_160_97)) (fun h => nd h (fun h => lf (P := EE l 160) h k_160_99) (fun h => nd h (fun h => lf (P := EE l 160) h k_160_101) (fun h => lf (P := EE l 160) h k_160_104))))) (fun h => nd h (fun h => nd h (fun h => nd h (fun h => lf (P := EE l 160) h k_160_106) (fun h => lf (P := EE l 160) h k_160_108)) (fun h => nd h (fun h => lf (P := EE l 160) h k_160_109) (fun h => nd h (fun h => lf (P := EE l 160) h k_160_111) (fun h => lf (P := EE l 160) h k_160_112)))) (fun h => nd h (fun h => nd h (fun h => lf (P := EE l 160) h k_160_113) (fun h => lf (P := EE l 160) h k_160_114)) (fun h => nd h (fun h => lf (P := EE l 160) h k_160_115) (fun h => nd h (fun h => lf (P := EE l 160) h k_160_117) (fun h => lf (P := EE l 160) h k_160_118)))))))) (fun h => nd h (fun h => nd h (fun h => nd h (fun h => nd h (fun h => nd h (fun h => nd h (fun h => lf (P := EE l 160) h k_160_119) (fun h => lf (P := EE l 160) h k_160_121)) (fun h => nd h (fun h => lf (P := EE l 160) h k_160_123) (fun h => lf (P := EE l 160) h k_160_125))) (fun h => nd h (fun h => nd h (fun h => lf (P := EE l 160) h k_160_126) (fun h => lf (P := EE l 160) h k_160_128)) (fun h => nd h (fun h => lf (P := EE l 160) h k_160_129) (fun h => nd h (fun h => lf (P := EE l 160) h k_160_130) (fun h => lf (P := EE l 160) h k_160_131))))) (fun h => nd h (fun h => nd h (fun h => nd h (fun h => lf (P := EE l 160) h k_160_132) (fun h => lf (P := EE l 160) h k_160_133)) (fun h => nd h (fun h => lf (P := EE l 160) h k_160_134) (fun h => nd h (fun h => lf (P := EE l 160) h k_160_136) (fun h => lf (P := EE l 160) h k_160_137)))) (fun h => nd h (fun h => nd h (fun h => lf (P := EE l 160) h k_160_138) (fun h => lf (P := EE l 160) h k_160_140)) (fun h => nd h (fun h => lf (P := EE l 160) h k_160_143) (fun h => nd h (fun h => lf (P := EE l 160) h k_160_146) (fun h => lf (P := EE l 160) h k_160_147)))))) (fun h => nd h (fun h => nd h (fun h => nd h (fun h => nd h (fun h => lf (P := EE l 160) h k_160_149) (fun h => lf (P := EE l 160) h k_160_151)) (fun h => nd h (fun h => lf (P := EE l 160) h k_160_152) (fun h => lf (P := EE l 160) h k_160_155))) (fun h => nd h (fun h => nd h (fun h => lf (P := EE l 160) h k_160_156) (fun h => lf (P := EE l 160) h k_160_157)) (fun h => nd h (fun h => lf (P := EE l 160) h k_160_158) (fun h => nd h (fun h => lf (P := EE l 160) h k_160_161) (fun h => lf (P := EE l 160) h k_160_162))))) (fun h => nd h (fun h => nd h (fun h => nd h (fun h => lf (P := EE l 160) h (EE_ca (by decide) (⟨m_1372, m_81, ⟨by decide, by decide⟩, by decide +kernel, ⟨by decide, by decide⟩, 289, 4, by decide +kernel, Or.inr (Or.inr (Or.inl ⟨rfl, rfl, dX11_makePack_163, m_1369, m_1371, _, rfl, by decide, m_55⟩))⟩) rfl)) (fun h => lf (P := EE l 160) h k_160_166)) (fun h => nd h (fun h => lf (P := EE l 160) h k_160_169) (fun h => nd h (fun h => lf (P := EE l 160) h k_160_170) (fun h => lf (P := EE l 160) h k_160_172)))) (fun h => nd h (fun h => nd h (fun h => lf (P := EE l 160) h k_160_174) (fun h => lf (P := EE l 160) h k_160_175)) (fun h => nd h (fun h => lf (P := EE l 160) h k_160_178) (fun h => nd h (fun h => lf (P := EE l 160) h k_160_179) (fun h => lf (P := EE l 160) h k_160_180))))))) (fun h => nd h (fun h => nd h (fun h => nd h (fun h => nd h (fun h => nd h (fun h => lf (P := EE l 160) h k_160_181) (fun h => lf (P := EE l 160) h k_160_184)) (fun h => nd h (fun h => lf (P := EE l 160) h k_160_185) (fun h => lf (P := EE l 160) h (EE_ca (by decide) (⟨m_1372, m_81, ⟨by decide, by decide⟩, by decide +kernel, ⟨by decide, by decide⟩, 289, 4, by decide +kernel, Or.inr (Or.inr (Or.inl ⟨rfl, rfl, dX11_makePack_186, m_1369, m_1371, _, rfl, by decide, m_55⟩))⟩) rfl)))) (fun h => nd h (fun h => nd h (fun h => lf (P := EE l 160) h k_160_189) (fun h => lf (P := EE l 160) h k_160_192)) (fun h => nd h (fun h => lf (P := EE l 160) h k_160_193) (fun h => nd h (fun h => lf (P := EE l 160) h k_160_194) (fun h => lf (P := EE l 160) h k_160_196))))) (fun h => nd h (fun h => nd h (fun h => nd h (fun h => lf (P := EE l 160) h k_160_198) (fun h => lf (P := EE l 160) h (EE_ca (by decide) (⟨m_1280, m_81, ⟨by decide, by decide⟩, by decide +kernel, ⟨by decide, by decide⟩, 264, 4, by decide +kernel, Or.inr (Or.inr (Or.inl ⟨rfl, rfl, dX11_makePack_200, m_1277, m_1279, _, rfl, by decide, m_37⟩))⟩) rfl))) (fun h => nd h (fun h => lf (P := EE l 160) h k_160_203) (fun h => nd h (fun h => lf (P := EE l 160) h k_160_204) (fun h => lf (P := EE l 160) h k_160_207)))) (fun h => nd h (fun h => nd h (fun h => lf (P := EE l 160) h k_160_210) (fun h => lf (P := EE l 160) h k_160_211)) (fun h => nd h (fun h => lf (P := EE l 160) h k_160_212) (fun h => nd h (fun h => lf (P := EE l 160) h k_160_214) (fun h => lf (P := EE l 160) h k_160_216)))))) (fun h => nd h (fun h => nd h (fun h => nd h (fun h => nd h (fun h => lf (P := EE l 160) h (EE_ca (by decide) (⟨m_1376, m_81, ⟨by decide, by decide⟩, by decide +kernel, ⟨by decide, by decide⟩, 292, 4, by decide +kernel, Or.inr (Or.inr (Or.inl ⟨rfl, rfl, dX11_makePack_218, m_1373, m_1375, _, rfl, by decide, m_56⟩))⟩) rfl)) (fun h => lf (P := EE l 160) h k_160_221)) (fun h => nd h (fun h => lf (P := EE l 160) h k_160_224) (fun h => lf (P := EE l 160) h (EE_re (Or.inr (Or.inl ⟨rfl, dX11_makePack_225, rfl⟩)))))) (fun h => nd h (fun h => nd h (fun h => lf (P := EE l 160) h k_160_226) (fun h => lf (P := EE l 160) h k_160_229)) (fun h => nd h (fun h => lf (P := EE l 160) h k_160_232) (fun h => nd h (fun h => lf (P := EE l 160) h k_160_235) (fun h => lf (P := EE l 160) h k_160_238))))) (fun h => nd h (fun h => nd h (fun h => nd h (fun h => lf (P := EE l 160) h k_160_239) (fun h => lf (P := EE l 160) h k_160_240)) (fun h => nd h (fun h => lf (P := EE l 160) h (EE_ca (by decide) (⟨m_1384, m_81, ⟨by decide, by decide⟩, by decide +kernel, ⟨by decide, by decide⟩, 295, 2, by decide +kernel, Or.inr (Or.inr (Or.inl ⟨rfl, rfl, dX11_makePack_241, m_1381, m_1383, _, rfl, by decide, m_58⟩))⟩) rfl)) (fun h => nd h (fun h => lf (P := EE l 160) h k_160_244) (fun h => lf (P := EE l 160) h k_160_245)))) (fun h => nd h (fun h => nd h (fun h => lf (P := EE l 160) h k_160_248) (fun h => lf (P := EE l 160) h k_160_249)) (fun h => nd h (fun h => lf (P := EE l 160) h k_160_250) (fun h => nd h (fun h => lf (P := EE l 160) h k_160_251) (fun h => lf (P := EE l 160) h (EE_re (Or.inr (Or.inl ⟨rfl, dX11_makePack_252, rfl⟩)))))))))))
theorem dX11_copyPack_0 : decode cX11_copyPack 0 = .ok (.aload_n 0, 1) := by decide +kernel
theorem dX11_copyPack_1 : decode cX11_copyPack 1 = .ok (.getfield 47, 3) := by decide +kernel
theorem dX11_copyPack_4 : decode cX11_copyPack 4 = .ok (.iload_n 2, 1) := by decide +kernel
theorem dX11_copyPack_5 : decode cX11_copyPack 5 = .ok (.iconst 1, 1) := by decide +kernel
theorem dX11_copyPack_6 : decode cX11_copyPack 6 = .ok (.bastore, 1) := by decide +kernel
theorem dX11_copyPack_7 : decode cX11_copyPack 7 = .ok (.aload_n 0, 1) := by decide +kernel
theorem dX11_copyPack_8 : decode cX11_copyPack 8 = .ok (.getfield 51, 3) := by decide +kernel
theorem dX11_copyPack_11 : decode cX11_copyPack 11 = .ok (.iload_n 2, 1) := by decide +kernel
theorem dX11_copyPack_12 : decode cX11_copyPack 12 = .ok (.aload_n 0, 1) := by decide +kernel
theorem dX11_copyPack_13 : decode cX11_copyPack 13 = .ok (.getfield 51, 3) := by decide +kernel
theorem dX11_copyPack_16 : decode cX11_copyPack 16 = .ok (.iload_n 1, 1) := by decide +kernel
theorem dX11_copyPack_17 : decode cX11_copyPack 17 = .ok (.iaload, 1) := by decide +kernel
theorem dX11_copyPack_18 : decode cX11_copyPack 18 = .ok (.iastore, 1) := by decide +kernel
theorem dX11_copyPack_19 : decode cX11_copyPack 19 = .ok (.aload_n 0, 1) := by decide +kernel
theorem dX11_copyPack_20 : decode cX11_copyPack 20 = .ok (.getfield 57, 3) := by decide +kernel
theorem dX11_copyPack_23 : decode cX11_copyPack 23 = .ok (.iload_n 2, 1) := by decide +kernel
theorem dX11_copyPack_24 : decode cX11_copyPack 24 = .ok (.aload_n 0, 1) := by decide +kernel
theorem dX11_copyPack_25 : decode cX11_copyPack 25 = .ok (.getfield 57, 3) := by decide +kernel
theorem dX11_copyPack_28 : decode cX11_copyPack 28 = .ok (.iload_n 1, 1) := by decide +kernel
theorem dX11_copyPack_29 : decode cX11_copyPack 29 = .ok (.iaload, 1) := by decide +kernel
theorem dX11_copyPack_30 : decode cX11_copyPack 30 = .ok (.iastore, 1) := by decide +kernel
theorem dX11_copyPack_31 : decode cX11_copyPack 31 = .ok (.aload_n 0, 1) := by decide +kernel
theorem dX11_copyPack_32 : decode cX11_copyPack 32 = .ok (.getfield 78, 3) := by decide +kernel
theorem dX11_copyPack_35 : decode cX11_copyPack 35 = .ok (.iload_n 2, 1) := by decide +kernel
theorem dX11_copyPack_36 : decode cX11_copyPack 36 = .ok (.aload_n 0, 1) := by decide +kernel
theorem dX11_copyPack_37 : decode cX11_copyPack 37 = .ok (.getfield 78, 3) := by decide +kernel
theorem dX11_copyPack_40 : decode cX11_copyPack 40 = .ok (.iload_n 1, 1) := by decide +kernel
theorem dX11_copyPack_41 : decode cX11_copyPack 41 = .ok (.iaload, 1) := by decide +kernel
theorem dX11_copyPack_42 : decode cX11_copyPack 42 = .ok (.iastore, 1) := by decide +kernel
theorem dX11_copyPack_43 : decode cX11_copyPack 43 = .ok (.aload_n 0, 1) := by decide +kernel
theorem dX11_copyPack_44 : decode cX11_copyPack 44 = .ok (.getfield 85, 3) := by decide +kernel
theorem dX11_copyPack_47 : decode cX11_copyPack 47 = .ok (.iload_n 2, 1) := by decide +kernel
theorem dX11_copyPack_48 : decode cX11_copyPack 48 = .ok (.aload_n 0, 1) := by decide +kernel
theorem dX11_copyPack_49 : decode cX11_copyPack 49 = .ok (.getfield 85, 3) := by decide +kernel
theorem dX11_copyPack_52 : decode cX11_copyPack 52 = .ok (.iload_n 1, 1) := by decide +kernel
theorem dX11_copyPack_53 : decode cX11_copyPack 53 = .ok (.iaload, 1) := by decide +kernel
theorem dX11_copyPack_54 : decode cX11_copyPack 54 = .ok (.iastore, 1) := by decide +kernel
theorem dX11_copyPack_55 : decode cX11_copyPack 55 = .ok (.iconst 0, 1) := by decide +kernel
theorem dX11_copyPack_56 : decode cX11_copyPack 56 = .ok (.istore_n 3, 1) := by decide +kernel
theorem dX11_copyPack_57 : decode cX11_copyPack 57 = .ok (.iload_n 3, 1) := by decide +kernel
theorem dX11_copyPack_58 : decode cX11_copyPack 58 = .ok (.iconst 5, 1) := by decide +kernel
theorem dX11_copyPack_59 : decode cX11_copyPack 59 = .ok (.if_icmp .ge 29, 3) := by decide +kernel
theorem dX11_copyPack_62 : decode cX11_copyPack 62 = .ok (.aload_n 0, 1) := by decide +kernel
theorem dX11_copyPack_63 : decode cX11_copyPack 63 = .ok (.getfield 54, 3) := by decide +kernel
theorem dX11_copyPack_66 : decode cX11_copyPack 66 = .ok (.iconst 5, 1) := by decide +kernel
theorem dX11_copyPack_67 : decode cX11_copyPack 67 = .ok (.iload_n 2, 1) := by decide +kernel
theorem dX11_copyPack_68 : decode cX11_copyPack 68 = .ok (.imul, 1) := by decide +kernel
theorem dX11_copyPack_69 : decode cX11_copyPack 69 = .ok (.iload_n 3, 1) := by decide +kernel
theorem dX11_copyPack_70 : decode cX11_copyPack 70 = .ok (.iadd, 1) := by decide +kernel
theorem dX11_copyPack_71 : decode cX11_copyPack 71 = .ok (.aload_n 0, 1) := by decide +kernel
theorem dX11_copyPack_72 : decode cX11_copyPack 72 = .ok (.getfield 54, 3) := by decide +kernel
theorem dX11_copyPack_75 : decode cX11_copyPack 75 = .ok (.iconst 5, 1) := by decide +kernel
theorem dX11_copyPack_76 : decode cX11_copyPack 76 = .ok (.iload_n 1, 1) := by decide +kernel
theorem dX11_copyPack_77 : decode cX11_copyPack 77 = .ok (.imul, 1) := by decide +kernel
theorem dX11_copyPack_78 : decode cX11_copyPack 78 = .ok (.iload_n 3, 1) := by decide +kernel
theorem dX11_copyPack_79 : decode cX11_copyPack 79 = .ok (.iadd, 1) := by decide +kernel
theorem dX11_copyPack_80 : decode cX11_copyPack 80 = .ok (.iaload, 1) := by decide +kernel
theorem dX11_copyPack_81 : decode cX11_copyPack 81 = .ok (.iastore, 1) := by decide +kernel
theorem dX11_copyPack_82 : decode cX11_copyPack 82 = .ok (.iinc 3 1, 3) := by decide +kernel
theorem dX11_copyPack_85 : decode cX11_copyPack 85 = .ok (.goto (-28), 3) := by decide +kernel
theorem dX11_copyPack_88 : decode cX11_copyPack 88 = .ok (.iconst 0, 1) := by decide +kernel
theorem dX11_copyPack_89 : decode cX11_copyPack 89 = .ok (.istore_n 3, 1) := by decide +kernel
theorem dX11_copyPack_90 : decode cX11_copyPack 90 = .ok (.iload_n 3, 1) := by decide +kernel
theorem dX11_copyPack_91 : decode cX11_copyPack 91 = .ok (.aload_n 0, 1) := by decide +kernel
theorem dX11_copyPack_92 : decode cX11_copyPack 92 = .ok (.getfield 57, 3) := by decide +kernel
theorem dX11_copyPack_95 : decode cX11_copyPack 95 = .ok (.iload_n 1, 1) := by decide +kernel
theorem dX11_copyPack_96 : decode cX11_copyPack 96 = .ok (.iaload, 1) := by decide +kernel
theorem dX11_copyPack_97 : decode cX11_copyPack 97 = .ok (.if_icmp .ge 141, 3) := by decide +kernel
theorem dX11_copyPack_100 : decode cX11_copyPack 100 = .ok (.aload_n 0, 1) := by decide +kernel
theorem dX11_copyPack_101 : decode cX11_copyPack 101 = .ok (.getfield 60, 3) := by decide +kernel
theorem dX11_copyPack_104 : decode cX11_copyPack 104 = .ok (.bipush 100, 2) := by decide +kernel
theorem dX11_copyPack_106 : decode cX11_copyPack 106 = .ok (.iload_n 2, 1) := by decide +kernel
theorem dX11_copyPack_107 : decode cX11_copyPack 107 = .ok (.imul, 1) := by decide +kernel
theorem dX11_copyPack_108 : decode cX11_copyPack 108 = .ok (.iload_n 3, 1) := by decide +kernel
theorem dX11_copyPack_109 : decode cX11_copyPack 109 = .ok (.iadd, 1) := by decide +kernel
theorem dX11_copyPack_110 : decode cX11_copyPack 110 = .ok (.aload_n 0, 1) := by decide +kernel
theorem dX11_copyPack_111 : decode cX11_copyPack 111 = .ok (.getfield 60, 3) := by decide +kernel
theorem dX11_copyPack_114 : decode cX11_copyPack 114 = .ok (.bipush 100, 2) := by decide +kernel
theorem dX11_copyPack_116 : decode cX11_copyPack 116 = .ok (.iload_n 1, 1) := by decide +kernel
theorem dX11_copyPack_117 : decode cX11_copyPack 117 = .ok (.imul, 1) := by decide +kernel
theorem dX11_copyPack_118 : decode cX11_copyPack 118 = .ok (.iload_n 3, 1) := by decide +kernel
theorem dX11_copyPack_119 : decode cX11_copyPack 119 = .ok (.iadd, 1) := by decide +kernel
theorem dX11_copyPack_120 : decode cX11_copyPack 120 = .ok (.iaload, 1) := by decide +kernel
theorem dX11_copyPack_121 : decode cX11_copyPack 121 = .ok (.iastore, 1) := by decide +kernel
theorem dX11_copyPack_122 : decode cX11_copyPack 122 = .ok (.aload_n 0, 1) := by decide +kernel
theorem dX11_copyPack_123 : decode cX11_copyPack 123 = .ok (.getfield 63, 3) := by decide +kernel
theorem dX11_copyPack_126 : decode cX11_copyPack 126 = .ok (.bipush 100, 2) := by decide +kernel
theorem dX11_copyPack_128 : decode cX11_copyPack 128 = .ok (.iload_n 2, 1) := by decide +kernel
theorem dX11_copyPack_129 : decode cX11_copyPack 129 = .ok (.imul, 1) := by decide +kernel
theorem dX11_copyPack_130 : decode cX11_copyPack 130 = .ok (.iload_n 3, 1) := by decide +kernel
theorem dX11_copyPack_131 : decode cX11_copyPack 131 = .ok (.iadd, 1) := by decide +kernel
theorem dX11_copyPack_132 : decode cX11_copyPack 132 = .ok (.aload_n 0, 1) := by decide +kernel
theorem dX11_copyPack_133 : decode cX11_copyPack 133 = .ok (.getfield 63, 3) := by decide +kernel
theorem dX11_copyPack_136 : decode cX11_copyPack 136 = .ok (.bipush 100, 2) := by decide +kernel
theorem dX11_copyPack_138 : decode cX11_copyPack 138 = .ok (.iload_n 1, 1) := by decide +kernel
theorem dX11_copyPack_139 : decode cX11_copyPack 139 = .ok (.imul, 1) := by decide +kernel
theorem dX11_copyPack_140 : decode cX11_copyPack 140 = .ok (.iload_n 3, 1) := by decide +kernel
theorem dX11_copyPack_141 : decode cX11_copyPack 141 = .ok (.iadd, 1) := by decide +kernel
theorem dX11_copyPack_142 : decode cX11_copyPack 142 = .ok (.iaload, 1) := by decide +kernel
theorem dX11_copyPack_143 : decode cX11_copyPack 143 = .ok (.iastore, 1) := by decide +kernel
theorem dX11_copyPack_144 : decode cX11_copyPack 144 = .ok (.aload_n 0, 1) := by decide +kernel
theorem dX11_copyPack_145 : decode cX11_copyPack 145 = .ok (.getfield 66, 3) := by decide +kernel
theorem dX11_copyPack_148 : decode cX11_copyPack 148 = .ok (.bipush 100, 2) := by decide +kernel
theorem dX11_copyPack_150 : decode cX11_copyPack 150 = .ok (.iload_n 2, 1) := by decide +kernel
theorem dX11_copyPack_151 : decode cX11_copyPack 151 = .ok (.imul, 1) := by decide +kernel
theorem dX11_copyPack_152 : decode cX11_copyPack 152 = .ok (.iload_n 3, 1) := by decide +kernel
theorem dX11_copyPack_153 : decode cX11_copyPack 153 = .ok (.iadd, 1) := by decide +kernel
theorem dX11_copyPack_154 : decode cX11_copyPack 154 = .ok (.aload_n 0, 1) := by decide +kernel
theorem dX11_copyPack_155 : decode cX11_copyPack 155 = .ok (.getfield 66, 3) := by decide +kernel
theorem dX11_copyPack_158 : decode cX11_copyPack 158 = .ok (.bipush 100, 2) := by decide +kernel
theorem dX11_copyPack_160 : decode cX11_copyPack 160 = .ok (.iload_n 1, 1) := by decide +kernel
theorem dX11_copyPack_161 : decode cX11_copyPack 161 = .ok (.imul, 1) := by decide +kernel
theorem dX11_copyPack_162 : decode cX11_copyPack 162 = .ok (.iload_n 3, 1) := by decide +kernel
theorem dX11_copyPack_163 : decode cX11_copyPack 163 = .ok (.iadd, 1) := by decide +kernel
theorem dX11_copyPack_164 : decode cX11_copyPack 164 = .ok (.iaload, 1) := by decide +kernel
theorem dX11_copyPack_165 : decode cX11_copyPack 165 = .ok (.iastore, 1) := by decide +kernel
theorem dX11_copyPack_166 : decode cX11_copyPack 166 = .ok (.aload_n 0, 1) := by decide +kernel
theorem dX11_copyPack_167 : decode cX11_copyPack 167 = .ok (.getfield 69, 3) := by decide +kernel
theorem dX11_copyPack_170 : decode cX11_copyPack 170 = .ok (.bipush 100, 2) := by decide +kernel
theorem dX11_copyPack_172 : decode cX11_copyPack 172 = .ok (.iload_n 2, 1) := by decide +kernel
theorem dX11_copyPack_173 : decode cX11_copyPack 173 = .ok (.imul, 1) := by decide +kernel
theorem dX11_copyPack_174 : decode cX11_copyPack 174 = .ok (.iload_n 3, 1) := by decide +kernel
theorem dX11_copyPack_175 : decode cX11_copyPack 175 = .ok (.iadd, 1) := by decide +kernel
theorem dX11_copyPack_176 : decode cX11_copyPack 176 = .ok (.aload_n 0, 1) := by decide +kernel
theorem dX11_copyPack_177 : decode cX11_copyPack 177 = .ok (.getfield 69, 3) := by decide +kernel
theorem dX11_copyPack_180 : decode cX11_copyPack 180 = .ok (.bipush 100, 2) := by decide +kernel
theorem dX11_copyPack_182 : decode cX11_copyPack 182 = .ok (.iload_n 1, 1) := by decide +kernel
theorem dX11_copyPack_183 : decode cX11_copyPack 183 = .ok (.imul, 1) := by decide +kernel
theorem dX11_copyPack_184 : decode cX11_copyPack 184 = .ok (.iload_n 3, 1) := by decide +kernel
theorem dX11_copyPack_185 : decode cX11_copyPack 185 = .ok (.iadd, 1) := by decide +kernel
theorem dX11_copyPack_186 : decode cX11_copyPack 186 = .ok (.iaload, 1) := by decide +kernel
theorem dX11_copyPack_187 : decode cX11_copyPack 187 = .ok (.iastore, 1) := by decide +kernel
theorem dX11_copyPack_188 : decode cX11_copyPack 188 = .ok (.aload_n 0, 1) := by decide +kernel
theorem dX11_copyPack_189 : decode cX11_copyPack 189 = .ok (.getfield 72, 3) := by decide +kernel
theorem dX11_copyPack_192 : decode cX11_copyPack 192 = .ok (.bipush 100, 2) := by decide +kernel
theorem dX11_copyPack_194 : decode cX11_copyPack 194 = .ok (.iload_n 2, 1) := by decide +kernel
theorem dX11_copyPack_195 : decode cX11_copyPack 195 = .ok (.imul, 1) := by decide +kernel
theorem dX11_copyPack_196 : decode cX11_copyPack 196 = .ok (.iload_n 3, 1) := by decide +kernel
theorem dX11_copyPack_197 : decode cX11_copyPack 197 = .ok (.iadd, 1) := by decide +kernel
theorem dX11_copyPack_198 : decode cX11_copyPack 198 = .ok (.aload_n 0, 1) := by decide +kernel
theorem dX11_copyPack_199 : decode cX11_copyPack 199 = .ok (.getfield 72, 3) := by decide +kernel
theorem dX11_copyPack_202 : decode cX11_copyPack 202 = .ok (.bipush 100, 2) := by decide +kernel
theorem dX11_copyPack_204 : decode cX11_copyPack 204 = .ok (.iload_n 1, 1) := by decide +kernel
theorem dX11_copyPack_205 : decode cX11_copyPack 205 = .ok (.imul, 1) := by decide +kernel
theorem dX11_copyPack_206 : decode cX11_copyPack 206 = .ok (.iload_n 3, 1) := by decide +kernel
theorem dX11_copyPack_207 : decode cX11_copyPack 207 = .ok (.iadd, 1) := by decide +kernel
theorem dX11_copyPack_208 : decode cX11_copyPack 208 = .ok (.iaload, 1) := by decide +kernel
theorem dX11_copyPack_209 : decode cX11_copyPack 209 = .ok (.iastore, 1) := by decide +kernel
theorem dX11_copyPack_210 : decode cX11_copyPack 210 = .ok (.aload_n 0, 1) := by decide +kernel
theorem dX11_copyPack_211 : decode cX11_copyPack 211 = .ok (.getfield 75, 3) := by decide +kernel
theorem dX11_copyPack_214 : decode cX11_copyPack 214 = .ok (.bipush 100, 2) := by decide +kernel
theorem dX11_copyPack_216 : decode cX11_copyPack 216 = .ok (.iload_n 2, 1) := by decide +kernel
theorem dX11_copyPack_217 : decode cX11_copyPack 217 = .ok (.imul, 1) := by decide +kernel
theorem dX11_copyPack_218 : decode cX11_copyPack 218 = .ok (.iload_n 3, 1) := by decide +kernel
theorem dX11_copyPack_219 : decode cX11_copyPack 219 = .ok (.iadd, 1) := by decide +kernel
theorem dX11_copyPack_220 : decode cX11_copyPack 220 = .ok (.aload_n 0, 1) := by decide +kernel
theorem dX11_copyPack_221 : decode cX11_copyPack 221 = .ok (.getfield 75, 3) := by decide +kernel
theorem dX11_copyPack_224 : decode cX11_copyPack 224 = .ok (.bipush 100, 2) := by decide +kernel
theorem dX11_copyPack_226 : decode cX11_copyPack 226 = .ok (.iload_n 1, 1) := by decide +kernel
theorem dX11_copyPack_227 : decode cX11_copyPack 227 = .ok (.imul, 1) := by decide +kernel
theorem dX11_copyPack_228 : decode cX11_copyPack 228 = .ok (.iload_n 3, 1) := by decide +kernel
theorem dX11_copyPack_229 : decode cX11_copyPack 229 = .ok (.iadd, 1) := by decide +kernel
theorem dX11_copyPack_230 : decode cX11_copyPack 230 = .ok (.iaload, 1) := by decide +kernel
theorem dX11_copyPack_231 : decode cX11_copyPack 231 = .ok (.iastore, 1) := by decide +kernel
theorem dX11_copyPack_232 : decode cX11_copyPack 232 = .ok (.iinc 3 1, 3) := by decide +kernel
theorem dX11_copyPack_235 : decode cX11_copyPack 235 = .ok (.goto (-145), 3) := by decide +kernel
theorem dX11_copyPack_238 : decode cX11_copyPack 238 = .ok (.iconst 0, 1) := by decide +kernel
theorem dX11_copyPack_239 : decode cX11_copyPack 239 = .ok (.istore_n 3, 1) := by decide +kernel
theorem dX11_copyPack_240 : decode cX11_copyPack 240 = .ok (.iload_n 3, 1) := by decide +kernel
theorem dX11_copyPack_241 : decode cX11_copyPack 241 = .ok (.aload_n 0, 1) := by decide +kernel
theorem dX11_copyPack_242 : decode cX11_copyPack 242 = .ok (.getfield 78, 3) := by decide +kernel
theorem dX11_copyPack_245 : decode cX11_copyPack 245 = .ok (.iload_n 1, 1) := by decide +kernel
theorem dX11_copyPack_246 : decode cX11_copyPack 246 = .ok (.iaload, 1) := by decide +kernel
theorem dX11_copyPack_247 : decode cX11_copyPack 247 = .ok (.if_icmp .ge 33, 3) := by decide +kernel
theorem dX11_copyPack_250 : decode cX11_copyPack 250 = .ok (.aload_n 0, 1) := by decide +kernel
theorem dX11_copyPack_251 : decode cX11_copyPack 251 = .ok (.getfield 81, 3) := by decide +kernel
theorem dX11_copyPack_254 : decode cX11_copyPack 254 = .ok (.sipush 5000, 3) := by decide +kernel
theorem dX11_copyPack_257 : decode cX11_copyPack 257 = .ok (.iload_n 2, 1) := by decide +kernel
theorem dX11_copyPack_258 : decode cX11_copyPack 258 = .ok (.imul, 1) := by decide +kernel
theorem dX11_copyPack_259 : decode cX11_copyPack 259 = .ok (.iload_n 3, 1) := by decide +kernel
theorem dX11_copyPack_260 : decode cX11_copyPack 260 = .ok (.iadd, 1) := by decide +kernel
theorem dX11_copyPack_261 : decode cX11_copyPack 261 = .ok (.aload_n 0, 1) := by decide +kernel
theorem dX11_copyPack_262 : decode cX11_copyPack 262 = .ok (.getfield 81, 3) := by decide +kernel
theorem dX11_copyPack_265 : decode cX11_copyPack 265 = .ok (.sipush 5000, 3) := by decide +kernel
theorem dX11_copyPack_268 : decode cX11_copyPack 268 = .ok (.iload_n 1, 1) := by decide +kernel
theorem dX11_copyPack_269 : decode cX11_copyPack 269 = .ok (.imul, 1) := by decide +kernel
theorem dX11_copyPack_270 : decode cX11_copyPack 270 = .ok (.iload_n 3, 1) := by decide +kernel
theorem dX11_copyPack_271 : decode cX11_copyPack 271 = .ok (.iadd, 1) := by decide +kernel
theorem dX11_copyPack_272 : decode cX11_copyPack 272 = .ok (.baload, 1) := by decide +kernel
theorem dX11_copyPack_273 : decode cX11_copyPack 273 = .ok (.bastore, 1) := by decide +kernel
theorem dX11_copyPack_274 : decode cX11_copyPack 274 = .ok (.iinc 3 1, 3) := by decide +kernel
theorem dX11_copyPack_277 : decode cX11_copyPack 277 = .ok (.goto (-37), 3) := by decide +kernel
theorem dX11_copyPack_280 : decode cX11_copyPack 280 = .ok (.iconst 0, 1) := by decide +kernel
theorem dX11_copyPack_281 : decode cX11_copyPack 281 = .ok (.istore_n 3, 1) := by decide +kernel
theorem dX11_copyPack_282 : decode cX11_copyPack 282 = .ok (.iload_n 3, 1) := by decide +kernel
theorem dX11_copyPack_283 : decode cX11_copyPack 283 = .ok (.aload_n 0, 1) := by decide +kernel
theorem dX11_copyPack_284 : decode cX11_copyPack 284 = .ok (.getfield 85, 3) := by decide +kernel
theorem dX11_copyPack_287 : decode cX11_copyPack 287 = .ok (.iload_n 1, 1) := by decide +kernel
theorem dX11_copyPack_288 : decode cX11_copyPack 288 = .ok (.iaload, 1) := by decide +kernel
theorem dX11_copyPack_289 : decode cX11_copyPack 289 = .ok (.if_icmp .ge 141, 3) := by decide +kernel
theorem dX11_copyPack_292 : decode cX11_copyPack 292 = .ok (.aload_n 0, 1) := by decide +kernel
theorem dX11_copyPack_293 : decode cX11_copyPack 293 = .ok (.getfield 88, 3) := by decide +kernel
theorem dX11_copyPack_296 : decode cX11_copyPack 296 = .ok (.bipush 24, 2) := by decide +kernel
theorem dX11_copyPack_298 : decode cX11_copyPack 298 = .ok (.iload_n 2, 1) := by decide +kernel
theorem dX11_copyPack_299 : decode cX11_copyPack 299 = .ok (.imul, 1) := by decide +kernel
theorem dX11_copyPack_300 : decode cX11_copyPack 300 = .ok (.iload_n 3, 1) := by decide +kernel
theorem dX11_copyPack_301 : decode cX11_copyPack 301 = .ok (.iadd, 1) := by decide +kernel
theorem dX11_copyPack_302 : decode cX11_copyPack 302 = .ok (.aload_n 0, 1) := by decide +kernel
theorem dX11_copyPack_303 : decode cX11_copyPack 303 = .ok (.getfield 88, 3) := by decide +kernel
theorem dX11_copyPack_306 : decode cX11_copyPack 306 = .ok (.bipush 24, 2) := by decide +kernel
theorem dX11_copyPack_308 : decode cX11_copyPack 308 = .ok (.iload_n 1, 1) := by decide +kernel
theorem dX11_copyPack_309 : decode cX11_copyPack 309 = .ok (.imul, 1) := by decide +kernel
theorem dX11_copyPack_310 : decode cX11_copyPack 310 = .ok (.iload_n 3, 1) := by decide +kernel
theorem dX11_copyPack_311 : decode cX11_copyPack 311 = .ok (.iadd, 1) := by decide +kernel
theorem dX11_copyPack_312 : decode cX11_copyPack 312 = .ok (.iaload, 1) := by decide +kernel
theorem dX11_copyPack_313 : decode cX11_copyPack 313 = .ok (.iastore, 1) := by decide +kernel
theorem dX11_copyPack_314 : decode cX11_copyPack 314 = .ok (.aload_n 0, 1) := by decide +kernel
theorem dX11_copyPack_315 : decode cX11_copyPack 315 = .ok (.getfield 91, 3) := by decide +kernel
theorem dX11_copyPack_318 : decode cX11_copyPack 318 = .ok (.bipush 24, 2) := by decide +kernel
theorem dX11_copyPack_320 : decode cX11_copyPack 320 = .ok (.iload_n 2, 1) := by decide +kernel
theorem dX11_copyPack_321 : decode cX11_copyPack 321 = .ok (.imul, 1) := by decide +kernel
theorem dX11_copyPack_322 : decode cX11_copyPack 322 = .ok (.iload_n 3, 1) := by decide +kernel
theorem dX11_copyPack_323 : decode cX11_copyPack 323 = .ok (.iadd, 1) := by decide +kernel
theorem dX11_copyPack_324 : decode cX11_copyPack 324 = .ok (.aload_n 0, 1) := by decide +kernel
theorem dX11_copyPack_325 : decode cX11_copyPack 325 = .ok (.getfield 91, 3) := by decide +kernel
theorem dX11_copyPack_328 : decode cX11_copyPack 328 = .ok (.bipush 24, 2) := by decide +kernel
theorem dX11_copyPack_330 : decode cX11_copyPack 330 = .ok (.iload_n 1, 1) := by decide +kernel
theorem dX11_copyPack_331 : decode cX11_copyPack 331 = .ok (.imul, 1) := by decide +kernel
theorem dX11_copyPack_332 : decode cX11_copyPack 332 = .ok (.iload_n 3, 1) := by decide +kernel
theorem dX11_copyPack_333 : decode cX11_copyPack 333 = .ok (.iadd, 1) := by decide +kernel
theorem dX11_copyPack_334 : decode cX11_copyPack 334 = .ok (.iaload, 1) := by decide +kernel
theorem dX11_copyPack_335 : decode cX11_copyPack 335 = .ok (.iastore, 1) := by decide +kernel
theorem dX11_copyPack_336 : decode cX11_copyPack 336 = .ok (.aload_n 0, 1) := by decide +kernel
theorem dX11_copyPack_337 : decode cX11_copyPack 337 = .ok (.getfield 94, 3) := by decide +kernel
theorem dX11_copyPack_340 : decode cX11_copyPack 340 = .ok (.bipush 24, 2) := by decide +kernel
theorem dX11_copyPack_342 : decode cX11_copyPack 342 = .ok (.iload_n 2, 1) := by decide +kernel
theorem dX11_copyPack_343 : decode cX11_copyPack 343 = .ok (.imul, 1) := by decide +kernel
theorem dX11_copyPack_344 : decode cX11_copyPack 344 = .ok (.iload_n 3, 1) := by decide +kernel
theorem dX11_copyPack_345 : decode cX11_copyPack 345 = .ok (.iadd, 1) := by decide +kernel
theorem dX11_copyPack_346 : decode cX11_copyPack 346 = .ok (.aload_n 0, 1) := by decide +kernel
theorem dX11_copyPack_347 : decode cX11_copyPack 347 = .ok (.getfield 94, 3) := by decide +kernel
theorem dX11_copyPack_350 : decode cX11_copyPack 350 = .ok (.bipush 24, 2) := by decide +kernel
theorem dX11_copyPack_352 : decode cX11_copyPack 352 = .ok (.iload_n 1, 1) := by decide +kernel
theorem dX11_copyPack_353 : decode cX11_copyPack 353 = .ok (.imul, 1) := by decide +kernel
theorem dX11_copyPack_354 : decode cX11_copyPack 354 = .ok (.iload_n 3, 1) := by decide +kernel
theorem dX11_copyPack_355 : decode cX11_copyPack 355 = .ok (.iadd, 1) := by decide +kernel
theorem dX11_copyPack_356 : decode cX11_copyPack 356 = .ok (.iaload, 1) := by decide +kernel
theorem dX11_copyPack_357 : decode cX11_copyPack 357 = .ok (.iastore, 1) := by decide +kernel
theorem dX11_copyPack_358 : decode cX11_copyPack 358 = .ok (.aload_n 0, 1) := by decide +kernel
theorem dX11_copyPack_359 : decode cX11_copyPack 359 = .ok (.getfield 97, 3) := by decide +kernel
theorem dX11_copyPack_362 : decode cX11_copyPack 362 = .ok (.bipush 24, 2) := by decide +kernel
theorem dX11_copyPack_364 : decode cX11_copyPack 364 = .ok (.iload_n 2, 1) := by decide +kernel
theorem dX11_copyPack_365 : decode cX11_copyPack 365 = .ok (.imul, 1) := by decide +kernel
theorem dX11_copyPack_366 : decode cX11_copyPack 366 = .ok (.iload_n 3, 1) := by decide +kernel
theorem dX11_copyPack_367 : decode cX11_copyPack 367 = .ok (.iadd, 1) := by decide +kernel
theorem dX11_copyPack_368 : decode cX11_copyPack 368 = .ok (.aload_n 0, 1) := by decide +kernel
theorem dX11_copyPack_369 : decode cX11_copyPack 369 = .ok (.getfield 97, 3) := by decide +kernel
theorem dX11_copyPack_372 : decode cX11_copyPack 372 = .ok (.bipush 24, 2) := by decide +kernel
theorem dX11_copyPack_374 : decode cX11_copyPack 374 = .ok (.iload_n 1, 1) := by decide +kernel
theorem dX11_copyPack_375 : decode cX11_copyPack 375 = .ok (.imul, 1) := by decide +kernel
theorem dX11_copyPack_376 : decode cX11_copyPack 376 = .ok (.iload_n 3, 1) := by decide +kernel
theorem dX11_copyPack_377 : decode cX11_copyPack 377 = .ok (.iadd, 1) := by decide +kernel
theorem dX11_copyPack_378 : decode cX11_copyPack 378 = .ok (.laload, 1) := by decide +kernel
theorem dX11_copyPack_379 : decode cX11_copyPack 379 = .ok (.lastore, 1) := by decide +kernel
theorem dX11_copyPack_380 : decode cX11_copyPack 380 = .ok (.aload_n 0, 1) := by decide +kernel
theorem dX11_copyPack_381 : decode cX11_copyPack 381 = .ok (.getfield 100, 3) := by decide +kernel
theorem dX11_copyPack_384 : decode cX11_copyPack 384 = .ok (.bipush 24, 2) := by decide +kernel
theorem dX11_copyPack_386 : decode cX11_copyPack 386 = .ok (.iload_n 2, 1) := by decide +kernel
theorem dX11_copyPack_387 : decode cX11_copyPack 387 = .ok (.imul, 1) := by decide +kernel
theorem dX11_copyPack_388 : decode cX11_copyPack 388 = .ok (.iload_n 3, 1) := by decide +kernel
theorem dX11_copyPack_389 : decode cX11_copyPack 389 = .ok (.iadd, 1) := by decide +kernel
theorem dX11_copyPack_390 : decode cX11_copyPack 390 = .ok (.aload_n 0, 1) := by decide +kernel
theorem dX11_copyPack_391 : decode cX11_copyPack 391 = .ok (.getfield 100, 3) := by decide +kernel
theorem dX11_copyPack_394 : decode cX11_copyPack 394 = .ok (.bipush 24, 2) := by decide +kernel
theorem dX11_copyPack_396 : decode cX11_copyPack 396 = .ok (.iload_n 1, 1) := by decide +kernel
theorem dX11_copyPack_397 : decode cX11_copyPack 397 = .ok (.imul, 1) := by decide +kernel
theorem dX11_copyPack_398 : decode cX11_copyPack 398 = .ok (.iload_n 3, 1) := by decide +kernel
theorem dX11_copyPack_399 : decode cX11_copyPack 399 = .ok (.iadd, 1) := by decide +kernel
theorem dX11_copyPack_400 : decode cX11_copyPack 400 = .ok (.iaload, 1) := by decide +kernel
theorem dX11_copyPack_401 : decode cX11_copyPack 401 = .ok (.iastore, 1) := by decide +kernel
theorem dX11_copyPack_402 : decode cX11_copyPack 402 = .ok (.aload_n 0, 1) := by decide +kernel
theorem dX11_copyPack_403 : decode cX11_copyPack 403 = .ok (.getfield 103, 3) := by decide +kernel
theorem dX11_copyPack_406 : decode cX11_copyPack 406 = .ok (.bipush 24, 2) := by decide +kernel
theorem dX11_copyPack_408 : decode cX11_copyPack 408 = .ok (.iload_n 2, 1) := by decide +kernel
theorem dX11_copyPack_409 : decode cX11_copyPack 409 = .ok (.imul, 1) := by decide +kernel
theorem dX11_copyPack_410 : decode cX11_copyPack 410 = .ok (.iload_n 3, 1) := by decide +kernel
theorem dX11_copyPack_411 : decode cX11_copyPack 411 = .ok (.iadd, 1) := by decide +kernel
theorem dX11_copyPack_412 : decode cX11_copyPack 412 = .ok (.aload_n 0, 1) := by decide +kernel
theorem dX11_copyPack_413 : decode cX11_copyPack 413 = .ok (.getfield 103, 3) := by decide +kernel
theorem dX11_copyPack_416 : decode cX11_copyPack 416 = .ok (.bipush 24, 2) := by decide +kernel
theorem dX11_copyPack_418 : decode cX11_copyPack 418 = .ok (.iload_n 1, 1) := by decide +kernel
theorem dX11_copyPack_419 : decode cX11_copyPack 419 = .ok (.imul, 1) := by decide +kernel
theorem dX11_copyPack_420 : decode cX11_copyPack 420 = .ok (.iload_n 3, 1) := by decide +kernel
theorem dX11_copyPack_421 : decode cX11_copyPack 421 = .ok (.iadd, 1) := by decide +kernel
theorem dX11_copyPack_422 : decode cX11_copyPack 422 = .ok (.iaload, 1) := by decide +kernel
theorem dX11_copyPack_423 : decode cX11_copyPack 423 = .ok (.iastore, 1) := by decide +kernel
theorem dX11_copyPack_424 : decode cX11_copyPack 424 = .ok (.iinc 3 1, 3) := by decide +kernel
theorem dX11_copyPack_427 : decode cX11_copyPack 427 = .ok (.goto (-145), 3) := by decide +kernel
theorem dX11_copyPack_430 : decode cX11_copyPack 430 = .ok (.return_, 1) := by decide +kernel
def tb_161 (pc : Nat) : Option mEnt := bif Nat.ble pc 210 then (bif Nat.ble pc 108 then (bif Nat.ble pc 54 then (bif Nat.ble pc 25 then (bif Nat.ble pc 12 then (bif Nat.ble pc 5 then (bif Nat.ble pc 1 then (bif Nat.ble pc 0 then (bif Nat.beq pc 0 then some (.inl (o_al 0 1)) else none) else (bif Nat.beq pc 1 then some (.inl (o_gP 11 17)) else none)) else (bif Nat.ble pc 4 then (bif Nat.beq pc 4 then some (.inl (o_il 2 1)) else none) else (bif Nat.beq pc 5 then some (.inl (oS 1 (s_push (.int 1)))) else none))) else (bif Nat.ble pc 7 then (bif Nat.ble pc 6 then (bif Nat.beq pc 6 then some (.inl (o_bast)) else none) else (bif Nat.beq pc 7 then some (.inl (o_al 0 1)) else none)) else (bif Nat.ble pc 8 then (bif Nat.beq pc 8 then some (.inl (o_gP 11 18)) else none) else (bif Nat.ble pc 11 then (bif Nat.beq pc 11 then some (.inl (o_il 2 1)) else none) else (bif Nat.beq pc 12 then some (.inl (o_al 0 1)) else none))))) else (bif Nat.ble pc 18 then (bif Nat.ble pc 16 then (bif Nat.ble pc 13 then (bif Nat.beq pc 13 then some (.inl (o_gP 11 18)) else none) else (bif Nat.beq pc 16 then some (.inl (o_il 1 1)) else none)) else (bif Nat.ble pc 17 then (bif Nat.beq pc 17 then some (.inl (o_iald)) else none) else (bif Nat.beq pc 18 then some (.inl (o_iast)) else none))) else (bif Nat.ble pc 20 then (bif Nat.ble pc 19 then (bif Nat.beq pc 19 then some (.inl (o_al 0 1)) else none) else (bif Nat.beq pc 20 then some (.inl (o_gP 11 20)) else none)) else (bif Nat.ble pc 23 then (bif Nat.beq pc 23 then some (.inl (o_il 2 1)) else none) else (bif Nat.ble pc 24 then (bif Nat.beq pc 24 then some (.inl (o_al 0 1)) else none) else (bif Nat.beq pc 25 then some (.inl (o_gP 11 20)) else none)))))) else (bif Nat.ble pc 40 then (bif Nat.ble pc 31 then (bif Nat.ble pc 29 then (bif Nat.ble pc 28 then (bif Nat.beq pc 28 then some (.inl (o_il 1 1)) else none) else (bif Nat.beq pc 29 then some (.inl (o_iald)) else none)) else (bif Nat.ble pc 30 then (bif Nat.beq pc 30 then some (.inl (o_iast)) else none) else (bif Nat.beq pc 31 then some (.inl (o_al 0 1)) else none))) else (bif Nat.ble pc 35 then (bif Nat.ble pc 32 then (bif Nat.beq pc 32 then some (.inl (o_gP 11 27)) else none) else (bif Nat.beq pc 35 then some (.inl (o_il 2 1)) else none)) else (bif Nat.ble pc 36 then (bif Nat.beq pc 36 then some (.inl (o_al 0 1)) else none) else (bif Nat.ble pc 37 then (bif Nat.beq pc 37 then some (.inl (o_gP 11 27)) else none) else (bif Nat.beq pc 40 then some (.inl (o_il 1 1)) else none))))) else (bif Nat.ble pc 47 then (bif Nat.ble pc 42 then (bif Nat.ble pc 41 then (bif Nat.beq pc 41 then some (.inl (o_iald)) else none) else (bif Nat.beq pc 42 then some (.inl (o_iast)) else none)) else (bif Nat.ble pc 43 then (bif Nat.beq pc 43 then some (.inl (o_al 0 1)) else none) else (bif Nat.ble pc 44 then (bif Nat.beq pc 44 then some (.inl (o_gP 11 29)) else none) else (bif Nat.beq pc 47 then some (.inl (o_il 2 1)) else none)))) else (bif Nat.ble pc 49 then (bif Nat.ble pc 48 then (bif Nat.beq pc 48 then some (.inl (o_al 0 1)) else none) else (bif Nat.beq pc 49 then some (.inl (o_gP 11 29)) else none)) else (bif Nat.ble pc 52 then (bif Nat.beq pc 52 then some (.inl (o_il 1 1)) else none) else (bif Nat.ble pc 53 then (bif Nat.beq pc 53 then some (.inl (o_iald)) else none) else (bif Nat.beq pc 54 then some (.inl (o_iast)) else none))))))) else (bif Nat.ble pc 78 then (bif Nat.ble pc 67 then (bif Nat.ble pc 58 then (bif Nat.ble pc 56 then (bif Nat.ble pc 55 then (bif Nat.beq pc 55 then some (.inl (oS 1 (s_push (.int 0)))) else none) else (bif Nat.beq pc 56 then some (.inl (o_is 3 1)) else none)) else (bif Nat.ble pc 57 then (bif Nat.beq pc 57 then some (.inl (o_il 3 1)) else none) else (bif Nat.beq pc 58 then some (.inl (oS 1 (s_push (.int 5)))) else none))) else (bif Nat.ble pc 62 then (bif Nat.ble pc 59 then (bif Nat.beq pc 59 then some (.inl (o_cge 88)) else none) else (bif Nat.beq pc 62 then some (.inl (o_al 0 1)) else none)) else (bif Nat.ble pc 63 then (bif Nat.beq pc 63 then some (.inl (o_gP 11 19)) else none) else (bif Nat.ble pc 66 then (bif Nat.beq pc 66 then some (.inl (oS 1 (s_push (.int 5)))) else none) else (bif Nat.beq pc 67 then some (.inl (o_il 2 1)) else none))))) else (bif Nat.ble pc 71 then (bif Nat.ble pc 69 then (bif Nat.ble pc 68 then (bif Nat.beq pc 68 then some (.inl (oS 1 (s_ii (fun a b => a * b)))) else none) else (bif Nat.beq pc 69 then some (.inl (o_il 3 1)) else none)) else (bif Nat.ble pc 70 then (bif Nat.beq pc 70 then some (.inl (oS 1 (s_ii (fun a b => a + b)))) else none) else (bif Nat.beq pc 71 then some (.inl (o_al 0 1)) else none))) else (bif Nat.ble pc 75 then (bif Nat.ble pc 72 then (bif Nat.beq pc 72 then some (.inl (o_gP 11 19)) else none) else (bif Nat.beq pc 75 then some (.inl (oS 1 (s_push (.int 5)))) else none)) else (bif Nat.ble pc 76 then (bif Nat.beq pc 76 then some (.inl (o_il 1 1)) else none) else (bif Nat.ble pc 77 then (bif Nat.beq pc 77 then some (.inl (oS 1 (s_ii (fun a b => a * b)))) else none) else (bif Nat.beq pc 78 then some (.inl (o_il 3 1)) else none)))))) else (bif Nat.ble pc 91 then (bif Nat.ble pc 82 then (bif Nat.ble pc 80 then (bif Nat.ble pc 79 then (bif Nat.beq pc 79 then some (.inl (oS 1 (s_ii (fun a b => a + b)))) else none) else (bif Nat.beq pc 80 then some (.inl (o_iald)) else none)) else (bif Nat.ble pc 81 then (bif Nat.beq pc 81 then some (.inl (o_iast)) else none) else (bif Nat.beq pc 82 then some (.inl (o_inc 3 1)) else none))) else (bif Nat.ble pc 88 then (bif Nat.ble pc 85 then (bif Nat.beq pc 85 then some (.inl (o_goto 57)) else none) else (bif Nat.beq pc 88 then some (.inl (oS 1 (s_push (.int 0)))) else none)) else (bif Nat.ble pc 89 then (bif Nat.beq pc 89 then some (.inl (o_is 3 1)) else none) else (bif Nat.ble pc 90 then (bif Nat.beq pc 90 then some (.inl (o_il 3 1)) else none) else (bif Nat.beq pc 91 then some (.inl (o_al 0 1)) else none))))) else (bif Nat.ble pc 100 then (bif Nat.ble pc 95 then (bif Nat.ble pc 92 then (bif Nat.beq pc 92 then some (.inl (o_gP 11 20)) else none) else (bif Nat.beq pc 95 then some (.inl (o_il 1 1)) else none)) else (bif Nat.ble pc 96 then (bif Nat.beq pc 96 then some (.inl (o_iald)) else none) else (bif Nat.ble pc 97 then (bif Nat.beq pc 97 then some (.inl (o_cge 238)) else none) else (bif Nat.beq pc 100 then some (.inl (o_al 0 1)) else none)))) else (bif Nat.ble pc 104 then (bif Nat.ble pc 101 then (bif Nat.beq pc 101 then some (.inl (o_gP 11 21)) else none) else (bif Nat.beq pc 104 then some (.inl (oS 2 (s_push (.int 100)))) else none)) else (bif Nat.ble pc 106 then (bif Nat.beq pc 106 then some (.inl (o_il 2 1)) else none) else (bif Nat.ble pc 107 then (bif Nat.beq pc 107 then some (.inl (oS 1 (s_ii (fun a b => a * b)))) else none) else (bif Nat.beq pc 108 then some (.inl (o_il 3 1)) else none)))))))) else (bif Nat.ble pc 160 then (bif Nat.ble pc 132 then (bif Nat.ble pc 120 then (bif Nat.ble pc 114 then (bif Nat.ble pc 110 then (bif Nat.ble pc 109 then (bif Nat.beq pc 109 then some (.inl (oS 1 (s_ii (fun a b => a + b)))) else none) else (bif Nat.beq pc 110 then some (.inl (o_al 0 1)) else none)) else (bif Nat.ble pc 111 then (bif Nat.beq pc 111 then some (.inl (o_gP 11 21)) else none) else (bif Nat.beq pc 114 then some (.inl (oS 2 (s_push (.int 100)))) else none))) else (bif Nat.ble pc 117 then (bif Nat.ble pc 116 then (bif Nat.beq pc 116 then some (.inl (o_il 1 1)) else none) else (bif Nat.beq pc 117 then some (.inl (oS 1 (s_ii (fun a b => a * b)))) else none)) else (bif Nat.ble pc 118 then (bif Nat.beq pc 118 then some (.inl (o_il 3 1)) else none) else (bif Nat.ble pc 119 then (bif Nat.beq pc 119 then some (.inl (oS 1 (s_ii (fun a b => a + b)))) else none) else (bif Nat.beq pc 120 then some (.inl (o_iald)) else none))))) else (bif Nat.ble pc 126 then (bif Nat.ble pc 122 then (bif Nat.ble pc 121 then (bif Nat.beq pc 121 then some (.inl (o_iast)) else none) else (bif Nat.beq pc 122 then some (.inl (o_al 0 1)) else none)) else (bif Nat.ble pc 123 then (bif Nat.beq pc 123 then some (.inl (o_gP 11 22)) else none) else (bif Nat.beq pc 126 then some (.inl (oS 2 (s_push (.int 100)))) else none))) else (bif Nat.ble pc 129 then (bif Nat.ble pc 128 then (bif Nat.beq pc 128 then some (.inl (o_il 2 1)) else none) else (bif Nat.beq pc 129 then some (.inl (oS 1 (s_ii (fun a b => a * b)))) else none)) else (bif Nat.ble pc 130 then (bif Nat.beq pc 130 then some (.inl (o_il 3 1)) else none) else (bif Nat.ble pc 131 then (bif Nat.beq pc 131 then some (.inl (oS 1 (s_ii (fun a b => a + b)))) else none) else (bif Nat.beq pc 132 then some (.inl (o_al 0 1)) else none)))))) else (bif Nat.ble pc 144 then (bif Nat.ble pc 139 then (bif Nat.ble pc 136 then (bif Nat.ble pc 133 then (bif Nat.beq pc 133 then some (.inl (o_gP 11 22)) else none) else (bif Nat.beq pc 136 then some (.inl (oS 2 (s_push (.int 100)))) else none)) else (bif Nat.ble pc 138 then (bif Nat.beq pc 138 then some (.inl (o_il 1 1)) else none) else (bif Nat.beq pc 139 then some (.inl (oS 1 (s_ii (fun a b => a * b)))) else none))) else (bif Nat.ble pc 141 then (bif Nat.ble pc 140 then (bif Nat.beq pc 140 then some (.inl (o_il 3 1)) else none) else (bif Nat.beq pc 141 then some (.inl (oS 1 (s_ii (fun a b => a + b)))) else none)) else (bif Nat.ble pc 142 then (bif Nat.beq pc 142 then some (.inl (o_iald)) else none) else (bif Nat.ble pc 143 then (bif Nat.beq pc 143 then some (.inl (o_iast)) else none) else (bif Nat.beq pc 144 then some (.inl (o_al 0 1)) else none))))) else (bif Nat.ble pc 152 then (bif Nat.ble pc 148 then (bif Nat.ble pc 145 then (bif Nat.beq pc 145 then some (.inl (o_gP 11 23)) else none) else (bif Nat.beq pc 148 then some (.inl (oS 2 (s_push (.int 100)))) else none)) else (bif Nat.ble pc 150 then (bif Nat.beq pc 150 then some (.inl (o_il 2 1)) else none) else (bif Nat.ble pc 151 then (bif Nat.beq pc 151 then some (.inl (oS 1 (s_ii (fun a b => a * b)))) else none) else (bif Nat.beq pc 152 then some (.inl (o_il 3 1)) else none)))) else (bif Nat.ble pc 154 then (bif Nat.ble pc 153 then (bif Nat.beq pc 153 then some (.inl (oS 1 (s_ii (fun a b => a + b)))) else none) else (bif Nat.beq pc 154 then some (.inl (o_al 0 1)) else none)) else (bif Nat.ble pc 155 then (bif Nat.beq pc 155 then some (.inl (o_gP 11 23)) else none) else (bif Nat.ble pc 158 then (bif Nat.beq pc 158 then some (.inl (oS 2 (s_push (.int 100)))) else none) else (bif Nat.beq pc 160 then some (.inl (o_il 1 1)) else none))))))) else (bif Nat.ble pc 185 then (bif Nat.ble pc 172 then (bif Nat.ble pc 164 then (bif Nat.ble pc 162 then (bif Nat.ble pc 161 then (bif Nat.beq pc 161 then some (.inl (oS 1 (s_ii (fun a b => a * b)))) else none) else (bif Nat.beq pc 162 then some (.inl (o_il 3 1)) else none)) else (bif Nat.ble pc 163 then (bif Nat.beq pc 163 then some (.inl (oS 1 (s_ii (fun a b => a + b)))) else none) else (bif Nat.beq pc 164 then some (.inl (o_iald)) else none))) else (bif Nat.ble pc 166 then (bif Nat.ble pc 165 then (bif Nat.beq pc 165 then some (.inl (o_iast)) else none) else (bif Nat.beq pc 166 then some (.inl (o_al 0 1)) else none)) else (bif Nat.ble pc 167 then (bif Nat.beq pc 167 then some (.inl (o_gP 11 24)) else none) else (bif Nat.ble pc 170 then (bif Nat.beq pc 170 then some (.inl (oS 2 (s_push (.int 100)))) else none) else (bif Nat.beq pc 172 then some (.inl (o_il 2 1)) else none))))) else (bif Nat.ble pc 177 then (bif Nat.ble pc 174 then (bif Nat.ble pc 173 then (bif Nat.beq pc 173 then some (.inl (oS 1 (s_ii (fun a b => a * b)))) else none) else (bif Nat.beq pc 174 then some (.inl (o_il 3 1)) else none)) else (bif Nat.ble pc 175 then (bif Nat.beq pc 175 then some (.inl (oS 1 (s_ii (fun a b => a + b)))) else none) else (bif Nat.ble pc 176 then (bif Nat.beq pc 176 then some (.inl (o_al 0 1)) else none) else (bif Nat.beq pc 177 then some (.inl (o_gP 11 24)) else none)))) else (bif Nat.ble pc 182 then (bif Nat.ble pc 180 then (bif Nat.beq pc 180 then some (.inl (oS 2 (s_push (.int 100)))) else none) else (bif Nat.beq pc 182 then some (.inl (o_il 1 1)) else none)) else (bif Nat.ble pc 183 then (bif Nat.beq pc 183 then some (.inl (oS 1 (s_ii (fun a b => a * b)))) else none) else (bif Nat.ble pc 184 then (bif Nat.beq pc 184 then some (.inl (o_il 3 1)) else none) else (bif Nat.beq pc 185 then some (.inl (oS 1 (s_ii (fun a b => a + b)))) else none)))))) else (bif Nat.ble pc 197 then (bif Nat.ble pc 189 then (bif Nat.ble pc 187 then (bif Nat.ble pc 186 then (bif Nat.beq pc 186 then some (.inl (o_iald)) else none) else (bif Nat.beq pc 187 then some (.inl (o_iast)) else none)) else (bif Nat.ble pc 188 then (bif Nat.beq pc 188 then some (.inl (o_al 0 1)) else none) else (bif Nat.beq pc 189 then some (.inl (o_gP 11 25)) else none))) else (bif Nat.ble pc 194 then (bif Nat.ble pc 192 then (bif Nat.beq pc 192 then some (.inl (oS 2 (s_push (.int 100)))) else none) else (bif Nat.beq pc 194 then some (.inl (o_il 2 1)) else none)) else (bif Nat.ble pc 195 then (bif Nat.beq pc 195 then some (.inl (oS 1 (s_ii (fun a b => a * b)))) else none) else (bif Nat.ble pc 196 then (bif Nat.beq pc 196 then some (.inl (o_il 3 1)) else none) else (bif Nat.beq pc 197 then some (.inl (oS 1 (s_ii (fun a b => a + b)))) else none))))) else (bif Nat.ble pc 205 then (bif Nat.ble pc 199 then (bif Nat.ble pc 198 then (bif Nat.beq pc 198 then some (.inl (o_al 0 1)) else none) else (bif Nat.beq pc 199 then some (.inl (o_gP 11 25)) else none)) else (bif Nat.ble pc 202 then (bif Nat.beq pc 202 then some (.inl (oS 2 (s_push (.int 100)))) else none) else (bif Nat.ble pc 204 then (bif Nat.beq pc 204 then some (.inl (o_il 1 1)) else none) else (bif Nat.beq pc 205 then some (.inl (oS 1 (s_ii (fun a b => a * b)))) else none)))) else (bif Nat.ble pc 207 then (bif Nat.ble pc 206 then (bif Nat.beq pc 206 then some (.inl (o_il 3 1)) else none) else (bif Nat.beq pc 207 then some (.inl (oS 1 (s_ii (fun a b => a + b)))) else none)) else (bif Nat.ble pc 208 then (bif Nat.beq pc 208 then some (.inl (o_iald)) else none) else (bif Nat.ble pc 209 then (bif Nat.beq pc 209 then some (.inl (o_iast)) else none) else (bif Nat.beq pc 210 then some (.inl (o_al 0 1)) else none))))))))) else (bif Nat.ble pc 324 then (bif Nat.ble pc 269 then (bif Nat.ble pc 238 then (bif Nat.ble pc 224 then (bif Nat.ble pc 217 then (bif Nat.ble pc 214 then (bif Nat.ble pc 211 then (bif Nat.beq pc 211 then some (.inl (o_gP 11 26)) else none) else (bif Nat.beq pc 214 then some (.inl (oS 2 (s_push (.int 100)))) else none)) else (bif Nat.ble pc 216 then (bif Nat.beq pc 216 then some (.inl (o_il 2 1)) else none) else (bif Nat.beq pc 217 then some (.inl (oS 1 (s_ii (fun a b => a * b)))) else none))) else (bif Nat.ble pc 219 then (bif Nat.ble pc 218 then (bif Nat.beq pc 218 then some (.inl (o_il 3 1)) else none) else (bif Nat.beq pc 219 then some (.inl (oS 1 (s_ii (fun a b => a + b)))) else none)) else (bif Nat.ble pc 220 then (bif Nat.beq pc 220 then some (.inl (o_al 0 1)) else none) else (bif Nat.ble pc 221 then (bif Nat.beq pc 221 then some (.inl (o_gP 11 26)) else none) else (bif Nat.beq pc 224 then some (.inl (oS 2 (s_push (.int 100)))) else none))))) else (bif Nat.ble pc 229 then (bif Nat.ble pc 227 then (bif Nat.ble pc 226 then (bif Nat.beq pc 226 then some (.inl (o_il 1 1)) else none) else (bif Nat.beq pc 227 then some (.inl (oS 1 (s_ii (fun a b => a * b)))) else none)) else (bif Nat.ble pc 228 then (bif Nat.beq pc 228 then some (.inl (o_il 3 1)) else none) else (bif Nat.beq pc 229 then some (.inl (oS 1 (s_ii (fun a b => a + b)))) else none))) else (bif Nat.ble pc 231 then (bif Nat.ble pc 230 then (bif Nat.beq pc 230 then some (.inl (o_iald)) else none) else (bif Nat.beq pc 231 then some (.inl (o_iast)) else none)) else (bif Nat.ble pc 232 then (bif Nat.beq pc 232 then some (.inl (o_inc 3 1)) else none) else (bif Nat.ble pc 235 then (bif Nat.beq pc 235 then some (.inl (o_goto 90)) else none) else (bif Nat.beq pc 238 then some (.inl (oS 1 (s_push (.int 0)))) else none)))))) else (bif Nat.ble pc 251 then (bif Nat.ble pc 242 then (bif Nat.ble pc 240 then (bif Nat.ble pc 239 then (bif Nat.beq pc 239 then some (.inl (o_is 3 1)) else none) else (bif Nat.beq pc 240 then some (.inl (o_il 3 1)) else none)) else (bif Nat.ble pc 241 then (bif Nat.beq pc 241 then some (.inl (o_al 0 1)) else none) else (bif Nat.beq pc 242 then some (.inl (o_gP 11 27)) else none))) else (bif Nat.ble pc 246 then (bif Nat.ble pc 245 then (bif Nat.beq pc 245 then some (.inl (o_il 1 1)) else none) else (bif Nat.beq pc 246 then some (.inl (o_iald)) else none)) else (bif Nat.ble pc 247 then (bif Nat.beq pc 247 then some (.inl (o_cge 280)) else none) else (bif Nat.ble pc 250 then (bif Nat.beq pc 250 then some (.inl (o_al 0 1)) else none) else (bif Nat.beq pc 251 then some (.inl (o_gP 11 28)) else none))))) else (bif Nat.ble pc 260 then (bif Nat.ble pc 257 then (bif Nat.ble pc 254 then (bif Nat.beq pc 254 then some (.inl (oS 3 (s_push (.int 5000)))) else none) else (bif Nat.beq pc 257 then some (.inl (o_il 2 1)) else none)) else (bif Nat.ble pc 258 then (bif Nat.beq pc 258 then some (.inl (oS 1 (s_ii (fun a b => a * b)))) else none) else (bif Nat.ble pc 259 then (bif Nat.beq pc 259 then some (.inl (o_il 3 1)) else none) else (bif Nat.beq pc 260 then some (.inl (oS 1 (s_ii (fun a b => a + b)))) else none)))) else (bif Nat.ble pc 262 then (bif Nat.ble pc 261 then (bif Nat.beq pc 261 then some (.inl (o_al 0 1)) else none) else (bif Nat.beq pc 262 then some (.inl (o_gP 11 28)) else none)) else (bif Nat.ble pc 265 then (bif Nat.beq pc 265 then some (.inl (oS 3 (s_push (.int 5000)))) else none) else (bif Nat.ble pc 268 then (bif Nat.beq pc 268 then some (.inl (o_il 1 1)) else none) else (bif Nat.beq pc 269 then some (.inl (oS 1 (s_ii (fun a b => a * b)))) else none))))))) else (bif Nat.ble pc 299 then (bif Nat.ble pc 282 then (bif Nat.ble pc 273 then (bif Nat.ble pc 271 then (bif Nat.ble pc 270 then (bif Nat.beq pc 270 then some (.inl (o_il 3 1)) else none) else (bif Nat.beq pc 271 then some (.inl (oS 1 (s_ii (fun a b => a + b)))) else none)) else (bif Nat.ble pc 272 then (bif Nat.beq pc 272 then some (.inl (o_bald)) else none) else (bif Nat.beq pc 273 then some (.inl (o_bast)) else none))) else (bif Nat.ble pc 277 then (bif Nat.ble pc 274 then (bif Nat.beq pc 274 then some (.inl (o_inc 3 1)) else none) else (bif Nat.beq pc 277 then some (.inl (o_goto 240)) else none)) else (bif Nat.ble pc 280 then (bif Nat.beq pc 280 then some (.inl (oS 1 (s_push (.int 0)))) else none) else (bif Nat.ble pc 281 then (bif Nat.beq pc 281 then some (.inl (o_is 3 1)) else none) else (bif Nat.beq pc 282 then some (.inl (o_il 3 1)) else none))))) else (bif Nat.ble pc 289 then (bif Nat.ble pc 284 then (bif Nat.ble pc 283 then (bif Nat.beq pc 283 then some (.inl (o_al 0 1)) else none) else (bif Nat.beq pc 284 then some (.inl (o_gP 11 29)) else none)) else (bif Nat.ble pc 287 then (bif Nat.beq pc 287 then some (.inl (o_il 1 1)) else none) else (bif Nat.ble pc 288 then (bif Nat.beq pc 288 then some (.inl (o_iald)) else none) else (bif Nat.beq pc 289 then some (.inl (o_cge 430)) else none)))) else (bif Nat.ble pc 293 then (bif Nat.ble pc 292 then (bif Nat.beq pc 292 then some (.inl (o_al 0 1)) else none) else (bif Nat.beq pc 293 then some (.inl (o_gP 11 30)) else none)) else (bif Nat.ble pc 296 then (bif Nat.beq pc 296 then some (.inl (oS 2 (s_push (.int 24)))) else none) else (bif Nat.ble pc 298 then (bif Nat.beq pc 298 then some (.inl (o_il 2 1)) else none) else (bif Nat.beq pc 299 then some (.inl (oS 1 (s_ii (fun a b => a * b)))) else none)))))) else (bif Nat.ble pc 311 then (bif Nat.ble pc 303 then (bif Nat.ble pc 301 then (bif Nat.ble pc 300 then (bif Nat.beq pc 300 then some (.inl (o_il 3 1)) else none) else (bif Nat.beq pc 301 then some (.inl (oS 1 (s_ii (fun a b => a + b)))) else none)) else (bif Nat.ble pc 302 then (bif Nat.beq pc 302 then some (.inl (o_al 0 1)) else none) else (bif Nat.beq pc 303 then some (.inl (o_gP 11 30)) else none))) else (bif Nat.ble pc 308 then (bif Nat.ble pc 306 then (bif Nat.beq pc 306 then some (.inl (oS 2 (s_push (.int 24)))) else none) else (bif Nat.beq pc 308 then some (.inl (o_il 1 1)) else none)) else (bif Nat.ble pc 309 then (bif Nat.beq pc 309 then some (.inl (oS 1 (s_ii (fun a b => a * b)))) else none) else (bif Nat.ble pc 310 then (bif Nat.beq pc 310 then some (.inl (o_il 3 1)) else none) else (bif Nat.beq pc 311 then some (.inl (oS 1 (s_ii (fun a b => a + b)))) else none))))) else (bif Nat.ble pc 318 then (bif Nat.ble pc 313 then (bif Nat.ble pc 312 then (bif Nat.beq pc 312 then some (.inl (o_iald)) else none) else (bif Nat.beq pc 313 then some (.inl (o_iast)) else none)) else (bif Nat.ble pc 314 then (bif Nat.beq pc 314 then some (.inl (o_al 0 1)) else none) else (bif Nat.ble pc 315 then (bif Nat.beq pc 315 then some (.inl (o_gP 11 31)) else none) else (bif Nat.beq pc 318 then some (.inl (oS 2 (s_push (.int 24)))) else none)))) else (bif Nat.ble pc 321 then (bif Nat.ble pc 320 then (bif Nat.beq pc 320 then some (.inl (o_il 2 1)) else none) else (bif Nat.beq pc 321 then some (.inl (oS 1 (s_ii (fun a b => a * b)))) else none)) else (bif Nat.ble pc 322 then (bif Nat.beq pc 322 then some (.inl (o_il 3 1)) else none) else (bif Nat.ble pc 323 then (bif Nat.beq pc 323 then some (.inl (oS 1 (s_ii (fun a b => a + b)))) else none) else (bif Nat.beq pc 324 then some (.inl (o_al 0 1)) else none)))))))) else (bif Nat.ble pc 376 then (bif Nat.ble pc 350 then (bif Nat.ble pc 336 then (bif Nat.ble pc 331 then (bif Nat.ble pc 328 then (bif Nat.ble pc 325 then (bif Nat.beq pc 325 then some (.inl (o_gP 11 31)) else none) else (bif Nat.beq pc 328 then some (.inl (oS 2 (s_push (.int 24)))) else none)) else (bif Nat.ble pc 330 then (bif Nat.beq pc 330 then some (.inl (o_il 1 1)) else none) else (bif Nat.beq pc 331 then some (.inl (oS 1 (s_ii (fun a b => a * b)))) else none))) else (bif Nat.ble pc 333 then (bif Nat.ble pc 332 then (bif Nat.beq pc 332 then some (.inl (o_il 3 1)) else none) else (bif Nat.beq pc 333 then some (.inl (oS 1 (s_ii (fun a b => a + b)))) else none)) else (bif Nat.ble pc 334 then (bif Nat.beq pc 334 then some (.inl (o_iald)) else none) else (bif Nat.ble pc 335 then (bif Nat.beq pc 335 then some (.inl (o_iast)) else none) else (bif Nat.beq pc 336 then some (.inl (o_al 0 1)) else none))))) else (bif Nat.ble pc 343 then (bif Nat.ble pc 340 then (bif Nat.ble pc 337 then (bif Nat.beq pc 337 then some (.inl (o_gP 11 32)) else none) else (bif Nat.beq pc 340 then some (.inl (oS 2 (s_push (.int 24)))) else none)) else (bif Nat.ble pc 342 then (bif Nat.beq pc 342 then some (.inl (o_il 2 1)) else none) else (bif Nat.beq pc 343 then some (.inl (oS 1 (s_ii (fun a b => a * b)))) else none))) else (bif Nat.ble pc 345 then (bif Nat.ble pc 344 then (bif Nat.beq pc 344 then some (.inl (o_il 3 1)) else none) else (bif Nat.beq pc 345 then some (.inl (oS 1 (s_ii (fun a b => a + b)))) else none)) else (bif Nat.ble pc 346 then (bif Nat.beq pc 346 then some (.inl (o_al 0 1)) else none) else (bif Nat.ble pc 347 then (bif Nat.beq pc 347 then some (.inl (o_gP 11 32)) else none) else (bif Nat.beq pc 350 then some (.inl (oS 2 (s_push (.int 24)))) else none)))))) else (bif Nat.ble pc 362 then (bif Nat.ble pc 355 then (bif Nat.ble pc 353 then (bif Nat.ble pc 352 then (bif Nat.beq pc 352 then some (.inl (o_il 1 1)) else none) else (bif Nat.beq pc 353 then some (.inl (oS 1 (s_ii (fun a b => a * b)))) else none)) else (bif Nat.ble pc 354 then (bif Nat.beq pc 354 then some (.inl (o_il 3 1)) else none) else (bif Nat.beq pc 355 then some (.inl (oS 1 (s_ii (fun a b => a + b)))) else none))) else (bif Nat.ble pc 357 then (bif Nat.ble pc 356 then (bif Nat.beq pc 356 then some (.inl (o_iald)) else none) else (bif Nat.beq pc 357 then some (.inl (o_iast)) else none)) else (bif Nat.ble pc 358 then (bif Nat.beq pc 358 then some (.inl (o_al 0 1)) else none) else (bif Nat.ble pc 359 then (bif Nat.beq pc 359 then some (.inl (o_gP 11 33)) else none) else (bif Nat.beq pc 362 then some (.inl (oS 2 (s_push (.int 24)))) else none))))) else (bif Nat.ble pc 368 then (bif Nat.ble pc 365 then (bif Nat.ble pc 364 then (bif Nat.beq pc 364 then some (.inl (o_il 2 1)) else none) else (bif Nat.beq pc 365 then some (.inl (oS 1 (s_ii (fun a b => a * b)))) else none)) else (bif Nat.ble pc 366 then (bif Nat.beq pc 366 then some (.inl (o_il 3 1)) else none) else (bif Nat.ble pc 367 then (bif Nat.beq pc 367 then some (.inl (oS 1 (s_ii (fun a b => a + b)))) else none) else (bif Nat.beq pc 368 then some (.inl (o_al 0 1)) else none)))) else (bif Nat.ble pc 372 then (bif Nat.ble pc 369 then (bif Nat.beq pc 369 then some (.inl (o_gP 11 33)) else none) else (bif Nat.beq pc 372 then some (.inl (oS 2 (s_push (.int 24)))) else none)) else (bif Nat.ble pc 374 then (bif Nat.beq pc 374 then some (.inl (o_il 1 1)) else none) else (bif Nat.ble pc 375 then (bif Nat.beq pc 375 then some (.inl (oS 1 (s_ii (fun a b => a * b)))) else none) else (bif Nat.beq pc 376 then some (.inl (o_il 3 1)) else none))))))) else (bif Nat.ble pc 401 then (bif Nat.ble pc 388 then (bif Nat.ble pc 380 then (bif Nat.ble pc 378 then (bif Nat.ble pc 377 then (bif Nat.beq pc 377 then some (.inl (oS 1 (s_ii (fun a b => a + b)))) else none) else (bif Nat.beq pc 378 then some (.inl (o_lald)) else none)) else (bif Nat.ble pc 379 then (bif Nat.beq pc 379 then some (.inl (o_last)) else none) else (bif Nat.beq pc 380 then some (.inl (o_al 0 1)) else none))) else (bif Nat.ble pc 384 then (bif Nat.ble pc 381 then (bif Nat.beq pc 381 then some (.inl (o_gP 11 34)) else none) else (bif Nat.beq pc 384 then some (.inl (oS 2 (s_push (.int 24)))) else none)) else (bif Nat.ble pc 386 then (bif Nat.beq pc 386 then some (.inl (o_il 2 1)) else none) else (bif Nat.ble pc 387 then (bif Nat.beq pc 387 then some (.inl (oS 1 (s_ii (fun a b => a * b)))) else none) else (bif Nat.beq pc 388 then some (.inl (o_il 3 1)) else none))))) else (bif Nat.ble pc 396 then (bif Nat.ble pc 390 then (bif Nat.ble pc 389 then (bif Nat.beq pc 389 then some (.inl (oS 1 (s_ii (fun a b => a + b)))) else none) else (bif Nat.beq pc 390 then some (.inl (o_al 0 1)) else none)) else (bif Nat.ble pc 391 then (bif Nat.beq pc 391 then some (.inl (o_gP 11 34)) else none) else (bif Nat.ble pc 394 then (bif Nat.beq pc 394 then some (.inl (oS 2 (s_push (.int 24)))) else none) else (bif Nat.beq pc 396 then some (.inl (o_il 1 1)) else none)))) else (bif Nat.ble pc 398 then (bif Nat.ble pc 397 then (bif Nat.beq pc 397 then some (.inl (oS 1 (s_ii (fun a b => a * b)))) else none) else (bif Nat.beq pc 398 then some (.inl (o_il 3 1)) else none)) else (bif Nat.ble pc 399 then (bif Nat.beq pc 399 then some (.inl (oS 1 (s_ii (fun a b => a + b)))) else none) else (bif Nat.ble pc 400 then (bif Nat.beq pc 400 then some (.inl (o_iald)) else none) else (bif Nat.beq pc 401 then some (.inl (o_iast)) else none)))))) else (bif Nat.ble pc 413 then (bif Nat.ble pc 408 then (bif Nat.ble pc 403 then (bif Nat.ble pc 402 then (bif Nat.beq pc 402 then some (.inl (o_al 0 1)) else none) else (bif Nat.beq pc 403 then some (.inl (o_gP 11 35)) else none)) else (bif Nat.ble pc 406 then (bif Nat.beq pc 406 then some (.inl (oS 2 (s_push (.int 24)))) else none) else (bif Nat.beq pc 408 then some (.inl (o_il 2 1)) else none))) else (bif Nat.ble pc 410 then (bif Nat.ble pc 409 then (bif Nat.beq pc 409 then some (.inl (oS 1 (s_ii (fun a b => a * b)))) else none) else (bif Nat.beq pc 410 then some (.inl (o_il 3 1)) else none)) else (bif Nat.ble pc 411 then (bif Nat.beq pc 411 then some (.inl (oS 1 (s_ii (fun a b => a + b)))) else none) else (bif Nat.ble pc 412 then (bif Nat.beq pc 412 then some (.inl (o_al 0 1)) else none) else (bif Nat.beq pc 413 then some (.inl (o_gP 11 35)) else none))))) else (bif Nat.ble pc 421 then (bif Nat.ble pc 418 then (bif Nat.ble pc 416 then (bif Nat.beq pc 416 then some (.inl (oS 2 (s_push (.int 24)))) else none) else (bif Nat.beq pc 418 then some (.inl (o_il 1 1)) else none)) else (bif Nat.ble pc 419 then (bif Nat.beq pc 419 then some (.inl (oS 1 (s_ii (fun a b => a * b)))) else none) else (bif Nat.ble pc 420 then (bif Nat.beq pc 420 then some (.inl (o_il 3 1)) else none) else (bif Nat.beq pc 421 then some (.inl (oS 1 (s_ii (fun a b => a + b)))) else none)))) else (bif Nat.ble pc 423 then (bif Nat.ble pc 422 then (bif Nat.beq pc 422 then some (.inl (o_iald)) else none) else (bif Nat.beq pc 423 then some (.inl (o_iast)) else none)) else (bif Nat.ble pc 424 then (bif Nat.beq pc 424 then some (.inl (o_inc 3 1)) else none) else (bif Nat.ble pc 427 then (bif Nat.beq pc 427 then some (.inl (o_goto 282)) else none) else (bif Nat.beq pc 430 then some (.inr (0, 0, 0, 3)) else none)))))))))
theorem k_161_0 : mOk M_161.1 M_161.2.1 M_161.2.2.1 M_161.2.2.2 0 (o_al 0 1) := ok_aload_n dX11_copyPack_0 rfl
theorem k_161_1 : mOk M_161.1 M_161.2.1 M_161.2.2.1 M_161.2.2.2 1 (o_gP 11 17) := ok_gP dX11_copyPack_1 f_RX11_47 rfl
theorem k_161_4 : mOk M_161.1 M_161.2.1 M_161.2.2.1 M_161.2.2.2 4 (o_il 2 1) := ok_iload_n dX11_copyPack_4 rfl
theorem k_161_5 : mOk M_161.1 M_161.2.1 M_161.2.2.1 M_161.2.2.2 5 (oS 1 (s_push (.int 1))) := ok_iconst dX11_copyPack_5 (by decide)
theorem k_161_6 : mOk M_161.1 M_161.2.1 M_161.2.2.1 M_161.2.2.2 6 (o_bast) := ok_bast dX11_copyPack_6
theorem k_161_7 : mOk M_161.1 M_161.2.1 M_161.2.2.1 M_161.2.2.2 7 (o_al 0 1) := ok_aload_n dX11_copyPack_7 rfl
theorem k_161_8 : mOk M_161.1 M_161.2.1 M_161.2.2.1 M_161.2.2.2 8 (o_gP 11 18) := ok_gP dX11_copyPack_8 f_RX11_51 rfl
theorem k_161_11 : mOk M_161.1 M_161.2.1 M_161.2.2.1 M_161.2.2.2 11 (o_il 2 1) := ok_iload_n dX11_copyPack_11 rfl
theorem k_161_12 : mOk M_161.1 M_161.2.1 M_161.2.2.1 M_161.2.2.2 12 (o_al 0 1) := ok_aload_n dX11_copyPack_12 rfl
theorem k_161_13 : mOk M_161.1 M_161.2.1 M_161.2.2.1 M_161.2.2.2 13 (o_gP 11 18) := ok_gP dX11_copyPack_13 f_RX11_51 rfl
theorem k_161_16 : mOk M_161.1 M_161.2.1 M_161.2.2.1 M_161.2.2.2 16 (o_il 1 1) := ok_iload_n dX11_copyPack_16 rfl
theorem k_161_17 : mOk M_161.1 M_161.2.1 M_161.2.2.1 M_161.2.2.2 17 (o_iald) := ok_iald dX11_copyPack_17
theorem k_161_18 : mOk M_161.1 M_161.2.1 M_161.2.2.1 M_161.2.2.2 18 (o_iast) := ok_iast dX11_copyPack_18
theorem k_161_19 : mOk M_161.1 M_161.2.1 M_161.2.2.1 M_161.2.2.2 19 (o_al 0 1) := ok_aload_n dX11_copyPack_19 rfl
theorem k_161_20 : mOk M_161.1 M_161.2.1 M_161.2.2.1 M_161.2.2.2 20 (o_gP 11 20) := ok_gP dX11_copyPack_20 f_RX11_57 rfl
theorem k_161_23 : mOk M_161.1 M_161.2.1 M_161.2.2.1 M_161.2.2.2 23 (o_il 2 1) := ok_iload_n dX11_copyPack_23 rfl
theorem k_161_24 : mOk M_161.1 M_161.2.1 M_161.2.2.1 M_161.2.2.2 24 (o_al 0 1) := ok_aload_n dX11_copyPack_24 rfl
theorem k_161_25 : mOk M_161.1 M_161.2.1 M_161.2.2.1 M_161.2.2.2 25 (o_gP 11 20) := ok_gP dX11_copyPack_25 f_RX11_57 rfl
theorem k_161_28 : mOk M_161.1 M_161.2.1 M_161.2.2.1 M_161.2.2.2 28 (o_il 1 1) := ok_iload_n dX11_copyPack_28 rfl
theorem k_161_29 : mOk M_161.1 M_161.2.1 M_161.2.2.1 M_161.2.2.2 29 (o_iald) := ok_iald dX11_copyPack_29
theorem k_161_30 : mOk M_161.1 M_161.2.1 M_161.2.2.1 M_161.2.2.2 30 (o_iast) := ok_iast dX11_copyPack_30
theorem k_161_31 : mOk M_161.1 M_161.2.1 M_161.2.2.1 M_161.2.2.2 31 (o_al 0 1) := ok_aload_n dX11_copyPack_31 rfl
theorem k_161_32 : mOk M_161.1 M_161.2.1 M_161.2.2.1 M_161.2.2.2 32 (o_gP 11 27) := ok_gP dX11_copyPack_32 f_RX11_78 rfl
theorem k_161_35 : mOk M_161.1 M_161.2.1 M_161.2.2.1 M_161.2.2.2 35 (o_il 2 1) := ok_iload_n dX11_copyPack_35 rfl
theorem k_161_36 : mOk M_161.1 M_161.2.1 M_161.2.2.1 M_161.2.2.2 36 (o_al 0 1) := ok_aload_n dX11_copyPack_36 rfl
theorem k_161_37 : mOk M_161.1 M_161.2.1 M_161.2.2.1 M_161.2.2.2 37 (o_gP 11 27) := ok_gP dX11_copyPack_37 f_RX11_78 rfl
theorem k_161_40 : mOk M_161.1 M_161.2.1 M_161.2.2.1 M_161.2.2.2 40 (o_il 1 1) := ok_iload_n dX11_copyPack_40 rfl
theorem k_161_41 : mOk M_161.1 M_161.2.1 M_161.2.2.1 M_161.2.2.2 41 (o_iald) := ok_iald dX11_copyPack_41
theorem k_161_42 : mOk M_161.1 M_161.2.1 M_161.2.2.1 M_161.2.2.2 42 (o_iast) := ok_iast dX11_copyPack_42
theorem k_161_43 : mOk M_161.1 M_161.2.1 M_161.2.2.1 M_161.2.2.2 43 (o_al 0 1) := ok_aload_n dX11_copyPack_43 rfl
theorem k_161_44 : mOk M_161.1 M_161.2.1 M_161.2.2.1 M_161.2.2.2 44 (o_gP 11 29) := ok_gP dX11_copyPack_44 f_RX11_85 rfl
theorem k_161_47 : mOk M_161.1 M_161.2.1 M_161.2.2.1 M_161.2.2.2 47 (o_il 2 1) := ok_iload_n dX11_copyPack_47 rfl
theorem k_161_48 : mOk M_161.1 M_161.2.1 M_161.2.2.1 M_161.2.2.2 48 (o_al 0 1) := ok_aload_n dX11_copyPack_48 rfl
theorem k_161_49 : mOk M_161.1 M_161.2.1 M_161.2.2.1 M_161.2.2.2 49 (o_gP 11 29) := ok_gP dX11_copyPack_49 f_RX11_85 rfl
theorem k_161_52 : mOk M_161.1 M_161.2.1 M_161.2.2.1 M_161.2.2.2 52 (o_il 1 1) := ok_iload_n dX11_copyPack_52 rfl
theorem k_161_53 : mOk M_161.1 M_161.2.1 M_161.2.2.1 M_161.2.2.2 53 (o_iald) := ok_iald dX11_copyPack_53
theorem k_161_54 : mOk M_161.1 M_161.2.1 M_161.2.2.1 M_161.2.2.2 54 (o_iast) := ok_iast dX11_copyPack_54
theorem k_161_55 : mOk M_161.1 M_161.2.1 M_161.2.2.1 M_161.2.2.2 55 (oS 1 (s_push (.int 0))) := ok_iconst dX11_copyPack_55 (by decide)
theorem k_161_56 : mOk M_161.1 M_161.2.1 M_161.2.2.1 M_161.2.2.2 56 (o_is 3 1) := ok_istore_n dX11_copyPack_56 rfl
theorem k_161_57 : mOk M_161.1 M_161.2.1 M_161.2.2.1 M_161.2.2.2 57 (o_il 3 1) := ok_iload_n dX11_copyPack_57 rfl
theorem k_161_58 : mOk M_161.1 M_161.2.1 M_161.2.2.1 M_161.2.2.2 58 (oS 1 (s_push (.int 5))) := ok_iconst dX11_copyPack_58 (by decide)
theorem k_161_59 : mOk M_161.1 M_161.2.1 M_161.2.2.1 M_161.2.2.2 59 (o_cge 88) := ok_cge dX11_copyPack_59 (by decide)
theorem k_161_62 : mOk M_161.1 M_161.2.1 M_161.2.2.1 M_161.2.2.2 62 (o_al 0 1) := ok_aload_n dX11_copyPack_62 rfl
theorem k_161_63 : mOk M_161.1 M_161.2.1 M_161.2.2.1 M_161.2.2.2 63 (o_gP 11 19) := ok_gP dX11_copyPack_63 f_RX11_54 rfl
theorem k_161_66 : mOk M_161.1 M_161.2.1 M_161.2.2.1 M_161.2.2.2 66 (oS 1 (s_push (.int 5))) := ok_iconst dX11_copyPack_66 (by decide)
theorem k_161_67 : mOk M_161.1 M_161.2.1 M_161.2.2.1 M_161.2.2.2 67 (o_il 2 1) := ok_iload_n dX11_copyPack_67 rfl
theorem k_161_68 : mOk M_161.1 M_161.2.1 M_161.2.2.1 M_161.2.2.2 68 (oS 1 (s_ii (fun a b => a * b))) := ok_imul dX11_copyPack_68
theorem k_161_69 : mOk M_161.1 M_161.2.1 M_161.2.2.1 M_161.2.2.2 69 (o_il 3 1) := ok_iload_n dX11_copyPack_69 rfl
theorem k_161_70 : mOk M_161.1 M_161.2.1 M_161.2.2.1 M_161.2.2.2 70 (oS 1 (s_ii (fun a b => a + b))) := ok_iadd dX11_copyPack_70
theorem k_161_71 : mOk M_161.1 M_161.2.1 M_161.2.2.1 M_161.2.2.2 71 (o_al 0 1) := ok_aload_n dX11_copyPack_71 rfl
theorem k_161_72 : mOk M_161.1 M_161.2.1 M_161.2.2.1 M_161.2.2.2 72 (o_gP 11 19) := ok_gP dX11_copyPack_72 f_RX11_54 rfl
theorem k_161_75 : mOk M_161.1 M_161.2.1 M_161.2.2.1 M_161.2.2.2 75 (oS 1 (s_push (.int 5))) := ok_iconst dX11_copyPack_75 (by decide)
theorem k_161_76 : mOk M_161.1 M_161.2.1 M_161.2.2.1 M_161.2.2.2 76 (o_il 1 1) := ok_iload_n dX11_copyPack_76 rfl
theorem k_161_77 : mOk M_161.1 M_161.2.1 M_161.2.2.1 M_161.2.2.2 77 (oS 1 (s_ii (fun a b => a * b))) := ok_imul dX11_copyPack_77
theorem k_161_78 : mOk M_161.1 M_161.2.1 M_161.2.2.1 M_161.2.2.2 78 (o_il 3 1) := ok_iload_n dX11_copyPack_78 rfl
theorem k_161_79 : mOk M_161.1 M_161.2.1 M_161.2.2.1 M_161.2.2.2 79 (oS 1 (s_ii (fun a b => a + b))) := ok_iadd dX11_copyPack_79
theorem k_161_80 : mOk M_161.1 M_161.2.1 M_161.2.2.1 M_161.2.2.2 80 (o_iald) := ok_iald dX11_copyPack_80
theorem k_161_81 : mOk M_161.1 M_161.2.1 M_161.2.2.1 M_161.2.2.2 81 (o_iast) := ok_iast dX11_copyPack_81
theorem k_161_82 : mOk M_161.1 M_161.2.1 M_161.2.2.1 M_161.2.2.2 82 (o_inc 3 1) := ok_iinc dX11_copyPack_82 (by decide)
theorem k_161_85 : mOk M_161.1 M_161.2.1 M_161.2.2.1 M_161.2.2.2 85 (o_goto 57) := ok_goto dX11_copyPack_85 (by decide)
theorem k_161_88 : mOk M_161.1 M_161.2.1 M_161.2.2.1 M_161.2.2.2 88 (oS 1 (s_push (.int 0))) := ok_iconst dX11_copyPack_88 (by decide)
theorem k_161_89 : mOk M_161.1 M_161.2.1 M_161.2.2.1 M_161.2.2.2 89 (o_is 3 1) := ok_istore_n dX11_copyPack_89 rfl
theorem k_161_90 : mOk M_161.1 M_161.2.1 M_161.2.2.1 M_161.2.2.2 90 (o_il 3 1) := ok_iload_n dX11_copyPack_90 rfl
theorem k_161_91 : mOk M_161.1 M_161.2.1 M_161.2.2.1 M_161.2.2.2 91 (o_al 0 1) := ok_aload_n dX11_copyPack_91 rfl
theorem k_161_92 : mOk M_161.1 M_161.2.1 M_161.2.2.1 M_161.2.2.2 92 (o_gP 11 20) := ok_gP dX11_copyPack_92 f_RX11_57 rfl
theorem k_161_95 : mOk M_161.1 M_161.2.1 M_161.2.2.1 M_161.2.2.2 95 (o_il 1 1) := ok_iload_n dX11_copyPack_95 rfl
theorem k_161_96 : mOk M_161.1 M_161.2.1 M_161.2.2.1 M_161.2.2.2 96 (o_iald) := ok_iald dX11_copyPack_96
theorem k_161_97 : mOk M_161.1 M_161.2.1 M_161.2.2.1 M_161.2.2.2 97 (o_cge 238) := ok_cge dX11_copyPack_97 (by decide)
theorem k_161_100 : mOk M_161.1 M_161.2.1 M_161.2.2.1 M_161.2.2.2 100 (o_al 0 1) := ok_aload_n dX11_copyPack_100 rfl
theorem k_161_101 : mOk M_161.1 M_161.2.1 M_161.2.2.1 M_161.2.2.2 101 (o_gP 11 21) := ok_gP dX11_copyPack_101 f_RX11_60 rfl
theorem k_161_104 : mOk M_161.1 M_161.2.1 M_161.2.2.1 M_161.2.2.2 104 (oS 2 (s_push (.int 100))) := ok_bipush dX11_copyPack_104 (by decide)
theorem k_161_106 : mOk M_161.1 M_161.2.1 M_161.2.2.1 M_161.2.2.2 106 (o_il 2 1) := ok_iload_n dX11_copyPack_106 rfl
theorem k_161_107 : mOk M_161.1 M_161.2.1 M_161.2.2.1 M_161.2.2.2 107 (oS 1 (s_ii (fun a b => a * b))) := ok_imul dX11_copyPack_107
theorem k_161_108 : mOk M_161.1 M_161.2.1 M_161.2.2.1 M_161.2.2.2 108 (o_il 3 1) := ok_iload_n dX11_copyPack_108 rfl
theorem k_161_109 : mOk M_161.1 M_161.2.1 M_161.2.2.1 M_161.2.2.2 109 (oS 1 (s_ii (fun a b => a + b))) := ok_iadd dX11_copyPack_109
theorem k_161_110 : mOk M_161.1 M_161.2.1 M_161.2.2.1 M_161.2.2.2 110 (o_al 0 1) := ok_aload_n dX11_copyPack_110 rfl
theorem k_161_111 : mOk M_161.1 M_161.2.1 M_161.2.2.1 M_161.2.2.2 111 (o_gP 11 21) := ok_gP dX11_copyPack_111 f_RX11_60 rfl
theorem k_161_114 : mOk M_161.1 M_161.2.1 M_161.2.2.1 M_161.2.2.2 114 (oS 2 (s_push (.int 100))) := ok_bipush dX11_copyPack_114 (by decide)
theorem k_161_116 : mOk M_161.1 M_161.2.1 M_161.2.2.1 M_161.2.2.2 116 (o_il 1 1) := ok_iload_n dX11_copyPack_116 rfl
theorem k_161_117 : mOk M_161.1 M_161.2.1 M_161.2.2.1 M_161.2.2.2 117 (oS 1 (s_ii (fun a b => a * b))) := ok_imul dX11_copyPack_117
theorem k_161_118 : mOk M_161.1 M_161.2.1 M_161.2.2.1 M_161.2.2.2 118 (o_il 3 1) := ok_iload_n dX11_copyPack_118 rfl
theorem k_161_119 : mOk M_161.1 M_161.2.1 M_161.2.2.1 M_161.2.2.2 119 (oS 1 (s_ii (fun a b => a + b))) := ok_iadd dX11_copyPack_119
theorem k_161_120 : mOk M_161.1 M_161.2.1 M_161.2.2.1 M_161.2.2.2 120 (o_iald) := ok_iald dX11_copyPack_120
theorem k_161_121 : mOk M_161.1 M_161.2.1 M_161.2.2.1 M_161.2.2.2 121 (o_iast) := ok_iast dX11_copyPack_121
theorem k_161_122 : mOk M_161.1 M_161.2.1 M_161.2.2.1 M_161.2.2.2 122 (o_al 0 1) := ok_aload_n dX11_copyPack_122 rfl
theorem k_161_123 : mOk M_161.1 M_161.2.1 M_161.2.2.1 M_161.2.2.2 123 (o_gP 11 22) := ok_gP dX11_copyPack_123 f_RX11_63 rfl
theorem k_161_126 : mOk M_161.1 M_161.2.1 M_161.2.2.1 M_161.2.2.2 126 (oS 2 (s_push (.int 100))) := ok_bipush dX11_copyPack_126 (by decide)
theorem k_161_128 : mOk M_161.1 M_161.2.1 M_161.2.2.1 M_161.2.2.2 128 (o_il 2 1) := ok_iload_n dX11_copyPack_128 rfl
theorem k_161_129 : mOk M_161.1 M_161.2.1 M_161.2.2.1 M_161.2.2.2 129 (oS 1 (s_ii (fun a b => a * b))) := ok_imul dX11_copyPack_129
theorem k_161_130 : mOk M_161.1 M_161.2.1 M_161.2.2.1 M_161.2.2.2 130 (o_il 3 1) := ok_iload_n dX11_copyPack_130 rfl
theorem k_161_131 : mOk M_161.1 M_161.2.1 M_161.2.2.1 M_161.2.2.2 131 (oS 1 (s_ii (fun a b => a + b))) := ok_iadd dX11_copyPack_131
theorem k_161_132 : mOk M_161.1 M_161.2.1 M_161.2.2.1 M_161.2.2.2 132 (o_al 0 1) := ok_aload_n dX11_copyPack_132 rfl
theorem k_161_133 : mOk M_161.1 M_161.2.1 M_161.2.2.1 M_161.2.2.2 133 (o_gP 11 22) := ok_gP dX11_copyPack_133 f_RX11_63 rfl
theorem k_161_136 : mOk M_161.1 M_161.2.1 M_161.2.2.1 M_161.2.2.2 136 (oS 2 (s_push (.int 100))) := ok_bipush dX11_copyPack_136 (by decide)
theorem k_161_138 : mOk M_161.1 M_161.2.1 M_161.2.2.1 M_161.2.2.2 138 (o_il 1 1) := ok_iload_n dX11_copyPack_138 rfl
theorem k_161_139 : mOk M_161.1 M_161.2.1 M_161.2.2.1 M_161.2.2.2 139 (oS 1 (s_ii (fun a b => a * b))) := ok_imul dX11_copyPack_139
theorem k_161_140 : mOk M_161.1 M_161.2.1 M_161.2.2.1 M_161.2.2.2 140 (o_il 3 1) := ok_iload_n dX11_copyPack_140 rfl
theorem k_161_141 : mOk M_161.1 M_161.2.1 M_161.2.2.1 M_161.2.2.2 141 (oS 1 (s_ii (fun a b => a + b))) := ok_iadd dX11_copyPack_141
theorem k_161_142 : mOk M_161.1 M_161.2.1 M_161.2.2.1 M_161.2.2.2 142 (o_iald) := ok_iald dX11_copyPack_142
theorem k_161_143 : mOk M_161.1 M_161.2.1 M_161.2.2.1 M_161.2.2.2 143 (o_iast) := ok_iast dX11_copyPack_143
theorem k_161_144 : mOk M_161.1 M_161.2.1 M_161.2.2.1 M_161.2.2.2 144 (o_al 0 1) := ok_aload_n dX11_copyPack_144 rfl
theorem k_161_145 : mOk M_161.1 M_161.2.1 M_161.2.2.1 M_161.2.2.2 145 (o_gP 11 23) := ok_gP dX11_copyPack_145 f_RX11_66 rfl
theorem k_161_148 : mOk M_161.1 M_161.2.1 M_161.2.2.1 M_161.2.2.2 148 (oS 2 (s_push (.int 100))) := ok_bipush dX11_copyPack_148 (by decide)
theorem k_161_150 : mOk M_161.1 M_161.2.1 M_161.2.2.1 M_161.2.2.2 150 (o_il 2 1) := ok_iload_n dX11_copyPack_150 rfl
theorem k_161_151 : mOk M_161.1 M_161.2.1 M_161.2.2.1 M_161.2.2.2 151 (oS 1 (s_ii (fun a b => a * b))) := ok_imul dX11_copyPack_151
theorem k_161_152 : mOk M_161.1 M_161.2.1 M_161.2.2.1 M_161.2.2.2 152 (o_il 3 1) := ok_iload_n dX11_copyPack_152 rfl
theorem k_161_153 : mOk M_161.1 M_161.2.1 M_161.2.2.1 M_161.2.2.2 153 (oS 1 (s_ii (fun a b => a + b))) := ok_iadd dX11_copyPack_153
theorem k_161_154 : mOk M_161.1 M_161.2.1 M_161.2.2.1 M_161.2.2.2 154 (o_al 0 1) := ok_aload_n dX11_copyPack_154 rfl
theorem k_161_155 : mOk M_161.1 M_161.2.1 M_161.2.2.1 M_161.2.2.2 155 (o_gP 11 23) := ok_gP dX11_copyPack_155 f_RX11_66 rfl
theorem k_161_158 : mOk M_161.1 M_161.2.1 M_161.2.2.1 M_161.2.2.2 158 (oS 2 (s_push (.int 100))) := ok_bipush dX11_copyPack_158 (by decide)
theorem k_161_160 : mOk M_161.1 M_161.2.1 M_161.2.2.1 M_161.2.2.2 160 (o_il 1 1) := ok_iload_n dX11_copyPack_160 rfl
theorem k_161_161 : mOk M_161.1 M_161.2.1 M_161.2.2.1 M_161.2.2.2 161 (oS 1 (s_ii (fun a b => a * b))) := ok_imul dX11_copyPack_161
theorem k_161_162 : mOk M_161.1 M_161.2.1 M_161.2.2.1 M_161.2.2.2 162 (o_il 3 1) := ok_iload_n dX11_copyPack_162 rfl
theorem k_161_163 : mOk M_161.1 M_161.2.1 M_161.2.2.1 M_161.2.2.2 163 (oS 1 (s_ii (fun a b => a + b))) := ok_iadd dX11_copyPack_163
theorem k_161_164 : mOk M_161.1 M_161.2.1 M_161.2.2.1 M_161.2.2.2 164 (o_iald) := ok_iald dX11_copyPack_164
theorem k_161_165 : mOk M_161.1 M_161.2.1 M_161.2.2.1 M_161.2.2.2 165 (o_iast) := ok_iast dX11_copyPack_165
theorem k_161_166 : mOk M_161.1 M_161.2.1 M_161.2.2.1 M_161.2.2.2 166 (o_al 0 1) := ok_aload_n dX11_copyPack_166 rfl
theorem k_161_167 : mOk M_161.1 M_161.2.1 M_161.2.2.1 M_161.2.2.2 167 (o_gP 11 24) := ok_gP dX11_copyPack_167 f_RX11_69 rfl
theorem k_161_170 : mOk M_161.1 M_161.2.1 M_161.2.2.1 M_161.2.2.2 170 (oS 2 (s_push (.int 100))) := ok_bipush dX11_copyPack_170 (by decide)
theorem k_161_172 : mOk M_161.1 M_161.2.1 M_161.2.2.1 M_161.2.2.2 172 (o_il 2 1) := ok_iload_n dX11_copyPack_172 rfl
theorem k_161_173 : mOk M_161.1 M_161.2.1 M_161.2.2.1 M_161.2.2.2 173 (oS 1 (s_ii (fun a b => a * b))) := ok_imul dX11_copyPack_173
theorem k_161_174 : mOk M_161.1 M_161.2.1 M_161.2.2.1 M_161.2.2.2 174 (o_il 3 1) := ok_iload_n dX11_copyPack_174 rfl
theorem k_161_175 : mOk M_161.1 M_161.2.1 M_161.2.2.1 M_161.2.2.2 175 (oS 1 (s_ii (fun a b => a + b))) := ok_iadd dX11_copyPack_175
theorem k_161_176 : mOk M_161.1 M_161.2.1 M_161.2.2.1 M_161.2.2.2 176 (o_al 0 1) := ok_aload_n dX11_copyPack_176 rfl
theorem k_161_177 : mOk M_161.1 M_161.2.1 M_161.2.2.1 M_161.2.2.2 177 (o_gP 11 24) := ok_gP dX11_copyPack_177 f_RX11_69 rfl
theorem k_161_180 : mOk M_161.1 M_161.2.1 M_161.2.2.1 M_161.2.2.2 180 (oS 2 (s_push (.int 100))) := ok_bipush dX11_copyPack_180 (by decide)
theorem k_161_182 : mOk M_161.1 M_161.2.1 M_161.2.2.1 M_161.2.2.2 182 (o_il 1 1) := ok_iload_n dX11_copyPack_182 rfl
theorem k_161_183 : mOk M_161.1 M_161.2.1 M_161.2.2.1 M_161.2.2.2 183 (oS 1 (s_ii (fun a b => a * b))) := ok_imul dX11_copyPack_183
theorem k_161_184 : mOk M_161.1 M_161.2.1 M_161.2.2.1 M_161.2.2.2 184 (o_il 3 1) := ok_iload_n dX11_copyPack_184 rfl
theorem k_161_185 : mOk M_161.1 M_161.2.1 M_161.2.2.1 M_161.2.2.2 185 (oS 1 (s_ii (fun a b => a + b))) := ok_iadd dX11_copyPack_185
theorem k_161_186 : mOk M_161.1 M_161.2.1 M_161.2.2.1 M_161.2.2.2 186 (o_iald) := ok_iald dX11_copyPack_186
theorem k_161_187 : mOk M_161.1 M_161.2.1 M_161.2.2.1 M_161.2.2.2 187 (o_iast) := ok_iast dX11_copyPack_187
theorem k_161_188 : mOk M_161.1 M_161.2.1 M_161.2.2.1 M_161.2.2.2 188 (o_al 0 1) := ok_aload_n dX11_copyPack_188 rfl
theorem k_161_189 : mOk M_161.1 M_161.2.1 M_161.2.2.1 M_161.2.2.2 189 (o_gP 11 25) := ok_gP dX11_copyPack_189 f_RX11_72 rfl
theorem k_161_192 : mOk M_161.1 M_161.2.1 M_161.2.2.1 M_161.2.2.2 192 (oS 2 (s_push (.int 100))) := ok_bipush dX11_copyPack_192 (by decide)
theorem k_161_194 : mOk M_161.1 M_161.2.1 M_161.2.2.1 M_161.2.2.2 194 (o_il 2 1) := ok_iload_n dX11_copyPack_194 rfl
theorem k_161_195 : mOk M_161.1 M_161.2.1 M_161.2.2.1 M_161.2.2.2 195 (oS 1 (s_ii (fun a b => a * b))) := ok_imul dX11_copyPack_195
theorem k_161_196 : mOk M_161.1 M_161.2.1 M_161.2.2.1 M_161.2.2.2 196 (o_il 3 1) := ok_iload_n dX11_copyPack_196 rfl
theorem k_161_197 : mOk M_161.1 M_161.2.1 M_161.2.2.1 M_161.2.2.2 197 (oS 1 (s_ii (fun a b => a + b))) := ok_iadd dX11_copyPack_197
theorem k_161_198 : mOk M_161.1 M_161.2.1 M_161.2.2.1 M_161.2.2.2 198 (o_al 0 1) := ok_aload_n dX11_copyPack_198 rfl
theorem k_161_199 : mOk M_161.1 M_161.2.1 M_161.2.2.1 M_161.2.2.2 199 (o_gP 11 25) := ok_gP dX11_copyPack_199 f_RX11_72 rfl
theorem k_161_202 : mOk M_161.1 M_161.2.1 M_161.2.2.1 M_161.2.2.2 202 (oS 2 (s_push (.int 100))) := ok_bipush dX11_copyPack_202 (by decide)
theorem k_161_204 : mOk M_161.1 M_161.2.1 M_161.2.2.1 M_161.2.2.2 204 (o_il 1 1) := ok_iload_n dX11_copyPack_204 rfl
theorem k_161_205 : mOk M_161.1 M_161.2.1 M_161.2.2.1 M_161.2.2.2 205 (oS 1 (s_ii (fun a b => a * b))) := ok_imul dX11_copyPack_205
theorem k_161_206 : mOk M_161.1 M_161.2.1 M_161.2.2.1 M_161.2.2.2 206 (o_il 3 1) := ok_iload_n dX11_copyPack_206 rfl
theorem k_161_207 : mOk M_161.1 M_161.2.1 M_161.2.2.1 M_161.2.2.2 207 (oS 1 (s_ii (fun a b => a + b))) := ok_iadd dX11_copyPack_207
theorem k_161_208 : mOk M_161.1 M_161.2.1 M_161.2.2.1 M_161.2.2.2 208 (o_iald) := ok_iald dX11_copyPack_208
theorem k_161_209 : mOk M_161.1 M_161.2.1 M_161.2.2.1 M_161.2.2.2 209 (o_iast) := ok_iast dX11_copyPack_209
theorem k_161_210 : mOk M_161.1 M_161.2.1 M_161.2.2.1 M_161.2.2.2 210 (o_al 0 1) := ok_aload_n dX11_copyPack_210 rfl
theorem k_161_211 : mOk M_161.1 M_161.2.1 M_161.2.2.1 M_161.2.2.2 211 (o_gP 11 26) := ok_gP dX11_copyPack_211 f_RX11_75 rfl
theorem k_161_214 : mOk M_161.1 M_161.2.1 M_161.2.2.1 M_161.2.2.2 214 (oS 2 (s_push (.int 100))) := ok_bipush dX11_copyPack_214 (by decide)
theorem k_161_216 : mOk M_161.1 M_161.2.1 M_161.2.2.1 M_161.2.2.2 216 (o_il 2 1) := ok_iload_n dX11_copyPack_216 rfl
theorem k_161_217 : mOk M_161.1 M_161.2.1 M_161.2.2.1 M_161.2.2.2 217 (oS 1 (s_ii (fun a b => a * b))) := ok_imul dX11_copyPack_217
theorem k_161_218 : mOk M_161.1 M_161.2.1 M_161.2.2.1 M_161.2.2.2 218 (o_il 3 1) := ok_iload_n dX11_copyPack_218 rfl
theorem k_161_219 : mOk M_161.1 M_161.2.1 M_161.2.2.1 M_161.2.2.2 219 (oS 1 (s_ii (fun a b => a + b))) := ok_iadd dX11_copyPack_219
theorem k_161_220 : mOk M_161.1 M_161.2.1 M_161.2.2.1 M_161.2.2.2 220 (o_al 0 1) := ok_aload_n dX11_copyPack_220 rfl
theorem k_161_221 : mOk M_161.1 M_161.2.1 M_161.2.2.1 M_161.2.2.2 221 (o_gP 11 26) := ok_gP dX11_copyPack_221 f_RX11_75 rfl
theorem k_161_224 : mOk M_161.1 M_161.2.1 M_161.2.2.1 M_161.2.2.2 224 (oS 2 (s_push (.int 100))) := ok_bipush dX11_copyPack_224 (by decide)
theorem k_161_226 : mOk M_161.1 M_161.2.1 M_161.2.2.1 M_161.2.2.2 226 (o_il 1 1) := ok_iload_n dX11_copyPack_226 rfl
theorem k_161_227 : mOk M_161.1 M_161.2.1 M_161.2.2.1 M_161.2.2.2 227 (oS 1 (s_ii (fun a b => a * b))) := ok_imul dX11_copyPack_227
theorem k_161_228 : mOk M_161.1 M_161.2.1 M_161.2.2.1 M_161.2.2.2 228 (o_il 3 1) := ok_iload_n dX11_copyPack_228 rfl
theorem k_161_229 : mOk M_161.1 M_161.2.1 M_161.2.2.1 M_161.2.2.2 229 (oS 1 (s_ii (fun a b => a + b))) := ok_iadd dX11_copyPack_229
theorem k_161_230 : mOk M_161.1 M_161.2.1 M_161.2.2.1 M_161.2.2.2 230 (o_iald) := ok_iald dX11_copyPack_230
theorem k_161_231 : mOk M_161.1 M_161.2.1 M_161.2.2.1 M_161.2.2.2 231 (o_iast) := ok_iast dX11_copyPack_231
theorem k_161_232 : mOk M_161.1 M_161.2.1 M_161.2.2.1 M_161.2.2.2 232 (o_inc 3 1) := ok_iinc dX11_copyPack_232 (by decide)
theorem k_161_235 : mOk M_161.1 M_161.2.1 M_161.2.2.1 M_161.2.2.2 235 (o_goto 90) := ok_goto dX11_copyPack_235 (by decide)
theorem k_161_238 : mOk M_161.1 M_161.2.1 M_161.2.2.1 M_161.2.2.2 238 (oS 1 (s_push (.int 0))) := ok_iconst dX11_copyPack_238 (by decide)
theorem k_161_239 : mOk M_161.1 M_161.2.1 M_161.2.2.1 M_161.2.2.2 239 (o_is 3 1) := ok_istore_n dX11_copyPack_239 rfl
theorem k_161_240 : mOk M_161.1 M_161.2.1 M_161.2.2.1 M_161.2.2.2 240 (o_il 3 1) := ok_iload_n dX11_copyPack_240 rfl
theorem k_161_241 : mOk M_161.1 M_161.2.1 M_161.2.2.1 M_161.2.2.2 241 (o_al 0 1) := ok_aload_n dX11_copyPack_241 rfl
theorem k_161_242 : mOk M_161.1 M_161.2.1 M_161.2.2.1 M_161.2.2.2 242 (o_gP 11 27) := ok_gP dX11_copyPack_242 f_RX11_78 rfl
theorem k_161_245 : mOk M_161.1 M_161.2.1 M_161.2.2.1 M_161.2.2.2 245 (o_il 1 1) := ok_iload_n dX11_copyPack_245 rfl
theorem k_161_246 : mOk M_161.1 M_161.2.1 M_161.2.2.1 M_161.2.2.2 246 (o_iald) := ok_iald dX11_copyPack_246
theorem k_161_247 : mOk M_161.1 M_161.2.1 M_161.2.2.1 M_161.2.2.2 247 (o_cge 280) := ok_cge dX11_copyPack_247 (by decide)
theorem k_161_250 : mOk M_161.1 M_161.2.1 M_161.2.2.1 M_161.2.2.2 250 (o_al 0 1) := ok_aload_n dX11_copyPack_250 rfl
theorem k_161_251 : mOk M_161.1 M_161.2.1 M_161.2.2.1 M_161.2.2.2 251 (o_gP 11 28) := ok_gP dX11_copyPack_251 f_RX11_81 rfl
theorem k_161_254 : mOk M_161.1 M_161.2.1 M_161.2.2.1 M_161.2.2.2 254 (oS 3 (s_push (.int 5000))) := ok_sipush dX11_copyPack_254 (by decide)
theorem k_161_257 : mOk M_161.1 M_161.2.1 M_161.2.2.1 M_161.2.2.2 257 (o_il 2 1) := ok_iload_n dX11_copyPack_257 rfl
theorem k_161_258 : mOk M_161.1 M_161.2.1 M_161.2.2.1 M_161.2.2.2 258 (oS 1 (s_ii (fun a b => a * b))) := ok_imul dX11_copyPack_258
theorem k_161_259 : mOk M_161.1 M_161.2.1 M_161.2.2.1 M_161.2.2.2 259 (o_il 3 1) := ok_iload_n dX11_copyPack_259 rfl
theorem k_161_260 : mOk M_161.1 M_161.2.1 M_161.2.2.1 M_161.2.2.2 260 (oS 1 (s_ii (fun a b => a + b))) := ok_iadd dX11_copyPack_260
theorem k_161_261 : mOk M_161.1 M_161.2.1 M_161.2.2.1 M_161.2.2.2 261 (o_al 0 1) := ok_aload_n dX11_copyPack_261 rfl
theorem k_161_262 : mOk M_161.1 M_161.2.1 M_161.2.2.1 M_161.2.2.2 262 (o_gP 11 28) := ok_gP dX11_copyPack_262 f_RX11_81 rfl
theorem k_161_265 : mOk M_161.1 M_161.2.1 M_161.2.2.1 M_161.2.2.2 265 (oS 3 (s_push (.int 5000))) := ok_sipush dX11_copyPack_265 (by decide)
theorem k_161_268 : mOk M_161.1 M_161.2.1 M_161.2.2.1 M_161.2.2.2 268 (o_il 1 1) := ok_iload_n dX11_copyPack_268 rfl
theorem k_161_269 : mOk M_161.1 M_161.2.1 M_161.2.2.1 M_161.2.2.2 269 (oS 1 (s_ii (fun a b => a * b))) := ok_imul dX11_copyPack_269
theorem k_161_270 : mOk M_161.1 M_161.2.1 M_161.2.2.1 M_161.2.2.2 270 (o_il 3 1) := ok_iload_n dX11_copyPack_270 rfl
theorem k_161_271 : mOk M_161.1 M_161.2.1 M_161.2.2.1 M_161.2.2.2 271 (oS 1 (s_ii (fun a b => a + b))) := ok_iadd dX11_copyPack_271
theorem k_161_272 : mOk M_161.1 M_161.2.1 M_161.2.2.1 M_161.2.2.2 272 (o_bald) := ok_bald dX11_copyPack_272
theorem k_161_273 : mOk M_161.1 M_161.2.1 M_161.2.2.1 M_161.2.2.2 273 (o_bast) := ok_bast dX11_copyPack_273
theorem k_161_274 : mOk M_161.1 M_161.2.1 M_161.2.2.1 M_161.2.2.2 274 (o_inc 3 1) := ok_iinc dX11_copyPack_274 (by decide)
theorem k_161_277 : mOk M_161.1 M_161.2.1 M_161.2.2.1 M_161.2.2.2 277 (o_goto 240) := ok_goto dX11_copyPack_277 (by decide)
theorem k_161_280 : mOk M_161.1 M_161.2.1 M_161.2.2.1 M_161.2.2.2 280 (oS 1 (s_push (.int 0))) := ok_iconst dX11_copyPack_280 (by decide)
theorem k_161_281 : mOk M_161.1 M_161.2.1 M_161.2.2.1 M_161.2.2.2 281 (o_is 3 1) := ok_istore_n dX11_copyPack_281 rfl
theorem k_161_282 : mOk M_161.1 M_161.2.1 M_161.2.2.1 M_161.2.2.2 282 (o_il 3 1) := ok_iload_n dX11_copyPack_282 rfl
theorem k_161_283 : mOk M_161.1 M_161.2.1 M_161.2.2.1 M_161.2.2.2 283 (o_al 0 1) := ok_aload_n dX11_copyPack_283 rfl
theorem k_161_284 : mOk M_161.1 M_161.2.1 M_161.2.2.1 M_161.2.2.2 284 (o_gP 11 29) := ok_gP dX11_copyPack_284 f_RX11_85 rfl
theorem k_161_287 : mOk M_161.1 M_161.2.1 M_161.2.2.1 M_161.2.2.2 287 (o_il 1 1) := ok_iload_n dX11_copyPack_287 rfl
theorem k_161_288 : mOk M_161.1 M_161.2.1 M_161.2.2.1 M_161.2.2.2 288 (o_iald) := ok_iald dX11_copyPack_288
theorem k_161_289 : mOk M_161.1 M_161.2.1 M_161.2.2.1 M_161.2.2.2 289 (o_cge 430) := ok_cge dX11_copyPack_289 (by decide)
theorem k_161_292 : mOk M_161.1 M_161.2.1 M_161.2.2.1 M_161.2.2.2 292 (o_al 0 1) := ok_aload_n dX11_copyPack_292 rfl
theorem k_161_293 : mOk M_161.1 M_161.2.1 M_161.2.2.1 M_161.2.2.2 293 (o_gP 11 30) := ok_gP dX11_copyPack_293 f_RX11_88 rfl
theorem k_161_296 : mOk M_161.1 M_161.2.1 M_161.2.2.1 M_161.2.2.2 296 (oS 2 (s_push (.int 24))) := ok_bipush dX11_copyPack_296 (by decide)
theorem k_161_298 : mOk M_161.1 M_161.2.1 M_161.2.2.1 M_161.2.2.2 298 (o_il 2 1) := ok_iload_n dX11_copyPack_298 rfl
theorem k_161_299 : mOk M_161.1 M_161.2.1 M_161.2.2.1 M_161.2.2.2 299 (oS 1 (s_ii (fun a b => a * b))) := ok_imul dX11_copyPack_299
theorem k_161_300 : mOk M_161.1 M_161.2.1 M_161.2.2.1 M_161.2.2.2 300 (o_il 3 1) := ok_iload_n dX11_copyPack_300 rfl
theorem k_161_301 : mOk M_161.1 M_161.2.1 M_161.2.2.1 M_161.2.2.2 301 (oS 1 (s_ii (fun a b => a + b))) := ok_iadd dX11_copyPack_301
theorem k_161_302 : mOk M_161.1 M_161.2.1 M_161.2.2.1 M_161.2.2.2 302 (o_al 0 1) := ok_aload_n dX11_copyPack_302 rfl
theorem k_161_303 : mOk M_161.1 M_161.2.1 M_161.2.2.1 M_161.2.2.2 303 (o_gP 11 30) := ok_gP dX11_copyPack_303 f_RX11_88 rfl
theorem k_161_306 : mOk M_161.1 M_161.2.1 M_161.2.2.1 M_161.2.2.2 306 (oS 2 (s_push (.int 24))) := ok_bipush dX11_copyPack_306 (by decide)
theorem k_161_308 : mOk M_161.1 M_161.2.1 M_161.2.2.1 M_161.2.2.2 308 (o_il 1 1) := ok_iload_n dX11_copyPack_308 rfl
theorem k_161_309 : mOk M_161.1 M_161.2.1 M_161.2.2.1 M_161.2.2.2 309 (oS 1 (s_ii (fun a b => a * b))) := ok_imul dX11_copyPack_309
theorem k_161_310 : mOk M_161.1 M_161.2.1 M_161.2.2.1 M_161.2.2.2 310 (o_il 3 1) := ok_iload_n dX11_copyPack_310 rfl
theorem k_161_311 : mOk M_161.1 M_161.2.1 M_161.2.2.1 M_161.2.2.2 311 (oS 1 (s_ii (fun a b => a + b))) := ok_iadd dX11_copyPack_311
theorem k_161_312 : mOk M_161.1 M_161.2.1 M_161.2.2.1 M_161.2.2.2 312 (o_iald) := ok_iald dX11_copyPack_312
theorem k_161_313 : mOk M_161.1 M_161.2.1 M_161.2.2.1 M_161.2.2.2 313 (o_iast) := ok_iast dX11_copyPack_313
theorem k_161_314 : mOk M_161.1 M_161.2.1 M_161.2.2.1 M_161.2.2.2 314 (o_al 0 1) := ok_aload_n dX11_copyPack_314 rfl
theorem k_161_315 : mOk M_161.1 M_161.2.1 M_161.2.2.1 M_161.2.2.2 315 (o_gP 11 31) := ok_gP dX11_copyPack_315 f_RX11_91 rfl
theorem k_161_318 : mOk M_161.1 M_161.2.1 M_161.2.2.1 M_161.2.2.2 318 (oS 2 (s_push (.int 24))) := ok_bipush dX11_copyPack_318 (by decide)
theorem k_161_320 : mOk M_161.1 M_161.2.1 M_161.2.2.1 M_161.2.2.2 320 (o_il 2 1) := ok_iload_n dX11_copyPack_320 rfl
theorem k_161_321 : mOk M_161.1 M_161.2.1 M_161.2.2.1 M_161.2.2.2 321 (oS 1 (s_ii (fun a b => a * b))) := ok_imul dX11_copyPack_321
theorem k_161_322 : mOk M_161.1 M_161.2.1 M_161.2.2.1 M_161.2.2.2 322 (o_il 3 1) := ok_iload_n dX11_copyPack_322 rfl
theorem k_161_323 : mOk M_161.1 M_161.2.1 M_161.2.2.1 M_161.2.2.2 323 (oS 1 (s_ii (fun a b => a + b))) := ok_iadd dX11_copyPack_323
theorem k_161_324 : mOk M_161.1 M_161.2.1 M_161.2.2.1 M_161.2.2.2 324 (o_al 0 1) := ok_aload_n dX11_copyPack_324 rfl
theorem k_161_325 : mOk M_161.1 M_161.2.1 M_161.2.2.1 M_161.2.2.2 325 (o_gP 11 31) := ok_gP dX11_copyPack_325 f_RX11_91 rfl
theorem k_161_328 : mOk M_161.1 M_161.2.1 M_161.2.2.1 M_161.2.2.2 328 (oS 2 (s_push (.int 24))) := ok_bipush dX11_copyPack_328 (by decide)
theorem k_161_330 : mOk M_161.1 M_161.2.1 M_161.2.2.1 M_161.2.2.2 330 (o_il 1 1) := ok_iload_n dX11_copyPack_330 rfl
theorem k_161_331 : mOk M_161.1 M_161.2.1 M_161.2.2.1 M_161.2.2.2 331 (oS 1 (s_ii (fun a b => a * b))) := ok_imul dX11_copyPack_331
theorem k_161_332 : mOk M_161.1 M_161.2.1 M_161.2.2.1 M_161.2.2.2 332 (o_il 3 1) := ok_iload_n dX11_copyPack_332 rfl
theorem k_161_333 : mOk M_161.1 M_161.2.1 M_161.2.2.1 M_161.2.2.2 333 (oS 1 (s_ii (fun a b => a + b))) := ok_iadd dX11_copyPack_333
theorem k_161_334 : mOk M_161.1 M_161.2.1 M_161.2.2.1 M_161.2.2.2 334 (o_iald) := ok_iald dX11_copyPack_334
theorem k_161_335 : mOk M_161.1 M_161.2.1 M_161.2.2.1 M_161.2.2.2 335 (o_iast) := ok_iast dX11_copyPack_335
theorem k_161_336 : mOk M_161.1 M_161.2.1 M_161.2.2.1 M_161.2.2.2 336 (o_al 0 1) := ok_aload_n dX11_copyPack_336 rfl
theorem k_161_337 : mOk M_161.1 M_161.2.1 M_161.2.2.1 M_161.2.2.2 337 (o_gP 11 32) := ok_gP dX11_copyPack_337 f_RX11_94 rfl
theorem k_161_340 : mOk M_161.1 M_161.2.1 M_161.2.2.1 M_161.2.2.2 340 (oS 2 (s_push (.int 24))) := ok_bipush dX11_copyPack_340 (by decide)
theorem k_161_342 : mOk M_161.1 M_161.2.1 M_161.2.2.1 M_161.2.2.2 342 (o_il 2 1) := ok_iload_n dX11_copyPack_342 rfl
theorem k_161_343 : mOk M_161.1 M_161.2.1 M_161.2.2.1 M_161.2.2.2 343 (oS 1 (s_ii (fun a b => a * b))) := ok_imul dX11_copyPack_343
theorem k_161_344 : mOk M_161.1 M_161.2.1 M_161.2.2.1 M_161.2.2.2 344 (o_il 3 1) := ok_iload_n dX11_copyPack_344 rfl
theorem k_161_345 : mOk M_161.1 M_161.2.1 M_161.2.2.1 M_161.2.2.2 345 (oS 1 (s_ii (fun a b => a + b))) := ok_iadd dX11_copyPack_345
theorem k_161_346 : mOk M_161.1 M_161.2.1 M_161.2.2.1 M_161.2.2.2 346 (o_al 0 1) := ok_aload_n dX11_copyPack_346 rfl
theorem k_161_347 : mOk M_161.1 M_161.2.1 M_161.2.2.1 M_161.2.2.2 347 (o_gP 11 32) := ok_gP dX11_copyPack_347 f_RX11_94 rfl
theorem k_161_350 : mOk M_161.1 M_161.2.1 M_161.2.2.1 M_161.2.2.2 350 (oS 2 (s_push (.int 24))) := ok_bipush dX11_copyPack_350 (by decide)
theorem k_161_352 : mOk M_161.1 M_161.2.1 M_161.2.2.1 M_161.2.2.2 352 (o_il 1 1) := ok_iload_n dX11_copyPack_352 rfl
theorem k_161_353 : mOk M_161.1 M_161.2.1 M_161.2.2.1 M_161.2.2.2 353 (oS 1 (s_ii (fun a b => a * b))) := ok_imul dX11_copyPack_353
theorem k_161_354 : mOk M_161.1 M_161.2.1 M_161.2.2.1 M_161.2.2.2 354 (o_il 3 1) := ok_iload_n dX11_copyPack_354 rfl
theorem k_161_355 : mOk M_161.1 M_161.2.1 M_161.2.2.1 M_161.2.2.2 355 (oS 1 (s_ii (fun a b => a + b))) := ok_iadd dX11_copyPack_355
theorem k_161_356 : mOk M_161.1 M_161.2.1 M_161.2.2.1 M_161.2.2.2 356 (o_iald) := ok_iald dX11_copyPack_356
theorem k_161_357 : mOk M_161.1 M_161.2.1 M_161.2.2.1 M_161.2.2.2 357 (o_iast) := ok_iast dX11_copyPack_357
theorem k_161_358 : mOk M_161.1 M_161.2.1 M_161.2.2.1 M_161.2.2.2 358 (o_al 0 1) := ok_aload_n dX11_copyPack_358 rfl
theorem k_161_359 : mOk M_161.1 M_161.2.1 M_161.2.2.1 M_161.2.2.2 359 (o_gP 11 33) := ok_gP dX11_copyPack_359 f_RX11_97 rfl
theorem k_161_362 : mOk M_161.1 M_161.2.1 M_161.2.2.1 M_161.2.2.2 362 (oS 2 (s_push (.int 24))) := ok_bipush dX11_copyPack_362 (by decide)
theorem k_161_364 : mOk M_161.1 M_161.2.1 M_161.2.2.1 M_161.2.2.2 364 (o_il 2 1) := ok_iload_n dX11_copyPack_364 rfl
theorem k_161_365 : mOk M_161.1 M_161.2.1 M_161.2.2.1 M_161.2.2.2 365 (oS 1 (s_ii (fun a b => a * b))) := ok_imul dX11_copyPack_365
theorem k_161_366 : mOk M_161.1 M_161.2.1 M_161.2.2.1 M_161.2.2.2 366 (o_il 3 1) := ok_iload_n dX11_copyPack_366 rfl
theorem k_161_367 : mOk M_161.1 M_161.2.1 M_161.2.2.1 M_161.2.2.2 367 (oS 1 (s_ii (fun a b => a + b))) := ok_iadd dX11_copyPack_367
theorem k_161_368 : mOk M_161.1 M_161.2.1 M_161.2.2.1 M_161.2.2.2 368 (o_al 0 1) := ok_aload_n dX11_copyPack_368 rfl
theorem k_161_369 : mOk M_161.1 M_161.2.1 M_161.2.2.1 M_161.2.2.2 369 (o_gP 11 33) := ok_gP dX11_copyPack_369 f_RX11_97 rfl
theorem k_161_372 : mOk M_161.1 M_161.2.1 M_161.2.2.1 M_161.2.2.2 372 (oS 2 (s_push (.int 24))) := ok_bipush dX11_copyPack_372 (by decide)
theorem k_161_374 : mOk M_161.1 M_161.2.1 M_161.2.2.1 M_161.2.2.2 374 (o_il 1 1) := ok_iload_n dX11_copyPack_374 rfl
theorem k_161_375 : mOk M_161.1 M_161.2.1 M_161.2.2.1 M_161.2.2.2 375 (oS 1 (s_ii (fun a b => a * b))) := ok_imul dX11_copyPack_375
theorem k_161_376 : mOk M_161.1 M_161.2.1 M_161.2.2.1 M_161.2.2.2 376 (o_il 3 1) := ok_iload_n dX11_copyPack_376 rfl
theorem k_161_377 : mOk M_161.1 M_161.2.1 M_161.2.2.1 M_161.2.2.2 377 (oS 1 (s_ii (fun a b => a + b))) := ok_iadd dX11_copyPack_377
theorem k_161_378 : mOk M_161.1 M_161.2.1 M_161.2.2.1 M_161.2.2.2 378 (o_lald) := ok_lald dX11_copyPack_378
theorem k_161_379 : mOk M_161.1 M_161.2.1 M_161.2.2.1 M_161.2.2.2 379 (o_last) := ok_last dX11_copyPack_379
theorem k_161_380 : mOk M_161.1 M_161.2.1 M_161.2.2.1 M_161.2.2.2 380 (o_al 0 1) := ok_aload_n dX11_copyPack_380 rfl
theorem k_161_381 : mOk M_161.1 M_161.2.1 M_161.2.2.1 M_161.2.2.2 381 (o_gP 11 34) := ok_gP dX11_copyPack_381 f_RX11_100 rfl
theorem k_161_384 : mOk M_161.1 M_161.2.1 M_161.2.2.1 M_161.2.2.2 384 (oS 2 (s_push (.int 24))) := ok_bipush dX11_copyPack_384 (by decide)
theorem k_161_386 : mOk M_161.1 M_161.2.1 M_161.2.2.1 M_161.2.2.2 386 (o_il 2 1) := ok_iload_n dX11_copyPack_386 rfl
theorem k_161_387 : mOk M_161.1 M_161.2.1 M_161.2.2.1 M_161.2.2.2 387 (oS 1 (s_ii (fun a b => a * b))) := ok_imul dX11_copyPack_387
theorem k_161_388 : mOk M_161.1 M_161.2.1 M_161.2.2.1 M_161.2.2.2 388 (o_il 3 1) := ok_iload_n dX11_copyPack_388 rfl
theorem k_161_389 : mOk M_161.1 M_161.2.1 M_161.2.2.1 M_161.2.2.2 389 (oS 1 (s_ii (fun a b => a + b))) := ok_iadd dX11_copyPack_389
theorem k_161_390 : mOk M_161.1 M_161.2.1 M_161.2.2.1 M_161.2.2.2 390 (o_al 0 1) := ok_aload_n dX11_copyPack_390 rfl
theorem k_161_391 : mOk M_161.1 M_161.2.1 M_161.2.2.1 M_161.2.2.2 391 (o_gP 11 34) := ok_gP dX11_copyPack_391 f_RX11_100 rfl
theorem k_161_394 : mOk M_161.1 M_161.2.1 M_161.2.2.1 M_161.2.2.2 394 (oS 2 (s_push (.int 24))) := ok_bipush dX11_copyPack_394 (by decide)
theorem k_161_396 : mOk M_161.1 M_161.2.1 M_161.2.2.1 M_161.2.2.2 396 (o_il 1 1) := ok_iload_n dX11_copyPack_396 rfl
theorem k_161_397 : mOk M_161.1 M_161.2.1 M_161.2.2.1 M_161.2.2.2 397 (oS 1 (s_ii (fun a b => a * b))) := ok_imul dX11_copyPack_397
theorem k_161_398 : mOk M_161.1 M_161.2.1 M_161.2.2.1 M_161.2.2.2 398 (o_il 3 1) := ok_iload_n dX11_copyPack_398 rfl
theorem k_161_399 : mOk M_161.1 M_161.2.1 M_161.2.2.1 M_161.2.2.2 399 (oS 1 (s_ii (fun a b => a + b))) := ok_iadd dX11_copyPack_399
theorem k_161_400 : mOk M_161.1 M_161.2.1 M_161.2.2.1 M_161.2.2.2 400 (o_iald) := ok_iald dX11_copyPack_400
theorem k_161_401 : mOk M_161.1 M_161.2.1 M_161.2.2.1 M_161.2.2.2 401 (o_iast) := ok_iast dX11_copyPack_401
theorem k_161_402 : mOk M_161.1 M_161.2.1 M_161.2.2.1 M_161.2.2.2 402 (o_al 0 1) := ok_aload_n dX11_copyPack_402 rfl
theorem k_161_403 : mOk M_161.1 M_161.2.1 M_161.2.2.1 M_161.2.2.2 403 (o_gP 11 35) := ok_gP dX11_copyPack_403 f_RX11_103 rfl
theorem k_161_406 : mOk M_161.1 M_161.2.1 M_161.2.2.1 M_161.2.2.2 406 (oS 2 (s_push (.int 24))) := ok_bipush dX11_copyPack_406 (by decide)
theorem k_161_408 : mOk M_161.1 M_161.2.1 M_161.2.2.1 M_161.2.2.2 408 (o_il 2 1) := ok_iload_n dX11_copyPack_408 rfl
theorem k_161_409 : mOk M_161.1 M_161.2.1 M_161.2.2.1 M_161.2.2.2 409 (oS 1 (s_ii (fun a b => a * b))) := ok_imul dX11_copyPack_409
theorem k_161_410 : mOk M_161.1 M_161.2.1 M_161.2.2.1 M_161.2.2.2 410 (o_il 3 1) := ok_iload_n dX11_copyPack_410 rfl
theorem k_161_411 : mOk M_161.1 M_161.2.1 M_161.2.2.1 M_161.2.2.2 411 (oS 1 (s_ii (fun a b => a + b))) := ok_iadd dX11_copyPack_411
theorem k_161_412 : mOk M_161.1 M_161.2.1 M_161.2.2.1 M_161.2.2.2 412 (o_al 0 1) := ok_aload_n dX11_copyPack_412 rfl
theorem k_161_413 : mOk M_161.1 M_161.2.1 M_161.2.2.1 M_161.2.2.2 413 (o_gP 11 35) := ok_gP dX11_copyPack_413 f_RX11_103 rfl
theorem k_161_416 : mOk M_161.1 M_161.2.1 M_161.2.2.1 M_161.2.2.2 416 (oS 2 (s_push (.int 24))) := ok_bipush dX11_copyPack_416 (by decide)
theorem k_161_418 : mOk M_161.1 M_161.2.1 M_161.2.2.1 M_161.2.2.2 418 (o_il 1 1) := ok_iload_n dX11_copyPack_418 rfl
theorem k_161_419 : mOk M_161.1 M_161.2.1 M_161.2.2.1 M_161.2.2.2 419 (oS 1 (s_ii (fun a b => a * b))) := ok_imul dX11_copyPack_419
theorem k_161_420 : mOk M_161.1 M_161.2.1 M_161.2.2.1 M_161.2.2.2 420 (o_il 3 1) := ok_iload_n dX11_copyPack_420 rfl
theorem k_161_421 : mOk M_161.1 M_161.2.1 M_161.2.2.1 M_161.2.2.2 421 (oS 1 (s_ii (fun a b => a + b))) := ok_iadd dX11_copyPack_421
theorem k_161_422 : mOk M_161.1 M_161.2.1 M_161.2.2.1 M_161.2.2.2 422 (o_iald) := ok_iald dX11_copyPack_422
theorem k_161_423 : mOk M_161.1 M_161.2.1 M_161.2.2.1 M_161.2.2.2 423 (o_iast) := ok_iast dX11_copyPack_423
theorem k_161_424 : mOk M_161.1 M_161.2.1 M_161.2.2.1 M_161.2.2.2 424 (o_inc 3 1) := ok_iinc dX11_copyPack_424 (by decide)
theorem k_161_427 : mOk M_161.1 M_161.2.1 M_161.2.2.1 M_161.2.2.2 427 (o_goto 282) := ok_goto dX11_copyPack_427 (by decide)
set_option maxRecDepth 20000 in
set_option maxHeartbeats 4000000 in
theorem tk_161 (l : Launch) (H9 : mThr l) (H10 : mSpl l) (pc : Nat) (q : mEnt) (h : tb_161 pc = some q) : EE l 161 pc q := nd h (fun h => nd h (fun h => nd h (fun h => nd h (fun h => nd h (fun h => nd h (fun h => nd h (fun h => nd h (fun h => lf (P := EE l 161) h k_161_0) (fun h => lf (P := EE l 161) h k_161_1)) (fun h => nd h (fun h => lf (P := EE l 161) h k_161_4) (fun h => lf (P := EE l 161) h k_161_5))) (fun h => nd h (fun h => nd h (fun h => lf (P := EE l 161) h k_161_6) (fun h => lf (P := EE l 161) h k_161_7)) (fun h => nd h (fun h => lf (P := EE l 161) h k_161_8) (fun h => nd h (fun h => lf (P := EE l 161) h k_161_11) (fun h => lf (P := EE l 161) h k_161_12))))) (fun h => nd h (fun h => nd h (fun h => nd h (fun h => lf (P := EE l 161) h k_161_13) (fun h => lf (P := EE l 161) h k_161_16)) (fun h => nd h (fun h => lf (P := EE l 161) h k_161_17) (fun h => lf (P := EE l 161) h k_161_18))) (fun h => nd h (fun h => nd h (fun h => lf (P := EE l 161) h k_161_19) (fun h => lf (P := EE l 161) h k_161_20)) (fun h => nd h (fun h => lf (P := EE l 161) h k_161_23) (fun h => nd h (fun h => lf (P := EE l 161) h k_161_24) (fun h => lf (P := EE l 161) h k_161_25)))))) (fun h => nd h (fun h => nd h (fun h => nd h (fun h => nd h (fun h => lf (P := EE l 161) h k_161_28) (fun h => lf (P := EE l 161) h k_161_29)) (fun h => nd h (fun h => lf (P := EE l 161) h k_161_30) (fun h => lf (P := EE l 161) h k_161_31))) (fun h => nd h (fun h => nd h (fun h => lf (P := EE l 161) h k_161_32) (fun h => lf (P := EE l 161) h k_161_35)) (fun h => nd h (fun h => lf (P := EE l 161) h k_161_36) (fun h => nd h (fun h => lf (P := EE l 161) h k_161_37) (fun h => lf (P := EE l 161) h k_161_40))))) (fun h => nd h (fun h => nd h (fun h => nd h (fun h => lf (P := EE l 161) h k_161_41) (fun h => lf (P := EE l 161) h k_161_42)) (fun h => nd h (fun h => lf (P := EE l 161) h k_161_43) (fun h => nd h (fun h => lf (P := EE l 161) h k_161_44) (fun h => lf (P := EE l 161) h k_161_47)))) (fun h => nd h (fun h => nd h (fun h => lf (P := EE l 161) h k_161_48) (fun h => lf (P := EE l 161) h k_161_49)) (fun h => nd h (fun h => lf (P := EE l 161) h k_161_52) (fun h => nd h (fun h => lf (P := EE l 161) h k_161_53) (fun h => lf (P := EE l 161) h k_161_54))))))) (fun h => nd h (fun h => nd h (fun h => nd h (fun h => nd h (fun h => nd h (fun h => lf (P := EE l 161) h k_161_55) (fun h => lf (P := EE l 161) h k_161_56)) (fun h => nd h (fun h => lf (P := EE l 161) h k_161_57) (fun h => lf (P := EE l 161) h k_161_58))) (fun h => nd h (fun h => nd h (fun h => lf (P := EE l 161) h k_161_59) (fun h => lf (P := EE l 161) h k_161_62)) (fun h => nd h (fun h => lf (P := EE l 161) h k_161_63) (fun h => nd h (fun h => lf (P := EE l 161) h k_161_66) (fun h => lf (P := EE l 161) h k_161_67))))) (fun h => nd h (fun h => nd h (fun h => nd h (fun h => lf (P := EE l 161) h k_161_68) (fun h => lf (P := EE l 161) h k_161_69)) (fun h => nd h (fun h => lf (P := EE l 161) h k_161_70) (fun h => lf (P := EE l 161) h k_161_71))) (fun h => nd h (fun h => nd h (fun h => lf (P := EE l 161) h k_161_72) (fun h => lf (P := EE l 161) h k_161_75)) (fun h => nd h (fun h => lf (P := EE l 161) h k_161_76) (fun h => nd h (fun h => lf (P := EE l 161) h k_161_77) (fun h => lf (P := EE l 161) h k_161_78)))))) (fun h => nd h (fun h => nd h (fun h => nd h (fun h => nd h (fun h => lf (P := EE l 161) h k_161_79) (fun h => lf (P := EE l 161) h k_161_80)) (fun h => nd h (fun h => lf (P := EE l 161) h k_161_81) (fun h => lf (P := EE l 161) h k_161_82))) (fun h => nd h (fun h => nd h (fun h => lf (P := EE l 161) h k_161_85) (fun h => lf (P := EE l 161) h k_161_88)) (fun h => nd h (fun h => lf (P := EE l 161) h k_161_89) (fun h => nd h (fun h => lf (P := EE l 161) h k_161_90) (fun h => lf (P := EE l 161) h k_161_91))))) (fun h => nd h (fun h => nd h (fun h => nd h (fun h => lf (P := EE l 161) h k_161_92) (fun h => lf (P := EE l 161) h k_161_95)) (fun h => nd h (fun h => lf (P := EE l 161) h k_161_96) (fun h => nd h (fun h => lf (P := EE l 161) h k_161_97) (fun h => lf (P := EE l 161) h k_161_100)))) (fun h => nd h (fun h => nd h (fun h => lf (P := EE l 161) h k_161_101) (fun h => lf (P := EE l 161) h k_161_104)) (fun h => nd h (fun h => lf (P := EE l 161) h k_161_106) (fun h => nd h (fun h => lf (P := EE l 161) h k_161_107) (fun h => lf (P := EE l 161) h k_161_108)))))))) (fun h => nd h (fun h => nd h (fun h => nd h (fun h => nd h (fun h => nd h (fun h => nd h (fun h => lf (P := EE l 161) h k_161_109) (fun h => lf (P := EE l 161) h k_161_110)) (fun h => nd h (fun h => lf (P := EE l 161) h k_161_111) (fun h => lf (P := EE l 161) h k_161_114))) (fun h => nd h (fun h => nd h (fun h => lf (P := EE l 161) h k_161_116) (fun h => lf (P := EE l 161) h k_161_117)) (fun h => nd h (fun h => lf (P := EE l 161) h k_161_118) (fun h => nd h (fun h => lf (P := EE l 161) h k_161_119) (fun h => lf (P := EE l 161) h k_161_120))))) (fun h => nd h (fun h => nd h (fun h => nd h (fun h => lf (P := EE l 161) h k_161_121) (fun h => lf (P := EE l 161) h k_161_122)) (fun h => nd h (fun h => lf (P := EE l 161) h k_161_123) (fun h => lf (P := EE l 161) h k_161_126))) (fun h => nd h (fun h => nd h (fun h => lf (P := EE l 161) h k_161_128) (fun h => lf (P := EE l 161) h k_161_129)) (fun h => nd h (fun h => lf (P := EE l 161) h k_161_130) (fun h => nd h (fun h => lf (P := EE l 161) h k_161_131) (fun h => lf (P := EE l 161) h k_161_132)))))) (fun h => nd h (fun h => nd h (fun h => nd h (fun h => nd h (fun h => lf (P := EE l 161) h k_161_133) (fun h => lf (P := EE l 161) h k_161_136)) (fun h => nd h (fun h => lf (P := EE l 161) h k_161_138) (fun h => lf (P := EE l 161) h k_161_139))) (fun h => nd h (fun h => nd h (fun h => lf (P := EE l 161) h k_161_140) (fun h => lf (P := EE l 161) h k_161_141)) (fun h => nd h (fun h => lf (P := EE l 161) h k_161_142) (fun h => nd h (fun h => lf (P := EE l 161) h k_161_143) (fun h => lf (P := EE l 161) h k_161_144))))) (fun h => nd h (fun h => nd h (fun h => nd h (fun h => lf (P := EE l 161) h k_161_145) (fun h => lf (P := EE l 161) h k_161_148)) (fun h => nd h (fun h => lf (P := EE l 161) h k_161_150) (fun h => nd h (fun h => lf (P := EE l 161) h k_161_151) (fun h => lf (P := EE l 161) h k_161_152)))) (fun h => nd h (fun h => nd h (fun h => lf (P := EE l 161) h k_161_153) (fun h => lf (P := EE l 161) h k_161_154)) (fun h => nd h (fun h => lf (P := EE l 161) h k_161_155) (fun h => nd h (fun h => lf (P := EE l 161) h k_161_158) (fun h => lf (P := EE l 161) h k_161_160))))))) (fun h => nd h (fun h => nd h (fun h => nd h (fun h => nd h (fun h => nd h (fun h => lf (P := EE l 161) h k_161_161) (fun h => lf (P := EE l 161) h k_161_162)) (fun h => nd h (fun h => lf (P := EE l 161) h k_161_163) (fun h => lf (P := EE l 161) h k_161_164))) (fun h => nd h (fun h => nd h (fun h => lf (P := EE l 161) h k_161_165) (fun h => lf (P := EE l 161) h k_161_166)) (fun h => nd h (fun h => lf (P := EE l 161) h k_161_167) (fun h => nd h (fun h => lf (P := EE l 161) h k_161_170) (fun h => lf (P := EE l 161) h k_161_172))))) (fun h => nd h (fun h => nd h (fun h => nd h (fun h => lf (P := EE l 161) h k_161_173) (fun h => lf (P := EE l 161) h k_161_174)) (fun h => nd h (fun h => lf (P := EE l 161) h k_161_175) (fun h => nd h (fun h => lf (P := EE l 161) h k_161_176) (fun h => lf (P := EE l 161) h k_161_177)))) (fun h => nd h (fun h => nd h (fun h => lf (P := EE l 161) h k_161_180) (fun h => lf (P := EE l 161) h k_161_182)) (fun h => nd h (fun h => lf (P := EE l 161) h k_161_183) (fun h => nd h (fun h => lf (P := EE l 161) h k_161_184) (fun h => lf (P := EE l 161) h k_161_185)))))) (fun h => nd h (fun h => nd h (fun h => nd h (fun h => nd h (fun h => lf (P := EE l 161) h k_161_186) (fun h => lf (P := EE l 161) h k_161_187)) (fun h => nd h (fun h => lf (P := EE l 161) h k_161_188) (fun h => lf (P := EE l 161) h k_161_189))) (fun h => nd h (fun h => nd h (fun h => lf (P := EE l 161) h k_161_192) (fun h => lf (P := EE l 161) h k_161_194)) (fun h => nd h (fun h => lf (P := EE l 161) h k_161_195) (fun h => nd h (fun h => lf (P := EE l 161) h k_161_196) (fun h => lf (P := EE l 161) h k_161_197))))) (fun h => nd h (fun h => nd h (fun h => nd h (fun h => lf (P := EE l 161) h k_161_198) (fun h => lf (P := EE l 161) h k_161_199)) (fun h => nd h (fun h => lf (P := EE l 161) h k_161_202) (fun h => nd h (fun h => lf (P := EE l 161) h k_161_204) (fun h => lf (P := EE l 161) h k_161_205)))) (fun h => nd h (fun h => nd h (fun h => lf (P := EE l 161) h k_161_206) (fun h => lf (P := EE l 161) h k_161_207)) (fun h => nd h (fun h => lf (P := EE l 161) h k_161_208) (fun h => nd h (fun h => lf (P := EE l 161) h k_161_209) (fun h => lf (P := EE l 161) h k_161_210))))))))) (fun h => nd h (fun h => nd h (fun h => nd h (fun h => nd h (fun h => nd h (fun h => nd h (fun h => nd h (fun h => lf (P := EE l 161) h k_161_211) (fun h => lf (P := EE l 161) h k_161_214)) (fun h => nd h (fun h => lf (P := EE l 161) h k_161_216) (fun h => lf (P := EE l 161) h k_161_217))) (fun h => nd h (fun h => nd h (fun h => lf (P := EE l 161) h k_161_218) (fun h => lf (P := EE l 161) h k_161_219)) (fun h => nd h (fun h => lf (P := EE l 161) h k_161_220) (fun h => nd h (fun h => lf (P := EE l 161) h k_161_221) (fun h => lf (P := EE l 161) h k_161_224))))) (fun h => nd h (fun h => nd h (fun h => nd h (fun h => lf (P := EE l 161) h k_161_226) (fun h => lf (P := EE l 161) h k_161_227)) (fun h => nd h (fun h => lf (P := EE l 161) h k_161_228) (fun h => lf (P := EE l 161) h k_161_229))) (fun h => nd h (fun h => nd h (fun h => lf (P := EE l 161) h k_161_230) (fun h => lf (P := EE l 161) h k_161_231)) (fun h => nd h (fun h => lf (P := EE l 161) h k_161_232) (fun h => nd h (fun h => lf (P := EE l 161) h k_161_235) (fun h => lf (P := EE l 161) h k_161_238)))))) (fun h => nd h (fun h => nd h (fun h => nd h (fun h => nd h (fun h => lf (P := EE l 161) h k_161_239) (fun h => lf (P := EE l 161) h k_161_240)) (fun h => nd h (fun h => lf (P := EE l 161) h k_161_241) (fun h => lf (P := EE l 161) h k_161_242))) (fun h => nd h (fun h => nd h (fun h => lf (P := EE l 161) h k_161_245) (fun h => lf (P := EE l 161) h k_161_246)) (fun h => nd h (fun h => lf (P := EE l 161) h k_161_247) (fun h => nd h (fun h => lf (P := EE l 161) h k_161_250) (fun h => lf (P := EE l 161) h k_161_251))))) (fun h => nd h (fun h => nd h (fun h => nd h (fun h => lf (P := EE l 161) h k_161_254) (fun h => lf (P := EE l 161) h k_161_257)) (fun h => nd h (fun h => lf (P := EE l 161) h k_161_258) (fun h => nd h (fun h => lf (P := EE l 161) h k_161_259) (fun h => lf (P := EE l 161) h k_161_260)))) (fun h => nd h (fun h => nd h (fun h => lf (P := EE l 161) h k_161_261) (fun h => lf (P := EE l 161) h k_161_262)) (fun h => nd h (fun h => lf (P := EE l 161) h k_161_265) (fun h => nd h (fun h => lf (P := EE l 161) h k_161_268) (fun h => lf (P := EE l 161) h k_161_269))))))) (fun h => nd h (fun h => nd h (fun h => nd h (fun h => nd h (fun h => nd h (fun h => lf (P := EE l 161) h k_161_270) (fun h => lf (P := EE l 161) h k_161_271)) (fun h => nd h (fun h => lf (P := EE l 161) h k_161_272) (fun h => lf (P := EE l 161) h k_161_273))) (fun h => nd h (fun h => nd h (fun h => lf (P := EE l 161) h k_161_274) (fun h => lf (P := EE l 161) h k_161_277)) (fun h => nd h (fun h => lf (P := EE l 161) h k_161_280) (fun h => nd h (fun h => lf (P := EE l 161) h k_161_281) (fun h => lf (P := EE l 161) h k_161_282))))) (fun h => nd h (fun h => nd h (fun h => nd h (fun h => lf (P := EE l 161) h k_161_283) (fun h => lf (P := EE l 161) h k_161_284)) (fun h => nd h (fun h => lf (P := EE l 161) h k_161_287) (fun h => nd h (fun h => lf (P := EE l 161) h k_161_288) (fun h => lf (P := EE l 161) h k_161_289)))) (fun h => nd h (fun h => nd h (fun h => lf (P := EE l 161) h k_161_292) (fun h => lf (P := EE l 161) h k_161_293)) (fun h => nd h (fun h => lf (P := EE l 161) h k_161_296) (fun h => nd h (fun h => lf (P := EE l 161) h k_161_298) (fun h => lf (P := EE l 161) h k_161_299)))))) (fun h => nd h (fun h => nd h (fun h => nd h (fun h => nd h (fun h => lf (P := EE l 161) h k_161_300) (fun h => lf (P := EE l 161) h k_161_301)) (fun h => nd h (fun h => lf (P := EE l 161) h k_161_302) (fun h => lf (P := EE l 161) h k_161_303))) (fun h => nd h (fun h => nd h (fun h => lf (P := EE l 161) h k_161_306) (fun h => lf (P := EE l 161) h k_161_308)) (fun h => nd h (fun h => lf (P := EE l 161) h k_161_309) (fun h => nd h (fun h => lf (P := EE l 161) h k_161_310) (fun h => lf (P := EE l 161) h k_161_311))))) (fun h => nd h (fun h => nd h (fun h => nd h (fun h => lf (P := EE l 161) h k_161_312) (fun h => lf (P := EE l 161) h k_161_313)) (fun h => nd h (fun h => lf (P := EE l 161) h k_161_314) (fun h => nd h (fun h => lf (P := EE l 161) h k_161_315) (fun h => lf (P := EE l 161) h k_161_318)))) (fun h => nd h (fun h => nd h (fun h => lf (P := EE l 161) h k_161_320) (fun h => lf (P := EE l 161) h k_161_321)) (fun h => nd h (fun h => lf (P := EE l 161) h k_161_322) (fun h => nd h (fun h => lf (P := EE l 161) h k_161_323) (fun h => lf (P := EE l 161) h k_161_324)))))))) (fun h => nd h (fun h => nd h (fun h => nd h (fun h => nd h (fun h => nd h (fun h => nd h (fun h => lf (P := EE l 161) h k_161_325) (fun h => lf (P := EE l 161) h k_161_328)) (fun h => nd h (fun h => lf (P := EE l 161) h k_161_330) (fun h => lf (P := EE l 161) h k_161_331))) (fun h => nd h (fun h => nd h (fun h => lf (P := EE l 161) h k_161_332) (fun h => lf (P := EE l 161) h k_161_333)) (fun h => nd h (fun h => lf (P := EE l 161) h k_161_334) (fun h => nd h (fun h => lf (P := EE l 161) h k_161_335) (fun h => lf (P := EE l 161) h k_161_336))))) (fun h => nd h (fun h => nd h (fun h => nd h (fun h => lf (P := EE l 161) h k_161_337) (fun h => lf (P := EE l 161) h k_161_340)) (fun h => nd h (fun h => lf (P := EE l 161) h k_161_342) (fun h => lf (P := EE l 161) h k_161_343))) (fun h => nd h (fun h => nd h (fun h => lf (P := EE l 161) h k_161_344) (fun h => lf (P := EE l 161) h k_161_345)) (fun h => nd h (fun h => lf (P := EE l 161) h k_161_346) (fun h => nd h (fun h => lf (P := EE l 161) h k_161_347) (fun h => lf (P := EE l 161) h k_161_350)))))) (fun h => nd h (fun h => nd h (fun h => nd h (fun h => nd h (fun h => lf (P := EE l 161) h k_161_352) (fun h => lf (P := EE l 161) h k_161_353)) (fun h => nd h (fun h => lf (P := EE l 161) h k_161_354) (fun h => lf (P := EE l 161) h k_161_355))) (fun h => nd h (fun h => nd h (fun h => lf (P := EE l 161) h k_161_356) (fun h => lf (P := EE l 161) h k_161_357)) (fun h => nd h (fun h => lf (P := EE l 161) h k_161_358) (fun h => nd h (fun h => lf (P := EE l 161) h k_161_359) (fun h => lf (P := EE l 161) h k_161_362))))) (fun h => nd h (fun h => nd h (fun h => nd h (fun h => lf (P := EE l 161) h k_161_364) (fun h => lf (P := EE l 161) h k_161_365)) (fun h => nd h (fun h => lf (P := EE l 161) h k_161_366) (fun h => nd h (fun h => lf (P := EE l 161) h k_161_367) (fun h => lf (P := EE l 161) h k_161_368)))) (fun h => nd h (fun h => nd h (fun h => lf (P := EE l 161) h k_161_369) (fun h => lf (P := EE l 161) h k_161_372)) (fun h => nd h (fun h => lf (P := EE l 161) h k_161_374) (fun h => nd h (fun h => lf (P := EE l 161) h k_161_375) (fun h => lf (P := EE l 161) h k_161_376))))))) (fun h => nd h (fun h => nd h (fun h => nd h (fun h => nd h (fun h => nd h (fun h => lf (P := EE l 161) h k_161_377) (fun h => lf (P := EE l 161) h k_161_378)) (fun h => nd h (fun h => lf (P := EE l 161) h k_161_379) (fun h => lf (P := EE l 161) h k_161_380))) (fun h => nd h (fun h => nd h (fun h => lf (P := EE l 161) h k_161_381) (fun h => lf (P := EE l 161) h k_161_384)) (fun h => nd h (fun h => lf (P := EE l 161) h k_161_386) (fun h => nd h (fun h => lf (P := EE l 161) h k_161_387) (fun h => lf (P := EE l 161) h k_161_388))))) (fun h => nd h (fun h => nd h (fun h => nd h (fun h => lf (P := EE l 161) h k_161_389) (fun h => lf (P := EE l 161) h k_161_390)) (fun h => nd h (fun h => lf (P := EE l 161) h k_161_391) (fun h => nd h (fun h => lf (P := EE l 161) h k_161_394) (fun h => lf (P := EE l 161) h k_161_396)))) (fun h => nd h (fun h => nd h (fun h => lf (P := EE l 161) h k_161_397) (fun h => lf (P := EE l 161) h k_161_398)) (fun h => nd h (fun h => lf (P := EE l 161) h k_161_399) (fun h => nd h (fun h => lf (P := EE l 161) h k_161_400) (fun h => lf (P := EE l 161) h k_161_401)))))) (fun h => nd h (fun h => nd h (fun h => nd h (fun h => nd h (fun h => lf (P := EE l 161) h k_161_402) (fun h => lf (P := EE l 161) h k_161_403)) (fun h => nd h (fun h => lf (P := EE l 161) h k_161_406) (fun h => lf (P := EE l 161) h k_161_408))) (fun h => nd h (fun h => nd h (fun h => lf (P := EE l 161) h k_161_409) (fun h => lf (P := EE l 161) h k_161_410)) (fun h => nd h (fun h => lf (P := EE l 161) h k_161_411) (fun h => nd h (fun h => lf (P := EE l 161) h k_161_412) (fun h => lf (P := EE l 161) h k_161_413))))) (fun h => nd h (fun h => nd h (fun h => nd h (fun h => lf (P := EE l 161) h k_161_416) (fun h => lf (P := EE l 161) h k_161_418)) (fun h => nd h (fun h => lf (P := EE l 161) h k_161_419) (fun h => nd h (fun h => lf (P := EE l 161) h k_161_420) (fun h => lf (P := EE l 161) h k_161_421)))) (fun h => nd h (fun h => nd h (fun h => lf (P := EE l 161) h k_161_422) (fun h => lf (P := EE l 161) h k_161_423)) (fun h => nd h (fun h => lf (P := EE l 161) h k_161_424) (fun h => nd h (fun h => lf (P := EE l 161) h k_161_427) (fun h => lf (P := EE l 161) h (EE_re (Or.inr (Or.inr (Or.inr (Or.inr ⟨rfl, dX11_copyPack_430, rfl⟩))))))))))))))
theorem dX11_extract_0 : decode cX11_extract 0 = .ok (.aload_n 0, 1) := by decide +kernel
theorem dX11_extract_1 : decode cX11_extract 1 = .ok (.aload_n 0, 1) := by decide +kernel
theorem dX11_extract_2 : decode cX11_extract 2 = .ok (.iload_n 1, 1) := by decide +kernel
theorem dX11_extract_3 : decode cX11_extract 3 = .ok (.invokevirtual 260, 3) := by decide +kernel
theorem dX11_extract_6 : decode cX11_extract 6 = .ok (.iconst (-1), 1) := by decide +kernel
theorem dX11_extract_7 : decode cX11_extract 7 = .ok (.if_icmp .ne 7, 3) := by decide +kernel
theorem dX11_extract_10 : decode cX11_extract 10 = .ok (.iconst 1, 1) := by decide +kernel
theorem dX11_extract_11 : decode cX11_extract 11 = .ok (.goto 15, 3) := by decide +kernel
theorem dX11_extract_14 : decode cX11_extract 14 = .ok (.aload_n 0, 1) := by decide +kernel
theorem dX11_extract_15 : decode cX11_extract 15 = .ok (.getfield 270, 3) := by decide +kernel
theorem dX11_extract_18 : decode cX11_extract 18 = .ok (.ifCond .ne 7, 3) := by decide +kernel
theorem dX11_extract_21 : decode cX11_extract 21 = .ok (.iconst 2, 1) := by decide +kernel
theorem dX11_extract_22 : decode cX11_extract 22 = .ok (.goto 4, 3) := by decide +kernel
theorem dX11_extract_25 : decode cX11_extract 25 = .ok (.iconst 0, 1) := by decide +kernel
theorem dX11_extract_26 : decode cX11_extract 26 = .ok (.putfield 133, 3) := by decide +kernel
theorem dX11_extract_29 : decode cX11_extract 29 = .ok (.aload_n 0, 1) := by decide +kernel
theorem dX11_extract_30 : decode cX11_extract 30 = .ok (.getfield 133, 3) := by decide +kernel
theorem dX11_extract_33 : decode cX11_extract 33 = .ok (.ifCond .eq 5, 3) := by decide +kernel
theorem dX11_extract_36 : decode cX11_extract 36 = .ok (.iconst 0, 1) := by decide +kernel
theorem dX11_extract_37 : decode cX11_extract 37 = .ok (.ireturn, 1) := by decide +kernel
theorem dX11_extract_38 : decode cX11_extract 38 = .ok (.aload_n 0, 1) := by decide +kernel
theorem dX11_extract_39 : decode cX11_extract 39 = .ok (.iconst 3, 1) := by decide +kernel
theorem dX11_extract_40 : decode cX11_extract 40 = .ok (.iload_n 1, 1) := by decide +kernel
theorem dX11_extract_41 : decode cX11_extract 41 = .ok (.invokevirtual 298, 3) := by decide +kernel
theorem dX11_extract_44 : decode cX11_extract 44 = .ok (.ifCond .ne 10, 3) := by decide +kernel
theorem dX11_extract_47 : decode cX11_extract 47 = .ok (.aload_n 0, 1) := by decide +kernel
theorem dX11_extract_48 : decode cX11_extract 48 = .ok (.iconst 2, 1) := by decide +kernel
theorem dX11_extract_49 : decode cX11_extract 49 = .ok (.putfield 133, 3) := by decide +kernel
theorem dX11_extract_52 : decode cX11_extract 52 = .ok (.iconst 0, 1) := by decide +kernel
theorem dX11_extract_53 : decode cX11_extract 53 = .ok (.ireturn, 1) := by decide +kernel
theorem dX11_extract_54 : decode cX11_extract 54 = .ok (.aload_n 0, 1) := by decide +kernel
theorem dX11_extract_55 : decode cX11_extract 55 = .ok (.iconst 3, 1) := by decide +kernel
theorem dX11_extract_56 : decode cX11_extract 56 = .ok (.iconst 0, 1) := by decide +kernel
theorem dX11_extract_57 : decode cX11_extract 57 = .ok (.invokevirtual 302, 3) := by decide +kernel
theorem dX11_extract_60 : decode cX11_extract 60 = .ok (.aload_n 0, 1) := by decide +kernel
theorem dX11_extract_61 : decode cX11_extract 61 = .ok (.getfield 57, 3) := by decide +kernel
theorem dX11_extract_64 : decode cX11_extract 64 = .ok (.iconst 0, 1) := by decide +kernel
theorem dX11_extract_65 : decode cX11_extract 65 = .ok (.iaload, 1) := by decide +kernel
theorem dX11_extract_66 : decode cX11_extract 66 = .ok (.ireturn, 1) := by decide +kernel
def tb_162 (pc : Nat) : Option mEnt := bif Nat.ble pc 36 then (bif Nat.ble pc 14 then (bif Nat.ble pc 3 then (bif Nat.ble pc 1 then (bif Nat.ble pc 0 then (bif Nat.beq pc 0 then some (.inl (o_al 0 1)) else none) else (bif Nat.beq pc 1 then some (.inl (o_al 0 1)) else none)) else (bif Nat.ble pc 2 then (bif Nat.beq pc 2 then some (.inl (o_il 1 1)) else none) else (bif Nat.beq pc 3 then some (.inr (3, 130, 2, 11)) else none))) else (bif Nat.ble pc 7 then (bif Nat.ble pc 6 then (bif Nat.beq pc 6 then some (.inl (oS 1 (s_push (.int (-1))))) else none) else (bif Nat.beq pc 7 then some (.inl (o_cne 14)) else none)) else (bif Nat.ble pc 10 then (bif Nat.beq pc 10 then some (.inl (oS 1 (s_push (.int 1)))) else none) else (bif Nat.ble pc 11 then (bif Nat.beq pc 11 then some (.inl (o_goto 26)) else none) else (bif Nat.beq pc 14 then some (.inl (o_al 0 1)) else none))))) else (bif Nat.ble pc 25 then (bif Nat.ble pc 18 then (bif Nat.ble pc 15 then (bif Nat.beq pc 15 then some (.inl (o_gI 11 15)) else none) else (bif Nat.beq pc 18 then some (.inl (o_zne 25)) else none)) else (bif Nat.ble pc 21 then (bif Nat.beq pc 21 then some (.inl (oS 1 (s_push (.int 2)))) else none) else (bif Nat.ble pc 22 then (bif Nat.beq pc 22 then some (.inl (o_goto 26)) else none) else (bif Nat.beq pc 25 then some (.inl (oS 1 (s_push (.int 0)))) else none)))) else (bif Nat.ble pc 29 then (bif Nat.ble pc 26 then (bif Nat.beq pc 26 then some (.inl (o_pI 11 13)) else none) else (bif Nat.beq pc 29 then some (.inl (o_al 0 1)) else none)) else (bif Nat.ble pc 30 then (bif Nat.beq pc 30 then some (.inl (o_gI 11 13)) else none) else (bif Nat.ble pc 33 then (bif Nat.beq pc 33 then some (.inl (o_zeq 38)) else none) else (bif Nat.beq pc 36 then some (.inl (oS 1 (s_push (.int 0)))) else none)))))) else (bif Nat.ble pc 52 then (bif Nat.ble pc 41 then (bif Nat.ble pc 38 then (bif Nat.ble pc 37 then (bif Nat.beq pc 37 then some (.inr (0, 0, 0, 0)) else none) else (bif Nat.beq pc 38 then some (.inl (o_al 0 1)) else none)) else (bif Nat.ble pc 39 then (bif Nat.beq pc 39 then some (.inl (oS 1 (s_push (.int 3)))) else none) else (bif Nat.ble pc 40 then (bif Nat.beq pc 40 then some (.inl (o_il 1 1)) else none) else (bif Nat.beq pc 41 then some (.inr (3, 160, 3, 11)) else none)))) else (bif Nat.ble pc 47 then (bif Nat.ble pc 44 then (bif Nat.beq pc 44 then some (.inl (o_zne 54)) else none) else (bif Nat.beq pc 47 then some (.inl (o_al 0 1)) else none)) else (bif Nat.ble pc 48 then (bif Nat.beq pc 48 then some (.inl (oS 1 (s_push (.int 2)))) else none) else (bif Nat.ble pc 49 then (bif Nat.beq pc 49 then some (.inl (o_pI 11 13)) else none) else (bif Nat.beq pc 52 then some (.inl (oS 1 (s_push (.int 0)))) else none))))) else (bif Nat.ble pc 57 then (bif Nat.ble pc 54 then (bif Nat.ble pc 53 then (bif Nat.beq pc 53 then some (.inr (0, 0, 0, 0)) else none) else (bif Nat.beq pc 54 then some (.inl (o_al 0 1)) else none)) else (bif Nat.ble pc 55 then (bif Nat.beq pc 55 then some (.inl (oS 1 (s_push (.int 3)))) else none) else (bif Nat.ble pc 56 then (bif Nat.beq pc 56 then some (.inl (oS 1 (s_push (.int 0)))) else none) else (bif Nat.beq pc 57 then some (.inr (3, 161, 3, 11)) else none)))) else (bif Nat.ble pc 61 then (bif Nat.ble pc 60 then (bif Nat.beq pc 60 then some (.inl (o_al 0 1)) else none) else (bif Nat.beq pc 61 then some (.inl (o_gP 11 20)) else none)) else (bif Nat.ble pc 64 then (bif Nat.beq pc 64 then some (.inl (oS 1 (s_push (.int 0)))) else none) else (bif Nat.ble pc 65 then (bif Nat.beq pc 65 then some (.inl (o_iald)) else none) else (bif Nat.beq pc 66 then some (.inr (0, 0, 0, 0)) else none))))))
theorem k_162_0 : mOk M_162.1 M_162.2.1 M_162.2.2.1 M_162.2.2.2 0 (o_al 0 1) := ok_aload_n dX11_extract_0 rfl
theorem k_162_1 : mOk M_162.1 M_162.2.1 M_162.2.2.1 M_162.2.2.2 1 (o_al 0 1) := ok_aload_n dX11_extract_1 rfl
theorem k_162_2 : mOk M_162.1 M_162.2.1 M_162.2.2.1 M_162.2.2.2 2 (o_il 1 1) := ok_iload_n dX11_extract_2 rfl
theorem k_162_6 : mOk M_162.1 M_162.2.1 M_162.2.2.1 M_162.2.2.2 6 (oS 1 (s_push (.int (-1)))) := ok_iconst dX11_extract_6 (by decide)
theorem k_162_7 : mOk M_162.1 M_162.2.1 M_162.2.2.1 M_162.2.2.2 7 (o_cne 14) := ok_cne dX11_extract_7 (by decide)
theorem k_162_10 : mOk M_162.1 M_162.2.1 M_162.2.2.1 M_162.2.2.2 10 (oS 1 (s_push (.int 1))) := ok_iconst dX11_extract_10 (by decide)
theorem k_162_11 : mOk M_162.1 M_162.2.1 M_162.2.2.1 M_162.2.2.2 11 (o_goto 26) := ok_goto dX11_extract_11 (by decide)
theorem k_162_14 : mOk M_162.1 M_162.2.1 M_162.2.2.1 M_162.2.2.2 14 (o_al 0 1) := ok_aload_n dX11_extract_14 rfl
theorem k_162_15 : mOk M_162.1 M_162.2.1 M_162.2.2.1 M_162.2.2.2 15 (o_gI 11 15) := ok_gI dX11_extract_15 f_RX11_270 (Or.inr rfl)
theorem k_162_18 : mOk M_162.1 M_162.2.1 M_162.2.2.1 M_162.2.2.2 18 (o_zne 25) := ok_zne dX11_extract_18 (by decide)
theorem k_162_21 : mOk M_162.1 M_162.2.1 M_162.2.2.1 M_162.2.2.2 21 (oS 1 (s_push (.int 2))) := ok_iconst dX11_extract_21 (by decide)
theorem k_162_22 : mOk M_162.1 M_162.2.1 M_162.2.2.1 M_162.2.2.2 22 (o_goto 26) := ok_goto dX11_extract_22 (by decide)
theorem k_162_25 : mOk M_162.1 M_162.2.1 M_162.2.2.1 M_162.2.2.2 25 (oS 1 (s_push (.int 0))) := ok_iconst dX11_extract_25 (by decide)
theorem k_162_26 : mOk M_162.1 M_162.2.1 M_162.2.2.1 M_162.2.2.2 26 (o_pI 11 13) := ok_pI dX11_extract_26 (mFw_of f_RX11_133_c (Or.inl rfl)) rfl
theorem k_162_29 : mOk M_162.1 M_162.2.1 M_162.2.2.1 M_162.2.2.2 29 (o_al 0 1) := ok_aload_n dX11_extract_29 rfl
theorem k_162_30 : mOk M_162.1 M_162.2.1 M_162.2.2.1 M_162.2.2.2 30 (o_gI 11 13) := ok_gI dX11_extract_30 f_RX11_133 (Or.inl rfl)
theorem k_162_33 : mOk M_162.1 M_162.2.1 M_162.2.2.1 M_162.2.2.2 33 (o_zeq 38) := ok_zeq dX11_extract_33 (by decide)
theorem k_162_36 : mOk M_162.1 M_162.2.1 M_162.2.2.1 M_162.2.2.2 36 (oS 1 (s_push (.int 0))) := ok_iconst dX11_extract_36 (by decide)
theorem k_162_38 : mOk M_162.1 M_162.2.1 M_162.2.2.1 M_162.2.2.2 38 (o_al 0 1) := ok_aload_n dX11_extract_38 rfl
theorem k_162_39 : mOk M_162.1 M_162.2.1 M_162.2.2.1 M_162.2.2.2 39 (oS 1 (s_push (.int 3))) := ok_iconst dX11_extract_39 (by decide)
theorem k_162_40 : mOk M_162.1 M_162.2.1 M_162.2.2.1 M_162.2.2.2 40 (o_il 1 1) := ok_iload_n dX11_extract_40 rfl
theorem k_162_44 : mOk M_162.1 M_162.2.1 M_162.2.2.1 M_162.2.2.2 44 (o_zne 54) := ok_zne dX11_extract_44 (by decide)
theorem k_162_47 : mOk M_162.1 M_162.2.1 M_162.2.2.1 M_162.2.2.2 47 (o_al 0 1) := ok_aload_n dX11_extract_47 rfl
theorem k_162_48 : mOk M_162.1 M_162.2.1 M_162.2.2.1 M_162.2.2.2 48 (oS 1 (s_push (.int 2))) := ok_iconst dX11_extract_48 (by decide)
theorem k_162_49 : mOk M_162.1 M_162.2.1 M_162.2.2.1 M_162.2.2.2 49 (o_pI 11 13) := ok_pI dX11_extract_49 (mFw_of f_RX11_133_c (Or.inl rfl)) rfl
theorem k_162_52 : mOk M_162.1 M_162.2.1 M_162.2.2.1 M_162.2.2.2 52 (oS 1 (s_push (.int 0))) := ok_iconst dX11_extract_52 (by decide)
theorem k_162_54 : mOk M_162.1 M_162.2.1 M_162.2.2.1 M_162.2.2.2 54 (o_al 0 1) := ok_aload_n dX11_extract_54 rfl
theorem k_162_55 : mOk M_162.1 M_162.2.1 M_162.2.2.1 M_162.2.2.2 55 (oS 1 (s_push (.int 3))) := ok_iconst dX11_extract_55 (by decide)
theorem k_162_56 : mOk M_162.1 M_162.2.1 M_162.2.2.1 M_162.2.2.2 56 (oS 1 (s_push (.int 0))) := ok_iconst dX11_extract_56 (by decide)
theorem k_162_60 : mOk M_162.1 M_162.2.1 M_162.2.2.1 M_162.2.2.2 60 (o_al 0 1) := ok_aload_n dX11_extract_60 rfl
theorem k_162_61 : mOk M_162.1 M_162.2.1 M_162.2.2.1 M_162.2.2.2 61 (o_gP 11 20) := ok_gP dX11_extract_61 f_RX11_57 rfl
theorem k_162_64 : mOk M_162.1 M_162.2.1 M_162.2.2.1 M_162.2.2.2 64 (oS 1 (s_push (.int 0))) := ok_iconst dX11_extract_64 (by decide)
theorem k_162_65 : mOk M_162.1 M_162.2.1 M_162.2.2.1 M_162.2.2.2 65 (o_iald) := ok_iald dX11_extract_65
set_option maxRecDepth 20000 in
set_option maxHeartbeats 4000000 in
theorem tk_162 (l : Launch) (H9 : mThr l) (H10 : mSpl l) (pc : Nat) (q : mEnt) (h : tb_162 pc = some q) : EE l 162 pc q := nd h (fun h => nd h (fun h => nd h (fun h => nd h (fun h => nd h (fun h => lf (P := EE l 162) h k_162_0) (fun h => lf (P := EE l 162) h k_162_1)) (fun h => nd h (fun h => lf (P := EE l 162) h k_162_2) (fun h => lf (P := EE l 162) h (EE_ca (by decide) (⟨m_1276, m_81, ⟨by decide, by decide⟩, by decide +kernel, ⟨by decide, by decide⟩, 260, 1, by decide +kernel, Or.inr (Or.inr (Or.inl ⟨rfl, rfl, dX11_extract_3, m_1273, m_1275, _, rfl, by decide, m_36⟩))⟩) rfl)))) (fun h => nd h (fun h => nd h (fun h => lf (P := EE l 162) h k_162_6) (fun h => lf (P := EE l 162) h k_162_7)) (fun h => nd h (fun h => lf (P := EE l 162) h k_162_10) (fun h => nd h (fun h => lf (P := EE l 162) h k_162_11) (fun h => lf (P := EE l 162) h k_162_14))))) (fun h => nd h (fun h => nd h (fun h => nd h (fun h => lf (P := EE l 162) h k_162_15) (fun h => lf (P := EE l 162) h k_162_18)) (fun h => nd h (fun h => lf (P := EE l 162) h k_162_21) (fun h => nd h (fun h => lf (P := EE l 162) h k_162_22) (fun h => lf (P := EE l 162) h k_162_25)))) (fun h => nd h (fun h => nd h (fun h => lf (P := EE l 162) h k_162_26) (fun h => lf (P := EE l 162) h k_162_29)) (fun h => nd h (fun h => lf (P := EE l 162) h k_162_30) (fun h => nd h (fun h => lf (P := EE l 162) h k_162_33) (fun h => lf (P := EE l 162) h k_162_36)))))) (fun h => nd h (fun h => nd h (fun h => nd h (fun h => nd h (fun h => lf (P := EE l 162) h (EE_re (Or.inl ⟨rfl, dX11_extract_37, rfl⟩))) (fun h => lf (P := EE l 162) h k_162_38)) (fun h => nd h (fun h => lf (P := EE l 162) h k_162_39) (fun h => nd h (fun h => lf (P := EE l 162) h k_162_40) (fun h => lf (P := EE l 162) h (EE_ca (by decide) (⟨m_1368, m_81, ⟨by decide, by decide⟩, by decide +kernel, ⟨by decide, by decide⟩, 298, 2, by decide +kernel, Or.inr (Or.inr (Or.inl ⟨rfl, rfl, dX11_extract_41, m_1365, m_1367, _, rfl, by decide, m_54⟩))⟩) rfl))))) (fun h => nd h (fun h => nd h (fun h => lf (P := EE l 162) h k_162_44) (fun h => lf (P := EE l 162) h k_162_47)) (fun h => nd h (fun h => lf (P := EE l 162) h k_162_48) (fun h => nd h (fun h => lf (P := EE l 162) h k_162_49) (fun h => lf (P := EE l 162) h k_162_52))))) (fun h => nd h (fun h => nd h (fun h => nd h (fun h => lf (P := EE l 162) h (EE_re (Or.inl ⟨rfl, dX11_extract_53, rfl⟩))) (fun h => lf (P := EE l 162) h k_162_54)) (fun h => nd h (fun h => lf (P := EE l 162) h k_162_55) (fun h => nd h (fun h => lf (P := EE l 162) h k_162_56) (fun h => lf (P := EE l 162) h (EE_ca (by decide) (⟨m_1400, m_81, ⟨by decide, by decide⟩, by decide +kernel, ⟨by decide, by decide⟩, 302, 2, by decide +kernel, Or.inr (Or.inr (Or.inl ⟨rfl, rfl, dX11_extract_57, m_1397, m_1399, _, rfl, by decide, m_62⟩))⟩) rfl))))) (fun h => nd h (fun h => nd h (fun h => lf (P := EE l 162) h k_162_60) (fun h => lf (P := EE l 162) h k_162_61)) (fun h => nd h (fun h => lf (P := EE l 162) h k_162_64) (fun h => nd h (fun h => lf (P := EE l 162) h k_162_65) (fun h => lf (P := EE l 162) h (EE_re (Or.inl ⟨rfl, dX11_extract_66, rfl⟩))))))))
theorem dX11_packed_0 : decode cX11_packed 0 = .ok (.aload_n 0, 1) := by decide +kernel
theorem dX11_packed_1 : decode cX11_packed 1 = .ok (.iconst 0, 1) := by decide +kernel
theorem dX11_packed_2 : decode cX11_packed 2 = .ok (.putfield 133, 3) := by decide +kernel
theorem dX11_packed_5 : decode cX11_packed 5 = .ok (.aload_n 0, 1) := by decide +kernel
theorem dX11_packed_6 : decode cX11_packed 6 = .ok (.getfield 47, 3) := by decide +kernel
theorem dX11_packed_9 : decode cX11_packed 9 = .ok (.iconst 0, 1) := by decide +kernel
theorem dX11_packed_10 : decode cX11_packed 10 = .ok (.baload, 1) := by decide +kernel
theorem dX11_packed_11 : decode cX11_packed 11 = .ok (.ifCond .eq 17, 3) := by decide +kernel
theorem dX11_packed_14 : decode cX11_packed 14 = .ok (.iload_n 1, 1) := by decide +kernel
theorem dX11_packed_15 : decode cX11_packed 15 = .ok (.ifCond .lt 13, 3) := by decide +kernel
theorem dX11_packed_18 : decode cX11_packed 18 = .ok (.iload_n 1, 1) := by decide +kernel
theorem dX11_packed_19 : decode cX11_packed 19 = .ok (.aload_n 0, 1) := by decide +kernel
theorem dX11_packed_20 : decode cX11_packed 20 = .ok (.getfield 57, 3) := by decide +kernel
theorem dX11_packed_23 : decode cX11_packed 23 = .ok (.iconst 0, 1) := by decide +kernel
theorem dX11_packed_24 : decode cX11_packed 24 = .ok (.iaload, 1) := by decide +kernel
theorem dX11_packed_25 : decode cX11_packed 25 = .ok (.if_icmp .lt 5, 3) := by decide +kernel
theorem dX11_packed_28 : decode cX11_packed 28 = .ok (.iconst (-1), 1) := by decide +kernel
theorem dX11_packed_29 : decode cX11_packed 29 = .ok (.ireturn, 1) := by decide +kernel
theorem dX11_packed_30 : decode cX11_packed 30 = .ok (.iload_n 2, 1) := by decide +kernel
theorem dX11_packed_31 : decode cX11_packed 31 = .ok (.ifCond .ne 12, 3) := by decide +kernel
theorem dX11_packed_34 : decode cX11_packed 34 = .ok (.aload_n 0, 1) := by decide +kernel
theorem dX11_packed_35 : decode cX11_packed 35 = .ok (.getfield 60, 3) := by decide +kernel
theorem dX11_packed_38 : decode cX11_packed 38 = .ok (.iload_n 1, 1) := by decide +kernel
theorem dX11_packed_39 : decode cX11_packed 39 = .ok (.iaload, 1) := by decide +kernel
theorem dX11_packed_40 : decode cX11_packed 40 = .ok (.goto 60, 3) := by decide +kernel
theorem dX11_packed_43 : decode cX11_packed 43 = .ok (.iload_n 2, 1) := by decide +kernel
theorem dX11_packed_44 : decode cX11_packed 44 = .ok (.iconst 1, 1) := by decide +kernel
theorem dX11_packed_45 : decode cX11_packed 45 = .ok (.if_icmp .ne 12, 3) := by decide +kernel
theorem dX11_packed_48 : decode cX11_packed 48 = .ok (.aload_n 0, 1) := by decide +kernel
theorem dX11_packed_49 : decode cX11_packed 49 = .ok (.getfield 63, 3) := by decide +kernel
theorem dX11_packed_52 : decode cX11_packed 52 = .ok (.iload_n 1, 1) := by decide +kernel
theorem dX11_packed_53 : decode cX11_packed 53 = .ok (.iaload, 1) := by decide +kernel
theorem dX11_packed_54 : decode cX11_packed 54 = .ok (.goto 46, 3) := by decide +kernel
theorem dX11_packed_57 : decode cX11_packed 57 = .ok (.iload_n 2, 1) := by decide +kernel
theorem dX11_packed_58 : decode cX11_packed 58 = .ok (.iconst 2, 1) := by decide +kernel
theorem dX11_packed_59 : decode cX11_packed 59 = .ok (.if_icmp .ne 12, 3) := by decide +kernel
theorem dX11_packed_62 : decode cX11_packed 62 = .ok (.aload_n 0, 1) := by decide +kernel
theorem dX11_packed_63 : decode cX11_packed 63 = .ok (.getfield 66, 3) := by decide +kernel
theorem dX11_packed_66 : decode cX11_packed 66 = .ok (.iload_n 1, 1) := by decide +kernel
theorem dX11_packed_67 : decode cX11_packed 67 = .ok (.iaload, 1) := by decide +kernel
theorem dX11_packed_68 : decode cX11_packed 68 = .ok (.goto 32, 3) := by decide +kernel
theorem dX11_packed_71 : decode cX11_packed 71 = .ok (.iload_n 2, 1) := by decide +kernel
theorem dX11_packed_72 : decode cX11_packed 72 = .ok (.iconst 3, 1) := by decide +kernel
theorem dX11_packed_73 : decode cX11_packed 73 = .ok (.if_icmp .ne 12, 3) := by decide +kernel
theorem dX11_packed_76 : decode cX11_packed 76 = .ok (.aload_n 0, 1) := by decide +kernel
theorem dX11_packed_77 : decode cX11_packed 77 = .ok (.getfield 69, 3) := by decide +kernel
theorem dX11_packed_80 : decode cX11_packed 80 = .ok (.iload_n 1, 1) := by decide +kernel
theorem dX11_packed_81 : decode cX11_packed 81 = .ok (.iaload, 1) := by decide +kernel
theorem dX11_packed_82 : decode cX11_packed 82 = .ok (.goto 18, 3) := by decide +kernel
theorem dX11_packed_85 : decode cX11_packed 85 = .ok (.iload_n 2, 1) := by decide +kernel
theorem dX11_packed_86 : decode cX11_packed 86 = .ok (.iconst 4, 1) := by decide +kernel
theorem dX11_packed_87 : decode cX11_packed 87 = .ok (.if_icmp .ne 12, 3) := by decide +kernel
theorem dX11_packed_90 : decode cX11_packed 90 = .ok (.aload_n 0, 1) := by decide +kernel
theorem dX11_packed_91 : decode cX11_packed 91 = .ok (.getfield 75, 3) := by decide +kernel
theorem dX11_packed_94 : decode cX11_packed 94 = .ok (.iload_n 1, 1) := by decide +kernel
theorem dX11_packed_95 : decode cX11_packed 95 = .ok (.iaload, 1) := by decide +kernel
theorem dX11_packed_96 : decode cX11_packed 96 = .ok (.goto 4, 3) := by decide +kernel
theorem dX11_packed_99 : decode cX11_packed 99 = .ok (.iconst (-1), 1) := by decide +kernel
theorem dX11_packed_100 : decode cX11_packed 100 = .ok (.ireturn, 1) := by decide +kernel
def tb_163 (pc : Nat) : Option mEnt := bif Nat.ble pc 48 then (bif Nat.ble pc 23 then (bif Nat.ble pc 10 then (bif Nat.ble pc 2 then (bif Nat.ble pc 0 then (bif Nat.beq pc 0 then some (.inl (o_al 0 1)) else none) else (bif Nat.ble pc 1 then (bif Nat.beq pc 1 then some (.inl (oS 1 (s_push (.int 0)))) else none) else (bif Nat.beq pc 2 then some (.inl (o_pI 11 13)) else none))) else (bif Nat.ble pc 6 then (bif Nat.ble pc 5 then (bif Nat.beq pc 5 then some (.inl (o_al 0 1)) else none) else (bif Nat.beq pc 6 then some (.inl (o_gP 11 17)) else none)) else (bif Nat.ble pc 9 then (bif Nat.beq pc 9 then some (.inl (oS 1 (s_push (.int 0)))) else none) else (bif Nat.beq pc 10 then some (.inl (o_bald)) else none)))) else (bif Nat.ble pc 15 then (bif Nat.ble pc 11 then (bif Nat.beq pc 11 then some (.inl (o_zeq 28)) else none) else (bif Nat.ble pc 14 then (bif Nat.beq pc 14 then some (.inl (o_il 1 1)) else none) else (bif Nat.beq pc 15 then some (.inl (o_zlt 28)) else none))) else (bif Nat.ble pc 19 then (bif Nat.ble pc 18 then (bif Nat.beq pc 18 then some (.inl (o_il 1 1)) else none) else (bif Nat.beq pc 19 then some (.inl (o_al 0 1)) else none)) else (bif Nat.ble pc 20 then (bif Nat.beq pc 20 then some (.inl (o_gP 11 20)) else none) else (bif Nat.beq pc 23 then some (.inl (oS 1 (s_push (.int 0)))) else none))))) else (bif Nat.ble pc 34 then (bif Nat.ble pc 28 then (bif Nat.ble pc 24 then (bif Nat.beq pc 24 then some (.inl (o_iald)) else none) else (bif Nat.ble pc 25 then (bif Nat.beq pc 25 then some (.inl (o_clt 30)) else none) else (bif Nat.beq pc 28 then some (.inl (oS 1 (s_push (.int (-1))))) else none))) else (bif Nat.ble pc 30 then (bif Nat.ble pc 29 then (bif Nat.beq pc 29 then some (.inr (0, 0, 0, 0)) else none) else (bif Nat.beq pc 30 then some (.inl (o_il 2 1)) else none)) else (bif Nat.ble pc 31 then (bif Nat.beq pc 31 then some (.inl (o_zne 43)) else none) else (bif Nat.beq pc 34 then some (.inl (o_al 0 1)) else none)))) else (bif Nat.ble pc 40 then (bif Nat.ble pc 38 then (bif Nat.ble pc 35 then (bif Nat.beq pc 35 then some (.inl (o_gP 11 21)) else none) else (bif Nat.beq pc 38 then some (.inl (o_il 1 1)) else none)) else (bif Nat.ble pc 39 then (bif Nat.beq pc 39 then some (.inl (o_iald)) else none) else (bif Nat.beq pc 40 then some (.inl (o_goto 100)) else none))) else (bif Nat.ble pc 44 then (bif Nat.ble pc 43 then (bif Nat.beq pc 43 then some (.inl (o_il 2 1)) else none) else (bif Nat.beq pc 44 then some (.inl (oS 1 (s_push (.int 1)))) else none)) else (bif Nat.ble pc 45 then (bif Nat.beq pc 45 then some (.inl (o_cne 57)) else none) else (bif Nat.beq pc 48 then some (.inl (o_al 0 1)) else none)))))) else (bif Nat.ble pc 73 then (bif Nat.ble pc 59 then (bif Nat.ble pc 53 then (bif Nat.ble pc 49 then (bif Nat.beq pc 49 then some (.inl (o_gP 11 22)) else none) else (bif Nat.ble pc 52 then (bif Nat.beq pc 52 then some (.inl (o_il 1 1)) else none) else (bif Nat.beq pc 53 then some (.inl (o_iald)) else none))) else (bif Nat.ble pc 57 then (bif Nat.ble pc 54 then (bif Nat.beq pc 54 then some (.inl (o_goto 100)) else none) else (bif Nat.beq pc 57 then some (.inl (o_il 2 1)) else none)) else (bif Nat.ble pc 58 then (bif Nat.beq pc 58 then some (.inl (oS 1 (s_push (.int 2)))) else none) else (bif Nat.beq pc 59 then some (.inl (o_cne 71)) else none)))) else (bif Nat.ble pc 67 then (bif Nat.ble pc 63 then (bif Nat.ble pc 62 then (bif Nat.beq pc 62 then some (.inl (o_al 0 1)) else none) else (bif Nat.beq pc 63 then some (.inl (o_gP 11 23)) else none)) else (bif Nat.ble pc 66 then (bif Nat.beq pc 66 then some (.inl (o_il 1 1)) else none) else (bif Nat.beq pc 67 then some (.inl (o_iald)) else none))) else (bif Nat.ble pc 71 then (bif Nat.ble pc 68 then (bif Nat.beq pc 68 then some (.inl (o_goto 100)) else none) else (bif Nat.beq pc 71 then some (.inl (o_il 2 1)) else none)) else (bif Nat.ble pc 72 then (bif Nat.beq pc 72 then some (.inl (oS 1 (s_push (.int 3)))) else none) else (bif Nat.beq pc 73 then some (.inl (o_cne 85)) else none))))) else (bif Nat.ble pc 86 then (bif Nat.ble pc 80 then (bif Nat.ble pc 76 then (bif Nat.beq pc 76 then some (.inl (o_al 0 1)) else none) else (bif Nat.ble pc 77 then (bif Nat.beq pc 77 then some (.inl (o_gP 11 24)) else none) else (bif Nat.beq pc 80 then some (.inl (o_il 1 1)) else none))) else (bif Nat.ble pc 82 then (bif Nat.ble pc 81 then (bif Nat.beq pc 81 then some (.inl (o_iald)) else none) else (bif Nat.beq pc 82 then some (.inl (o_goto 100)) else none)) else (bif Nat.ble pc 85 then (bif Nat.beq pc 85 then some (.inl (o_il 2 1)) else none) else (bif Nat.beq pc 86 then some (.inl (oS 1 (s_push (.int 4)))) else none)))) else (bif Nat.ble pc 94 then (bif Nat.ble pc 90 then (bif Nat.ble pc 87 then (bif Nat.beq pc 87 then some (.inl (o_cne 99)) else none) else (bif Nat.beq pc 90 then some (.inl (o_al 0 1)) else none)) else (bif Nat.ble pc 91 then (bif Nat.beq pc 91 then some (.inl (o_gP 11 26)) else none) else (bif Nat.beq pc 94 then some (.inl (o_il 1 1)) else none))) else (bif Nat.ble pc 96 then (bif Nat.ble pc 95 then (bif Nat.beq pc 95 then some (.inl (o_iald)) else none) else (bif Nat.beq pc 96 then some (.inl (o_goto 100)) else none)) else (bif Nat.ble pc 99 then (bif Nat.beq pc 99 then some (.inl (oS 1 (s_push (.int (-1))))) else none) else (bif Nat.beq pc 100 then some (.inr (0, 0, 0, 0)) else none))))))
theorem k_163_0 : mOk M_163.1 M_163.2.1 M_163.2.2.1 M_163.2.2.2 0 (o_al 0 1) := ok_aload_n dX11_packed_0 rfl
theorem k_163_1 : mOk M_163.1 M_163.2.1 M_163.2.2.1 M_163.2.2.2 1 (oS 1 (s_push (.int 0))) := ok_iconst dX11_packed_1 (by decide)
theorem k_163_2 : mOk M_163.1 M_163.2.1 M_163.2.2.1 M_163.2.2.2 2 (o_pI 11 13) := ok_pI dX11_packed_2 (mFw_of f_RX11_133_c (Or.inl rfl)) rfl
theorem k_163_5 : mOk M_163.1 M_163.2.1 M_163.2.2.1 M_163.2.2.2 5 (o_al 0 1) := ok_aload_n dX11_packed_5 rfl
theorem k_163_6 : mOk M_163.1 M_163.2.1 M_163.2.2.1 M_163.2.2.2 6 (o_gP 11 17) := ok_gP dX11_packed_6 f_RX11_47 rfl
theorem k_163_9 : mOk M_163.1 M_163.2.1 M_163.2.2.1 M_163.2.2.2 9 (oS 1 (s_push (.int 0))) := ok_iconst dX11_packed_9 (by decide)
theorem k_163_10 : mOk M_163.1 M_163.2.1 M_163.2.2.1 M_163.2.2.2 10 (o_bald) := ok_bald dX11_packed_10
theorem k_163_11 : mOk M_163.1 M_163.2.1 M_163.2.2.1 M_163.2.2.2 11 (o_zeq 28) := ok_zeq dX11_packed_11 (by decide)
theorem k_163_14 : mOk M_163.1 M_163.2.1 M_163.2.2.1 M_163.2.2.2 14 (o_il 1 1) := ok_iload_n dX11_packed_14 rfl
theorem k_163_15 : mOk M_163.1 M_163.2.1 M_163.2.2.1 M_163.2.2.2 15 (o_zlt 28) := ok_zlt dX11_packed_15 (by decide)
theorem k_163_18 : mOk M_163.1 M_163.2.1 M_163.2.2.1 M_163.2.2.2 18 (o_il 1 1) := ok_iload_n dX11_packed_18 rfl
theorem k_163_19 : mOk M_163.1 M_163.2.1 M_163.2.2.1 M_163.2.2.2 19 (o_al 0 1) := ok_aload_n dX11_packed_19 rfl
theorem k_163_20 : mOk M_163.1 M_163.2.1 M_163.2.2.1 M_163.2.2.2 20 (o_gP 11 20) := ok_gP dX11_packed_20 f_RX11_57 rfl
theorem k_163_23 : mOk M_163.1 M_163.2.1 M_163.2.2.1 M_163.2.2.2 23 (oS 1 (s_push (.int 0))) := ok_iconst dX11_packed_23 (by decide)
theorem k_163_24 : mOk M_163.1 M_163.2.1 M_163.2.2.1 M_163.2.2.2 24 (o_iald) := ok_iald dX11_packed_24
theorem k_163_25 : mOk M_163.1 M_163.2.1 M_163.2.2.1 M_163.2.2.2 25 (o_clt 30) := ok_clt dX11_packed_25 (by decide)
theorem k_163_28 : mOk M_163.1 M_163.2.1 M_163.2.2.1 M_163.2.2.2 28 (oS 1 (s_push (.int (-1)))) := ok_iconst dX11_packed_28 (by decide)
theorem k_163_30 : mOk M_163.1 M_163.2.1 M_163.2.2.1 M_163.2.2.2 30 (o_il 2 1) := ok_iload_n dX11_packed_30 rfl
theorem k_163_31 : mOk M_163.1 M_163.2.1 M_163.2.2.1 M_163.2.2.2 31 (o_zne 43) := ok_zne dX11_packed_31 (by decide)
theorem k_163_34 : mOk M_163.1 M_163.2.1 M_163.2.2.1 M_163.2.2.2 34 (o_al 0 1) := ok_aload_n dX11_packed_34 rfl
theorem k_163_35 : mOk M_163.1 M_163.2.1 M_163.2.2.1 M_163.2.2.2 35 (o_gP 11 21) := ok_gP dX11_packed_35 f_RX11_60 rfl
theorem k_163_38 : mOk M_163.1 M_163.2.1 M_163.2.2.1 M_163.2.2.2 38 (o_il 1 1) := ok_iload_n dX11_packed_38 rfl
theorem k_163_39 : mOk M_163.1 M_163.2.1 M_163.2.2.1 M_163.2.2.2 39 (o_iald) := ok_iald dX11_packed_39
theorem k_163_40 : mOk M_163.1 M_163.2.1 M_163.2.2.1 M_163.2.2.2 40 (o_goto 100) := ok_goto dX11_packed_40 (by decide)
theorem k_163_43 : mOk M_163.1 M_163.2.1 M_163.2.2.1 M_163.2.2.2 43 (o_il 2 1) := ok_iload_n dX11_packed_43 rfl
theorem k_163_44 : mOk M_163.1 M_163.2.1 M_163.2.2.1 M_163.2.2.2 44 (oS 1 (s_push (.int 1))) := ok_iconst dX11_packed_44 (by decide)
theorem k_163_45 : mOk M_163.1 M_163.2.1 M_163.2.2.1 M_163.2.2.2 45 (o_cne 57) := ok_cne dX11_packed_45 (by decide)
theorem k_163_48 : mOk M_163.1 M_163.2.1 M_163.2.2.1 M_163.2.2.2 48 (o_al 0 1) := ok_aload_n dX11_packed_48 rfl
theorem k_163_49 : mOk M_163.1 M_163.2.1 M_163.2.2.1 M_163.2.2.2 49 (o_gP 11 22) := ok_gP dX11_packed_49 f_RX11_63 rfl
theorem k_163_52 : mOk M_163.1 M_163.2.1 M_163.2.2.1 M_163.2.2.2 52 (o_il 1 1) := ok_iload_n dX11_packed_52 rfl
theorem k_163_53 : mOk M_163.1 M_163.2.1 M_163.2.2.1 M_163.2.2.2 53 (o_iald) := ok_iald dX11_packed_53
theorem k_163_54 : mOk M_163.1 M_163.2.1 M_163.2.2.1 M_163.2.2.2 54 (o_goto 100) := ok_goto dX11_packed_54 (by decide)
theorem k_163_57 : mOk M_163.1 M_163.2.1 M_163.2.2.1 M_163.2.2.2 57 (o_il 2 1) := ok_iload_n dX11_packed_57 rfl
theorem k_163_58 : mOk M_163.1 M_163.2.1 M_163.2.2.1 M_163.2.2.2 58 (oS 1 (s_push (.int 2))) := ok_iconst dX11_packed_58 (by decide)
theorem k_163_59 : mOk M_163.1 M_163.2.1 M_163.2.2.1 M_163.2.2.2 59 (o_cne 71) := ok_cne dX11_packed_59 (by decide)
theorem k_163_62 : mOk M_163.1 M_163.2.1 M_163.2.2.1 M_163.2.2.2 62 (o_al 0 1) := ok_aload_n dX11_packed_62 rfl
theorem k_163_63 : mOk M_163.1 M_163.2.1 M_163.2.2.1 M_163.2.2.2 63 (o_gP 11 23) := ok_gP dX11_packed_63 f_RX11_66 rfl
theorem k_163_66 : mOk M_163.1 M_163.2.1 M_163.2.2.1 M_163.2.2.2 66 (o_il 1 1) := ok_iload_n dX11_packed_66 rfl
theorem k_163_67 : mOk M_163.1 M_163.2.1 M_163.2.2.1 M_163.2.2.2 67 (o_iald) := ok_iald dX11_packed_67
theorem k_163_68 : mOk M_163.1 M_163.2.1 M_163.2.2.1 M_163.2.2.2 68 (o_goto 100) := ok_goto dX11_packed_68 (by decide)
theorem k_163_71 : mOk M_163.1 M_163.2.1 M_163.2.2.1 M_163.2.2.2 71 (o_il 2 1) := ok_iload_n dX11_packed_71 rfl
theorem k_163_72 : mOk M_163.1 M_163.2.1 M_163.2.2.1 M_163.2.2.2 72 (oS 1 (s_push (.int 3))) := ok_iconst dX11_packed_72 (by decide)
theorem k_163_73 : mOk M_163.1 M_163.2.1 M_163.2.2.1 M_163.2.2.2 73 (o_cne 85) := ok_cne dX11_packed_73 (by decide)
theorem k_163_76 : mOk M_163.1 M_163.2.1 M_163.2.2.1 M_163.2.2.2 76 (o_al 0 1) := ok_aload_n dX11_packed_76 rfl
theorem k_163_77 : mOk M_163.1 M_163.2.1 M_163.2.2.1 M_163.2.2.2 77 (o_gP 11 24) := ok_gP dX11_packed_77 f_RX11_69 rfl
theorem k_163_80 : mOk M_163.1 M_163.2.1 M_163.2.2.1 M_163.2.2.2 80 (o_il 1 1) := ok_iload_n dX11_packed_80 rfl
theorem k_163_81 : mOk M_163.1 M_163.2.1 M_163.2.2.1 M_163.2.2.2 81 (o_iald) := ok_iald dX11_packed_81
theorem k_163_82 : mOk M_163.1 M_163.2.1 M_163.2.2.1 M_163.2.2.2 82 (o_goto 100) := ok_goto dX11_packed_82 (by decide)
theorem k_163_85 : mOk M_163.1 M_163.2.1 M_163.2.2.1 M_163.2.2.2 85 (o_il 2 1) := ok_iload_n dX11_packed_85 rfl
theorem k_163_86 : mOk M_163.1 M_163.2.1 M_163.2.2.1 M_163.2.2.2 86 (oS 1 (s_push (.int 4))) := ok_iconst dX11_packed_86 (by decide)
theorem k_163_87 : mOk M_163.1 M_163.2.1 M_163.2.2.1 M_163.2.2.2 87 (o_cne 99) := ok_cne dX11_packed_87 (by decide)
theorem k_163_90 : mOk M_163.1 M_163.2.1 M_163.2.2.1 M_163.2.2.2 90 (o_al 0 1) := ok_aload_n dX11_packed_90 rfl
theorem k_163_91 : mOk M_163.1 M_163.2.1 M_163.2.2.1 M_163.2.2.2 91 (o_gP 11 26) := ok_gP dX11_packed_91 f_RX11_75 rfl
theorem k_163_94 : mOk M_163.1 M_163.2.1 M_163.2.2.1 M_163.2.2.2 94 (o_il 1 1) := ok_iload_n dX11_packed_94 rfl
theorem k_163_95 : mOk M_163.1 M_163.2.1 M_163.2.2.1 M_163.2.2.2 95 (o_iald) := ok_iald dX11_packed_95
theorem k_163_96 : mOk M_163.1 M_163.2.1 M_163.2.2.1 M_163.2.2.2 96 (o_goto 100) := ok_goto dX11_packed_96 (by decide)
theorem k_163_99 : mOk M_163.1 M_163.2.1 M_163.2.2.1 M_163.2.2.2 99 (oS 1 (s_push (.int (-1)))) := ok_iconst dX11_packed_99 (by decide)
set_option maxRecDepth 20000 in
set_option maxHeartbeats 4000000 in
theorem tk_163 (l : Launch) (H9 : mThr l) (H10 : mSpl l) (pc : Nat) (q : mEnt) (h : tb_163 pc = some q) : EE l 163 pc q := nd h (fun h => nd h (fun h => nd h (fun h => nd h (fun h => nd h (fun h => lf (P := EE l 163) h k_163_0) (fun h => nd h (fun h => lf (P := EE l 163) h k_163_1) (fun h => lf (P := EE l 163) h k_163_2))) (fun h => nd h (fun h => nd h (fun h => lf (P := EE l 163) h k_163_5) (fun h => lf (P := EE l 163) h k_163_6)) (fun h => nd h (fun h => lf (P := EE l 163) h k_163_9) (fun h => lf (P := EE l 163) h k_163_10)))) (fun h => nd h (fun h => nd h (fun h => lf (P := EE l 163) h k_163_11) (fun h => nd h (fun h => lf (P := EE l 163) h k_163_14) (fun h => lf (P := EE l 163) h k_163_15))) (fun h => nd h (fun h => nd h (fun h => lf (P := EE l 163) h k_163_18) (fun h => lf (P := EE l 163) h k_163_19)) (fun h => nd h (fun h => lf (P := EE l 163) h k_163_20) (fun h => lf (P := EE l 163) h k_163_23))))) (fun h => nd h (fun h => nd h (fun h => nd h (fun h => lf (P := EE l 163) h k_163_24) (fun h => nd h (fun h => lf (P := EE l 163) h k_163_25) (fun h => lf (P := EE l 163) h k_163_28))) (fun h => nd h (fun h => nd h (fun h => lf (P := EE l 163) h (EE_re (Or.inl ⟨rfl, dX11_packed_29, rfl⟩))) (fun h => lf (P := EE l 163) h k_163_30)) (fun h => nd h (fun h => lf (P := EE l 163) h k_163_31) (fun h => lf (P := EE l 163) h k_163_34)))) (fun h => nd h (fun h => nd h (fun h => nd h (fun h => lf (P := EE l 163) h k_163_35) (fun h => lf (P := EE l 163) h k_163_38)) (fun h => nd h (fun h => lf (P := EE l 163) h k_163_39) (fun h => lf (P := EE l 163) h k_163_40))) (fun h => nd h (fun h => nd h (fun h => lf (P := EE l 163) h k_163_43) (fun h => lf (P := EE l 163) h k_163_44)) (fun h => nd h (fun h => lf (P := EE l 163) h k_163_45) (fun h => lf (P := EE l 163) h k_163_48)))))) (fun h => nd h (fun h => nd h (fun h => nd h (fun h => nd h (fun h => lf (P := EE l 163) h k_163_49) (fun h => nd h (fun h => lf (P := EE l 163) h k_163_52) (fun h => lf (P := EE l 163) h k_163_53))) (fun h => nd h (fun h => nd h (fun h => lf (P := EE l 163) h k_163_54) (fun h => lf (P := EE l 163) h k_163_57)) (fun h => nd h (fun h => lf (P := EE l 163) h k_163_58) (fun h => lf (P := EE l 163) h k_163_59)))) (fun h => nd h (fun h => nd h (fun h => nd h (fun h => lf (P := EE l 163) h k_163_62) (fun h => lf (P := EE l 163) h k_163_63)) (fun h => nd h (fun h => lf (P := EE l 163) h k_163_66) (fun h => lf (P := EE l 163) h k_163_67))) (fun h => nd h (fun h => nd h (fun h => lf (P := EE l 163) h k_163_68) (fun h => lf (P := EE l 163) h k_163_71)) (fun h => nd h (fun h => lf (P := EE l 163) h k_163_72) (fun h => lf (P := EE l 163) h k_163_73))))) (fun h => nd h (fun h => nd h (fun h => nd h (fun h => lf (P := EE l 163) h k_163_76) (fun h => nd h (fun h => lf (P := EE l 163) h k_163_77) (fun h => lf (P := EE l 163) h k_163_80))) (fun h => nd h (fun h => nd h (fun h => lf (P := EE l 163) h k_163_81) (fun h => lf (P := EE l 163) h k_163_82)) (fun h => nd h (fun h => lf (P := EE l 163) h k_163_85) (fun h => lf (P := EE l 163) h k_163_86)))) (fun h => nd h (fun h => nd h (fun h => nd h (fun h => lf (P := EE l 163) h k_163_87) (fun h => lf (P := EE l 163) h k_163_90)) (fun h => nd h (fun h => lf (P := EE l 163) h k_163_91) (fun h => lf (P := EE l 163) h k_163_94))) (fun h => nd h (fun h => nd h (fun h => lf (P := EE l 163) h k_163_95) (fun h => lf (P := EE l 163) h k_163_96)) (fun h => nd h (fun h => lf (P := EE l 163) h k_163_99) (fun h => lf (P := EE l 163) h (EE_re (Or.inl ⟨rfl, dX11_packed_100, rfl⟩))))))))
theorem dX11_tileIn_0 : decode cX11_tileIn 0 = .ok (.iconst 0, 1) := by decide +kernel
theorem dX11_tileIn_1 : decode cX11_tileIn 1 = .ok (.istore 5, 2) := by decide +kernel
theorem dX11_tileIn_3 : decode cX11_tileIn 3 = .ok (.iload 5, 2) := by decide +kernel
theorem dX11_tileIn_5 : decode cX11_tileIn 5 = .ok (.aload_n 0, 1) := by decide +kernel
theorem dX11_tileIn_6 : decode cX11_tileIn 6 = .ok (.getfield 57, 3) := by decide +kernel
theorem dX11_tileIn_9 : decode cX11_tileIn 9 = .ok (.iload_n 1, 1) := by decide +kernel
theorem dX11_tileIn_10 : decode cX11_tileIn 10 = .ok (.iaload, 1) := by decide +kernel
theorem dX11_tileIn_11 : decode cX11_tileIn 11 = .ok (.if_icmp .ge 61, 3) := by decide +kernel
theorem dX11_tileIn_14 : decode cX11_tileIn 14 = .ok (.aload_n 0, 1) := by decide +kernel
theorem dX11_tileIn_15 : decode cX11_tileIn 15 = .ok (.getfield 60, 3) := by decide +kernel
theorem dX11_tileIn_18 : decode cX11_tileIn 18 = .ok (.bipush 100, 2) := by decide +kernel
theorem dX11_tileIn_20 : decode cX11_tileIn 20 = .ok (.iload_n 1, 1) := by decide +kernel
theorem dX11_tileIn_21 : decode cX11_tileIn 21 = .ok (.imul, 1) := by decide +kernel
theorem dX11_tileIn_22 : decode cX11_tileIn 22 = .ok (.iload 5, 2) := by decide +kernel
theorem dX11_tileIn_24 : decode cX11_tileIn 24 = .ok (.iadd, 1) := by decide +kernel
theorem dX11_tileIn_25 : decode cX11_tileIn 25 = .ok (.iaload, 1) := by decide +kernel
theorem dX11_tileIn_26 : decode cX11_tileIn 26 = .ok (.iload_n 2, 1) := by decide +kernel
theorem dX11_tileIn_27 : decode cX11_tileIn 27 = .ok (.if_icmp .ne 39, 3) := by decide +kernel
theorem dX11_tileIn_30 : decode cX11_tileIn 30 = .ok (.aload_n 0, 1) := by decide +kernel
theorem dX11_tileIn_31 : decode cX11_tileIn 31 = .ok (.getfield 63, 3) := by decide +kernel
theorem dX11_tileIn_34 : decode cX11_tileIn 34 = .ok (.bipush 100, 2) := by decide +kernel
theorem dX11_tileIn_36 : decode cX11_tileIn 36 = .ok (.iload_n 1, 1) := by decide +kernel
theorem dX11_tileIn_37 : decode cX11_tileIn 37 = .ok (.imul, 1) := by decide +kernel
theorem dX11_tileIn_38 : decode cX11_tileIn 38 = .ok (.iload 5, 2) := by decide +kernel
theorem dX11_tileIn_40 : decode cX11_tileIn 40 = .ok (.iadd, 1) := by decide +kernel
theorem dX11_tileIn_41 : decode cX11_tileIn 41 = .ok (.iaload, 1) := by decide +kernel
theorem dX11_tileIn_42 : decode cX11_tileIn 42 = .ok (.iload_n 3, 1) := by decide +kernel
theorem dX11_tileIn_43 : decode cX11_tileIn 43 = .ok (.if_icmp .ne 23, 3) := by decide +kernel
theorem dX11_tileIn_46 : decode cX11_tileIn 46 = .ok (.aload_n 0, 1) := by decide +kernel
theorem dX11_tileIn_47 : decode cX11_tileIn 47 = .ok (.getfield 66, 3) := by decide +kernel
theorem dX11_tileIn_50 : decode cX11_tileIn 50 = .ok (.bipush 100, 2) := by decide +kernel
theorem dX11_tileIn_52 : decode cX11_tileIn 52 = .ok (.iload_n 1, 1) := by decide +kernel
theorem dX11_tileIn_53 : decode cX11_tileIn 53 = .ok (.imul, 1) := by decide +kernel
theorem dX11_tileIn_54 : decode cX11_tileIn 54 = .ok (.iload 5, 2) := by decide +kernel
theorem dX11_tileIn_56 : decode cX11_tileIn 56 = .ok (.iadd, 1) := by decide +kernel
theorem dX11_tileIn_57 : decode cX11_tileIn 57 = .ok (.iaload, 1) := by decide +kernel
theorem dX11_tileIn_58 : decode cX11_tileIn 58 = .ok (.iload 4, 2) := by decide +kernel
theorem dX11_tileIn_60 : decode cX11_tileIn 60 = .ok (.if_icmp .ne 6, 3) := by decide +kernel
theorem dX11_tileIn_63 : decode cX11_tileIn 63 = .ok (.iload 5, 2) := by decide +kernel
theorem dX11_tileIn_65 : decode cX11_tileIn 65 = .ok (.ireturn, 1) := by decide +kernel
theorem dX11_tileIn_66 : decode cX11_tileIn 66 = .ok (.iinc 5 1, 3) := by decide +kernel
theorem dX11_tileIn_69 : decode cX11_tileIn 69 = .ok (.goto (-66), 3) := by decide +kernel
theorem dX11_tileIn_72 : decode cX11_tileIn 72 = .ok (.iconst (-1), 1) := by decide +kernel
theorem dX11_tileIn_73 : decode cX11_tileIn 73 = .ok (.ireturn, 1) := by decide +kernel
def tb_164 (pc : Nat) : Option mEnt := bif Nat.ble pc 36 then (bif Nat.ble pc 18 then (bif Nat.ble pc 6 then (bif Nat.ble pc 1 then (bif Nat.ble pc 0 then (bif Nat.beq pc 0 then some (.inl (oS 1 (s_push (.int 0)))) else none) else (bif Nat.beq pc 1 then some (.inl (o_is 5 2)) else none)) else (bif Nat.ble pc 3 then (bif Nat.beq pc 3 then some (.inl (o_il 5 2)) else none) else (bif Nat.ble pc 5 then (bif Nat.beq pc 5 then some (.inl (o_al 0 1)) else none) else (bif Nat.beq pc 6 then some (.inl (o_gP 11 20)) else none)))) else (bif Nat.ble pc 11 then (bif Nat.ble pc 9 then (bif Nat.beq pc 9 then some (.inl (o_il 1 1)) else none) else (bif Nat.ble pc 10 then (bif Nat.beq pc 10 then some (.inl (o_iald)) else none) else (bif Nat.beq pc 11 then some (.inl (o_cge 72)) else none))) else (bif Nat.ble pc 14 then (bif Nat.beq pc 14 then some (.inl (o_al 0 1)) else none) else (bif Nat.ble pc 15 then (bif Nat.beq pc 15 then some (.inl (o_gP 11 21)) else none) else (bif Nat.beq pc 18 then some (.inl (oS 2 (s_push (.int 100)))) else none))))) else (bif Nat.ble pc 25 then (bif Nat.ble pc 21 then (bif Nat.ble pc 20 then (bif Nat.beq pc 20 then some (.inl (o_il 1 1)) else none) else (bif Nat.beq pc 21 then some (.inl (oS 1 (s_ii (fun a b => a * b)))) else none)) else (bif Nat.ble pc 22 then (bif Nat.beq pc 22 then some (.inl (o_il 5 2)) else none) else (bif Nat.ble pc 24 then (bif Nat.beq pc 24 then some (.inl (oS 1 (s_ii (fun a b => a + b)))) else none) else (bif Nat.beq pc 25 then some (.inl (o_iald)) else none)))) else (bif Nat.ble pc 30 then (bif Nat.ble pc 26 then (bif Nat.beq pc 26 then some (.inl (o_il 2 1)) else none) else (bif Nat.ble pc 27 then (bif Nat.beq pc 27 then some (.inl (o_cne 66)) else none) else (bif Nat.beq pc 30 then some (.inl (o_al 0 1)) else none))) else (bif Nat.ble pc 31 then (bif Nat.beq pc 31 then some (.inl (o_gP 11 22)) else none) else (bif Nat.ble pc 34 then (bif Nat.beq pc 34 then some (.inl (oS 2 (s_push (.int 100)))) else none) else (bif Nat.beq pc 36 then some (.inl (o_il 1 1)) else none)))))) else (bif Nat.ble pc 53 then (bif Nat.ble pc 42 then (bif Nat.ble pc 38 then (bif Nat.ble pc 37 then (bif Nat.beq pc 37 then some (.inl (oS 1 (s_ii (fun a b => a * b)))) else none) else (bif Nat.beq pc 38 then some (.inl (o_il 5 2)) else none)) else (bif Nat.ble pc 40 then (bif Nat.beq pc 40 then some (.inl (oS 1 (s_ii (fun a b => a + b)))) else none) else (bif Nat.ble pc 41 then (bif Nat.beq pc 41 then some (.inl (o_iald)) else none) else (bif Nat.beq pc 42 then some (.inl (o_il 3 1)) else none)))) else (bif Nat.ble pc 47 then (bif Nat.ble pc 43 then (bif Nat.beq pc 43 then some (.inl (o_cne 66)) else none) else (bif Nat.ble pc 46 then (bif Nat.beq pc 46 then some (.inl (o_al 0 1)) else none) else (bif Nat.beq pc 47 then some (.inl (o_gP 11 23)) else none))) else (bif Nat.ble pc 50 then (bif Nat.beq pc 50 then some (.inl (oS 2 (s_push (.int 100)))) else none) else (bif Nat.ble pc 52 then (bif Nat.beq pc 52 then some (.inl (o_il 1 1)) else none) else (bif Nat.beq pc 53 then some (.inl (oS 1 (s_ii (fun a b => a * b)))) else none))))) else (bif Nat.ble pc 60 then (bif Nat.ble pc 56 then (bif Nat.ble pc 54 then (bif Nat.beq pc 54 then some (.inl (o_il 5 2)) else none) else (bif Nat.beq pc 56 then some (.inl (oS 1 (s_ii (fun a b => a + b)))) else none)) else (bif Nat.ble pc 57 then (bif Nat.beq pc 57 then some (.inl (o_iald)) else none) else (bif Nat.ble pc 58 then (bif Nat.beq pc 58 then some (.inl (o_il 4 2)) else none) else (bif Nat.beq pc 60 then some (.inl (o_cne 66)) else none)))) else (bif Nat.ble pc 66 then (bif Nat.ble pc 63 then (bif Nat.beq pc 63 then some (.inl (o_il 5 2)) else none) else (bif Nat.ble pc 65 then (bif Nat.beq pc 65 then some (.inr (0, 0, 0, 0)) else none) else (bif Nat.beq pc 66 then some (.inl (o_inc 5 1)) else none))) else (bif Nat.ble pc 69 then (bif Nat.beq pc 69 then some (.inl (o_goto 3)) else none) else (bif Nat.ble pc 72 then (bif Nat.beq pc 72 then some (.inl (oS 1 (s_push (.int (-1))))) else none) else (bif Nat.beq pc 73 then some (.inr (0, 0, 0, 0)) else none))))))
theorem k_164_0 : mOk M_164.1 M_164.2.1 M_164.2.2.1 M_164.2.2.2 0 (oS 1 (s_push (.int 0))) := ok_iconst dX11_tileIn_0 (by decide)
theorem k_164_1 : mOk M_164.1 M_164.2.1 M_164.2.2.1 M_164.2.2.2 1 (o_is 5 2) := ok_istore dX11_tileIn_1
theorem k_164_3 : mOk M_164.1 M_164.2.1 M_164.2.2.1 M_164.2.2.2 3 (o_il 5 2) := ok_iload dX11_tileIn_3
theorem k_164_5 : mOk M_164.1 M_164.2.1 M_164.2.2.1 M_164.2.2.2 5 (o_al 0 1) := ok_aload_n dX11_tileIn_5 rfl
theorem k_164_6 : mOk M_164.1 M_164.2.1 M_164.2.2.1 M_164.2.2.2 6 (o_gP 11 20) := ok_gP dX11_tileIn_6 f_RX11_57 rfl
theorem k_164_9 : mOk M_164.1 M_164.2.1 M_164.2.2.1 M_164.2.2.2 9 (o_il 1 1) := ok_iload_n dX11_tileIn_9 rfl
theorem k_164_10 : mOk M_164.1 M_164.2.1 M_164.2.2.1 M_164.2.2.2 10 (o_iald) := ok_iald dX11_tileIn_10
theorem k_164_11 : mOk M_164.1 M_164.2.1 M_164.2.2.1 M_164.2.2.2 11 (o_cge 72) := ok_cge dX11_tileIn_11 (by decide)
theorem k_164_14 : mOk M_164.1 M_164.2.1 M_164.2.2.1 M_164.2.2.2 14 (o_al 0 1) := ok_aload_n dX11_tileIn_14 rfl
theorem k_164_15 : mOk M_164.1 M_164.2.1 M_164.2.2.1 M_164.2.2.2 15 (o_gP 11 21) := ok_gP dX11_tileIn_15 f_RX11_60 rfl
theorem k_164_18 : mOk M_164.1 M_164.2.1 M_164.2.2.1 M_164.2.2.2 18 (oS 2 (s_push (.int 100))) := ok_bipush dX11_tileIn_18 (by decide)
theorem k_164_20 : mOk M_164.1 M_164.2.1 M_164.2.2.1 M_164.2.2.2 20 (o_il 1 1) := ok_iload_n dX11_tileIn_20 rfl
theorem k_164_21 : mOk M_164.1 M_164.2.1 M_164.2.2.1 M_164.2.2.2 21 (oS 1 (s_ii (fun a b => a * b))) := ok_imul dX11_tileIn_21
theorem k_164_22 : mOk M_164.1 M_164.2.1 M_164.2.2.1 M_164.2.2.2 22 (o_il 5 2) := ok_iload dX11_tileIn_22
theorem k_164_24 : mOk M_164.1 M_164.2.1 M_164.2.2.1 M_164.2.2.2 24 (oS 1 (s_ii (fun a b => a + b))) := ok_iadd dX11_tileIn_24
theorem k_164_25 : mOk M_164.1 M_164.2.1 M_164.2.2.1 M_164.2.2.2 25 (o_iald) := ok_iald dX11_tileIn_25
theorem k_164_26 : mOk M_164.1 M_164.2.1 M_164.2.2.1 M_164.2.2.2 26 (o_il 2 1) := ok_iload_n dX11_tileIn_26 rfl
theorem k_164_27 : mOk M_164.1 M_164.2.1 M_164.2.2.1 M_164.2.2.2 27 (o_cne 66) := ok_cne dX11_tileIn_27 (by decide)
theorem k_164_30 : mOk M_164.1 M_164.2.1 M_164.2.2.1 M_164.2.2.2 30 (o_al 0 1) := ok_aload_n dX11_tileIn_30 rfl
theorem k_164_31 : mOk M_164.1 M_164.2.1 M_164.2.2.1 M_164.2.2.2 31 (o_gP 11 22) := ok_gP dX11_tileIn_31 f_RX11_63 rfl
theorem k_164_34 : mOk M_164.1 M_164.2.1 M_164.2.2.1 M_164.2.2.2 34 (oS 2 (s_push (.int 100))) := ok_bipush dX11_tileIn_34 (by decide)
theorem k_164_36 : mOk M_164.1 M_164.2.1 M_164.2.2.1 M_164.2.2.2 36 (o_il 1 1) := ok_iload_n dX11_tileIn_36 rfl
theorem k_164_37 : mOk M_164.1 M_164.2.1 M_164.2.2.1 M_164.2.2.2 37 (oS 1 (s_ii (fun a b => a * b))) := ok_imul dX11_tileIn_37
theorem k_164_38 : mOk M_164.1 M_164.2.1 M_164.2.2.1 M_164.2.2.2 38 (o_il 5 2) := ok_iload dX11_tileIn_38
theorem k_164_40 : mOk M_164.1 M_164.2.1 M_164.2.2.1 M_164.2.2.2 40 (oS 1 (s_ii (fun a b => a + b))) := ok_iadd dX11_tileIn_40
theorem k_164_41 : mOk M_164.1 M_164.2.1 M_164.2.2.1 M_164.2.2.2 41 (o_iald) := ok_iald dX11_tileIn_41
theorem k_164_42 : mOk M_164.1 M_164.2.1 M_164.2.2.1 M_164.2.2.2 42 (o_il 3 1) := ok_iload_n dX11_tileIn_42 rfl
theorem k_164_43 : mOk M_164.1 M_164.2.1 M_164.2.2.1 M_164.2.2.2 43 (o_cne 66) := ok_cne dX11_tileIn_43 (by decide)
theorem k_164_46 : mOk M_164.1 M_164.2.1 M_164.2.2.1 M_164.2.2.2 46 (o_al 0 1) := ok_aload_n dX11_tileIn_46 rfl
theorem k_164_47 : mOk M_164.1 M_164.2.1 M_164.2.2.1 M_164.2.2.2 47 (o_gP 11 23) := ok_gP dX11_tileIn_47 f_RX11_66 rfl
theorem k_164_50 : mOk M_164.1 M_164.2.1 M_164.2.2.1 M_164.2.2.2 50 (oS 2 (s_push (.int 100))) := ok_bipush dX11_tileIn_50 (by decide)
theorem k_164_52 : mOk M_164.1 M_164.2.1 M_164.2.2.1 M_164.2.2.2 52 (o_il 1 1) := ok_iload_n dX11_tileIn_52 rfl
theorem k_164_53 : mOk M_164.1 M_164.2.1 M_164.2.2.1 M_164.2.2.2 53 (oS 1 (s_ii (fun a b => a * b))) := ok_imul dX11_tileIn_53
theorem k_164_54 : mOk M_164.1 M_164.2.1 M_164.2.2.1 M_164.2.2.2 54 (o_il 5 2) := ok_iload dX11_tileIn_54
theorem k_164_56 : mOk M_164.1 M_164.2.1 M_164.2.2.1 M_164.2.2.2 56 (oS 1 (s_ii (fun a b => a + b))) := ok_iadd dX11_tileIn_56
theorem k_164_57 : mOk M_164.1 M_164.2.1 M_164.2.2.1 M_164.2.2.2 57 (o_iald) := ok_iald dX11_tileIn_57
theorem k_164_58 : mOk M_164.1 M_164.2.1 M_164.2.2.1 M_164.2.2.2 58 (o_il 4 2) := ok_iload dX11_tileIn_58
theorem k_164_60 : mOk M_164.1 M_164.2.1 M_164.2.2.1 M_164.2.2.2 60 (o_cne 66) := ok_cne dX11_tileIn_60 (by decide)
theorem k_164_63 : mOk M_164.1 M_164.2.1 M_164.2.2.1 M_164.2.2.2 63 (o_il 5 2) := ok_iload dX11_tileIn_63
theorem k_164_66 : mOk M_164.1 M_164.2.1 M_164.2.2.1 M_164.2.2.2 66 (o_inc 5 1) := ok_iinc dX11_tileIn_66 (by decide)
theorem k_164_69 : mOk M_164.1 M_164.2.1 M_164.2.2.1 M_164.2.2.2 69 (o_goto 3) := ok_goto dX11_tileIn_69 (by decide)
theorem k_164_72 : mOk M_164.1 M_164.2.1 M_164.2.2.1 M_164.2.2.2 72 (oS 1 (s_push (.int (-1)))) := ok_iconst dX11_tileIn_72 (by decide)
set_option maxRecDepth 20000 in
set_option maxHeartbeats 4000000 in
theorem tk_164 (l : Launch) (H9 : mThr l) (H10 : mSpl l) (pc : Nat) (q : mEnt) (h : tb_164 pc = some q) : EE l 164 pc q := nd h (fun h => nd h (fun h => nd h (fun h => nd h (fun h => nd h (fun h => lf (P := EE l 164) h k_164_0) (fun h => lf (P := EE l 164) h k_164_1)) (fun h => nd h (fun h => lf (P := EE l 164) h k_164_3) (fun h => nd h (fun h => lf (P := EE l 164) h k_164_5) (fun h => lf (P := EE l 164) h k_164_6)))) (fun h => nd h (fun h => nd h (fun h => lf (P := EE l 164) h k_164_9) (fun h => nd h (fun h => lf (P := EE l 164) h k_164_10) (fun h => lf (P := EE l 164) h k_164_11))) (fun h => nd h (fun h => lf (P := EE l 164) h k_164_14) (fun h => nd h (fun h => lf (P := EE l 164) h k_164_15) (fun h => lf (P := EE l 164) h k_164_18))))) (fun h => nd h (fun h => nd h (fun h => nd h (fun h => lf (P := EE l 164) h k_164_20) (fun h => lf (P := EE l 164) h k_164_21)) (fun h => nd h (fun h => lf (P := EE l 164) h k_164_22) (fun h => nd h (fun h => lf (P := EE l 164) h k_164_24) (fun h => lf (P := EE l 164) h k_164_25)))) (fun h => nd h (fun h => nd h (fun h => lf (P := EE l 164) h k_164_26) (fun h => nd h (fun h => lf (P := EE l 164) h k_164_27) (fun h => lf (P := EE l 164) h k_164_30))) (fun h => nd h (fun h => lf (P := EE l 164) h k_164_31) (fun h => nd h (fun h => lf (P := EE l 164) h k_164_34) (fun h => lf (P := EE l 164) h k_164_36)))))) (fun h => nd h (fun h => nd h (fun h => nd h (fun h => nd h (fun h => lf (P := EE l 164) h k_164_37) (fun h => lf (P := EE l 164) h k_164_38)) (fun h => nd h (fun h => lf (P := EE l 164) h k_164_40) (fun h => nd h (fun h => lf (P := EE l 164) h k_164_41) (fun h => lf (P := EE l 164) h k_164_42)))) (fun h => nd h (fun h => nd h (fun h => lf (P := EE l 164) h k_164_43) (fun h => nd h (fun h => lf (P := EE l 164) h k_164_46) (fun h => lf (P := EE l 164) h k_164_47))) (fun h => nd h (fun h => lf (P := EE l 164) h k_164_50) (fun h => nd h (fun h => lf (P := EE l 164) h k_164_52) (fun h => lf (P := EE l 164) h k_164_53))))) (fun h => nd h (fun h => nd h (fun h => nd h (fun h => lf (P := EE l 164) h k_164_54) (fun h => lf (P := EE l 164) h k_164_56)) (fun h => nd h (fun h => lf (P := EE l 164) h k_164_57) (fun h => nd h (fun h => lf (P := EE l 164) h k_164_58) (fun h => lf (P := EE l 164) h k_164_60)))) (fun h => nd h (fun h => nd h (fun h => lf (P := EE l 164) h k_164_63) (fun h => nd h (fun h => lf (P := EE l 164) h (EE_re (Or.inl ⟨rfl, dX11_tileIn_65, rfl⟩))) (fun h => lf (P := EE l 164) h k_164_66))) (fun h => nd h (fun h => lf (P := EE l 164) h k_164_69) (fun h => nd h (fun h => lf (P := EE l 164) h k_164_72) (fun h => lf (P := EE l 164) h (EE_re (Or.inl ⟨rfl, dX11_tileIn_73, rfl⟩))))))))
