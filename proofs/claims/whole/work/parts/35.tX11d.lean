/-! tables of X11d (written by a program) -/
theorem dX11_take_0 : decode cX11_take 0 = .ok (.aload_n 0, 1) := by decide +kernel
theorem dX11_take_1 : decode cX11_take 1 = .ok (.iconst 0, 1) := by decide +kernel
theorem dX11_take_2 : decode cX11_take 2 = .ok (.putfield 133, 3) := by decide +kernel
theorem dX11_take_5 : decode cX11_take 5 = .ok (.aload_n 0, 1) := by decide +kernel
theorem dX11_take_6 : decode cX11_take 6 = .ok (.getfield 47, 3) := by decide +kernel
theorem dX11_take_9 : decode cX11_take 9 = .ok (.iconst 0, 1) := by decide +kernel
theorem dX11_take_10 : decode cX11_take 10 = .ok (.baload, 1) := by decide +kernel
theorem dX11_take_11 : decode cX11_take 11 = .ok (.ifCond .eq 14, 3) := by decide +kernel
theorem dX11_take_14 : decode cX11_take 14 = .ok (.aload_n 0, 1) := by decide +kernel
theorem dX11_take_15 : decode cX11_take 15 = .ok (.iconst 0, 1) := by decide +kernel
theorem dX11_take_16 : decode cX11_take 16 = .ok (.iload_n 1, 1) := by decide +kernel
theorem dX11_take_17 : decode cX11_take 17 = .ok (.iload_n 2, 1) := by decide +kernel
theorem dX11_take_18 : decode cX11_take 18 = .ok (.iload_n 3, 1) := by decide +kernel
theorem dX11_take_19 : decode cX11_take 19 = .ok (.invokevirtual 305, 3) := by decide +kernel
theorem dX11_take_22 : decode cX11_take 22 = .ok (.goto 4, 3) := by decide +kernel
theorem dX11_take_25 : decode cX11_take 25 = .ok (.iconst (-1), 1) := by decide +kernel
theorem dX11_take_26 : decode cX11_take 26 = .ok (.istore 4, 2) := by decide +kernel
theorem dX11_take_28 : decode cX11_take 28 = .ok (.aload_n 0, 1) := by decide +kernel
theorem dX11_take_29 : decode cX11_take 29 = .ok (.iload 4, 2) := by decide +kernel
theorem dX11_take_31 : decode cX11_take 31 = .ok (.iconst (-1), 1) := by decide +kernel
theorem dX11_take_32 : decode cX11_take 32 = .ok (.if_icmp .ne 7, 3) := by decide +kernel
theorem dX11_take_35 : decode cX11_take 35 = .ok (.iconst 0, 1) := by decide +kernel
theorem dX11_take_36 : decode cX11_take 36 = .ok (.goto 10, 3) := by decide +kernel
theorem dX11_take_39 : decode cX11_take 39 = .ok (.aload_n 0, 1) := by decide +kernel
theorem dX11_take_40 : decode cX11_take 40 = .ok (.getfield 69, 3) := by decide +kernel
theorem dX11_take_43 : decode cX11_take 43 = .ok (.iload 4, 2) := by decide +kernel
theorem dX11_take_45 : decode cX11_take 45 = .ok (.iaload, 1) := by decide +kernel
theorem dX11_take_46 : decode cX11_take 46 = .ok (.putfield 267, 3) := by decide +kernel
theorem dX11_take_49 : decode cX11_take 49 = .ok (.iconst 0, 1) := by decide +kernel
theorem dX11_take_50 : decode cX11_take 50 = .ok (.istore 5, 2) := by decide +kernel
theorem dX11_take_52 : decode cX11_take 52 = .ok (.iload 5, 2) := by decide +kernel
theorem dX11_take_54 : decode cX11_take 54 = .ok (.aload_n 0, 1) := by decide +kernel
theorem dX11_take_55 : decode cX11_take 55 = .ok (.getfield 267, 3) := by decide +kernel
theorem dX11_take_58 : decode cX11_take 58 = .ok (.if_icmp .ge 35, 3) := by decide +kernel
theorem dX11_take_61 : decode cX11_take 61 = .ok (.aload_n 0, 1) := by decide +kernel
theorem dX11_take_62 : decode cX11_take 62 = .ok (.getfield 109, 3) := by decide +kernel
theorem dX11_take_65 : decode cX11_take 65 = .ok (.iload 5, 2) := by decide +kernel
theorem dX11_take_67 : decode cX11_take 67 = .ok (.aload_n 0, 1) := by decide +kernel
theorem dX11_take_68 : decode cX11_take 68 = .ok (.getfield 81, 3) := by decide +kernel
theorem dX11_take_71 : decode cX11_take 71 = .ok (.aload_n 0, 1) := by decide +kernel
theorem dX11_take_72 : decode cX11_take 72 = .ok (.getfield 72, 3) := by decide +kernel
theorem dX11_take_75 : decode cX11_take 75 = .ok (.iload 4, 2) := by decide +kernel
theorem dX11_take_77 : decode cX11_take 77 = .ok (.iaload, 1) := by decide +kernel
theorem dX11_take_78 : decode cX11_take 78 = .ok (.iload 5, 2) := by decide +kernel
theorem dX11_take_80 : decode cX11_take 80 = .ok (.iadd, 1) := by decide +kernel
theorem dX11_take_81 : decode cX11_take 81 = .ok (.baload, 1) := by decide +kernel
theorem dX11_take_82 : decode cX11_take 82 = .ok (.sipush 255, 3) := by decide +kernel
theorem dX11_take_85 : decode cX11_take 85 = .ok (.iand, 1) := by decide +kernel
theorem dX11_take_86 : decode cX11_take 86 = .ok (.iastore, 1) := by decide +kernel
theorem dX11_take_87 : decode cX11_take 87 = .ok (.iinc 5 1, 3) := by decide +kernel
theorem dX11_take_90 : decode cX11_take 90 = .ok (.goto (-38), 3) := by decide +kernel
theorem dX11_take_93 : decode cX11_take 93 = .ok (.aload_n 0, 1) := by decide +kernel
theorem dX11_take_94 : decode cX11_take 94 = .ok (.getfield 267, 3) := by decide +kernel
theorem dX11_take_97 : decode cX11_take 97 = .ok (.ireturn, 1) := by decide +kernel
def tb_165 (pc : Nat) : Option mEnt := bif Nat.ble pc 45 then (bif Nat.ble pc 18 then (bif Nat.ble pc 9 then (bif Nat.ble pc 2 then (bif Nat.ble pc 0 then (bif Nat.beq pc 0 then some (.inl (o_al 0 1)) else none) else (bif Nat.ble pc 1 then (bif Nat.beq pc 1 then some (.inl (oS 1 (s_push (.int 0)))) else none) else (bif Nat.beq pc 2 then some (.inl (o_pI 11 13)) else none))) else (bif Nat.ble pc 5 then (bif Nat.beq pc 5 then some (.inl (o_al 0 1)) else none) else (bif Nat.ble pc 6 then (bif Nat.beq pc 6 then some (.inl (o_gP 11 17)) else none) else (bif Nat.beq pc 9 then some (.inl (oS 1 (s_push (.int 0)))) else none)))) else (bif Nat.ble pc 14 then (bif Nat.ble pc 10 then (bif Nat.beq pc 10 then some (.inl (o_bald)) else none) else (bif Nat.ble pc 11 then (bif Nat.beq pc 11 then some (.inl (o_zeq 25)) else none) else (bif Nat.beq pc 14 then some (.inl (o_al 0 1)) else none))) else (bif Nat.ble pc 16 then (bif Nat.ble pc 15 then (bif Nat.beq pc 15 then some (.inl (oS 1 (s_push (.int 0)))) else none) else (bif Nat.beq pc 16 then some (.inl (o_il 1 1)) else none)) else (bif Nat.ble pc 17 then (bif Nat.beq pc 17 then some (.inl (o_il 2 1)) else none) else (bif Nat.beq pc 18 then some (.inl (o_il 3 1)) else none))))) else (bif Nat.ble pc 31 then (bif Nat.ble pc 25 then (bif Nat.ble pc 19 then (bif Nat.beq pc 19 then some (.inr (3, 164, 5, 11)) else none) else (bif Nat.ble pc 22 then (bif Nat.beq pc 22 then some (.inl (o_goto 26)) else none) else (bif Nat.beq pc 25 then some (.inl (oS 1 (s_push (.int (-1))))) else none))) else (bif Nat.ble pc 28 then (bif Nat.ble pc 26 then (bif Nat.beq pc 26 then some (.inl (o_is 4 2)) else none) else (bif Nat.beq pc 28 then some (.inl (o_al 0 1)) else none)) else (bif Nat.ble pc 29 then (bif Nat.beq pc 29 then some (.inl (o_il 4 2)) else none) else (bif Nat.beq pc 31 then some (.inl (oS 1 (s_push (.int (-1))))) else none)))) else (bif Nat.ble pc 36 then (bif Nat.ble pc 32 then (bif Nat.beq pc 32 then some (.inl (o_cne 39)) else none) else (bif Nat.ble pc 35 then (bif Nat.beq pc 35 then some (.inl (oS 1 (s_push (.int 0)))) else none) else (bif Nat.beq pc 36 then some (.inl (o_goto 46)) else none))) else (bif Nat.ble pc 40 then (bif Nat.ble pc 39 then (bif Nat.beq pc 39 then some (.inl (o_al 0 1)) else none) else (bif Nat.beq pc 40 then some (.inl (o_gP 11 24)) else none)) else (bif Nat.ble pc 43 then (bif Nat.beq pc 43 then some (.inl (o_il 4 2)) else none) else (bif Nat.beq pc 45 then some (.inl (o_iald)) else none)))))) else (bif Nat.ble pc 71 then (bif Nat.ble pc 55 then (bif Nat.ble pc 50 then (bif Nat.ble pc 46 then (bif Nat.beq pc 46 then some (.inl (o_pI 11 39)) else none) else (bif Nat.ble pc 49 then (bif Nat.beq pc 49 then some (.inl (oS 1 (s_push (.int 0)))) else none) else (bif Nat.beq pc 50 then some (.inl (o_is 5 2)) else none))) else (bif Nat.ble pc 52 then (bif Nat.beq pc 52 then some (.inl (o_il 5 2)) else none) else (bif Nat.ble pc 54 then (bif Nat.beq pc 54 then some (.inl (o_al 0 1)) else none) else (bif Nat.beq pc 55 then some (.inl (o_gI 11 39)) else none)))) else (bif Nat.ble pc 62 then (bif Nat.ble pc 58 then (bif Nat.beq pc 58 then some (.inl (o_cge 93)) else none) else (bif Nat.ble pc 61 then (bif Nat.beq pc 61 then some (.inl (o_al 0 1)) else none) else (bif Nat.beq pc 62 then some (.inl (o_gP 11 38)) else none))) else (bif Nat.ble pc 67 then (bif Nat.ble pc 65 then (bif Nat.beq pc 65 then some (.inl (o_il 5 2)) else none) else (bif Nat.beq pc 67 then some (.inl (o_al 0 1)) else none)) else (bif Nat.ble pc 68 then (bif Nat.beq pc 68 then some (.inl (o_gP 11 28)) else none) else (bif Nat.beq pc 71 then some (.inl (o_al 0 1)) else none))))) else (bif Nat.ble pc 82 then (bif Nat.ble pc 77 then (bif Nat.ble pc 72 then (bif Nat.beq pc 72 then some (.inl (o_gP 11 25)) else none) else (bif Nat.ble pc 75 then (bif Nat.beq pc 75 then some (.inl (o_il 4 2)) else none) else (bif Nat.beq pc 77 then some (.inl (o_iald)) else none))) else (bif Nat.ble pc 80 then (bif Nat.ble pc 78 then (bif Nat.beq pc 78 then some (.inl (o_il 5 2)) else none) else (bif Nat.beq pc 80 then some (.inl (oS 1 (s_ii (fun a b => a + b)))) else none)) else (bif Nat.ble pc 81 then (bif Nat.beq pc 81 then some (.inl (o_bald)) else none) else (bif Nat.beq pc 82 then some (.inl (oS 3 (s_push (.int 255)))) else none)))) else (bif Nat.ble pc 87 then (bif Nat.ble pc 85 then (bif Nat.beq pc 85 then some (.inl (oS 1 (s_ii (fun a b => a &&& b)))) else none) else (bif Nat.ble pc 86 then (bif Nat.beq pc 86 then some (.inl (o_iast)) else none) else (bif Nat.beq pc 87 then some (.inl (o_inc 5 1)) else none))) else (bif Nat.ble pc 93 then (bif Nat.ble pc 90 then (bif Nat.beq pc 90 then some (.inl (o_goto 52)) else none) else (bif Nat.beq pc 93 then some (.inl (o_al 0 1)) else none)) else (bif Nat.ble pc 94 then (bif Nat.beq pc 94 then some (.inl (o_gI 11 39)) else none) else (bif Nat.beq pc 97 then some (.inr (0, 0, 0, 0)) else none))))))
theorem k_165_0 : mOk M_165.1 M_165.2.1 M_165.2.2.1 M_165.2.2.2 0 (o_al 0 1) := ok_aload_n dX11_take_0 rfl
theorem k_165_1 : mOk M_165.1 M_165.2.1 M_165.2.2.1 M_165.2.2.2 1 (oS 1 (s_push (.int 0))) := ok_iconst dX11_take_1 (by decide)
theorem k_165_2 : mOk M_165.1 M_165.2.1 M_165.2.2.1 M_165.2.2.2 2 (o_pI 11 13) := ok_pI dX11_take_2 (mFw_of f_RX11_133_c (Or.inl rfl)) rfl
theorem k_165_5 : mOk M_165.1 M_165.2.1 M_165.2.2.1 M_165.2.2.2 5 (o_al 0 1) := ok_aload_n dX11_take_5 rfl
theorem k_165_6 : mOk M_165.1 M_165.2.1 M_165.2.2.1 M_165.2.2.2 6 (o_gP 11 17) := ok_gP dX11_take_6 f_RX11_47 rfl
theorem k_165_9 : mOk M_165.1 M_165.2.1 M_165.2.2.1 M_165.2.2.2 9 (oS 1 (s_push (.int 0))) := ok_iconst dX11_take_9 (by decide)
theorem k_165_10 : mOk M_165.1 M_165.2.1 M_165.2.2.1 M_165.2.2.2 10 (o_bald) := ok_bald dX11_take_10
theorem k_165_11 : mOk M_165.1 M_165.2.1 M_165.2.2.1 M_165.2.2.2 11 (o_zeq 25) := ok_zeq dX11_take_11 (by decide)
theorem k_165_14 : mOk M_165.1 M_165.2.1 M_165.2.2.1 M_165.2.2.2 14 (o_al 0 1) := ok_aload_n dX11_take_14 rfl
theorem k_165_15 : mOk M_165.1 M_165.2.1 M_165.2.2.1 M_165.2.2.2 15 (oS 1 (s_push (.int 0))) := ok_iconst dX11_take_15 (by decide)
theorem k_165_16 : mOk M_165.1 M_165.2.1 M_165.2.2.1 M_165.2.2.2 16 (o_il 1 1) := ok_iload_n dX11_take_16 rfl
theorem k_165_17 : mOk M_165.1 M_165.2.1 M_165.2.2.1 M_165.2.2.2 17 (o_il 2 1) := ok_iload_n dX11_take_17 rfl
theorem k_165_18 : mOk M_165.1 M_165.2.1 M_165.2.2.1 M_165.2.2.2 18 (o_il 3 1) := ok_iload_n dX11_take_18 rfl
theorem k_165_22 : mOk M_165.1 M_165.2.1 M_165.2.2.1 M_165.2.2.2 22 (o_goto 26) := ok_goto dX11_take_22 (by decide)
theorem k_165_25 : mOk M_165.1 M_165.2.1 M_165.2.2.1 M_165.2.2.2 25 (oS 1 (s_push (.int (-1)))) := ok_iconst dX11_take_25 (by decide)
theorem k_165_26 : mOk M_165.1 M_165.2.1 M_165.2.2.1 M_165.2.2.2 26 (o_is 4 2) := ok_istore dX11_take_26
theorem k_165_28 : mOk M_165.1 M_165.2.1 M_165.2.2.1 M_165.2.2.2 28 (o_al 0 1) := ok_aload_n dX11_take_28 rfl
theorem k_165_29 : mOk M_165.1 M_165.2.1 M_165.2.2.1 M_165.2.2.2 29 (o_il 4 2) := ok_iload dX11_take_29
theorem k_165_31 : mOk M_165.1 M_165.2.1 M_165.2.2.1 M_165.2.2.2 31 (oS 1 (s_push (.int (-1)))) := ok_iconst dX11_take_31 (by decide)
theorem k_165_32 : mOk M_165.1 M_165.2.1 M_165.2.2.1 M_165.2.2.2 32 (o_cne 39) := ok_cne dX11_take_32 (by decide)
theorem k_165_35 : mOk M_165.1 M_165.2.1 M_165.2.2.1 M_165.2.2.2 35 (oS 1 (s_push (.int 0))) := ok_iconst dX11_take_35 (by decide)
theorem k_165_36 : mOk M_165.1 M_165.2.1 M_165.2.2.1 M_165.2.2.2 36 (o_goto 46) := ok_goto dX11_take_36 (by decide)
theorem k_165_39 : mOk M_165.1 M_165.2.1 M_165.2.2.1 M_165.2.2.2 39 (o_al 0 1) := ok_aload_n dX11_take_39 rfl
theorem k_165_40 : mOk M_165.1 M_165.2.1 M_165.2.2.1 M_165.2.2.2 40 (o_gP 11 24) := ok_gP dX11_take_40 f_RX11_69 rfl
theorem k_165_43 : mOk M_165.1 M_165.2.1 M_165.2.2.1 M_165.2.2.2 43 (o_il 4 2) := ok_iload dX11_take_43
theorem k_165_45 : mOk M_165.1 M_165.2.1 M_165.2.2.1 M_165.2.2.2 45 (o_iald) := ok_iald dX11_take_45
theorem k_165_46 : mOk M_165.1 M_165.2.1 M_165.2.2.1 M_165.2.2.2 46 (o_pI 11 39) := ok_pI dX11_take_46 (mFw_of f_RX11_267_c (Or.inl rfl)) rfl
theorem k_165_49 : mOk M_165.1 M_165.2.1 M_165.2.2.1 M_165.2.2.2 49 (oS 1 (s_push (.int 0))) := ok_iconst dX11_take_49 (by decide)
theorem k_165_50 : mOk M_165.1 M_165.2.1 M_165.2.2.1 M_165.2.2.2 50 (o_is 5 2) := ok_istore dX11_take_50
theorem k_165_52 : mOk M_165.1 M_165.2.1 M_165.2.2.1 M_165.2.2.2 52 (o_il 5 2) := ok_iload dX11_take_52
theorem k_165_54 : mOk M_165.1 M_165.2.1 M_165.2.2.1 M_165.2.2.2 54 (o_al 0 1) := ok_aload_n dX11_take_54 rfl
theorem k_165_55 : mOk M_165.1 M_165.2.1 M_165.2.2.1 M_165.2.2.2 55 (o_gI 11 39) := ok_gI dX11_take_55 f_RX11_267 (Or.inl rfl)
theorem k_165_58 : mOk M_165.1 M_165.2.1 M_165.2.2.1 M_165.2.2.2 58 (o_cge 93) := ok_cge dX11_take_58 (by decide)
theorem k_165_61 : mOk M_165.1 M_165.2.1 M_165.2.2.1 M_165.2.2.2 61 (o_al 0 1) := ok_aload_n dX11_take_61 rfl
theorem k_165_62 : mOk M_165.1 M_165.2.1 M_165.2.2.1 M_165.2.2.2 62 (o_gP 11 38) := ok_gP dX11_take_62 f_RX11_109 rfl
theorem k_165_65 : mOk M_165.1 M_165.2.1 M_165.2.2.1 M_165.2.2.2 65 (o_il 5 2) := ok_iload dX11_take_65
theorem k_165_67 : mOk M_165.1 M_165.2.1 M_165.2.2.1 M_165.2.2.2 67 (o_al 0 1) := ok_aload_n dX11_take_67 rfl
theorem k_165_68 : mOk M_165.1 M_165.2.1 M_165.2.2.1 M_165.2.2.2 68 (o_gP 11 28) := ok_gP dX11_take_68 f_RX11_81 rfl
theorem k_165_71 : mOk M_165.1 M_165.2.1 M_165.2.2.1 M_165.2.2.2 71 (o_al 0 1) := ok_aload_n dX11_take_71 rfl
theorem k_165_72 : mOk M_165.1 M_165.2.1 M_165.2.2.1 M_165.2.2.2 72 (o_gP 11 25) := ok_gP dX11_take_72 f_RX11_72 rfl
theorem k_165_75 : mOk M_165.1 M_165.2.1 M_165.2.2.1 M_165.2.2.2 75 (o_il 4 2) := ok_iload dX11_take_75
theorem k_165_77 : mOk M_165.1 M_165.2.1 M_165.2.2.1 M_165.2.2.2 77 (o_iald) := ok_iald dX11_take_77
theorem k_165_78 : mOk M_165.1 M_165.2.1 M_165.2.2.1 M_165.2.2.2 78 (o_il 5 2) := ok_iload dX11_take_78
theorem k_165_80 : mOk M_165.1 M_165.2.1 M_165.2.2.1 M_165.2.2.2 80 (oS 1 (s_ii (fun a b => a + b))) := ok_iadd dX11_take_80
theorem k_165_81 : mOk M_165.1 M_165.2.1 M_165.2.2.1 M_165.2.2.2 81 (o_bald) := ok_bald dX11_take_81
theorem k_165_82 : mOk M_165.1 M_165.2.1 M_165.2.2.1 M_165.2.2.2 82 (oS 3 (s_push (.int 255))) := ok_sipush dX11_take_82 (by decide)
theorem k_165_85 : mOk M_165.1 M_165.2.1 M_165.2.2.1 M_165.2.2.2 85 (oS 1 (s_ii (fun a b => a &&& b))) := ok_iand dX11_take_85
theorem k_165_86 : mOk M_165.1 M_165.2.1 M_165.2.2.1 M_165.2.2.2 86 (o_iast) := ok_iast dX11_take_86
theorem k_165_87 : mOk M_165.1 M_165.2.1 M_165.2.2.1 M_165.2.2.2 87 (o_inc 5 1) := ok_iinc dX11_take_87 (by decide)
theorem k_165_90 : mOk M_165.1 M_165.2.1 M_165.2.2.1 M_165.2.2.2 90 (o_goto 52) := ok_goto dX11_take_90 (by decide)
theorem k_165_93 : mOk M_165.1 M_165.2.1 M_165.2.2.1 M_165.2.2.2 93 (o_al 0 1) := ok_aload_n dX11_take_93 rfl
theorem k_165_94 : mOk M_165.1 M_165.2.1 M_165.2.2.1 M_165.2.2.2 94 (o_gI 11 39) := ok_gI dX11_take_94 f_RX11_267 (Or.inl rfl)
set_option maxRecDepth 20000 in
set_option maxHeartbeats 4000000 in
theorem tk_165 (l : Launch) (H9 : mThr l) (H10 : mSpl l) (pc : Nat) (q : mEnt) (h : tb_165 pc = some q) : EE l 165 pc q := nd h (fun h => nd h (fun h => nd h (fun h => nd h (fun h => nd h (fun h => lf (P := EE l 165) h k_165_0) (fun h => nd h (fun h => lf (P := EE l 165) h k_165_1) (fun h => lf (P := EE l 165) h k_165_2))) (fun h => nd h (fun h => lf (P := EE l 165) h k_165_5) (fun h => nd h (fun h => lf (P := EE l 165) h k_165_6) (fun h => lf (P := EE l 165) h k_165_9)))) (fun h => nd h (fun h => nd h (fun h => lf (P := EE l 165) h k_165_10) (fun h => nd h (fun h => lf (P := EE l 165) h k_165_11) (fun h => lf (P := EE l 165) h k_165_14))) (fun h => nd h (fun h => nd h (fun h => lf (P := EE l 165) h k_165_15) (fun h => lf (P := EE l 165) h k_165_16)) (fun h => nd h (fun h => lf (P := EE l 165) h k_165_17) (fun h => lf (P := EE l 165) h k_165_18))))) (fun h => nd h (fun h => nd h (fun h => nd h (fun h => lf (P := EE l 165) h (EE_ca (by decide) (⟨m_1412, m_81, ⟨by decide, by decide⟩, by decide +kernel, ⟨by decide, by decide⟩, 305, 4, by decide +kernel, Or.inr (Or.inr (Or.inl ⟨rfl, rfl, dX11_take_19, m_1409, m_1411, _, rfl, by decide, m_63⟩))⟩) rfl)) (fun h => nd h (fun h => lf (P := EE l 165) h k_165_22) (fun h => lf (P := EE l 165) h k_165_25))) (fun h => nd h (fun h => nd h (fun h => lf (P := EE l 165) h k_165_26) (fun h => lf (P := EE l 165) h k_165_28)) (fun h => nd h (fun h => lf (P := EE l 165) h k_165_29) (fun h => lf (P := EE l 165) h k_165_31)))) (fun h => nd h (fun h => nd h (fun h => lf (P := EE l 165) h k_165_32) (fun h => nd h (fun h => lf (P := EE l 165) h k_165_35) (fun h => lf (P := EE l 165) h k_165_36))) (fun h => nd h (fun h => nd h (fun h => lf (P := EE l 165) h k_165_39) (fun h => lf (P := EE l 165) h k_165_40)) (fun h => nd h (fun h => lf (P := EE l 165) h k_165_43) (fun h => lf (P := EE l 165) h k_165_45)))))) (fun h => nd h (fun h => nd h (fun h => nd h (fun h => nd h (fun h => lf (P := EE l 165) h k_165_46) (fun h => nd h (fun h => lf (P := EE l 165) h k_165_49) (fun h => lf (P := EE l 165) h k_165_50))) (fun h => nd h (fun h => lf (P := EE l 165) h k_165_52) (fun h => nd h (fun h => lf (P := EE l 165) h k_165_54) (fun h => lf (P := EE l 165) h k_165_55)))) (fun h => nd h (fun h => nd h (fun h => lf (P := EE l 165) h k_165_58) (fun h => nd h (fun h => lf (P := EE l 165) h k_165_61) (fun h => lf (P := EE l 165) h k_165_62))) (fun h => nd h (fun h => nd h (fun h => lf (P := EE l 165) h k_165_65) (fun h => lf (P := EE l 165) h k_165_67)) (fun h => nd h (fun h => lf (P := EE l 165) h k_165_68) (fun h => lf (P := EE l 165) h k_165_71))))) (fun h => nd h (fun h => nd h (fun h => nd h (fun h => lf (P := EE l 165) h k_165_72) (fun h => nd h (fun h => lf (P := EE l 165) h k_165_75) (fun h => lf (P := EE l 165) h k_165_77))) (fun h => nd h (fun h => nd h (fun h => lf (P := EE l 165) h k_165_78) (fun h => lf (P := EE l 165) h k_165_80)) (fun h => nd h (fun h => lf (P := EE l 165) h k_165_81) (fun h => lf (P := EE l 165) h k_165_82)))) (fun h => nd h (fun h => nd h (fun h => lf (P := EE l 165) h k_165_85) (fun h => nd h (fun h => lf (P := EE l 165) h k_165_86) (fun h => lf (P := EE l 165) h k_165_87))) (fun h => nd h (fun h => nd h (fun h => lf (P := EE l 165) h k_165_90) (fun h => lf (P := EE l 165) h k_165_93)) (fun h => nd h (fun h => lf (P := EE l 165) h k_165_94) (fun h => lf (P := EE l 165) h (EE_re (Or.inl ⟨rfl, dX11_take_97, rfl⟩))))))))
theorem dX11_pack_0 : decode cX11_pack 0 = .ok (.aload_n 0, 1) := by decide +kernel
theorem dX11_pack_1 : decode cX11_pack 1 = .ok (.iconst 0, 1) := by decide +kernel
theorem dX11_pack_2 : decode cX11_pack 2 = .ok (.putfield 133, 3) := by decide +kernel
theorem dX11_pack_5 : decode cX11_pack 5 = .ok (.aload_n 0, 1) := by decide +kernel
theorem dX11_pack_6 : decode cX11_pack 6 = .ok (.getfield 47, 3) := by decide +kernel
theorem dX11_pack_9 : decode cX11_pack 9 = .ok (.iconst 0, 1) := by decide +kernel
theorem dX11_pack_10 : decode cX11_pack 10 = .ok (.baload, 1) := by decide +kernel
theorem dX11_pack_11 : decode cX11_pack 11 = .ok (.ifCond .ne 5, 3) := by decide +kernel
theorem dX11_pack_14 : decode cX11_pack 14 = .ok (.iconst (-1), 1) := by decide +kernel
theorem dX11_pack_15 : decode cX11_pack 15 = .ok (.ireturn, 1) := by decide +kernel
theorem dX11_pack_16 : decode cX11_pack 16 = .ok (.iload_n 1, 1) := by decide +kernel
theorem dX11_pack_17 : decode cX11_pack 17 = .ok (.iconst 2, 1) := by decide +kernel
theorem dX11_pack_18 : decode cX11_pack 18 = .ok (.if_icmp .eq 60, 3) := by decide +kernel
theorem dX11_pack_21 : decode cX11_pack 21 = .ok (.iload_n 1, 1) := by decide +kernel
theorem dX11_pack_22 : decode cX11_pack 22 = .ok (.ifCond .ne 12, 3) := by decide +kernel
theorem dX11_pack_25 : decode cX11_pack 25 = .ok (.aload_n 0, 1) := by decide +kernel
theorem dX11_pack_26 : decode cX11_pack 26 = .ok (.getfield 57, 3) := by decide +kernel
theorem dX11_pack_29 : decode cX11_pack 29 = .ok (.iconst 0, 1) := by decide +kernel
theorem dX11_pack_30 : decode cX11_pack 30 = .ok (.iaload, 1) := by decide +kernel
theorem dX11_pack_31 : decode cX11_pack 31 = .ok (.goto 46, 3) := by decide +kernel
theorem dX11_pack_34 : decode cX11_pack 34 = .ok (.iload_n 1, 1) := by decide +kernel
theorem dX11_pack_35 : decode cX11_pack 35 = .ok (.iconst 1, 1) := by decide +kernel
theorem dX11_pack_36 : decode cX11_pack 36 = .ok (.if_icmp .ne 12, 3) := by decide +kernel
theorem dX11_pack_39 : decode cX11_pack 39 = .ok (.aload_n 0, 1) := by decide +kernel
theorem dX11_pack_40 : decode cX11_pack 40 = .ok (.getfield 78, 3) := by decide +kernel
theorem dX11_pack_43 : decode cX11_pack 43 = .ok (.iconst 0, 1) := by decide +kernel
theorem dX11_pack_44 : decode cX11_pack 44 = .ok (.iaload, 1) := by decide +kernel
theorem dX11_pack_45 : decode cX11_pack 45 = .ok (.goto 32, 3) := by decide +kernel
theorem dX11_pack_48 : decode cX11_pack 48 = .ok (.iload_n 1, 1) := by decide +kernel
theorem dX11_pack_49 : decode cX11_pack 49 = .ok (.iconst 3, 1) := by decide +kernel
theorem dX11_pack_50 : decode cX11_pack 50 = .ok (.if_icmp .ne 12, 3) := by decide +kernel
theorem dX11_pack_53 : decode cX11_pack 53 = .ok (.aload_n 0, 1) := by decide +kernel
theorem dX11_pack_54 : decode cX11_pack 54 = .ok (.getfield 51, 3) := by decide +kernel
theorem dX11_pack_57 : decode cX11_pack 57 = .ok (.iconst 0, 1) := by decide +kernel
theorem dX11_pack_58 : decode cX11_pack 58 = .ok (.iaload, 1) := by decide +kernel
theorem dX11_pack_59 : decode cX11_pack 59 = .ok (.goto 18, 3) := by decide +kernel
theorem dX11_pack_62 : decode cX11_pack 62 = .ok (.iload_n 1, 1) := by decide +kernel
theorem dX11_pack_63 : decode cX11_pack 63 = .ok (.iconst 4, 1) := by decide +kernel
theorem dX11_pack_64 : decode cX11_pack 64 = .ok (.if_icmp .ne 12, 3) := by decide +kernel
theorem dX11_pack_67 : decode cX11_pack 67 = .ok (.aload_n 0, 1) := by decide +kernel
theorem dX11_pack_68 : decode cX11_pack 68 = .ok (.getfield 85, 3) := by decide +kernel
theorem dX11_pack_71 : decode cX11_pack 71 = .ok (.iconst 0, 1) := by decide +kernel
theorem dX11_pack_72 : decode cX11_pack 72 = .ok (.iaload, 1) := by decide +kernel
theorem dX11_pack_73 : decode cX11_pack 73 = .ok (.goto 4, 3) := by decide +kernel
theorem dX11_pack_76 : decode cX11_pack 76 = .ok (.iconst (-1), 1) := by decide +kernel
theorem dX11_pack_77 : decode cX11_pack 77 = .ok (.ireturn, 1) := by decide +kernel
theorem dX11_pack_78 : decode cX11_pack 78 = .ok (.iconst 0, 1) := by decide +kernel
theorem dX11_pack_79 : decode cX11_pack 79 = .ok (.istore_n 2, 1) := by decide +kernel
theorem dX11_pack_80 : decode cX11_pack 80 = .ok (.iconst 0, 1) := by decide +kernel
theorem dX11_pack_81 : decode cX11_pack 81 = .ok (.istore_n 3, 1) := by decide +kernel
theorem dX11_pack_82 : decode cX11_pack 82 = .ok (.iload_n 3, 1) := by decide +kernel
theorem dX11_pack_83 : decode cX11_pack 83 = .ok (.aload_n 0, 1) := by decide +kernel
theorem dX11_pack_84 : decode cX11_pack 84 = .ok (.getfield 57, 3) := by decide +kernel
theorem dX11_pack_87 : decode cX11_pack 87 = .ok (.iconst 0, 1) := by decide +kernel
theorem dX11_pack_88 : decode cX11_pack 88 = .ok (.iaload, 1) := by decide +kernel
theorem dX11_pack_89 : decode cX11_pack 89 = .ok (.if_icmp .ge 22, 3) := by decide +kernel
theorem dX11_pack_92 : decode cX11_pack 92 = .ok (.aload_n 0, 1) := by decide +kernel
theorem dX11_pack_93 : decode cX11_pack 93 = .ok (.getfield 75, 3) := by decide +kernel
theorem dX11_pack_96 : decode cX11_pack 96 = .ok (.iload_n 3, 1) := by decide +kernel
theorem dX11_pack_97 : decode cX11_pack 97 = .ok (.iaload, 1) := by decide +kernel
theorem dX11_pack_98 : decode cX11_pack 98 = .ok (.iload_n 3, 1) := by decide +kernel
theorem dX11_pack_99 : decode cX11_pack 99 = .ok (.if_icmp .eq 6, 3) := by decide +kernel
theorem dX11_pack_102 : decode cX11_pack 102 = .ok (.iinc 2 1, 3) := by decide +kernel
theorem dX11_pack_105 : decode cX11_pack 105 = .ok (.iinc 3 1, 3) := by decide +kernel
theorem dX11_pack_108 : decode cX11_pack 108 = .ok (.goto (-26), 3) := by decide +kernel
theorem dX11_pack_111 : decode cX11_pack 111 = .ok (.iload_n 2, 1) := by decide +kernel
theorem dX11_pack_112 : decode cX11_pack 112 = .ok (.ireturn, 1) := by decide +kernel
def tb_166 (pc : Nat) : Option mEnt := bif Nat.ble pc 54 then (bif Nat.ble pc 25 then (bif Nat.ble pc 11 then (bif Nat.ble pc 5 then (bif Nat.ble pc 1 then (bif Nat.ble pc 0 then (bif Nat.beq pc 0 then some (.inl (o_al 0 1)) else none) else (bif Nat.beq pc 1 then some (.inl (oS 1 (s_push (.int 0)))) else none)) else (bif Nat.ble pc 2 then (bif Nat.beq pc 2 then some (.inl (o_pI 11 13)) else none) else (bif Nat.beq pc 5 then some (.inl (o_al 0 1)) else none))) else (bif Nat.ble pc 9 then (bif Nat.ble pc 6 then (bif Nat.beq pc 6 then some (.inl (o_gP 11 17)) else none) else (bif Nat.beq pc 9 then some (.inl (oS 1 (s_push (.int 0)))) else none)) else (bif Nat.ble pc 10 then (bif Nat.beq pc 10 then some (.inl (o_bald)) else none) else (bif Nat.beq pc 11 then some (.inl (o_zne 16)) else none)))) else (bif Nat.ble pc 17 then (bif Nat.ble pc 15 then (bif Nat.ble pc 14 then (bif Nat.beq pc 14 then some (.inl (oS 1 (s_push (.int (-1))))) else none) else (bif Nat.beq pc 15 then some (.inr (0, 0, 0, 0)) else none)) else (bif Nat.ble pc 16 then (bif Nat.beq pc 16 then some (.inl (o_il 1 1)) else none) else (bif Nat.beq pc 17 then some (.inl (oS 1 (s_push (.int 2)))) else none))) else (bif Nat.ble pc 21 then (bif Nat.ble pc 18 then (bif Nat.beq pc 18 then some (.inl (o_ceq 78)) else none) else (bif Nat.beq pc 21 then some (.inl (o_il 1 1)) else none)) else (bif Nat.ble pc 22 then (bif Nat.beq pc 22 then some (.inl (o_zne 34)) else none) else (bif Nat.beq pc 25 then some (.inl (o_al 0 1)) else none))))) else (bif Nat.ble pc 39 then (bif Nat.ble pc 31 then (bif Nat.ble pc 29 then (bif Nat.ble pc 26 then (bif Nat.beq pc 26 then some (.inl (o_gP 11 20)) else none) else (bif Nat.beq pc 29 then some (.inl (oS 1 (s_push (.int 0)))) else none)) else (bif Nat.ble pc 30 then (bif Nat.beq pc 30 then some (.inl (o_iald)) else none) else (bif Nat.beq pc 31 then some (.inl (o_goto 77)) else none))) else (bif Nat.ble pc 35 then (bif Nat.ble pc 34 then (bif Nat.beq pc 34 then some (.inl (o_il 1 1)) else none) else (bif Nat.beq pc 35 then some (.inl (oS 1 (s_push (.int 1)))) else none)) else (bif Nat.ble pc 36 then (bif Nat.beq pc 36 then some (.inl (o_cne 48)) else none) else (bif Nat.beq pc 39 then some (.inl (o_al 0 1)) else none)))) else (bif Nat.ble pc 45 then (bif Nat.ble pc 43 then (bif Nat.ble pc 40 then (bif Nat.beq pc 40 then some (.inl (o_gP 11 27)) else none) else (bif Nat.beq pc 43 then some (.inl (oS 1 (s_push (.int 0)))) else none)) else (bif Nat.ble pc 44 then (bif Nat.beq pc 44 then some (.inl (o_iald)) else none) else (bif Nat.beq pc 45 then some (.inl (o_goto 77)) else none))) else (bif Nat.ble pc 49 then (bif Nat.ble pc 48 then (bif Nat.beq pc 48 then some (.inl (o_il 1 1)) else none) else (bif Nat.beq pc 49 then some (.inl (oS 1 (s_push (.int 3)))) else none)) else (bif Nat.ble pc 50 then (bif Nat.beq pc 50 then some (.inl (o_cne 62)) else none) else (bif Nat.ble pc 53 then (bif Nat.beq pc 53 then some (.inl (o_al 0 1)) else none) else (bif Nat.beq pc 54 then some (.inl (o_gP 11 18)) else none))))))) else (bif Nat.ble pc 81 then (bif Nat.ble pc 68 then (bif Nat.ble pc 62 then (bif Nat.ble pc 58 then (bif Nat.ble pc 57 then (bif Nat.beq pc 57 then some (.inl (oS 1 (s_push (.int 0)))) else none) else (bif Nat.beq pc 58 then some (.inl (o_iald)) else none)) else (bif Nat.ble pc 59 then (bif Nat.beq pc 59 then some (.inl (o_goto 77)) else none) else (bif Nat.beq pc 62 then some (.inl (o_il 1 1)) else none))) else (bif Nat.ble pc 64 then (bif Nat.ble pc 63 then (bif Nat.beq pc 63 then some (.inl (oS 1 (s_push (.int 4)))) else none) else (bif Nat.beq pc 64 then some (.inl (o_cne 76)) else none)) else (bif Nat.ble pc 67 then (bif Nat.beq pc 67 then some (.inl (o_al 0 1)) else none) else (bif Nat.beq pc 68 then some (.inl (o_gP 11 29)) else none)))) else (bif Nat.ble pc 76 then (bif Nat.ble pc 72 then (bif Nat.ble pc 71 then (bif Nat.beq pc 71 then some (.inl (oS 1 (s_push (.int 0)))) else none) else (bif Nat.beq pc 72 then some (.inl (o_iald)) else none)) else (bif Nat.ble pc 73 then (bif Nat.beq pc 73 then some (.inl (o_goto 77)) else none) else (bif Nat.beq pc 76 then some (.inl (oS 1 (s_push (.int (-1))))) else none))) else (bif Nat.ble pc 78 then (bif Nat.ble pc 77 then (bif Nat.beq pc 77 then some (.inr (0, 0, 0, 0)) else none) else (bif Nat.beq pc 78 then some (.inl (oS 1 (s_push (.int 0)))) else none)) else (bif Nat.ble pc 79 then (bif Nat.beq pc 79 then some (.inl (o_is 2 1)) else none) else (bif Nat.ble pc 80 then (bif Nat.beq pc 80 then some (.inl (oS 1 (s_push (.int 0)))) else none) else (bif Nat.beq pc 81 then some (.inl (o_is 3 1)) else none)))))) else (bif Nat.ble pc 93 then (bif Nat.ble pc 87 then (bif Nat.ble pc 83 then (bif Nat.ble pc 82 then (bif Nat.beq pc 82 then some (.inl (o_il 3 1)) else none) else (bif Nat.beq pc 83 then some (.inl (o_al 0 1)) else none)) else (bif Nat.ble pc 84 then (bif Nat.beq pc 84 then some (.inl (o_gP 11 20)) else none) else (bif Nat.beq pc 87 then some (.inl (oS 1 (s_push (.int 0)))) else none))) else (bif Nat.ble pc 89 then (bif Nat.ble pc 88 then (bif Nat.beq pc 88 then some (.inl (o_iald)) else none) else (bif Nat.beq pc 89 then some (.inl (o_cge 111)) else none)) else (bif Nat.ble pc 92 then (bif Nat.beq pc 92 then some (.inl (o_al 0 1)) else none) else (bif Nat.beq pc 93 then some (.inl (o_gP 11 26)) else none)))) else (bif Nat.ble pc 99 then (bif Nat.ble pc 97 then (bif Nat.ble pc 96 then (bif Nat.beq pc 96 then some (.inl (o_il 3 1)) else none) else (bif Nat.beq pc 97 then some (.inl (o_iald)) else none)) else (bif Nat.ble pc 98 then (bif Nat.beq pc 98 then some (.inl (o_il 3 1)) else none) else (bif Nat.beq pc 99 then some (.inl (o_ceq 105)) else none))) else (bif Nat.ble pc 105 then (bif Nat.ble pc 102 then (bif Nat.beq pc 102 then some (.inl (o_inc 2 1)) else none) else (bif Nat.beq pc 105 then some (.inl (o_inc 3 1)) else none)) else (bif Nat.ble pc 108 then (bif Nat.beq pc 108 then some (.inl (o_goto 82)) else none) else (bif Nat.ble pc 111 then (bif Nat.beq pc 111 then some (.inl (o_il 2 1)) else none) else (bif Nat.beq pc 112 then some (.inr (0, 0, 0, 0)) else none)))))))
theorem k_166_0 : mOk M_166.1 M_166.2.1 M_166.2.2.1 M_166.2.2.2 0 (o_al 0 1) := ok_aload_n dX11_pack_0 rfl
theorem k_166_1 : mOk M_166.1 M_166.2.1 M_166.2.2.1 M_166.2.2.2 1 (oS 1 (s_push (.int 0))) := ok_iconst dX11_pack_1 (by decide)
theorem k_166_2 : mOk M_166.1 M_166.2.1 M_166.2.2.1 M_166.2.2.2 2 (o_pI 11 13) := ok_pI dX11_pack_2 (mFw_of f_RX11_133_c (Or.inl rfl)) rfl
theorem k_166_5 : mOk M_166.1 M_166.2.1 M_166.2.2.1 M_166.2.2.2 5 (o_al 0 1) := ok_aload_n dX11_pack_5 rfl
theorem k_166_6 : mOk M_166.1 M_166.2.1 M_166.2.2.1 M_166.2.2.2 6 (o_gP 11 17) := ok_gP dX11_pack_6 f_RX11_47 rfl
theorem k_166_9 : mOk M_166.1 M_166.2.1 M_166.2.2.1 M_166.2.2.2 9 (oS 1 (s_push (.int 0))) := ok_iconst dX11_pack_9 (by decide)
theorem k_166_10 : mOk M_166.1 M_166.2.1 M_166.2.2.1 M_166.2.2.2 10 (o_bald) := ok_bald dX11_pack_10
theorem k_166_11 : mOk M_166.1 M_166.2.1 M_166.2.2.1 M_166.2.2.2 11 (o_zne 16) := ok_zne dX11_pack_11 (by decide)
theorem k_166_14 : mOk M_166.1 M_166.2.1 M_166.2.2.1 M_166.2.2.2 14 (oS 1 (s_push (.int (-1)))) := ok_iconst dX11_pack_14 (by decide)
theorem k_166_16 : mOk M_166.1 M_166.2.1 M_166.2.2.1 M_166.2.2.2 16 (o_il 1 1) := ok_iload_n dX11_pack_16 rfl
theorem k_166_17 : mOk M_166.1 M_166.2.1 M_166.2.2.1 M_166.2.2.2 17 (oS 1 (s_push (.int 2))) := ok_iconst dX11_pack_17 (by decide)
theorem k_166_18 : mOk M_166.1 M_166.2.1 M_166.2.2.1 M_166.2.2.2 18 (o_ceq 78) := ok_ceq dX11_pack_18 (by decide)
theorem k_166_21 : mOk M_166.1 M_166.2.1 M_166.2.2.1 M_166.2.2.2 21 (o_il 1 1) := ok_iload_n dX11_pack_21 rfl
theorem k_166_22 : mOk M_166.1 M_166.2.1 M_166.2.2.1 M_166.2.2.2 22 (o_zne 34) := ok_zne dX11_pack_22 (by decide)
theorem k_166_25 : mOk M_166.1 M_166.2.1 M_166.2.2.1 M_166.2.2.2 25 (o_al 0 1) := ok_aload_n dX11_pack_25 rfl
theorem k_166_26 : mOk M_166.1 M_166.2.1 M_166.2.2.1 M_166.2.2.2 26 (o_gP 11 20) := ok_gP dX11_pack_26 f_RX11_57 rfl
theorem k_166_29 : mOk M_166.1 M_166.2.1 M_166.2.2.1 M_166.2.2.2 29 (oS 1 (s_push (.int 0))) := ok_iconst dX11_pack_29 (by decide)
theorem k_166_30 : mOk M_166.1 M_166.2.1 M_166.2.2.1 M_166.2.2.2 30 (o_iald) := ok_iald dX11_pack_30
theorem k_166_31 : mOk M_166.1 M_166.2.1 M_166.2.2.1 M_166.2.2.2 31 (o_goto 77) := ok_goto dX11_pack_31 (by decide)
theorem k_166_34 : mOk M_166.1 M_166.2.1 M_166.2.2.1 M_166.2.2.2 34 (o_il 1 1) := ok_iload_n dX11_pack_34 rfl
theorem k_166_35 : mOk M_166.1 M_166.2.1 M_166.2.2.1 M_166.2.2.2 35 (oS 1 (s_push (.int 1))) := ok_iconst dX11_pack_35 (by decide)
theorem k_166_36 : mOk M_166.1 M_166.2.1 M_166.2.2.1 M_166.2.2.2 36 (o_cne 48) := ok_cne dX11_pack_36 (by decide)
theorem k_166_39 : mOk M_166.1 M_166.2.1 M_166.2.2.1 M_166.2.2.2 39 (o_al 0 1) := ok_aload_n dX11_pack_39 rfl
theorem k_166_40 : mOk M_166.1 M_166.2.1 M_166.2.2.1 M_166.2.2.2 40 (o_gP 11 27) := ok_gP dX11_pack_40 f_RX11_78 rfl
theorem k_166_43 : mOk M_166.1 M_166.2.1 M_166.2.2.1 M_166.2.2.2 43 (oS 1 (s_push (.int 0))) := ok_iconst dX11_pack_43 (by decide)
theorem k_166_44 : mOk M_166.1 M_166.2.1 M_166.2.2.1 M_166.2.2.2 44 (o_iald) := ok_iald dX11_pack_44
theorem k_166_45 : mOk M_166.1 M_166.2.1 M_166.2.2.1 M_166.2.2.2 45 (o_goto 77) := ok_goto dX11_pack_45 (by decide)
theorem k_166_48 : mOk M_166.1 M_166.2.1 M_166.2.2.1 M_166.2.2.2 48 (o_il 1 1) := ok_iload_n dX11_pack_48 rfl
theorem k_166_49 : mOk M_166.1 M_166.2.1 M_166.2.2.1 M_166.2.2.2 49 (oS 1 (s_push (.int 3))) := ok_iconst dX11_pack_49 (by decide)
theorem k_166_50 : mOk M_166.1 M_166.2.1 M_166.2.2.1 M_166.2.2.2 50 (o_cne 62) := ok_cne dX11_pack_50 (by decide)
theorem k_166_53 : mOk M_166.1 M_166.2.1 M_166.2.2.1 M_166.2.2.2 53 (o_al 0 1) := ok_aload_n dX11_pack_53 rfl
theorem k_166_54 : mOk M_166.1 M_166.2.1 M_166.2.2.1 M_166.2.2.2 54 (o_gP 11 18) := ok_gP dX11_pack_54 f_RX11_51 rfl
theorem k_166_57 : mOk M_166.1 M_166.2.1 M_166.2.2.1 M_166.2.2.2 57 (oS 1 (s_push (.int 0))) := ok_iconst dX11_pack_57 (by decide)
theorem k_166_58 : mOk M_166.1 M_166.2.1 M_166.2.2.1 M_166.2.2.2 58 (o_iald) := ok_iald dX11_pack_58
theorem k_166_59 : mOk M_166.1 M_166.2.1 M_166.2.2.1 M_166.2.2.2 59 (o_goto 77) := ok_goto dX11_pack_59 (by decide)
theorem k_166_62 : mOk M_166.1 M_166.2.1 M_166.2.2.1 M_166.2.2.2 62 (o_il 1 1) := ok_iload_n dX11_pack_62 rfl
theorem k_166_63 : mOk M_166.1 M_166.2.1 M_166.2.2.1 M_166.2.2.2 63 (oS 1 (s_push (.int 4))) := ok_iconst dX11_pack_63 (by decide)
theorem k_166_64 : mOk M_166.1 M_166.2.1 M_166.2.2.1 M_166.2.2.2 64 (o_cne 76) := ok_cne dX11_pack_64 (by decide)
theorem k_166_67 : mOk M_166.1 M_166.2.1 M_166.2.2.1 M_166.2.2.2 67 (o_al 0 1) := ok_aload_n dX11_pack_67 rfl
theorem k_166_68 : mOk M_166.1 M_166.2.1 M_166.2.2.1 M_166.2.2.2 68 (o_gP 11 29) := ok_gP dX11_pack_68 f_RX11_85 rfl
theorem k_166_71 : mOk M_166.1 M_166.2.1 M_166.2.2.1 M_166.2.2.2 71 (oS 1 (s_push (.int 0))) := ok_iconst dX11_pack_71 (by decide)
theorem k_166_72 : mOk M_166.1 M_166.2.1 M_166.2.2.1 M_166.2.2.2 72 (o_iald) := ok_iald dX11_pack_72
theorem k_166_73 : mOk M_166.1 M_166.2.1 M_166.2.2.1 M_166.2.2.2 73 (o_goto 77) := ok_goto dX11_pack_73 (by decide)
theorem k_166_76 : mOk M_166.1 M_166.2.1 M_166.2.2.1 M_166.2.2.2 76 (oS 1 (s_push (.int (-1)))) := ok_iconst dX11_pack_76 (by decide)
theorem k_166_78 : mOk M_166.1 M_166.2.1 M_166.2.2.1 M_166.2.2.2 78 (oS 1 (s_push (.int 0))) := ok_iconst dX11_pack_78 (by decide)
theorem k_166_79 : mOk M_166.1 M_166.2.1 M_166.2.2.1 M_166.2.2.2 79 (o_is 2 1) := ok_istore_n dX11_pack_79 rfl
theorem k_166_80 : mOk M_166.1 M_166.2.1 M_166.2.2.1 M_166.2.2.2 80 (oS 1 (s_push (.int 0))) := ok_iconst dX11_pack_80 (by decide)
theorem k_166_81 : mOk M_166.1 M_166.2.1 M_166.2.2.1 M_166.2.2.2 81 (o_is 3 1) := ok_istore_n dX11_pack_81 rfl
theorem k_166_82 : mOk M_166.1 M_166.2.1 M_166.2.2.1 M_166.2.2.2 82 (o_il 3 1) := ok_iload_n dX11_pack_82 rfl
theorem k_166_83 : mOk M_166.1 M_166.2.1 M_166.2.2.1 M_166.2.2.2 83 (o_al 0 1) := ok_aload_n dX11_pack_83 rfl
theorem k_166_84 : mOk M_166.1 M_166.2.1 M_166.2.2.1 M_166.2.2.2 84 (o_gP 11 20) := ok_gP dX11_pack_84 f_RX11_57 rfl
theorem k_166_87 : mOk M_166.1 M_166.2.1 M_166.2.2.1 M_166.2.2.2 87 (oS 1 (s_push (.int 0))) := ok_iconst dX11_pack_87 (by decide)
theorem k_166_88 : mOk M_166.1 M_166.2.1 M_166.2.2.1 M_166.2.2.2 88 (o_iald) := ok_iald dX11_pack_88
theorem k_166_89 : mOk M_166.1 M_166.2.1 M_166.2.2.1 M_166.2.2.2 89 (o_cge 111) := ok_cge dX11_pack_89 (by decide)
theorem k_166_92 : mOk M_166.1 M_166.2.1 M_166.2.2.1 M_166.2.2.2 92 (o_al 0 1) := ok_aload_n dX11_pack_92 rfl
theorem k_166_93 : mOk M_166.1 M_166.2.1 M_166.2.2.1 M_166.2.2.2 93 (o_gP 11 26) := ok_gP dX11_pack_93 f_RX11_75 rfl
theorem k_166_96 : mOk M_166.1 M_166.2.1 M_166.2.2.1 M_166.2.2.2 96 (o_il 3 1) := ok_iload_n dX11_pack_96 rfl
theorem k_166_97 : mOk M_166.1 M_166.2.1 M_166.2.2.1 M_166.2.2.2 97 (o_iald) := ok_iald dX11_pack_97
theorem k_166_98 : mOk M_166.1 M_166.2.1 M_166.2.2.1 M_166.2.2.2 98 (o_il 3 1) := ok_iload_n dX11_pack_98 rfl
theorem k_166_99 : mOk M_166.1 M_166.2.1 M_166.2.2.1 M_166.2.2.2 99 (o_ceq 105) := ok_ceq dX11_pack_99 (by decide)
theorem k_166_102 : mOk M_166.1 M_166.2.1 M_166.2.2.1 M_166.2.2.2 102 (o_inc 2 1) := ok_iinc dX11_pack_102 (by decide)
theorem k_166_105 : mOk M_166.1 M_166.2.1 M_166.2.2.1 M_166.2.2.2 105 (o_inc 3 1) := ok_iinc dX11_pack_105 (by decide)
theorem k_166_108 : mOk M_166.1 M_166.2.1 M_166.2.2.1 M_166.2.2.2 108 (o_goto 82) := ok_goto dX11_pack_108 (by decide)
theorem k_166_111 : mOk M_166.1 M_166.2.1 M_166.2.2.1 M_166.2.2.2 111 (o_il 2 1) := ok_iload_n dX11_pack_111 rfl
set_option maxRecDepth 20000 in
set_option maxHeartbeats 4000000 in
theorem tk_166 (l : Launch) (H9 : mThr l) (H10 : mSpl l) (pc : Nat) (q : mEnt) (h : tb_166 pc = some q) : EE l 166 pc q := nd h (fun h => nd h (fun h => nd h (fun h => nd h (fun h => nd h (fun h => nd h (fun h => lf (P := EE l 166) h k_166_0) (fun h => lf (P := EE l 166) h k_166_1)) (fun h => nd h (fun h => lf (P := EE l 166) h k_166_2) (fun h => lf (P := EE l 166) h k_166_5))) (fun h => nd h (fun h => nd h (fun h => lf (P := EE l 166) h k_166_6) (fun h => lf (P := EE l 166) h k_166_9)) (fun h => nd h (fun h => lf (P := EE l 166) h k_166_10) (fun h => lf (P := EE l 166) h k_166_11)))) (fun h => nd h (fun h => nd h (fun h => nd h (fun h => lf (P := EE l 166) h k_166_14) (fun h => lf (P := EE l 166) h (EE_re (Or.inl ⟨rfl, dX11_pack_15, rfl⟩)))) (fun h => nd h (fun h => lf (P := EE l 166) h k_166_16) (fun h => lf (P := EE l 166) h k_166_17))) (fun h => nd h (fun h => nd h (fun h => lf (P := EE l 166) h k_166_18) (fun h => lf (P := EE l 166) h k_166_21)) (fun h => nd h (fun h => lf (P := EE l 166) h k_166_22) (fun h => lf (P := EE l 166) h k_166_25))))) (fun h => nd h (fun h => nd h (fun h => nd h (fun h => nd h (fun h => lf (P := EE l 166) h k_166_26) (fun h => lf (P := EE l 166) h k_166_29)) (fun h => nd h (fun h => lf (P := EE l 166) h k_166_30) (fun h => lf (P := EE l 166) h k_166_31))) (fun h => nd h (fun h => nd h (fun h => lf (P := EE l 166) h k_166_34) (fun h => lf (P := EE l 166) h k_166_35)) (fun h => nd h (fun h => lf (P := EE l 166) h k_166_36) (fun h => lf (P := EE l 166) h k_166_39)))) (fun h => nd h (fun h => nd h (fun h => nd h (fun h => lf (P := EE l 166) h k_166_40) (fun h => lf (P := EE l 166) h k_166_43)) (fun h => nd h (fun h => lf (P := EE l 166) h k_166_44) (fun h => lf (P := EE l 166) h k_166_45))) (fun h => nd h (fun h => nd h (fun h => lf (P := EE l 166) h k_166_48) (fun h => lf (P := EE l 166) h k_166_49)) (fun h => nd h (fun h => lf (P := EE l 166) h k_166_50) (fun h => nd h (fun h => lf (P := EE l 166) h k_166_53) (fun h => lf (P := EE l 166) h k_166_54))))))) (fun h => nd h (fun h => nd h (fun h => nd h (fun h => nd h (fun h => nd h (fun h => lf (P := EE l 166) h k_166_57) (fun h => lf (P := EE l 166) h k_166_58)) (fun h => nd h (fun h => lf (P := EE l 166) h k_166_59) (fun h => lf (P := EE l 166) h k_166_62))) (fun h => nd h (fun h => nd h (fun h => lf (P := EE l 166) h k_166_63) (fun h => lf (P := EE l 166) h k_166_64)) (fun h => nd h (fun h => lf (P := EE l 166) h k_166_67) (fun h => lf (P := EE l 166) h k_166_68)))) (fun h => nd h (fun h => nd h (fun h => nd h (fun h => lf (P := EE l 166) h k_166_71) (fun h => lf (P := EE l 166) h k_166_72)) (fun h => nd h (fun h => lf (P := EE l 166) h k_166_73) (fun h => lf (P := EE l 166) h k_166_76))) (fun h => nd h (fun h => nd h (fun h => lf (P := EE l 166) h (EE_re (Or.inl ⟨rfl, dX11_pack_77, rfl⟩))) (fun h => lf (P := EE l 166) h k_166_78)) (fun h => nd h (fun h => lf (P := EE l 166) h k_166_79) (fun h => nd h (fun h => lf (P := EE l 166) h k_166_80) (fun h => lf (P := EE l 166) h k_166_81)))))) (fun h => nd h (fun h => nd h (fun h => nd h (fun h => nd h (fun h => lf (P := EE l 166) h k_166_82) (fun h => lf (P := EE l 166) h k_166_83)) (fun h => nd h (fun h => lf (P := EE l 166) h k_166_84) (fun h => lf (P := EE l 166) h k_166_87))) (fun h => nd h (fun h => nd h (fun h => lf (P := EE l 166) h k_166_88) (fun h => lf (P := EE l 166) h k_166_89)) (fun h => nd h (fun h => lf (P := EE l 166) h k_166_92) (fun h => lf (P := EE l 166) h k_166_93)))) (fun h => nd h (fun h => nd h (fun h => nd h (fun h => lf (P := EE l 166) h k_166_96) (fun h => lf (P := EE l 166) h k_166_97)) (fun h => nd h (fun h => lf (P := EE l 166) h k_166_98) (fun h => lf (P := EE l 166) h k_166_99))) (fun h => nd h (fun h => nd h (fun h => lf (P := EE l 166) h k_166_102) (fun h => lf (P := EE l 166) h k_166_105)) (fun h => nd h (fun h => lf (P := EE l 166) h k_166_108) (fun h => nd h (fun h => lf (P := EE l 166) h k_166_111) (fun h => lf (P := EE l 166) h (EE_re (Or.inl ⟨rfl, dX11_pack_112, rfl⟩)))))))))
theorem dX11_sameBytes_0 : decode cX11_sameBytes 0 = .ok (.bipush 100, 2) := by decide +kernel
theorem dX11_sameBytes_2 : decode cX11_sameBytes 2 = .ok (.iload_n 1, 1) := by decide +kernel
theorem dX11_sameBytes_3 : decode cX11_sameBytes 3 = .ok (.imul, 1) := by decide +kernel
theorem dX11_sameBytes_4 : decode cX11_sameBytes 4 = .ok (.iload_n 2, 1) := by decide +kernel
theorem dX11_sameBytes_5 : decode cX11_sameBytes 5 = .ok (.iadd, 1) := by decide +kernel
theorem dX11_sameBytes_6 : decode cX11_sameBytes 6 = .ok (.istore 5, 2) := by decide +kernel
theorem dX11_sameBytes_8 : decode cX11_sameBytes 8 = .ok (.bipush 100, 2) := by decide +kernel
theorem dX11_sameBytes_10 : decode cX11_sameBytes 10 = .ok (.iload_n 3, 1) := by decide +kernel
theorem dX11_sameBytes_11 : decode cX11_sameBytes 11 = .ok (.imul, 1) := by decide +kernel
theorem dX11_sameBytes_12 : decode cX11_sameBytes 12 = .ok (.iload 4, 2) := by decide +kernel
theorem dX11_sameBytes_14 : decode cX11_sameBytes 14 = .ok (.iadd, 1) := by decide +kernel
theorem dX11_sameBytes_15 : decode cX11_sameBytes 15 = .ok (.istore 6, 2) := by decide +kernel
theorem dX11_sameBytes_17 : decode cX11_sameBytes 17 = .ok (.aload_n 0, 1) := by decide +kernel
theorem dX11_sameBytes_18 : decode cX11_sameBytes 18 = .ok (.getfield 69, 3) := by decide +kernel
theorem dX11_sameBytes_21 : decode cX11_sameBytes 21 = .ok (.iload 5, 2) := by decide +kernel
theorem dX11_sameBytes_23 : decode cX11_sameBytes 23 = .ok (.iaload, 1) := by decide +kernel
theorem dX11_sameBytes_24 : decode cX11_sameBytes 24 = .ok (.aload_n 0, 1) := by decide +kernel
theorem dX11_sameBytes_25 : decode cX11_sameBytes 25 = .ok (.getfield 69, 3) := by decide +kernel
theorem dX11_sameBytes_28 : decode cX11_sameBytes 28 = .ok (.iload 6, 2) := by decide +kernel
theorem dX11_sameBytes_30 : decode cX11_sameBytes 30 = .ok (.iaload, 1) := by decide +kernel
theorem dX11_sameBytes_31 : decode cX11_sameBytes 31 = .ok (.if_icmp .eq 5, 3) := by decide +kernel
theorem dX11_sameBytes_34 : decode cX11_sameBytes 34 = .ok (.iconst 0, 1) := by decide +kernel
theorem dX11_sameBytes_35 : decode cX11_sameBytes 35 = .ok (.ireturn, 1) := by decide +kernel
theorem dX11_sameBytes_36 : decode cX11_sameBytes 36 = .ok (.iconst 0, 1) := by decide +kernel
theorem dX11_sameBytes_37 : decode cX11_sameBytes 37 = .ok (.istore 7, 2) := by decide +kernel
theorem dX11_sameBytes_39 : decode cX11_sameBytes 39 = .ok (.iload 7, 2) := by decide +kernel
theorem dX11_sameBytes_41 : decode cX11_sameBytes 41 = .ok (.aload_n 0, 1) := by decide +kernel
theorem dX11_sameBytes_42 : decode cX11_sameBytes 42 = .ok (.getfield 69, 3) := by decide +kernel
theorem dX11_sameBytes_45 : decode cX11_sameBytes 45 = .ok (.iload 5, 2) := by decide +kernel
theorem dX11_sameBytes_47 : decode cX11_sameBytes 47 = .ok (.iaload, 1) := by decide +kernel
theorem dX11_sameBytes_48 : decode cX11_sameBytes 48 = .ok (.if_icmp .ge 56, 3) := by decide +kernel
theorem dX11_sameBytes_51 : decode cX11_sameBytes 51 = .ok (.aload_n 0, 1) := by decide +kernel
theorem dX11_sameBytes_52 : decode cX11_sameBytes 52 = .ok (.getfield 81, 3) := by decide +kernel
theorem dX11_sameBytes_55 : decode cX11_sameBytes 55 = .ok (.sipush 5000, 3) := by decide +kernel
theorem dX11_sameBytes_58 : decode cX11_sameBytes 58 = .ok (.iload_n 1, 1) := by decide +kernel
theorem dX11_sameBytes_59 : decode cX11_sameBytes 59 = .ok (.imul, 1) := by decide +kernel
theorem dX11_sameBytes_60 : decode cX11_sameBytes 60 = .ok (.aload_n 0, 1) := by decide +kernel
theorem dX11_sameBytes_61 : decode cX11_sameBytes 61 = .ok (.getfield 72, 3) := by decide +kernel
theorem dX11_sameBytes_64 : decode cX11_sameBytes 64 = .ok (.iload 5, 2) := by decide +kernel
theorem dX11_sameBytes_66 : decode cX11_sameBytes 66 = .ok (.iaload, 1) := by decide +kernel
theorem dX11_sameBytes_67 : decode cX11_sameBytes 67 = .ok (.iadd, 1) := by decide +kernel
theorem dX11_sameBytes_68 : decode cX11_sameBytes 68 = .ok (.iload 7, 2) := by decide +kernel
theorem dX11_sameBytes_70 : decode cX11_sameBytes 70 = .ok (.iadd, 1) := by decide +kernel
theorem dX11_sameBytes_71 : decode cX11_sameBytes 71 = .ok (.baload, 1) := by decide +kernel
theorem dX11_sameBytes_72 : decode cX11_sameBytes 72 = .ok (.aload_n 0, 1) := by decide +kernel
theorem dX11_sameBytes_73 : decode cX11_sameBytes 73 = .ok (.getfield 81, 3) := by decide +kernel
theorem dX11_sameBytes_76 : decode cX11_sameBytes 76 = .ok (.sipush 5000, 3) := by decide +kernel
theorem dX11_sameBytes_79 : decode cX11_sameBytes 79 = .ok (.iload_n 3, 1) := by decide +kernel
theorem dX11_sameBytes_80 : decode cX11_sameBytes 80 = .ok (.imul, 1) := by decide +kernel
theorem dX11_sameBytes_81 : decode cX11_sameBytes 81 = .ok (.aload_n 0, 1) := by decide +kernel
theorem dX11_sameBytes_82 : decode cX11_sameBytes 82 = .ok (.getfield 72, 3) := by decide +kernel
theorem dX11_sameBytes_85 : decode cX11_sameBytes 85 = .ok (.iload 6, 2) := by decide +kernel
theorem dX11_sameBytes_87 : decode cX11_sameBytes 87 = .ok (.iaload, 1) := by decide +kernel
theorem dX11_sameBytes_88 : decode cX11_sameBytes 88 = .ok (.iadd, 1) := by decide +kernel
theorem dX11_sameBytes_89 : decode cX11_sameBytes 89 = .ok (.iload 7, 2) := by decide +kernel
theorem dX11_sameBytes_91 : decode cX11_sameBytes 91 = .ok (.iadd, 1) := by decide +kernel
theorem dX11_sameBytes_92 : decode cX11_sameBytes 92 = .ok (.baload, 1) := by decide +kernel
theorem dX11_sameBytes_93 : decode cX11_sameBytes 93 = .ok (.if_icmp .eq 5, 3) := by decide +kernel
theorem dX11_sameBytes_96 : decode cX11_sameBytes 96 = .ok (.iconst 0, 1) := by decide +kernel
theorem dX11_sameBytes_97 : decode cX11_sameBytes 97 = .ok (.ireturn, 1) := by decide +kernel
theorem dX11_sameBytes_98 : decode cX11_sameBytes 98 = .ok (.iinc 7 1, 3) := by decide +kernel
theorem dX11_sameBytes_101 : decode cX11_sameBytes 101 = .ok (.goto (-62), 3) := by decide +kernel
theorem dX11_sameBytes_104 : decode cX11_sameBytes 104 = .ok (.iconst 1, 1) := by decide +kernel
theorem dX11_sameBytes_105 : decode cX11_sameBytes 105 = .ok (.ireturn, 1) := by decide +kernel
def tb_167 (pc : Nat) : Option mEnt := bif Nat.ble pc 51 then (bif Nat.ble pc 23 then (bif Nat.ble pc 10 then (bif Nat.ble pc 4 then (bif Nat.ble pc 2 then (bif Nat.ble pc 0 then (bif Nat.beq pc 0 then some (.inl (oS 2 (s_push (.int 100)))) else none) else (bif Nat.beq pc 2 then some (.inl (o_il 1 1)) else none)) else (bif Nat.ble pc 3 then (bif Nat.beq pc 3 then some (.inl (oS 1 (s_ii (fun a b => a * b)))) else none) else (bif Nat.beq pc 4 then some (.inl (o_il 2 1)) else none))) else (bif Nat.ble pc 6 then (bif Nat.ble pc 5 then (bif Nat.beq pc 5 then some (.inl (oS 1 (s_ii (fun a b => a + b)))) else none) else (bif Nat.beq pc 6 then some (.inl (o_is 5 2)) else none)) else (bif Nat.ble pc 8 then (bif Nat.beq pc 8 then some (.inl (oS 2 (s_push (.int 100)))) else none) else (bif Nat.beq pc 10 then some (.inl (o_il 3 1)) else none)))) else (bif Nat.ble pc 15 then (bif Nat.ble pc 12 then (bif Nat.ble pc 11 then (bif Nat.beq pc 11 then some (.inl (oS 1 (s_ii (fun a b => a * b)))) else none) else (bif Nat.beq pc 12 then some (.inl (o_il 4 2)) else none)) else (bif Nat.ble pc 14 then (bif Nat.beq pc 14 then some (.inl (oS 1 (s_ii (fun a b => a + b)))) else none) else (bif Nat.beq pc 15 then some (.inl (o_is 6 2)) else none))) else (bif Nat.ble pc 18 then (bif Nat.ble pc 17 then (bif Nat.beq pc 17 then some (.inl (o_al 0 1)) else none) else (bif Nat.beq pc 18 then some (.inl (o_gP 11 24)) else none)) else (bif Nat.ble pc 21 then (bif Nat.beq pc 21 then some (.inl (o_il 5 2)) else none) else (bif Nat.beq pc 23 then some (.inl (o_iald)) else none))))) else (bif Nat.ble pc 36 then (bif Nat.ble pc 30 then (bif Nat.ble pc 25 then (bif Nat.ble pc 24 then (bif Nat.beq pc 24 then some (.inl (o_al 0 1)) else none) else (bif Nat.beq pc 25 then some (.inl (o_gP 11 24)) else none)) else (bif Nat.ble pc 28 then (bif Nat.beq pc 28 then some (.inl (o_il 6 2)) else none) else (bif Nat.beq pc 30 then some (.inl (o_iald)) else none))) else (bif Nat.ble pc 34 then (bif Nat.ble pc 31 then (bif Nat.beq pc 31 then some (.inl (o_ceq 36)) else none) else (bif Nat.beq pc 34 then some (.inl (oS 1 (s_push (.int 0)))) else none)) else (bif Nat.ble pc 35 then (bif Nat.beq pc 35 then some (.inr (0, 0, 0, 4)) else none) else (bif Nat.beq pc 36 then some (.inl (oS 1 (s_push (.int 0)))) else none)))) else (bif Nat.ble pc 42 then (bif Nat.ble pc 39 then (bif Nat.ble pc 37 then (bif Nat.beq pc 37 then some (.inl (o_is 7 2)) else none) else (bif Nat.beq pc 39 then some (.inl (o_il 7 2)) else none)) else (bif Nat.ble pc 41 then (bif Nat.beq pc 41 then some (.inl (o_al 0 1)) else none) else (bif Nat.beq pc 42 then some (.inl (o_gP 11 24)) else none))) else (bif Nat.ble pc 47 then (bif Nat.ble pc 45 then (bif Nat.beq pc 45 then some (.inl (o_il 5 2)) else none) else (bif Nat.beq pc 47 then some (.inl (o_iald)) else none)) else (bif Nat.ble pc 48 then (bif Nat.beq pc 48 then some (.inl (o_cge 104)) else none) else (bif Nat.beq pc 51 then some (.inl (o_al 0 1)) else none)))))) else (bif Nat.ble pc 79 then (bif Nat.ble pc 66 then (bif Nat.ble pc 59 then (bif Nat.ble pc 55 then (bif Nat.ble pc 52 then (bif Nat.beq pc 52 then some (.inl (o_gP 11 28)) else none) else (bif Nat.beq pc 55 then some (.inl (oS 3 (s_push (.int 5000)))) else none)) else (bif Nat.ble pc 58 then (bif Nat.beq pc 58 then some (.inl (o_il 1 1)) else none) else (bif Nat.beq pc 59 then some (.inl (oS 1 (s_ii (fun a b => a * b)))) else none))) else (bif Nat.ble pc 61 then (bif Nat.ble pc 60 then (bif Nat.beq pc 60 then some (.inl (o_al 0 1)) else none) else (bif Nat.beq pc 61 then some (.inl (o_gP 11 25)) else none)) else (bif Nat.ble pc 64 then (bif Nat.beq pc 64 then some (.inl (o_il 5 2)) else none) else (bif Nat.beq pc 66 then some (.inl (o_iald)) else none)))) else (bif Nat.ble pc 71 then (bif Nat.ble pc 68 then (bif Nat.ble pc 67 then (bif Nat.beq pc 67 then some (.inl (oS 1 (s_ii (fun a b => a + b)))) else none) else (bif Nat.beq pc 68 then some (.inl (o_il 7 2)) else none)) else (bif Nat.ble pc 70 then (bif Nat.beq pc 70 then some (.inl (oS 1 (s_ii (fun a b => a + b)))) else none) else (bif Nat.beq pc 71 then some (.inl (o_bald)) else none))) else (bif Nat.ble pc 73 then (bif Nat.ble pc 72 then (bif Nat.beq pc 72 then some (.inl (o_al 0 1)) else none) else (bif Nat.beq pc 73 then some (.inl (o_gP 11 28)) else none)) else (bif Nat.ble pc 76 then (bif Nat.beq pc 76 then some (.inl (oS 3 (s_push (.int 5000)))) else none) else (bif Nat.beq pc 79 then some (.inl (o_il 3 1)) else none))))) else (bif Nat.ble pc 91 then (bif Nat.ble pc 85 then (bif Nat.ble pc 81 then (bif Nat.ble pc 80 then (bif Nat.beq pc 80 then some (.inl (oS 1 (s_ii (fun a b => a * b)))) else none) else (bif Nat.beq pc 81 then some (.inl (o_al 0 1)) else none)) else (bif Nat.ble pc 82 then (bif Nat.beq pc 82 then some (.inl (o_gP 11 25)) else none) else (bif Nat.beq pc 85 then some (.inl (o_il 6 2)) else none))) else (bif Nat.ble pc 88 then (bif Nat.ble pc 87 then (bif Nat.beq pc 87 then some (.inl (o_iald)) else none) else (bif Nat.beq pc 88 then some (.inl (oS 1 (s_ii (fun a b => a + b)))) else none)) else (bif Nat.ble pc 89 then (bif Nat.beq pc 89 then some (.inl (o_il 7 2)) else none) else (bif Nat.beq pc 91 then some (.inl (oS 1 (s_ii (fun a b => a + b)))) else none)))) else (bif Nat.ble pc 97 then (bif Nat.ble pc 93 then (bif Nat.ble pc 92 then (bif Nat.beq pc 92 then some (.inl (o_bald)) else none) else (bif Nat.beq pc 93 then some (.inl (o_ceq 98)) else none)) else (bif Nat.ble pc 96 then (bif Nat.beq pc 96 then some (.inl (oS 1 (s_push (.int 0)))) else none) else (bif Nat.beq pc 97 then some (.inr (0, 0, 0, 4)) else none))) else (bif Nat.ble pc 101 then (bif Nat.ble pc 98 then (bif Nat.beq pc 98 then some (.inl (o_inc 7 1)) else none) else (bif Nat.beq pc 101 then some (.inl (o_goto 39)) else none)) else (bif Nat.ble pc 104 then (bif Nat.beq pc 104 then some (.inl (oS 1 (s_push (.int 1)))) else none) else (bif Nat.beq pc 105 then some (.inr (0, 0, 0, 4)) else none))))))
theorem k_167_0 : mOk M_167.1 M_167.2.1 M_167.2.2.1 M_167.2.2.2 0 (oS 2 (s_push (.int 100))) := ok_bipush dX11_sameBytes_0 (by decide)
theorem k_167_2 : mOk M_167.1 M_167.2.1 M_167.2.2.1 M_167.2.2.2 2 (o_il 1 1) := ok_iload_n dX11_sameBytes_2 rfl
theorem k_167_3 : mOk M_167.1 M_167.2.1 M_167.2.2.1 M_167.2.2.2 3 (oS 1 (s_ii (fun a b => a * b))) := ok_imul dX11_sameBytes_3
theorem k_167_4 : mOk M_167.1 M_167.2.1 M_167.2.2.1 M_167.2.2.2 4 (o_il 2 1) := ok_iload_n dX11_sameBytes_4 rfl
theorem k_167_5 : mOk M_167.1 M_167.2.1 M_167.2.2.1 M_167.2.2.2 5 (oS 1 (s_ii (fun a b => a + b))) := ok_iadd dX11_sameBytes_5
theorem k_167_6 : mOk M_167.1 M_167.2.1 M_167.2.2.1 M_167.2.2.2 6 (o_is 5 2) := ok_istore dX11_sameBytes_6
theorem k_167_8 : mOk M_167.1 M_167.2.1 M_167.2.2.1 M_167.2.2.2 8 (oS 2 (s_push (.int 100))) := ok_bipush dX11_sameBytes_8 (by decide)
theorem k_167_10 : mOk M_167.1 M_167.2.1 M_167.2.2.1 M_167.2.2.2 10 (o_il 3 1) := ok_iload_n dX11_sameBytes_10 rfl
theorem k_167_11 : mOk M_167.1 M_167.2.1 M_167.2.2.1 M_167.2.2.2 11 (oS 1 (s_ii (fun a b => a * b))) := ok_imul dX11_sameBytes_11
theorem k_167_12 : mOk M_167.1 M_167.2.1 M_167.2.2.1 M_167.2.2.2 12 (o_il 4 2) := ok_iload dX11_sameBytes_12
theorem k_167_14 : mOk M_167.1 M_167.2.1 M_167.2.2.1 M_167.2.2.2 14 (oS 1 (s_ii (fun a b => a + b))) := ok_iadd dX11_sameBytes_14
theorem k_167_15 : mOk M_167.1 M_167.2.1 M_167.2.2.1 M_167.2.2.2 15 (o_is 6 2) := ok_istore dX11_sameBytes_15
theorem k_167_17 : mOk M_167.1 M_167.2.1 M_167.2.2.1 M_167.2.2.2 17 (o_al 0 1) := ok_aload_n dX11_sameBytes_17 rfl
theorem k_167_18 : mOk M_167.1 M_167.2.1 M_167.2.2.1 M_167.2.2.2 18 (o_gP 11 24) := ok_gP dX11_sameBytes_18 f_RX11_69 rfl
theorem k_167_21 : mOk M_167.1 M_167.2.1 M_167.2.2.1 M_167.2.2.2 21 (o_il 5 2) := ok_iload dX11_sameBytes_21
theorem k_167_23 : mOk M_167.1 M_167.2.1 M_167.2.2.1 M_167.2.2.2 23 (o_iald) := ok_iald dX11_sameBytes_23
theorem k_167_24 : mOk M_167.1 M_167.2.1 M_167.2.2.1 M_167.2.2.2 24 (o_al 0 1) := ok_aload_n dX11_sameBytes_24 rfl
theorem k_167_25 : mOk M_167.1 M_167.2.1 M_167.2.2.1 M_167.2.2.2 25 (o_gP 11 24) := ok_gP dX11_sameBytes_25 f_RX11_69 rfl
theorem k_167_28 : mOk M_167.1 M_167.2.1 M_167.2.2.1 M_167.2.2.2 28 (o_il 6 2) := ok_iload dX11_sameBytes_28
theorem k_167_30 : mOk M_167.1 M_167.2.1 M_167.2.2.1 M_167.2.2.2 30 (o_iald) := ok_iald dX11_sameBytes_30
theorem k_167_31 : mOk M_167.1 M_167.2.1 M_167.2.2.1 M_167.2.2.2 31 (o_ceq 36) := ok_ceq dX11_sameBytes_31 (by decide)
theorem k_167_34 : mOk M_167.1 M_167.2.1 M_167.2.2.1 M_167.2.2.2 34 (oS 1 (s_push (.int 0))) := ok_iconst dX11_sameBytes_34 (by decide)
theorem k_167_36 : mOk M_167.1 M_167.2.1 M_167.2.2.1 M_167.2.2.2 36 (oS 1 (s_push (.int 0))) := ok_iconst dX11_sameBytes_36 (by decide)
theorem k_167_37 : mOk M_167.1 M_167.2.1 M_167.2.2.1 M_167.2.2.2 37 (o_is 7 2) := ok_istore dX11_sameBytes_37
theorem k_167_39 : mOk M_167.1 M_167.2.1 M_167.2.2.1 M_167.2.2.2 39 (o_il 7 2) := ok_iload dX11_sameBytes_39
theorem k_167_41 : mOk M_167.1 M_167.2.1 M_167.2.2.1 M_167.2.2.2 41 (o_al 0 1) := ok_aload_n dX11_sameBytes_41 rfl
theorem k_167_42 : mOk M_167.1 M_167.2.1 M_167.2.2.1 M_167.2.2.2 42 (o_gP 11 24) := ok_gP dX11_sameBytes_42 f_RX11_69 rfl
theorem k_167_45 : mOk M_167.1 M_167.2.1 M_167.2.2.1 M_167.2.2.2 45 (o_il 5 2) := ok_iload dX11_sameBytes_45
theorem k_167_47 : mOk M_167.1 M_167.2.1 M_167.2.2.1 M_167.2.2.2 47 (o_iald) := ok_iald dX11_sameBytes_47
theorem k_167_48 : mOk M_167.1 M_167.2.1 M_167.2.2.1 M_167.2.2.2 48 (o_cge 104) := ok_cge dX11_sameBytes_48 (by decide)
theorem k_167_51 : mOk M_167.1 M_167.2.1 M_167.2.2.1 M_167.2.2.2 51 (o_al 0 1) := ok_aload_n dX11_sameBytes_51 rfl
theorem k_167_52 : mOk M_167.1 M_167.2.1 M_167.2.2.1 M_167.2.2.2 52 (o_gP 11 28) := ok_gP dX11_sameBytes_52 f_RX11_81 rfl
theorem k_167_55 : mOk M_167.1 M_167.2.1 M_167.2.2.1 M_167.2.2.2 55 (oS 3 (s_push (.int 5000))) := ok_sipush dX11_sameBytes_55 (by decide)
theorem k_167_58 : mOk M_167.1 M_167.2.1 M_167.2.2.1 M_167.2.2.2 58 (o_il 1 1) := ok_iload_n dX11_sameBytes_58 rfl
theorem k_167_59 : mOk M_167.1 M_167.2.1 M_167.2.2.1 M_167.2.2.2 59 (oS 1 (s_ii (fun a b => a * b))) := ok_imul dX11_sameBytes_59
theorem k_167_60 : mOk M_167.1 M_167.2.1 M_167.2.2.1 M_167.2.2.2 60 (o_al 0 1) := ok_aload_n dX11_sameBytes_60 rfl
theorem k_167_61 : mOk M_167.1 M_167.2.1 M_167.2.2.1 M_167.2.2.2 61 (o_gP 11 25) := ok_gP dX11_sameBytes_61 f_RX11_72 rfl
theorem k_167_64 : mOk M_167.1 M_167.2.1 M_167.2.2.1 M_167.2.2.2 64 (o_il 5 2) := ok_iload dX11_sameBytes_64
theorem k_167_66 : mOk M_167.1 M_167.2.1 M_167.2.2.1 M_167.2.2.2 66 (o_iald) := ok_iald dX11_sameBytes_66
theorem k_167_67 : mOk M_167.1 M_167.2.1 M_167.2.2.1 M_167.2.2.2 67 (oS 1 (s_ii (fun a b => a + b))) := ok_iadd dX11_sameBytes_67
theorem k_167_68 : mOk M_167.1 M_167.2.1 M_167.2.2.1 M_167.2.2.2 68 (o_il 7 2) := ok_iload dX11_sameBytes_68
theorem k_167_70 : mOk M_167.1 M_167.2.1 M_167.2.2.1 M_167.2.2.2 70 (oS 1 (s_ii (fun a b => a + b))) := ok_iadd dX11_sameBytes_70
theorem k_167_71 : mOk M_167.1 M_167.2.1 M_167.2.2.1 M_167.2.2.2 71 (o_bald) := ok_bald dX11_sameBytes_71
theorem k_167_72 : mOk M_167.1 M_167.2.1 M_167.2.2.1 M_167.2.2.2 72 (o_al 0 1) := ok_aload_n dX11_sameBytes_72 rfl
theorem k_167_73 : mOk M_167.1 M_167.2.1 M_167.2.2.1 M_167.2.2.2 73 (o_gP 11 28) := ok_gP dX11_sameBytes_73 f_RX11_81 rfl
theorem k_167_76 : mOk M_167.1 M_167.2.1 M_167.2.2.1 M_167.2.2.2 76 (oS 3 (s_push (.int 5000))) := ok_sipush dX11_sameBytes_76 (by decide)
theorem k_167_79 : mOk M_167.1 M_167.2.1 M_167.2.2.1 M_167.2.2.2 79 (o_il 3 1) := ok_iload_n dX11_sameBytes_79 rfl
theorem k_167_80 : mOk M_167.1 M_167.2.1 M_167.2.2.1 M_167.2.2.2 80 (oS 1 (s_ii (fun a b => a * b))) := ok_imul dX11_sameBytes_80
theorem k_167_81 : mOk M_167.1 M_167.2.1 M_167.2.2.1 M_167.2.2.2 81 (o_al 0 1) := ok_aload_n dX11_sameBytes_81 rfl
theorem k_167_82 : mOk M_167.1 M_167.2.1 M_167.2.2.1 M_167.2.2.2 82 (o_gP 11 25) := ok_gP dX11_sameBytes_82 f_RX11_72 rfl
theorem k_167_85 : mOk M_167.1 M_167.2.1 M_167.2.2.1 M_167.2.2.2 85 (o_il 6 2) := ok_iload dX11_sameBytes_85
theorem k_167_87 : mOk M_167.1 M_167.2.1 M_167.2.2.1 M_167.2.2.2 87 (o_iald) := ok_iald dX11_sameBytes_87
theorem k_167_88 : mOk M_167.1 M_167.2.1 M_167.2.2.1 M_167.2.2.2 88 (oS 1 (s_ii (fun a b => a + b))) := ok_iadd dX11_sameBytes_88
theorem k_167_89 : mOk M_167.1 M_167.2.1 M_167.2.2.1 M_167.2.2.2 89 (o_il 7 2) := ok_iload dX11_sameBytes_89
theorem k_167_91 : mOk M_167.1 M_167.2.1 M_167.2.2.1 M_167.2.2.2 91 (oS 1 (s_ii (fun a b => a + b))) := ok_iadd dX11_sameBytes_91
theorem k_167_92 : mOk M_167.1 M_167.2.1 M_167.2.2.1 M_167.2.2.2 92 (o_bald) := ok_bald dX11_sameBytes_92
theorem k_167_93 : mOk M_167.1 M_167.2.1 M_167.2.2.1 M_167.2.2.2 93 (o_ceq 98) := ok_ceq dX11_sameBytes_93 (by decide)
theorem k_167_96 : mOk M_167.1 M_167.2.1 M_167.2.2.1 M_167.2.2.2 96 (oS 1 (s_push (.int 0))) := ok_iconst dX11_sameBytes_96 (by decide)
theorem k_167_98 : mOk M_167.1 M_167.2.1 M_167.2.2.1 M_167.2.2.2 98 (o_inc 7 1) := ok_iinc dX11_sameBytes_98 (by decide)
theorem k_167_101 : mOk M_167.1 M_167.2.1 M_167.2.2.1 M_167.2.2.2 101 (o_goto 39) := ok_goto dX11_sameBytes_101 (by decide)
theorem k_167_104 : mOk M_167.1 M_167.2.1 M_167.2.2.1 M_167.2.2.2 104 (oS 1 (s_push (.int 1))) := ok_iconst dX11_sameBytes_104 (by decide)
set_option maxRecDepth 20000 in
set_option maxHeartbeats 4000000 in
theorem tk_167 (l : Launch) (H9 : mThr l) (H10 : mSpl l) (pc : Nat) (q : mEnt) (h : tb_167 pc = some q) : EE l 167 pc q := nd h (fun h => nd h (fun h => nd h (fun h => nd h (fun h => nd h (fun h => nd h (fun h => lf (P := EE l 167) h k_167_0) (fun h => lf (P := EE l 167) h k_167_2)) (fun h => nd h (fun h => lf (P := EE l 167) h k_167_3) (fun h => lf (P := EE l 167) h k_167_4))) (fun h => nd h (fun h => nd h (fun h => lf (P := EE l 167) h k_167_5) (fun h => lf (P := EE l 167) h k_167_6)) (fun h => nd h (fun h => lf (P := EE l 167) h k_167_8) (fun h => lf (P := EE l 167) h k_167_10)))) (fun h => nd h (fun h => nd h (fun h => nd h (fun h => lf (P := EE l 167) h k_167_11) (fun h => lf (P := EE l 167) h k_167_12)) (fun h => nd h (fun h => lf (P := EE l 167) h k_167_14) (fun h => lf (P := EE l 167) h k_167_15))) (fun h => nd h (fun h => nd h (fun h => lf (P := EE l 167) h k_167_17) (fun h => lf (P := EE l 167) h k_167_18)) (fun h => nd h (fun h => lf (P := EE l 167) h k_167_21) (fun h => lf (P := EE l 167) h k_167_23))))) (fun h => nd h (fun h => nd h (fun h => nd h (fun h => nd h (fun h => lf (P := EE l 167) h k_167_24) (fun h => lf (P := EE l 167) h k_167_25)) (fun h => nd h (fun h => lf (P := EE l 167) h k_167_28) (fun h => lf (P := EE l 167) h k_167_30))) (fun h => nd h (fun h => nd h (fun h => lf (P := EE l 167) h k_167_31) (fun h => lf (P := EE l 167) h k_167_34)) (fun h => nd h (fun h => lf (P := EE l 167) h (EE_re (Or.inr (Or.inl ⟨rfl, dX11_sameBytes_35, rfl⟩)))) (fun h => lf (P := EE l 167) h k_167_36)))) (fun h => nd h (fun h => nd h (fun h => nd h (fun h => lf (P := EE l 167) h k_167_37) (fun h => lf (P := EE l 167) h k_167_39)) (fun h => nd h (fun h => lf (P := EE l 167) h k_167_41) (fun h => lf (P := EE l 167) h k_167_42))) (fun h => nd h (fun h => nd h (fun h => lf (P := EE l 167) h k_167_45) (fun h => lf (P := EE l 167) h k_167_47)) (fun h => nd h (fun h => lf (P := EE l 167) h k_167_48) (fun h => lf (P := EE l 167) h k_167_51)))))) (fun h => nd h (fun h => nd h (fun h => nd h (fun h => nd h (fun h => nd h (fun h => lf (P := EE l 167) h k_167_52) (fun h => lf (P := EE l 167) h k_167_55)) (fun h => nd h (fun h => lf (P := EE l 167) h k_167_58) (fun h => lf (P := EE l 167) h k_167_59))) (fun h => nd h (fun h => nd h (fun h => lf (P := EE l 167) h k_167_60) (fun h => lf (P := EE l 167) h k_167_61)) (fun h => nd h (fun h => lf (P := EE l 167) h k_167_64) (fun h => lf (P := EE l 167) h k_167_66)))) (fun h => nd h (fun h => nd h (fun h => nd h (fun h => lf (P := EE l 167) h k_167_67) (fun h => lf (P := EE l 167) h k_167_68)) (fun h => nd h (fun h => lf (P := EE l 167) h k_167_70) (fun h => lf (P := EE l 167) h k_167_71))) (fun h => nd h (fun h => nd h (fun h => lf (P := EE l 167) h k_167_72) (fun h => lf (P := EE l 167) h k_167_73)) (fun h => nd h (fun h => lf (P := EE l 167) h k_167_76) (fun h => lf (P := EE l 167) h k_167_79))))) (fun h => nd h (fun h => nd h (fun h => nd h (fun h => nd h (fun h => lf (P := EE l 167) h k_167_80) (fun h => lf (P := EE l 167) h k_167_81)) (fun h => nd h (fun h => lf (P := EE l 167) h k_167_82) (fun h => lf (P := EE l 167) h k_167_85))) (fun h => nd h (fun h => nd h (fun h => lf (P := EE l 167) h k_167_87) (fun h => lf (P := EE l 167) h k_167_88)) (fun h => nd h (fun h => lf (P := EE l 167) h k_167_89) (fun h => lf (P := EE l 167) h k_167_91)))) (fun h => nd h (fun h => nd h (fun h => nd h (fun h => lf (P := EE l 167) h k_167_92) (fun h => lf (P := EE l 167) h k_167_93)) (fun h => nd h (fun h => lf (P := EE l 167) h k_167_96) (fun h => lf (P := EE l 167) h (EE_re (Or.inr (Or.inl ⟨rfl, dX11_sameBytes_97, rfl⟩)))))) (fun h => nd h (fun h => nd h (fun h => lf (P := EE l 167) h k_167_98) (fun h => lf (P := EE l 167) h k_167_101)) (fun h => nd h (fun h => lf (P := EE l 167) h k_167_104) (fun h => lf (P := EE l 167) h (EE_re (Or.inr (Or.inl ⟨rfl, dX11_sameBytes_105, rfl⟩)))))))))
theorem dX11_difference_0 : decode cX11_difference 0 = .ok (.aload_n 0, 1) := by decide +kernel
theorem dX11_difference_1 : decode cX11_difference 1 = .ok (.aload_n 0, 1) := by decide +kernel
theorem dX11_difference_2 : decode cX11_difference 2 = .ok (.iload_n 1, 1) := by decide +kernel
theorem dX11_difference_3 : decode cX11_difference 3 = .ok (.invokevirtual 260, 3) := by decide +kernel
theorem dX11_difference_6 : decode cX11_difference 6 = .ok (.iconst (-1), 1) := by decide +kernel
theorem dX11_difference_7 : decode cX11_difference 7 = .ok (.if_icmp .eq 12, 3) := by decide +kernel
theorem dX11_difference_10 : decode cX11_difference 10 = .ok (.aload_n 0, 1) := by decide +kernel
theorem dX11_difference_11 : decode cX11_difference 11 = .ok (.iload_n 2, 1) := by decide +kernel
theorem dX11_difference_12 : decode cX11_difference 12 = .ok (.invokevirtual 260, 3) := by decide +kernel
theorem dX11_difference_15 : decode cX11_difference 15 = .ok (.iconst (-1), 1) := by decide +kernel
theorem dX11_difference_16 : decode cX11_difference 16 = .ok (.if_icmp .ne 7, 3) := by decide +kernel
theorem dX11_difference_19 : decode cX11_difference 19 = .ok (.iconst 1, 1) := by decide +kernel
theorem dX11_difference_20 : decode cX11_difference 20 = .ok (.goto 15, 3) := by decide +kernel
theorem dX11_difference_23 : decode cX11_difference 23 = .ok (.aload_n 0, 1) := by decide +kernel
theorem dX11_difference_24 : decode cX11_difference 24 = .ok (.getfield 270, 3) := by decide +kernel
theorem dX11_difference_27 : decode cX11_difference 27 = .ok (.ifCond .ne 7, 3) := by decide +kernel
theorem dX11_difference_30 : decode cX11_difference 30 = .ok (.iconst 2, 1) := by decide +kernel
theorem dX11_difference_31 : decode cX11_difference 31 = .ok (.goto 4, 3) := by decide +kernel
theorem dX11_difference_34 : decode cX11_difference 34 = .ok (.iconst 0, 1) := by decide +kernel
theorem dX11_difference_35 : decode cX11_difference 35 = .ok (.putfield 133, 3) := by decide +kernel
theorem dX11_difference_38 : decode cX11_difference 38 = .ok (.aload_n 0, 1) := by decide +kernel
theorem dX11_difference_39 : decode cX11_difference 39 = .ok (.getfield 133, 3) := by decide +kernel
theorem dX11_difference_42 : decode cX11_difference 42 = .ok (.ifCond .eq 5, 3) := by decide +kernel
theorem dX11_difference_45 : decode cX11_difference 45 = .ok (.iconst 0, 1) := by decide +kernel
theorem dX11_difference_46 : decode cX11_difference 46 = .ok (.ireturn, 1) := by decide +kernel
theorem dX11_difference_47 : decode cX11_difference 47 = .ok (.aload_n 0, 1) := by decide +kernel
theorem dX11_difference_48 : decode cX11_difference 48 = .ok (.iconst 3, 1) := by decide +kernel
theorem dX11_difference_49 : decode cX11_difference 49 = .ok (.iload_n 1, 1) := by decide +kernel
theorem dX11_difference_50 : decode cX11_difference 50 = .ok (.invokevirtual 298, 3) := by decide +kernel
theorem dX11_difference_53 : decode cX11_difference 53 = .ok (.ifCond .eq 12, 3) := by decide +kernel
theorem dX11_difference_56 : decode cX11_difference 56 = .ok (.aload_n 0, 1) := by decide +kernel
theorem dX11_difference_57 : decode cX11_difference 57 = .ok (.iconst 4, 1) := by decide +kernel
theorem dX11_difference_58 : decode cX11_difference 58 = .ok (.iload_n 2, 1) := by decide +kernel
theorem dX11_difference_59 : decode cX11_difference 59 = .ok (.invokevirtual 298, 3) := by decide +kernel
theorem dX11_difference_62 : decode cX11_difference 62 = .ok (.ifCond .ne 10, 3) := by decide +kernel
theorem dX11_difference_65 : decode cX11_difference 65 = .ok (.aload_n 0, 1) := by decide +kernel
theorem dX11_difference_66 : decode cX11_difference 66 = .ok (.iconst 2, 1) := by decide +kernel
theorem dX11_difference_67 : decode cX11_difference 67 = .ok (.putfield 133, 3) := by decide +kernel
theorem dX11_difference_70 : decode cX11_difference 70 = .ok (.iconst 0, 1) := by decide +kernel
theorem dX11_difference_71 : decode cX11_difference 71 = .ok (.ireturn, 1) := by decide +kernel
theorem dX11_difference_72 : decode cX11_difference 72 = .ok (.aload_n 0, 1) := by decide +kernel
theorem dX11_difference_73 : decode cX11_difference 73 = .ok (.iconst 3, 1) := by decide +kernel
theorem dX11_difference_74 : decode cX11_difference 74 = .ok (.iconst 1, 1) := by decide +kernel
theorem dX11_difference_75 : decode cX11_difference 75 = .ok (.invokevirtual 302, 3) := by decide +kernel
theorem dX11_difference_78 : decode cX11_difference 78 = .ok (.aload_n 0, 1) := by decide +kernel
theorem dX11_difference_79 : decode cX11_difference 79 = .ok (.iconst 4, 1) := by decide +kernel
theorem dX11_difference_80 : decode cX11_difference 80 = .ok (.iconst 2, 1) := by decide +kernel
theorem dX11_difference_81 : decode cX11_difference 81 = .ok (.invokevirtual 302, 3) := by decide +kernel
theorem dX11_difference_84 : decode cX11_difference 84 = .ok (.aload_n 0, 1) := by decide +kernel
theorem dX11_difference_85 : decode cX11_difference 85 = .ok (.iconst 1, 1) := by decide +kernel
theorem dX11_difference_86 : decode cX11_difference 86 = .ok (.putfield 274, 3) := by decide +kernel
theorem dX11_difference_89 : decode cX11_difference 89 = .ok (.aload_n 0, 1) := by decide +kernel
theorem dX11_difference_90 : decode cX11_difference 90 = .ok (.iconst (-1), 1) := by decide +kernel
theorem dX11_difference_91 : decode cX11_difference 91 = .ok (.invokevirtual 309, 3) := by decide +kernel
theorem dX11_difference_94 : decode cX11_difference 94 = .ok (.ireturn, 1) := by decide +kernel
def tb_168 (pc : Nat) : Option mEnt := bif Nat.ble pc 48 then (bif Nat.ble pc 20 then (bif Nat.ble pc 7 then (bif Nat.ble pc 2 then (bif Nat.ble pc 0 then (bif Nat.beq pc 0 then some (.inl (o_al 0 1)) else none) else (bif Nat.ble pc 1 then (bif Nat.beq pc 1 then some (.inl (o_al 0 1)) else none) else (bif Nat.beq pc 2 then some (.inl (o_il 1 1)) else none))) else (bif Nat.ble pc 3 then (bif Nat.beq pc 3 then some (.inr (3, 130, 2, 11)) else none) else (bif Nat.ble pc 6 then (bif Nat.beq pc 6 then some (.inl (oS 1 (s_push (.int (-1))))) else none) else (bif Nat.beq pc 7 then some (.inl (o_ceq 19)) else none)))) else (bif Nat.ble pc 12 then (bif Nat.ble pc 10 then (bif Nat.beq pc 10 then some (.inl (o_al 0 1)) else none) else (bif Nat.ble pc 11 then (bif Nat.beq pc 11 then some (.inl (o_il 2 1)) else none) else (bif Nat.beq pc 12 then some (.inr (3, 130, 2, 11)) else none))) else (bif Nat.ble pc 16 then (bif Nat.ble pc 15 then (bif Nat.beq pc 15 then some (.inl (oS 1 (s_push (.int (-1))))) else none) else (bif Nat.beq pc 16 then some (.inl (o_cne 23)) else none)) else (bif Nat.ble pc 19 then (bif Nat.beq pc 19 then some (.inl (oS 1 (s_push (.int 1)))) else none) else (bif Nat.beq pc 20 then some (.inl (o_goto 35)) else none))))) else (bif Nat.ble pc 35 then (bif Nat.ble pc 27 then (bif Nat.ble pc 23 then (bif Nat.beq pc 23 then some (.inl (o_al 0 1)) else none) else (bif Nat.ble pc 24 then (bif Nat.beq pc 24 then some (.inl (o_gI 11 15)) else none) else (bif Nat.beq pc 27 then some (.inl (o_zne 34)) else none))) else (bif Nat.ble pc 31 then (bif Nat.ble pc 30 then (bif Nat.beq pc 30 then some (.inl (oS 1 (s_push (.int 2)))) else none) else (bif Nat.beq pc 31 then some (.inl (o_goto 35)) else none)) else (bif Nat.ble pc 34 then (bif Nat.beq pc 34 then some (.inl (oS 1 (s_push (.int 0)))) else none) else (bif Nat.beq pc 35 then some (.inl (o_pI 11 13)) else none)))) else (bif Nat.ble pc 42 then (bif Nat.ble pc 38 then (bif Nat.beq pc 38 then some (.inl (o_al 0 1)) else none) else (bif Nat.ble pc 39 then (bif Nat.beq pc 39 then some (.inl (o_gI 11 13)) else none) else (bif Nat.beq pc 42 then some (.inl (o_zeq 47)) else none))) else (bif Nat.ble pc 46 then (bif Nat.ble pc 45 then (bif Nat.beq pc 45 then some (.inl (oS 1 (s_push (.int 0)))) else none) else (bif Nat.beq pc 46 then some (.inr (0, 0, 0, 0)) else none)) else (bif Nat.ble pc 47 then (bif Nat.beq pc 47 then some (.inl (o_al 0 1)) else none) else (bif Nat.beq pc 48 then some (.inl (oS 1 (s_push (.int 3)))) else none)))))) else (bif Nat.ble pc 72 then (bif Nat.ble pc 59 then (bif Nat.ble pc 53 then (bif Nat.ble pc 49 then (bif Nat.beq pc 49 then some (.inl (o_il 1 1)) else none) else (bif Nat.ble pc 50 then (bif Nat.beq pc 50 then some (.inr (3, 160, 3, 11)) else none) else (bif Nat.beq pc 53 then some (.inl (o_zeq 65)) else none))) else (bif Nat.ble pc 57 then (bif Nat.ble pc 56 then (bif Nat.beq pc 56 then some (.inl (o_al 0 1)) else none) else (bif Nat.beq pc 57 then some (.inl (oS 1 (s_push (.int 4)))) else none)) else (bif Nat.ble pc 58 then (bif Nat.beq pc 58 then some (.inl (o_il 2 1)) else none) else (bif Nat.beq pc 59 then some (.inr (3, 160, 3, 11)) else none)))) else (bif Nat.ble pc 66 then (bif Nat.ble pc 62 then (bif Nat.beq pc 62 then some (.inl (o_zne 72)) else none) else (bif Nat.ble pc 65 then (bif Nat.beq pc 65 then some (.inl (o_al 0 1)) else none) else (bif Nat.beq pc 66 then some (.inl (oS 1 (s_push (.int 2)))) else none))) else (bif Nat.ble pc 70 then (bif Nat.ble pc 67 then (bif Nat.beq pc 67 then some (.inl (o_pI 11 13)) else none) else (bif Nat.beq pc 70 then some (.inl (oS 1 (s_push (.int 0)))) else none)) else (bif Nat.ble pc 71 then (bif Nat.beq pc 71 then some (.inr (0, 0, 0, 0)) else none) else (bif Nat.beq pc 72 then some (.inl (o_al 0 1)) else none))))) else (bif Nat.ble pc 81 then (bif Nat.ble pc 75 then (bif Nat.ble pc 73 then (bif Nat.beq pc 73 then some (.inl (oS 1 (s_push (.int 3)))) else none) else (bif Nat.ble pc 74 then (bif Nat.beq pc 74 then some (.inl (oS 1 (s_push (.int 1)))) else none) else (bif Nat.beq pc 75 then some (.inr (3, 161, 3, 11)) else none))) else (bif Nat.ble pc 79 then (bif Nat.ble pc 78 then (bif Nat.beq pc 78 then some (.inl (o_al 0 1)) else none) else (bif Nat.beq pc 79 then some (.inl (oS 1 (s_push (.int 4)))) else none)) else (bif Nat.ble pc 80 then (bif Nat.beq pc 80 then some (.inl (oS 1 (s_push (.int 2)))) else none) else (bif Nat.beq pc 81 then some (.inr (3, 161, 3, 11)) else none)))) else (bif Nat.ble pc 86 then (bif Nat.ble pc 84 then (bif Nat.beq pc 84 then some (.inl (o_al 0 1)) else none) else (bif Nat.ble pc 85 then (bif Nat.beq pc 85 then some (.inl (oS 1 (s_push (.int 1)))) else none) else (bif Nat.beq pc 86 then some (.inl (o_pZ 11 16)) else none))) else (bif Nat.ble pc 90 then (bif Nat.ble pc 89 then (bif Nat.beq pc 89 then some (.inl (o_al 0 1)) else none) else (bif Nat.beq pc 90 then some (.inl (oS 1 (s_push (.int (-1))))) else none)) else (bif Nat.ble pc 91 then (bif Nat.beq pc 91 then some (.inr (3, 170, 2, 11)) else none) else (bif Nat.beq pc 94 then some (.inr (0, 0, 0, 0)) else none))))))
theorem k_168_0 : mOk M_168.1 M_168.2.1 M_168.2.2.1 M_168.2.2.2 0 (o_al 0 1) := ok_aload_n dX11_difference_0 rfl
theorem k_168_1 : mOk M_168.1 M_168.2.1 M_168.2.2.1 M_168.2.2.2 1 (o_al 0 1) := ok_aload_n dX11_difference_1 rfl
theorem k_168_2 : mOk M_168.1 M_168.2.1 M_168.2.2.1 M_168.2.2.2 2 (o_il 1 1) := ok_iload_n dX11_difference_2 rfl
theorem k_168_6 : mOk M_168.1 M_168.2.1 M_168.2.2.1 M_168.2.2.2 6 (oS 1 (s_push (.int (-1)))) := ok_iconst dX11_difference_6 (by decide)
theorem k_168_7 : mOk M_168.1 M_168.2.1 M_168.2.2.1 M_168.2.2.2 7 (o_ceq 19) := ok_ceq dX11_difference_7 (by decide)
theorem k_168_10 : mOk M_168.1 M_168.2.1 M_168.2.2.1 M_168.2.2.2 10 (o_al 0 1) := ok_aload_n dX11_difference_10 rfl
theorem k_168_11 : mOk M_168.1 M_168.2.1 M_168.2.2.1 M_168.2.2.2 11 (o_il 2 1) := ok_iload_n dX11_difference_11 rfl
theorem k_168_15 : mOk M_168.1 M_168.2.1 M_168.2.2.1 M_168.2.2.2 15 (oS 1 (s_push (.int (-1)))) := ok_iconst dX11_difference_15 (by decide)
theorem k_168_16 : mOk M_168.1 M_168.2.1 M_168.2.2.1 M_168.2.2.2 16 (o_cne 23) := ok_cne dX11_difference_16 (by decide)
theorem k_168_19 : mOk M_168.1 M_168.2.1 M_168.2.2.1 M_168.2.2.2 19 (oS 1 (s_push (.int 1))) := ok_iconst dX11_difference_19 (by decide)
theorem k_168_20 : mOk M_168.1 M_168.2.1 M_168.2.2.1 M_168.2.2.2 20 (o_goto 35) := ok_goto dX11_difference_20 (by decide)
theorem k_168_23 : mOk M_168.1 M_168.2.1 M_168.2.2.1 M_168.2.2.2 23 (o_al 0 1) := ok_aload_n dX11_difference_23 rfl
theorem k_168_24 : mOk M_168.1 M_168.2.1 M_168.2.2.1 M_168.2.2.2 24 (o_gI 11 15) := ok_gI dX11_difference_24 f_RX11_270 (Or.inr rfl)
theorem k_168_27 : mOk M_168.1 M_168.2.1 M_168.2.2.1 M_168.2.2.2 27 (o_zne 34) := ok_zne dX11_difference_27 (by decide)
theorem k_168_30 : mOk M_168.1 M_168.2.1 M_168.2.2.1 M_168.2.2.2 30 (oS 1 (s_push (.int 2))) := ok_iconst dX11_difference_30 (by decide)
theorem k_168_31 : mOk M_168.1 M_168.2.1 M_168.2.2.1 M_168.2.2.2 31 (o_goto 35) := ok_goto dX11_difference_31 (by decide)
theorem k_168_34 : mOk M_168.1 M_168.2.1 M_168.2.2.1 M_168.2.2.2 34 (oS 1 (s_push (.int 0))) := ok_iconst dX11_difference_34 (by decide)
theorem k_168_35 : mOk M_168.1 M_168.2.1 M_168.2.2.1 M_168.2.2.2 35 (o_pI 11 13) := ok_pI dX11_difference_35 (mFw_of f_RX11_133_c (Or.inl rfl)) rfl
theorem k_168_38 : mOk M_168.1 M_168.2.1 M_168.2.2.1 M_168.2.2.2 38 (o_al 0 1) := ok_aload_n dX11_difference_38 rfl
theorem k_168_39 : mOk M_168.1 M_168.2.1 M_168.2.2.1 M_168.2.2.2 39 (o_gI 11 13) := ok_gI dX11_difference_39 f_RX11_133 (Or.inl rfl)
theorem k_168_42 : mOk M_168.1 M_168.2.1 M_168.2.2.1 M_168.2.2.2 42 (o_zeq 47) := ok_zeq dX11_difference_42 (by decide)
theorem k_168_45 : mOk M_168.1 M_168.2.1 M_168.2.2.1 M_168.2.2.2 45 (oS 1 (s_push (.int 0))) := ok_iconst dX11_difference_45 (by decide)
theorem k_168_47 : mOk M_168.1 M_168.2.1 M_168.2.2.1 M_168.2.2.2 47 (o_al 0 1) := ok_aload_n dX11_difference_47 rfl
theorem k_168_48 : mOk M_168.1 M_168.2.1 M_168.2.2.1 M_168.2.2.2 48 (oS 1 (s_push (.int 3))) := ok_iconst dX11_difference_48 (by decide)
theorem k_168_49 : mOk M_168.1 M_168.2.1 M_168.2.2.1 M_168.2.2.2 49 (o_il 1 1) := ok_iload_n dX11_difference_49 rfl
theorem k_168_53 : mOk M_168.1 M_168.2.1 M_168.2.2.1 M_168.2.2.2 53 (o_zeq 65) := ok_zeq dX11_difference_53 (by decide)
theorem k_168_56 : mOk M_168.1 M_168.2.1 M_168.2.2.1 M_168.2.2.2 56 (o_al 0 1) := ok_aload_n dX11_difference_56 rfl
theorem k_168_57 : mOk M_168.1 M_168.2.1 M_168.2.2.1 M_168.2.2.2 57 (oS 1 (s_push (.int 4))) := ok_iconst dX11_difference_57 (by decide)
theorem k_168_58 : mOk M_168.1 M_168.2.1 M_168.2.2.1 M_168.2.2.2 58 (o_il 2 1) := ok_iload_n dX11_difference_58 rfl
theorem k_168_62 : mOk M_168.1 M_168.2.1 M_168.2.2.1 M_168.2.2.2 62 (o_zne 72) := ok_zne dX11_difference_62 (by decide)
theorem k_168_65 : mOk M_168.1 M_168.2.1 M_168.2.2.1 M_168.2.2.2 65 (o_al 0 1) := ok_aload_n dX11_difference_65 rfl
theorem k_168_66 : mOk M_168.1 M_168.2.1 M_168.2.2.1 M_168.2.2.2 66 (oS 1 (s_push (.int 2))) := ok_iconst dX11_difference_66 (by decide)
theorem k_168_67 : mOk M_168.1 M_168.2.1 M_168.2.2.1 M_168.2.2.2 67 (o_pI 11 13) := ok_pI dX11_difference_67 (mFw_of f_RX11_133_c (Or.inl rfl)) rfl
theorem k_168_70 : mOk M_168.1 M_168.2.1 M_168.2.2.1 M_168.2.2.2 70 (oS 1 (s_push (.int 0))) := ok_iconst dX11_difference_70 (by decide)
theorem k_168_72 : mOk M_168.1 M_168.2.1 M_168.2.2.1 M_168.2.2.2 72 (o_al 0 1) := ok_aload_n dX11_difference_72 rfl
theorem k_168_73 : mOk M_168.1 M_168.2.1 M_168.2.2.1 M_168.2.2.2 73 (oS 1 (s_push (.int 3))) := ok_iconst dX11_difference_73 (by decide)
theorem k_168_74 : mOk M_168.1 M_168.2.1 M_168.2.2.1 M_168.2.2.2 74 (oS 1 (s_push (.int 1))) := ok_iconst dX11_difference_74 (by decide)
theorem k_168_78 : mOk M_168.1 M_168.2.1 M_168.2.2.1 M_168.2.2.2 78 (o_al 0 1) := ok_aload_n dX11_difference_78 rfl
theorem k_168_79 : mOk M_168.1 M_168.2.1 M_168.2.2.1 M_168.2.2.2 79 (oS 1 (s_push (.int 4))) := ok_iconst dX11_difference_79 (by decide)
theorem k_168_80 : mOk M_168.1 M_168.2.1 M_168.2.2.1 M_168.2.2.2 80 (oS 1 (s_push (.int 2))) := ok_iconst dX11_difference_80 (by decide)
theorem k_168_84 : mOk M_168.1 M_168.2.1 M_168.2.2.1 M_168.2.2.2 84 (o_al 0 1) := ok_aload_n dX11_difference_84 rfl
theorem k_168_85 : mOk M_168.1 M_168.2.1 M_168.2.2.1 M_168.2.2.2 85 (oS 1 (s_push (.int 1))) := ok_iconst dX11_difference_85 (by decide)
theorem k_168_86 : mOk M_168.1 M_168.2.1 M_168.2.2.1 M_168.2.2.2 86 (o_pZ 11 16) := ok_pZ dX11_difference_86 (mFw_of f_RX11_274_c (Or.inl rfl)) rfl
theorem k_168_89 : mOk M_168.1 M_168.2.1 M_168.2.2.1 M_168.2.2.2 89 (o_al 0 1) := ok_aload_n dX11_difference_89 rfl
theorem k_168_90 : mOk M_168.1 M_168.2.1 M_168.2.2.1 M_168.2.2.2 90 (oS 1 (s_push (.int (-1)))) := ok_iconst dX11_difference_90 (by decide)
set_option maxRecDepth 20000 in
set_option maxHeartbeats 4000000 in
theorem tk_168 (l : Launch) (H9 : mThr l) (H10 : mSpl l) (pc : Nat) (q : mEnt) (h : tb_168 pc = some q) : EE l 168 pc q := nd h (fun h => nd h (fun h => nd h (fun h => nd h (fun h => nd h (fun h => lf (P := EE l 168) h k_168_0) (fun h => nd h (fun h => lf (P := EE l 168) h k_168_1) (fun h => lf (P := EE l 168) h k_168_2))) (fun h => nd h (fun h => lf (P := EE l 168) h (EE_ca (by decide) (⟨m_1276, m_81, ⟨by decide, by decide⟩, by decide +kernel, ⟨by decide, by decide⟩, 260, 1, by decide +kernel, Or.inr (Or.inr (Or.inl ⟨rfl, rfl, dX11_difference_3, m_1273, m_1275, _, rfl, by decide, m_36⟩))⟩) rfl)) (fun h => nd h (fun h => lf (P := EE l 168) h k_168_6) (fun h => lf (P := EE l 168) h k_168_7)))) (fun h => nd h (fun h => nd h (fun h => lf (P := EE l 168) h k_168_10) (fun h => nd h (fun h => lf (P := EE l 168) h k_168_11) (fun h => lf (P := EE l 168) h (EE_ca (by decide) (⟨m_1276, m_81, ⟨by decide, by decide⟩, by decide +kernel, ⟨by decide, by decide⟩, 260, 1, by decide +kernel, Or.inr (Or.inr (Or.inl ⟨rfl, rfl, dX11_difference_12, m_1273, m_1275, _, rfl, by decide, m_36⟩))⟩) rfl)))) (fun h => nd h (fun h => nd h (fun h => lf (P := EE l 168) h k_168_15) (fun h => lf (P := EE l 168) h k_168_16)) (fun h => nd h (fun h => lf (P := EE l 168) h k_168_19) (fun h => lf (P := EE l 168) h k_168_20))))) (fun h => nd h (fun h => nd h (fun h => nd h (fun h => lf (P := EE l 168) h k_168_23) (fun h => nd h (fun h => lf (P := EE l 168) h k_168_24) (fun h => lf (P := EE l 168) h k_168_27))) (fun h => nd h (fun h => nd h (fun h => lf (P := EE l 168) h k_168_30) (fun h => lf (P := EE l 168) h k_168_31)) (fun h => nd h (fun h => lf (P := EE l 168) h k_168_34) (fun h => lf (P := EE l 168) h k_168_35)))) (fun h => nd h (fun h => nd h (fun h => lf (P := EE l 168) h k_168_38) (fun h => nd h (fun h => lf (P := EE l 168) h k_168_39) (fun h => lf (P := EE l 168) h k_168_42))) (fun h => nd h (fun h => nd h (fun h => lf (P := EE l 168) h k_168_45) (fun h => lf (P := EE l 168) h (EE_re (Or.inl ⟨rfl, dX11_difference_46, rfl⟩)))) (fun h => nd h (fun h => lf (P := EE l 168) h k_168_47) (fun h => lf (P := EE l 168) h k_168_48)))))) (fun h => nd h (fun h => nd h (fun h => nd h (fun h => nd h (fun h => lf (P := EE l 168) h k_168_49) (fun h => nd h (fun h => lf (P := EE l 168) h (EE_ca (by decide) (⟨m_1368, m_81, ⟨by decide, by decide⟩, by decide +kernel, ⟨by decide, by decide⟩, 298, 2, by decide +kernel, Or.inr (Or.inr (Or.inl ⟨rfl, rfl, dX11_difference_50, m_1365, m_1367, _, rfl, by decide, m_54⟩))⟩) rfl)) (fun h => lf (P := EE l 168) h k_168_53))) (fun h => nd h (fun h => nd h (fun h => lf (P := EE l 168) h k_168_56) (fun h => lf (P := EE l 168) h k_168_57)) (fun h => nd h (fun h => lf (P := EE l 168) h k_168_58) (fun h => lf (P := EE l 168) h (EE_ca (by decide) (⟨m_1368, m_81, ⟨by decide, by decide⟩, by decide +kernel, ⟨by decide, by decide⟩, 298, 2, by decide +kernel, Or.inr (Or.inr (Or.inl ⟨rfl, rfl, dX11_difference_59, m_1365, m_1367, _, rfl, by decide, m_54⟩))⟩) rfl))))) (fun h => nd h (fun h => nd h (fun h => lf (P := EE l 168) h k_168_62) (fun h => nd h (fun h => lf (P := EE l 168) h k_168_65) (fun h => lf (P := EE l 168) h k_168_66))) (fun h => nd h (fun h => nd h (fun h => lf (P := EE l 168) h k_168_67) (fun h => lf (P := EE l 168) h k_168_70)) (fun h => nd h (fun h => lf (P := EE l 168) h (EE_re (Or.inl ⟨rfl, dX11_difference_71, rfl⟩))) (fun h => lf (P := EE l 168) h k_168_72))))) (fun h => nd h (fun h => nd h (fun h => nd h (fun h => lf (P := EE l 168) h k_168_73) (fun h => nd h (fun h => lf (P := EE l 168) h k_168_74) (fun h => lf (P := EE l 168) h (EE_ca (by decide) (⟨m_1400, m_81, ⟨by decide, by decide⟩, by decide +kernel, ⟨by decide, by decide⟩, 302, 2, by decide +kernel, Or.inr (Or.inr (Or.inl ⟨rfl, rfl, dX11_difference_75, m_1397, m_1399, _, rfl, by decide, m_62⟩))⟩) rfl)))) (fun h => nd h (fun h => nd h (fun h => lf (P := EE l 168) h k_168_78) (fun h => lf (P := EE l 168) h k_168_79)) (fun h => nd h (fun h => lf (P := EE l 168) h k_168_80) (fun h => lf (P := EE l 168) h (EE_ca (by decide) (⟨m_1400, m_81, ⟨by decide, by decide⟩, by decide +kernel, ⟨by decide, by decide⟩, 302, 2, by decide +kernel, Or.inr (Or.inr (Or.inl ⟨rfl, rfl, dX11_difference_81, m_1397, m_1399, _, rfl, by decide, m_62⟩))⟩) rfl))))) (fun h => nd h (fun h => nd h (fun h => lf (P := EE l 168) h k_168_84) (fun h => nd h (fun h => lf (P := EE l 168) h k_168_85) (fun h => lf (P := EE l 168) h k_168_86))) (fun h => nd h (fun h => nd h (fun h => lf (P := EE l 168) h k_168_89) (fun h => lf (P := EE l 168) h k_168_90)) (fun h => nd h (fun h => lf (P := EE l 168) h (EE_ca (by decide) (⟨m_1424, m_81, ⟨by decide, by decide⟩, by decide +kernel, ⟨by decide, by decide⟩, 309, 1, by decide +kernel, Or.inr (Or.inr (Or.inl ⟨rfl, rfl, dX11_difference_91, m_1421, m_1423, _, rfl, by decide, m_64⟩))⟩) rfl)) (fun h => lf (P := EE l 168) h (EE_re (Or.inl ⟨rfl, dX11_difference_94, rfl⟩))))))))
theorem dX11_ahead_0 : decode cX11_ahead 0 = .ok (.bipush 100, 2) := by decide +kernel
theorem dX11_ahead_2 : decode cX11_ahead 2 = .ok (.iload_n 1, 1) := by decide +kernel
theorem dX11_ahead_3 : decode cX11_ahead 3 = .ok (.imul, 1) := by decide +kernel
theorem dX11_ahead_4 : decode cX11_ahead 4 = .ok (.iload_n 2, 1) := by decide +kernel
theorem dX11_ahead_5 : decode cX11_ahead 5 = .ok (.iadd, 1) := by decide +kernel
theorem dX11_ahead_6 : decode cX11_ahead 6 = .ok (.istore 5, 2) := by decide +kernel
theorem dX11_ahead_8 : decode cX11_ahead 8 = .ok (.bipush 100, 2) := by decide +kernel
theorem dX11_ahead_10 : decode cX11_ahead 10 = .ok (.iload_n 3, 1) := by decide +kernel
theorem dX11_ahead_11 : decode cX11_ahead 11 = .ok (.imul, 1) := by decide +kernel
theorem dX11_ahead_12 : decode cX11_ahead 12 = .ok (.iload 4, 2) := by decide +kernel
theorem dX11_ahead_14 : decode cX11_ahead 14 = .ok (.iadd, 1) := by decide +kernel
theorem dX11_ahead_15 : decode cX11_ahead 15 = .ok (.istore 6, 2) := by decide +kernel
theorem dX11_ahead_17 : decode cX11_ahead 17 = .ok (.aload_n 0, 1) := by decide +kernel
theorem dX11_ahead_18 : decode cX11_ahead 18 = .ok (.getfield 60, 3) := by decide +kernel
theorem dX11_ahead_21 : decode cX11_ahead 21 = .ok (.iload 5, 2) := by decide +kernel
theorem dX11_ahead_23 : decode cX11_ahead 23 = .ok (.iaload, 1) := by decide +kernel
theorem dX11_ahead_24 : decode cX11_ahead 24 = .ok (.aload_n 0, 1) := by decide +kernel
theorem dX11_ahead_25 : decode cX11_ahead 25 = .ok (.getfield 60, 3) := by decide +kernel
theorem dX11_ahead_28 : decode cX11_ahead 28 = .ok (.iload 6, 2) := by decide +kernel
theorem dX11_ahead_30 : decode cX11_ahead 30 = .ok (.iaload, 1) := by decide +kernel
theorem dX11_ahead_31 : decode cX11_ahead 31 = .ok (.if_icmp .eq 26, 3) := by decide +kernel
theorem dX11_ahead_34 : decode cX11_ahead 34 = .ok (.aload_n 0, 1) := by decide +kernel
theorem dX11_ahead_35 : decode cX11_ahead 35 = .ok (.getfield 60, 3) := by decide +kernel
theorem dX11_ahead_38 : decode cX11_ahead 38 = .ok (.iload 5, 2) := by decide +kernel
theorem dX11_ahead_40 : decode cX11_ahead 40 = .ok (.iaload, 1) := by decide +kernel
theorem dX11_ahead_41 : decode cX11_ahead 41 = .ok (.aload_n 0, 1) := by decide +kernel
theorem dX11_ahead_42 : decode cX11_ahead 42 = .ok (.getfield 60, 3) := by decide +kernel
theorem dX11_ahead_45 : decode cX11_ahead 45 = .ok (.iload 6, 2) := by decide +kernel
theorem dX11_ahead_47 : decode cX11_ahead 47 = .ok (.iaload, 1) := by decide +kernel
theorem dX11_ahead_48 : decode cX11_ahead 48 = .ok (.if_icmp .ge 7, 3) := by decide +kernel
theorem dX11_ahead_51 : decode cX11_ahead 51 = .ok (.iconst 1, 1) := by decide +kernel
theorem dX11_ahead_52 : decode cX11_ahead 52 = .ok (.goto 4, 3) := by decide +kernel
theorem dX11_ahead_55 : decode cX11_ahead 55 = .ok (.iconst 0, 1) := by decide +kernel
theorem dX11_ahead_56 : decode cX11_ahead 56 = .ok (.ireturn, 1) := by decide +kernel
theorem dX11_ahead_57 : decode cX11_ahead 57 = .ok (.iconst 4, 1) := by decide +kernel
theorem dX11_ahead_58 : decode cX11_ahead 58 = .ok (.istore 7, 2) := by decide +kernel
theorem dX11_ahead_60 : decode cX11_ahead 60 = .ok (.iload 7, 2) := by decide +kernel
theorem dX11_ahead_62 : decode cX11_ahead 62 = .ok (.ifCond .lt 87, 3) := by decide +kernel
theorem dX11_ahead_65 : decode cX11_ahead 65 = .ok (.aload_n 0, 1) := by decide +kernel
theorem dX11_ahead_66 : decode cX11_ahead 66 = .ok (.getfield 66, 3) := by decide +kernel
theorem dX11_ahead_69 : decode cX11_ahead 69 = .ok (.iload 5, 2) := by decide +kernel
theorem dX11_ahead_71 : decode cX11_ahead 71 = .ok (.iaload, 1) := by decide +kernel
theorem dX11_ahead_72 : decode cX11_ahead 72 = .ok (.iload 7, 2) := by decide +kernel
theorem dX11_ahead_74 : decode cX11_ahead 74 = .ok (.ishr, 1) := by decide +kernel
theorem dX11_ahead_75 : decode cX11_ahead 75 = .ok (.iconst 1, 1) := by decide +kernel
theorem dX11_ahead_76 : decode cX11_ahead 76 = .ok (.iand, 1) := by decide +kernel
theorem dX11_ahead_77 : decode cX11_ahead 77 = .ok (.iconst 2, 1) := by decide +kernel
theorem dX11_ahead_78 : decode cX11_ahead 78 = .ok (.imul, 1) := by decide +kernel
theorem dX11_ahead_79 : decode cX11_ahead 79 = .ok (.aload_n 0, 1) := by decide +kernel
theorem dX11_ahead_80 : decode cX11_ahead 80 = .ok (.getfield 63, 3) := by decide +kernel
theorem dX11_ahead_83 : decode cX11_ahead 83 = .ok (.iload 5, 2) := by decide +kernel
theorem dX11_ahead_85 : decode cX11_ahead 85 = .ok (.iaload, 1) := by decide +kernel
theorem dX11_ahead_86 : decode cX11_ahead 86 = .ok (.iload 7, 2) := by decide +kernel
theorem dX11_ahead_88 : decode cX11_ahead 88 = .ok (.ishr, 1) := by decide +kernel
theorem dX11_ahead_89 : decode cX11_ahead 89 = .ok (.iconst 1, 1) := by decide +kernel
theorem dX11_ahead_90 : decode cX11_ahead 90 = .ok (.iand, 1) := by decide +kernel
theorem dX11_ahead_91 : decode cX11_ahead 91 = .ok (.iadd, 1) := by decide +kernel
theorem dX11_ahead_92 : decode cX11_ahead 92 = .ok (.istore 8, 2) := by decide +kernel
theorem dX11_ahead_94 : decode cX11_ahead 94 = .ok (.aload_n 0, 1) := by decide +kernel
theorem dX11_ahead_95 : decode cX11_ahead 95 = .ok (.getfield 66, 3) := by decide +kernel
theorem dX11_ahead_98 : decode cX11_ahead 98 = .ok (.iload 6, 2) := by decide +kernel
theorem dX11_ahead_100 : decode cX11_ahead 100 = .ok (.iaload, 1) := by decide +kernel
theorem dX11_ahead_101 : decode cX11_ahead 101 = .ok (.iload 7, 2) := by decide +kernel
theorem dX11_ahead_103 : decode cX11_ahead 103 = .ok (.ishr, 1) := by decide +kernel
theorem dX11_ahead_104 : decode cX11_ahead 104 = .ok (.iconst 1, 1) := by decide +kernel
theorem dX11_ahead_105 : decode cX11_ahead 105 = .ok (.iand, 1) := by decide +kernel
theorem dX11_ahead_106 : decode cX11_ahead 106 = .ok (.iconst 2, 1) := by decide +kernel
theorem dX11_ahead_107 : decode cX11_ahead 107 = .ok (.imul, 1) := by decide +kernel
theorem dX11_ahead_108 : decode cX11_ahead 108 = .ok (.aload_n 0, 1) := by decide +kernel
theorem dX11_ahead_109 : decode cX11_ahead 109 = .ok (.getfield 63, 3) := by decide +kernel
theorem dX11_ahead_112 : decode cX11_ahead 112 = .ok (.iload 6, 2) := by decide +kernel
theorem dX11_ahead_114 : decode cX11_ahead 114 = .ok (.iaload, 1) := by decide +kernel
theorem dX11_ahead_115 : decode cX11_ahead 115 = .ok (.iload 7, 2) := by decide +kernel
theorem dX11_ahead_117 : decode cX11_ahead 117 = .ok (.ishr, 1) := by decide +kernel
theorem dX11_ahead_118 : decode cX11_ahead 118 = .ok (.iconst 1, 1) := by decide +kernel
theorem dX11_ahead_119 : decode cX11_ahead 119 = .ok (.iand, 1) := by decide +kernel
theorem dX11_ahead_120 : decode cX11_ahead 120 = .ok (.iadd, 1) := by decide +kernel
theorem dX11_ahead_121 : decode cX11_ahead 121 = .ok (.istore 9, 2) := by decide +kernel
theorem dX11_ahead_123 : decode cX11_ahead 123 = .ok (.iload 8, 2) := by decide +kernel
theorem dX11_ahead_125 : decode cX11_ahead 125 = .ok (.iload 9, 2) := by decide +kernel
theorem dX11_ahead_127 : decode cX11_ahead 127 = .ok (.if_icmp .eq 16, 3) := by decide +kernel
theorem dX11_ahead_130 : decode cX11_ahead 130 = .ok (.iload 8, 2) := by decide +kernel
theorem dX11_ahead_132 : decode cX11_ahead 132 = .ok (.iload 9, 2) := by decide +kernel
theorem dX11_ahead_134 : decode cX11_ahead 134 = .ok (.if_icmp .ge 7, 3) := by decide +kernel
theorem dX11_ahead_137 : decode cX11_ahead 137 = .ok (.iconst 1, 1) := by decide +kernel
theorem dX11_ahead_138 : decode cX11_ahead 138 = .ok (.goto 4, 3) := by decide +kernel
theorem dX11_ahead_141 : decode cX11_ahead 141 = .ok (.iconst 0, 1) := by decide +kernel
theorem dX11_ahead_142 : decode cX11_ahead 142 = .ok (.ireturn, 1) := by decide +kernel
theorem dX11_ahead_143 : decode cX11_ahead 143 = .ok (.iinc 7 (-1), 3) := by decide +kernel
theorem dX11_ahead_146 : decode cX11_ahead 146 = .ok (.goto (-86), 3) := by decide +kernel
theorem dX11_ahead_149 : decode cX11_ahead 149 = .ok (.iconst 0, 1) := by decide +kernel
theorem dX11_ahead_150 : decode cX11_ahead 150 = .ok (.ireturn, 1) := by decide +kernel
def tb_169 (pc : Nat) : Option mEnt := bif Nat.ble pc 76 then (bif Nat.ble pc 35 then (bif Nat.ble pc 14 then (bif Nat.ble pc 5 then (bif Nat.ble pc 2 then (bif Nat.ble pc 0 then (bif Nat.beq pc 0 then some (.inl (oS 2 (s_push (.int 100)))) else none) else (bif Nat.beq pc 2 then some (.inl (o_il 1 1)) else none)) else (bif Nat.ble pc 3 then (bif Nat.beq pc 3 then some (.inl (oS 1 (s_ii (fun a b => a * b)))) else none) else (bif Nat.ble pc 4 then (bif Nat.beq pc 4 then some (.inl (o_il 2 1)) else none) else (bif Nat.beq pc 5 then some (.inl (oS 1 (s_ii (fun a b => a + b)))) else none)))) else (bif Nat.ble pc 10 then (bif Nat.ble pc 6 then (bif Nat.beq pc 6 then some (.inl (o_is 5 2)) else none) else (bif Nat.ble pc 8 then (bif Nat.beq pc 8 then some (.inl (oS 2 (s_push (.int 100)))) else none) else (bif Nat.beq pc 10 then some (.inl (o_il 3 1)) else none))) else (bif Nat.ble pc 11 then (bif Nat.beq pc 11 then some (.inl (oS 1 (s_ii (fun a b => a * b)))) else none) else (bif Nat.ble pc 12 then (bif Nat.beq pc 12 then some (.inl (o_il 4 2)) else none) else (bif Nat.beq pc 14 then some (.inl (oS 1 (s_ii (fun a b => a + b)))) else none))))) else (bif Nat.ble pc 24 then (bif Nat.ble pc 18 then (bif Nat.ble pc 15 then (bif Nat.beq pc 15 then some (.inl (o_is 6 2)) else none) else (bif Nat.ble pc 17 then (bif Nat.beq pc 17 then some (.inl (o_al 0 1)) else none) else (bif Nat.beq pc 18 then some (.inl (o_gP 11 21)) else none))) else (bif Nat.ble pc 21 then (bif Nat.beq pc 21 then some (.inl (o_il 5 2)) else none) else (bif Nat.ble pc 23 then (bif Nat.beq pc 23 then some (.inl (o_iald)) else none) else (bif Nat.beq pc 24 then some (.inl (o_al 0 1)) else none)))) else (bif Nat.ble pc 30 then (bif Nat.ble pc 25 then (bif Nat.beq pc 25 then some (.inl (o_gP 11 21)) else none) else (bif Nat.ble pc 28 then (bif Nat.beq pc 28 then some (.inl (o_il 6 2)) else none) else (bif Nat.beq pc 30 then some (.inl (o_iald)) else none))) else (bif Nat.ble pc 31 then (bif Nat.beq pc 31 then some (.inl (o_ceq 57)) else none) else (bif Nat.ble pc 34 then (bif Nat.beq pc 34 then some (.inl (o_al 0 1)) else none) else (bif Nat.beq pc 35 then some (.inl (o_gP 11 21)) else none)))))) else (bif Nat.ble pc 56 then (bif Nat.ble pc 45 then (bif Nat.ble pc 40 then (bif Nat.ble pc 38 then (bif Nat.beq pc 38 then some (.inl (o_il 5 2)) else none) else (bif Nat.beq pc 40 then some (.inl (o_iald)) else none)) else (bif Nat.ble pc 41 then (bif Nat.beq pc 41 then some (.inl (o_al 0 1)) else none) else (bif Nat.ble pc 42 then (bif Nat.beq pc 42 then some (.inl (o_gP 11 21)) else none) else (bif Nat.beq pc 45 then some (.inl (o_il 6 2)) else none)))) else (bif Nat.ble pc 51 then (bif Nat.ble pc 47 then (bif Nat.beq pc 47 then some (.inl (o_iald)) else none) else (bif Nat.ble pc 48 then (bif Nat.beq pc 48 then some (.inl (o_cge 55)) else none) else (bif Nat.beq pc 51 then some (.inl (oS 1 (s_push (.int 1)))) else none))) else (bif Nat.ble pc 52 then (bif Nat.beq pc 52 then some (.inl (o_goto 56)) else none) else (bif Nat.ble pc 55 then (bif Nat.beq pc 55 then some (.inl (oS 1 (s_push (.int 0)))) else none) else (bif Nat.beq pc 56 then some (.inr (0, 0, 0, 4)) else none))))) else (bif Nat.ble pc 66 then (bif Nat.ble pc 60 then (bif Nat.ble pc 57 then (bif Nat.beq pc 57 then some (.inl (oS 1 (s_push (.int 4)))) else none) else (bif Nat.ble pc 58 then (bif Nat.beq pc 58 then some (.inl (o_is 7 2)) else none) else (bif Nat.beq pc 60 then some (.inl (o_il 7 2)) else none))) else (bif Nat.ble pc 62 then (bif Nat.beq pc 62 then some (.inl (o_zlt 149)) else none) else (bif Nat.ble pc 65 then (bif Nat.beq pc 65 then some (.inl (o_al 0 1)) else none) else (bif Nat.beq pc 66 then some (.inl (o_gP 11 23)) else none)))) else (bif Nat.ble pc 72 then (bif Nat.ble pc 69 then (bif Nat.beq pc 69 then some (.inl (o_il 5 2)) else none) else (bif Nat.ble pc 71 then (bif Nat.beq pc 71 then some (.inl (o_iald)) else none) else (bif Nat.beq pc 72 then some (.inl (o_il 7 2)) else none))) else (bif Nat.ble pc 74 then (bif Nat.beq pc 74 then some (.inl (oS 1 (s_ii (fun a b => a >>> (b &&& 31))))) else none) else (bif Nat.ble pc 75 then (bif Nat.beq pc 75 then some (.inl (oS 1 (s_push (.int 1)))) else none) else (bif Nat.beq pc 76 then some (.inl (oS 1 (s_ii (fun a b => a &&& b)))) else none))))))) else (bif Nat.ble pc 108 then (bif Nat.ble pc 91 then (bif Nat.ble pc 83 then (bif Nat.ble pc 78 then (bif Nat.ble pc 77 then (bif Nat.beq pc 77 then some (.inl (oS 1 (s_push (.int 2)))) else none) else (bif Nat.beq pc 78 then some (.inl (oS 1 (s_ii (fun a b => a * b)))) else none)) else (bif Nat.ble pc 79 then (bif Nat.beq pc 79 then some (.inl (o_al 0 1)) else none) else (bif Nat.ble pc 80 then (bif Nat.beq pc 80 then some (.inl (o_gP 11 22)) else none) else (bif Nat.beq pc 83 then some (.inl (o_il 5 2)) else none)))) else (bif Nat.ble pc 88 then (bif Nat.ble pc 85 then (bif Nat.beq pc 85 then some (.inl (o_iald)) else none) else (bif Nat.ble pc 86 then (bif Nat.beq pc 86 then some (.inl (o_il 7 2)) else none) else (bif Nat.beq pc 88 then some (.inl (oS 1 (s_ii (fun a b => a >>> (b &&& 31))))) else none))) else (bif Nat.ble pc 89 then (bif Nat.beq pc 89 then some (.inl (oS 1 (s_push (.int 1)))) else none) else (bif Nat.ble pc 90 then (bif Nat.beq pc 90 then some (.inl (oS 1 (s_ii (fun a b => a &&& b)))) else none) else (bif Nat.beq pc 91 then some (.inl (oS 1 (s_ii (fun a b => a + b)))) else none))))) else (bif Nat.ble pc 101 then (bif Nat.ble pc 95 then (bif Nat.ble pc 92 then (bif Nat.beq pc 92 then some (.inl (o_is 8 2)) else none) else (bif Nat.ble pc 94 then (bif Nat.beq pc 94 then some (.inl (o_al 0 1)) else none) else (bif Nat.beq pc 95 then some (.inl (o_gP 11 23)) else none))) else (bif Nat.ble pc 98 then (bif Nat.beq pc 98 then some (.inl (o_il 6 2)) else none) else (bif Nat.ble pc 100 then (bif Nat.beq pc 100 then some (.inl (o_iald)) else none) else (bif Nat.beq pc 101 then some (.inl (o_il 7 2)) else none)))) else (bif Nat.ble pc 105 then (bif Nat.ble pc 103 then (bif Nat.beq pc 103 then some (.inl (oS 1 (s_ii (fun a b => a >>> (b &&& 31))))) else none) else (bif Nat.ble pc 104 then (bif Nat.beq pc 104 then some (.inl (oS 1 (s_push (.int 1)))) else none) else (bif Nat.beq pc 105 then some (.inl (oS 1 (s_ii (fun a b => a &&& b)))) else none))) else (bif Nat.ble pc 106 then (bif Nat.beq pc 106 then some (.inl (oS 1 (s_push (.int 2)))) else none) else (bif Nat.ble pc 107 then (bif Nat.beq pc 107 then some (.inl (oS 1 (s_ii (fun a b => a * b)))) else none) else (bif Nat.beq pc 108 then some (.inl (o_al 0 1)) else none)))))) else (bif Nat.ble pc 125 then (bif Nat.ble pc 117 then (bif Nat.ble pc 112 then (bif Nat.ble pc 109 then (bif Nat.beq pc 109 then some (.inl (o_gP 11 22)) else none) else (bif Nat.beq pc 112 then some (.inl (o_il 6 2)) else none)) else (bif Nat.ble pc 114 then (bif Nat.beq pc 114 then some (.inl (o_iald)) else none) else (bif Nat.ble pc 115 then (bif Nat.beq pc 115 then some (.inl (o_il 7 2)) else none) else (bif Nat.beq pc 117 then some (.inl (oS 1 (s_ii (fun a b => a >>> (b &&& 31))))) else none)))) else (bif Nat.ble pc 120 then (bif Nat.ble pc 118 then (bif Nat.beq pc 118 then some (.inl (oS 1 (s_push (.int 1)))) else none) else (bif Nat.ble pc 119 then (bif Nat.beq pc 119 then some (.inl (oS 1 (s_ii (fun a b => a &&& b)))) else none) else (bif Nat.beq pc 120 then some (.inl (oS 1 (s_ii (fun a b => a + b)))) else none))) else (bif Nat.ble pc 121 then (bif Nat.beq pc 121 then some (.inl (o_is 9 2)) else none) else (bif Nat.ble pc 123 then (bif Nat.beq pc 123 then some (.inl (o_il 8 2)) else none) else (bif Nat.beq pc 125 then some (.inl (o_il 9 2)) else none))))) else (bif Nat.ble pc 138 then (bif Nat.ble pc 132 then (bif Nat.ble pc 127 then (bif Nat.beq pc 127 then some (.inl (o_ceq 143)) else none) else (bif Nat.ble pc 130 then (bif Nat.beq pc 130 then some (.inl (o_il 8 2)) else none) else (bif Nat.beq pc 132 then some (.inl (o_il 9 2)) else none))) else (bif Nat.ble pc 134 then (bif Nat.beq pc 134 then some (.inl (o_cge 141)) else none) else (bif Nat.ble pc 137 then (bif Nat.beq pc 137 then some (.inl (oS 1 (s_push (.int 1)))) else none) else (bif Nat.beq pc 138 then some (.inl (o_goto 142)) else none)))) else (bif Nat.ble pc 143 then (bif Nat.ble pc 141 then (bif Nat.beq pc 141 then some (.inl (oS 1 (s_push (.int 0)))) else none) else (bif Nat.ble pc 142 then (bif Nat.beq pc 142 then some (.inr (0, 0, 0, 4)) else none) else (bif Nat.beq pc 143 then some (.inl (o_inc 7 (-1))) else none))) else (bif Nat.ble pc 146 then (bif Nat.beq pc 146 then some (.inl (o_goto 60)) else none) else (bif Nat.ble pc 149 then (bif Nat.beq pc 149 then some (.inl (oS 1 (s_push (.int 0)))) else none) else (bif Nat.beq pc 150 then some (.inr (0, 0, 0, 4)) else none)))))))
theorem k_169_0 : mOk M_169.1 M_169.2.1 M_169.2.2.1 M_169.2.2.2 0 (oS 2 (s_push (.int 100))) := ok_bipush dX11_ahead_0 (by decide)
theorem k_169_2 : mOk M_169.1 M_169.2.1 M_169.2.2.1 M_169.2.2.2 2 (o_il 1 1) := ok_iload_n dX11_ahead_2 rfl
theorem k_169_3 : mOk M_169.1 M_169.2.1 M_169.2.2.1 M_169.2.2.2 3 (oS 1 (s_ii (fun a b => a * b))) := ok_imul dX11_ahead_3
theorem k_169_4 : mOk M_169.1 M_169.2.1 M_169.2.2.1 M_169.2.2.2 4 (o_il 2 1) := ok_iload_n dX11_ahead_4 rfl
theorem k_169_5 : mOk M_169.1 M_169.2.1 M_169.2.2.1 M_169.2.2.2 5 (oS 1 (s_ii (fun a b => a + b))) := ok_iadd dX11_ahead_5
theorem k_169_6 : mOk M_169.1 M_169.2.1 M_169.2.2.1 M_169.2.2.2 6 (o_is 5 2) := ok_istore dX11_ahead_6
theorem k_169_8 : mOk M_169.1 M_169.2.1 M_169.2.2.1 M_169.2.2.2 8 (oS 2 (s_push (.int 100))) := ok_bipush dX11_ahead_8 (by decide)
theorem k_169_10 : mOk M_169.1 M_169.2.1 M_169.2.2.1 M_169.2.2.2 10 (o_il 3 1) := ok_iload_n dX11_ahead_10 rfl
theorem k_169_11 : mOk M_169.1 M_169.2.1 M_169.2.2.1 M_169.2.2.2 11 (oS 1 (s_ii (fun a b => a * b))) := ok_imul dX11_ahead_11
theorem k_169_12 : mOk M_169.1 M_169.2.1 M_169.2.2.1 M_169.2.2.2 12 (o_il 4 2) := ok_iload dX11_ahead_12
theorem k_169_14 : mOk M_169.1 M_169.2.1 M_169.2.2.1 M_169.2.2.2 14 (oS 1 (s_ii (fun a b => a + b))) := ok_iadd dX11_ahead_14
theorem k_169_15 : mOk M_169.1 M_169.2.1 M_169.2.2.1 M_169.2.2.2 15 (o_is 6 2) := ok_istore dX11_ahead_15
theorem k_169_17 : mOk M_169.1 M_169.2.1 M_169.2.2.1 M_169.2.2.2 17 (o_al 0 1) := ok_aload_n dX11_ahead_17 rfl
theorem k_169_18 : mOk M_169.1 M_169.2.1 M_169.2.2.1 M_169.2.2.2 18 (o_gP 11 21) := ok_gP dX11_ahead_18 f_RX11_60 rfl
theorem k_169_21 : mOk M_169.1 M_169.2.1 M_169.2.2.1 M_169.2.2.2 21 (o_il 5 2) := ok_iload dX11_ahead_21
theorem k_169_23 : mOk M_169.1 M_169.2.1 M_169.2.2.1 M_169.2.2.2 23 (o_iald) := ok_iald dX11_ahead_23
theorem k_169_24 : mOk M_169.1 M_169.2.1 M_169.2.2.1 M_169.2.2.2 24 (o_al 0 1) := ok_aload_n dX11_ahead_24 rfl
theorem k_169_25 : mOk M_169.1 M_169.2.1 M_169.2.2.1 M_169.2.2.2 25 (o_gP 11 21) := ok_gP dX11_ahead_25 f_RX11_60 rfl
theorem k_169_28 : mOk M_169.1 M_169.2.1 M_169.2.2.1 M_169.2.2.2 28 (o_il 6 2) := ok_iload dX11_ahead_28
theorem k_169_30 : mOk M_169.1 M_169.2.1 M_169.2.2.1 M_169.2.2.2 30 (o_iald) := ok_iald dX11_ahead_30
theorem k_169_31 : mOk M_169.1 M_169.2.1 M_169.2.2.1 M_169.2.2.2 31 (o_ceq 57) := ok_ceq dX11_ahead_31 (by decide)
theorem k_169_34 : mOk M_169.1 M_169.2.1 M_169.2.2.1 M_169.2.2.2 34 (o_al 0 1) := ok_aload_n dX11_ahead_34 rfl
theorem k_169_35 : mOk M_169.1 M_169.2.1 M_169.2.2.1 M_169.2.2.2 35 (o_gP 11 21) := ok_gP dX11_ahead_35 f_RX11_60 rfl
theorem k_169_38 : mOk M_169.1 M_169.2.1 M_169.2.2.1 M_169.2.2.2 38 (o_il 5 2) := ok_iload dX11_ahead_38
theorem k_169_40 : mOk M_169.1 M_169.2.1 M_169.2.2.1 M_169.2.2.2 40 (o_iald) := ok_iald dX11_ahead_40
theorem k_169_41 : mOk M_169.1 M_169.2.1 M_169.2.2.1 M_169.2.2.2 41 (o_al 0 1) := ok_aload_n dX11_ahead_41 rfl
theorem k_169_42 : mOk M_169.1 M_169.2.1 M_169.2.2.1 M_169.2.2.2 42 (o_gP 11 21) := ok_gP dX11_ahead_42 f_RX11_60 rfl
theorem k_169_45 : mOk M_169.1 M_169.2.1 M_169.2.2.1 M_169.2.2.2 45 (o_il 6 2) := ok_iload dX11_ahead_45
theorem k_169_47 : mOk M_169.1 M_169.2.1 M_169.2.2.1 M_169.2.2.2 47 (o_iald) := ok_iald dX11_ahead_47
theorem k_169_48 : mOk M_169.1 M_169.2.1 M_169.2.2.1 M_169.2.2.2 48 (o_cge 55) := ok_cge dX11_ahead_48 (by decide)
theorem k_169_51 : mOk M_169.1 M_169.2.1 M_169.2.2.1 M_169.2.2.2 51 (oS 1 (s_push (.int 1))) := ok_iconst dX11_ahead_51 (by decide)
theorem k_169_52 : mOk M_169.1 M_169.2.1 M_169.2.2.1 M_169.2.2.2 52 (o_goto 56) := ok_goto dX11_ahead_52 (by decide)
theorem k_169_55 : mOk M_169.1 M_169.2.1 M_169.2.2.1 M_169.2.2.2 55 (oS 1 (s_push (.int 0))) := ok_iconst dX11_ahead_55 (by decide)
theorem k_169_57 : mOk M_169.1 M_169.2.1 M_169.2.2.1 M_169.2.2.2 57 (oS 1 (s_push (.int 4))) := ok_iconst dX11_ahead_57 (by decide)
theorem k_169_58 : mOk M_169.1 M_169.2.1 M_169.2.2.1 M_169.2.2.2 58 (o_is 7 2) := ok_istore dX11_ahead_58
theorem k_169_60 : mOk M_169.1 M_169.2.1 M_169.2.2.1 M_169.2.2.2 60 (o_il 7 2) := ok_iload dX11_ahead_60
theorem k_169_62 : mOk M_169.1 M_169.2.1 M_169.2.2.1 M_169.2.2.2 62 (o_zlt 149) := ok_zlt dX11_ahead_62 (by decide)
theorem k_169_65 : mOk M_169.1 M_169.2.1 M_169.2.2.1 M_169.2.2.2 65 (o_al 0 1) := ok_aload_n dX11_ahead_65 rfl
theorem k_169_66 : mOk M_169.1 M_169.2.1 M_169.2.2.1 M_169.2.2.2 66 (o_gP 11 23) := ok_gP dX11_ahead_66 f_RX11_66 rfl
theorem k_169_69 : mOk M_169.1 M_169.2.1 M_169.2.2.1 M_169.2.2.2 69 (o_il 5 2) := ok_iload dX11_ahead_69
theorem k_169_71 : mOk M_169.1 M_169.2.1 M_169.2.2.1 M_169.2.2.2 71 (o_iald) := ok_iald dX11_ahead_71
theorem k_169_72 : mOk M_169.1 M_169.2.1 M_169.2.2.1 M_169.2.2.2 72 (o_il 7 2) := ok_iload dX11_ahead_72
theorem k_169_74 : mOk M_169.1 M_169.2.1 M_169.2.2.1 M_169.2.2.2 74 (oS 1 (s_ii (fun a b => a >>> (b &&& 31)))) := ok_ishr dX11_ahead_74
theorem k_169_75 : mOk M_169.1 M_169.2.1 M_169.2.2.1 M_169.2.2.2 75 (oS 1 (s_push (.int 1))) := ok_iconst dX11_ahead_75 (by decide)
theorem k_169_76 : mOk M_169.1 M_169.2.1 M_169.2.2.1 M_169.2.2.2 76 (oS 1 (s_ii (fun a b => a &&& b))) := ok_iand dX11_ahead_76
theorem k_169_77 : mOk M_169.1 M_169.2.1 M_169.2.2.1 M_169.2.2.2 77 (oS 1 (s_push (.int 2))) := ok_iconst dX11_ahead_77 (by decide)
theorem k_169_78 : mOk M_169.1 M_169.2.1 M_169.2.2.1 M_169.2.2.2 78 (oS 1 (s_ii (fun a b => a * b))) := ok_imul dX11_ahead_78
theorem k_169_79 : mOk M_169.1 M_169.2.1 M_169.2.2.1 M_169.2.2.2 79 (o_al 0 1) := ok_aload_n dX11_ahead_79 rfl
theorem k_169_80 : mOk M_169.1 M_169.2.1 M_169.2.2.1 M_169.2.2.2 80 (o_gP 11 22) := ok_gP dX11_ahead_80 f_RX11_63 rfl
theorem k_169_83 : mOk M_169.1 M_169.2.1 M_169.2.2.1 M_169.2.2.2 83 (o_il 5 2) := ok_iload dX11_ahead_83
theorem k_169_85 : mOk M_169.1 M_169.2.1 M_169.2.2.1 M_169.2.2.2 85 (o_iald) := ok_iald dX11_ahead_85
theorem k_169_86 : mOk M_169.1 M_169.2.1 M_169.2.2.1 M_169.2.2.2 86 (o_il 7 2) := ok_iload dX11_ahead_86
theorem k_169_88 : mOk M_169.1 M_169.2.1 M_169.2.2.1 M_169.2.2.2 88 (oS 1 (s_ii (fun a b => a >>> (b &&& 31)))) := ok_ishr dX11_ahead_88
theorem k_169_89 : mOk M_169.1 M_169.2.1 M_169.2.2.1 M_169.2.2.2 89 (oS 1 (s_push (.int 1))) := ok_iconst dX11_ahead_89 (by decide)
theorem k_169_90 : mOk M_169.1 M_169.2.1 M_169.2.2.1 M_169.2.2.2 90 (oS 1 (s_ii (fun a b => a &&& b))) := ok_iand dX11_ahead_90
theorem k_169_91 : mOk M_169.1 M_169.2.1 M_169.2.2.1 M_169.2.2.2 91 (oS 1 (s_ii (fun a b => a + b))) := ok_iadd dX11_ahead_91
theorem k_169_92 : mOk M_169.1 M_169.2.1 M_169.2.2.1 M_169.2.2.2 92 (o_is 8 2) := ok_istore dX11_ahead_92
theorem k_169_94 : mOk M_169.1 M_169.2.1 M_169.2.2.1 M_169.2.2.2 94 (o_al 0 1) := ok_aload_n dX11_ahead_94 rfl
theorem k_169_95 : mOk M_169.1 M_169.2.1 M_169.2.2.1 M_169.2.2.2 95 (o_gP 11 23) := ok_gP dX11_ahead_95 f_RX11_66 rfl
theorem k_169_98 : mOk M_169.1 M_169.2.1 M_169.2.2.1 M_169.2.2.2 98 (o_il 6 2) := ok_iload dX11_ahead_98
theorem k_169_100 : mOk M_169.1 M_169.2.1 M_169.2.2.1 M_169.2.2.2 100 (o_iald) := ok_iald dX11_ahead_100
theorem k_169_101 : mOk M_169.1 M_169.2.1 M_169.2.2.1 M_169.2.2.2 101 (o_il 7 2) := ok_iload dX11_ahead_101
theorem k_169_103 : mOk M_169.1 M_169.2.1 M_169.2.2.1 M_169.2.2.2 103 (oS 1 (s_ii (fun a b => a >>> (b &&& 31)))) := ok_ishr dX11_ahead_103
theorem k_169_104 : mOk M_169.1 M_169.2.1 M_169.2.2.1 M_169.2.2.2 104 (oS 1 (s_push (.int 1))) := ok_iconst dX11_ahead_104 (by decide)
theorem k_169_105 : mOk M_169.1 M_169.2.1 M_169.2.2.1 M_169.2.2.2 105 (oS 1 (s_ii (fun a b => a &&& b))) := ok_iand dX11_ahead_105
theorem k_169_106 : mOk M_169.1 M_169.2.1 M_169.2.2.1 M_169.2.2.2 106 (oS 1 (s_push (.int 2))) := ok_iconst dX11_ahead_106 (by decide)
theorem k_169_107 : mOk M_169.1 M_169.2.1 M_169.2.2.1 M_169.2.2.2 107 (oS 1 (s_ii (fun a b => a * b))) := ok_imul dX11_ahead_107
theorem k_169_108 : mOk M_169.1 M_169.2.1 M_169.2.2.1 M_169.2.2.2 108 (o_al 0 1) := ok_aload_n dX11_ahead_108 rfl
theorem k_169_109 : mOk M_169.1 M_169.2.1 M_169.2.2.1 M_169.2.2.2 109 (o_gP 11 22) := ok_gP dX11_ahead_109 f_RX11_63 rfl
theorem k_169_112 : mOk M_169.1 M_169.2.1 M_169.2.2.1 M_169.2.2.2 112 (o_il 6 2) := ok_iload dX11_ahead_112
theorem k_169_114 : mOk M_169.1 M_169.2.1 M_169.2.2.1 M_169.2.2.2 114 (o_iald) := ok_iald dX11_ahead_114
theorem k_169_115 : mOk M_169.1 M_169.2.1 M_169.2.2.1 M_169.2.2.2 115 (o_il 7 2) := ok_iload dX11_ahead_115
theorem k_169_117 : mOk M_169.1 M_169.2.1 M_169.2.2.1 M_169.2.2.2 117 (oS 1 (s_ii (fun a b => a >>> (b &&& 31)))) := ok_ishr dX11_ahead_117
theorem k_169_118 : mOk M_169.1 M_169.2.1 M_169.2.2.1 M_169.2.2.2 118 (oS 1 (s_push (.int 1))) := ok_iconst dX11_ahead_118 (by decide)
theorem k_169_119 : mOk M_169.1 M_169.2.1 M_169.2.2.1 M_169.2.2.2 119 (oS 1 (s_ii (fun a b => a &&& b))) := ok_iand dX11_ahead_119
theorem k_169_120 : mOk M_169.1 M_169.2.1 M_169.2.2.1 M_169.2.2.2 120 (oS 1 (s_ii (fun a b => a + b))) := ok_iadd dX11_ahead_120
theorem k_169_121 : mOk M_169.1 M_169.2.1 M_169.2.2.1 M_169.2.2.2 121 (o_is 9 2) := ok_istore dX11_ahead_121
theorem k_169_123 : mOk M_169.1 M_169.2.1 M_169.2.2.1 M_169.2.2.2 123 (o_il 8 2) := ok_iload dX11_ahead_123
theorem k_169_125 : mOk M_169.1 M_169.2.1 M_169.2.2.1 M_169.2.2.2 125 (o_il 9 2) := ok_iload dX11_ahead_125
theorem k_169_127 : mOk M_169.1 M_169.2.1 M_169.2.2.1 M_169.2.2.2 127 (o_ceq 143) := ok_ceq dX11_ahead_127 (by decide)
theorem k_169_130 : mOk M_169.1 M_169.2.1 M_169.2.2.1 M_169.2.2.2 130 (o_il 8 2) := ok_iload dX11_ahead_130
theorem k_169_132 : mOk M_169.1 M_169.2.1 M_169.2.2.1 M_169.2.2.2 132 (o_il 9 2) := ok_iload dX11_ahead_132
theorem k_169_134 : mOk M_169.1 M_169.2.1 M_169.2.2.1 M_169.2.2.2 134 (o_cge 141) := ok_cge dX11_ahead_134 (by decide)
theorem k_169_137 : mOk M_169.1 M_169.2.1 M_169.2.2.1 M_169.2.2.2 137 (oS 1 (s_push (.int 1))) := ok_iconst dX11_ahead_137 (by decide)
theorem k_169_138 : mOk M_169.1 M_169.2.1 M_169.2.2.1 M_169.2.2.2 138 (o_goto 142) := ok_goto dX11_ahead_138 (by decide)
theorem k_169_141 : mOk M_169.1 M_169.2.1 M_169.2.2.1 M_169.2.2.2 141 (oS 1 (s_push (.int 0))) := ok_iconst dX11_ahead_141 (by decide)
theorem k_169_143 : mOk M_169.1 M_169.2.1 M_169.2.2.1 M_169.2.2.2 143 (o_inc 7 (-1)) := ok_iinc dX11_ahead_143 (by decide)
theorem k_169_146 : mOk M_169.1 M_169.2.1 M_169.2.2.1 M_169.2.2.2 146 (o_goto 60) := ok_goto dX11_ahead_146 (by decide)
theorem k_169_149 : mOk M_169.1 M_169.2.1 M_169.2.2.1 M_169.2.2.2 149 (oS 1 (s_push (.int 0))) := ok_iconst dX11_ahead_149 (by decide)
set_option maxRecDepth 20000 in
set_option maxHeartbeats 4000000 in
theorem tk_169 (l : Launch) (H9 : mThr l) (H10 : mSpl l) (pc : Nat) (q : mEnt) (h : tb_169 pc = some q) : EE l 169 pc q := nd h (fun h => nd h (fun h => nd h (fun h => nd h (fun h => nd h (fun h => nd h (fun h => lf (P := EE l 169) h k_169_0) (fun h => lf (P := EE l 169) h k_169_2)) (fun h => nd h (fun h => lf (P := EE l 169) h k_169_3) (fun h => nd h (fun h => lf (P := EE l 169) h k_169_4) (fun h => lf (P := EE l 169) h k_169_5)))) (fun h => nd h (fun h => nd h (fun h => lf (P := EE l 169) h k_169_6) (fun h => nd h (fun h => lf (P := EE l 169) h k_169_8) (fun h => lf (P := EE l 169) h k_169_10))) (fun h => nd h (fun h => lf (P := EE l 169) h k_169_11) (fun h => nd h (fun h => lf (P := EE l 169) h k_169_12) (fun h => lf (P := EE l 169) h k_169_14))))) (fun h => nd h (fun h => nd h (fun h => nd h (fun h => lf (P := EE l 169) h k_169_15) (fun h => nd h (fun h => lf (P := EE l 169) h k_169_17) (fun h => lf (P := EE l 169) h k_169_18))) (fun h => nd h (fun h => lf (P := EE l 169) h k_169_21) (fun h => nd h (fun h => lf (P := EE l 169) h k_169_23) (fun h => lf (P := EE l 169) h k_169_24)))) (fun h => nd h (fun h => nd h (fun h => lf (P := EE l 169) h k_169_25) (fun h => nd h (fun h => lf (P := EE l 169) h k_169_28) (fun h => lf (P := EE l 169) h k_169_30))) (fun h => nd h (fun h => lf (P := EE l 169) h k_169_31) (fun h => nd h (fun h => lf (P := EE l 169) h k_169_34) (fun h => lf (P := EE l 169) h k_169_35)))))) (fun h => nd h (fun h => nd h (fun h => nd h (fun h => nd h (fun h => lf (P := EE l 169) h k_169_38) (fun h => lf (P := EE l 169) h k_169_40)) (fun h => nd h (fun h => lf (P := EE l 169) h k_169_41) (fun h => nd h (fun h => lf (P := EE l 169) h k_169_42) (fun h => lf (P := EE l 169) h k_169_45)))) (fun h => nd h (fun h => nd h (fun h => lf (P := EE l 169) h k_169_47) (fun h => nd h (fun h => lf (P := EE l 169) h k_169_48) (fun h => lf (P := EE l 169) h k_169_51))) (fun h => nd h (fun h => lf (P := EE l 169) h k_169_52) (fun h => nd h (fun h => lf (P := EE l 169) h k_169_55) (fun h => lf (P := EE l 169) h (EE_re (Or.inr (Or.inl ⟨rfl, dX11_ahead_56, rfl⟩)))))))) (fun h => nd h (fun h => nd h (fun h => nd h (fun h => lf (P := EE l 169) h k_169_57) (fun h => nd h (fun h => lf (P := EE l 169) h k_169_58) (fun h => lf (P := EE l 169) h k_169_60))) (fun h => nd h (fun h => lf (P := EE l 169) h k_169_62) (fun h => nd h (fun h => lf (P := EE l 169) h k_169_65) (fun h => lf (P := EE l 169) h k_169_66)))) (fun h => nd h (fun h => nd h (fun h => lf (P := EE l 169) h k_169_69) (fun h => nd h (fun h => lf (P := EE l 169) h k_169_71) (fun h => lf (P := EE l 169) h k_169_72))) (fun h => nd h (fun h => lf (P := EE l 169) h k_169_74) (fun h => nd h (fun h => lf (P := EE l 169) h k_169_75) (fun h => lf (P := EE l 169) h k_169_76))))))) (fun h => nd h (fun h => nd h (fun h => nd h (fun h => nd h (fun h => nd h (fun h => lf (P := EE l 169) h k_169_77) (fun h => lf (P := EE l 169) h k_169_78)) (fun h => nd h (fun h => lf (P := EE l 169) h k_169_79) (fun h => nd h (fun h => lf (P := EE l 169) h k_169_80) (fun h => lf (P := EE l 169) h k_169_83)))) (fun h => nd h (fun h => nd h (fun h => lf (P := EE l 169) h k_169_85) (fun h => nd h (fun h => lf (P := EE l 169) h k_169_86) (fun h => lf (P := EE l 169) h k_169_88))) (fun h => nd h (fun h => lf (P := EE l 169) h k_169_89) (fun h => nd h (fun h => lf (P := EE l 169) h k_169_90) (fun h => lf (P := EE l 169) h k_169_91))))) (fun h => nd h (fun h => nd h (fun h => nd h (fun h => lf (P := EE l 169) h k_169_92) (fun h => nd h (fun h => lf (P := EE l 169) h k_169_94) (fun h => lf (P := EE l 169) h k_169_95))) (fun h => nd h (fun h => lf (P := EE l 169) h k_169_98) (fun h => nd h (fun h => lf (P := EE l 169) h k_169_100) (fun h => lf (P := EE l 169) h k_169_101)))) (fun h => nd h (fun h => nd h (fun h => lf (P := EE l 169) h k_169_103) (fun h => nd h (fun h => lf (P := EE l 169) h k_169_104) (fun h => lf (P := EE l 169) h k_169_105))) (fun h => nd h (fun h => lf (P := EE l 169) h k_169_106) (fun h => nd h (fun h => lf (P := EE l 169) h k_169_107) (fun h => lf (P := EE l 169) h k_169_108)))))) (fun h => nd h (fun h => nd h (fun h => nd h (fun h => nd h (fun h => lf (P := EE l 169) h k_169_109) (fun h => lf (P := EE l 169) h k_169_112)) (fun h => nd h (fun h => lf (P := EE l 169) h k_169_114) (fun h => nd h (fun h => lf (P := EE l 169) h k_169_115) (fun h => lf (P := EE l 169) h k_169_117)))) (fun h => nd h (fun h => nd h (fun h => lf (P := EE l 169) h k_169_118) (fun h => nd h (fun h => lf (P := EE l 169) h k_169_119) (fun h => lf (P := EE l 169) h k_169_120))) (fun h => nd h (fun h => lf (P := EE l 169) h k_169_121) (fun h => nd h (fun h => lf (P := EE l 169) h k_169_123) (fun h => lf (P := EE l 169) h k_169_125))))) (fun h => nd h (fun h => nd h (fun h => nd h (fun h => lf (P := EE l 169) h k_169_127) (fun h => nd h (fun h => lf (P := EE l 169) h k_169_130) (fun h => lf (P := EE l 169) h k_169_132))) (fun h => nd h (fun h => lf (P := EE l 169) h k_169_134) (fun h => nd h (fun h => lf (P := EE l 169) h k_169_137) (fun h => lf (P := EE l 169) h k_169_138)))) (fun h => nd h (fun h => nd h (fun h => lf (P := EE l 169) h k_169_141) (fun h => nd h (fun h => lf (P := EE l 169) h (EE_re (Or.inr (Or.inl ⟨rfl, dX11_ahead_142, rfl⟩)))) (fun h => lf (P := EE l 169) h k_169_143))) (fun h => nd h (fun h => lf (P := EE l 169) h k_169_146) (fun h => nd h (fun h => lf (P := EE l 169) h k_169_149) (fun h => lf (P := EE l 169) h (EE_re (Or.inr (Or.inl ⟨rfl, dX11_ahead_150, rfl⟩))))))))))
theorem dX11_told_0 : decode cX11_told 0 = .ok (.iconst 0, 1) := by decide +kernel
theorem dX11_told_1 : decode cX11_told 1 = .ok (.istore_n 2, 1) := by decide +kernel
theorem dX11_told_2 : decode cX11_told 2 = .ok (.iconst 0, 1) := by decide +kernel
theorem dX11_told_3 : decode cX11_told 3 = .ok (.istore_n 3, 1) := by decide +kernel
theorem dX11_told_4 : decode cX11_told 4 = .ok (.iconst 0, 1) := by decide +kernel
theorem dX11_told_5 : decode cX11_told 5 = .ok (.istore 4, 2) := by decide +kernel
theorem dX11_told_7 : decode cX11_told 7 = .ok (.iload_n 3, 1) := by decide +kernel
theorem dX11_told_8 : decode cX11_told 8 = .ok (.aload_n 0, 1) := by decide +kernel
theorem dX11_told_9 : decode cX11_told 9 = .ok (.getfield 57, 3) := by decide +kernel
theorem dX11_told_12 : decode cX11_told 12 = .ok (.iconst 1, 1) := by decide +kernel
theorem dX11_told_13 : decode cX11_told 13 = .ok (.iaload, 1) := by decide +kernel
theorem dX11_told_14 : decode cX11_told 14 = .ok (.if_icmp .lt 14, 3) := by decide +kernel
theorem dX11_told_17 : decode cX11_told 17 = .ok (.iload 4, 2) := by decide +kernel
theorem dX11_told_19 : decode cX11_told 19 = .ok (.aload_n 0, 1) := by decide +kernel
theorem dX11_told_20 : decode cX11_told 20 = .ok (.getfield 57, 3) := by decide +kernel
theorem dX11_told_23 : decode cX11_told 23 = .ok (.iconst 2, 1) := by decide +kernel
theorem dX11_told_24 : decode cX11_told 24 = .ok (.iaload, 1) := by decide +kernel
theorem dX11_told_25 : decode cX11_told 25 = .ok (.if_icmp .ge 180, 3) := by decide +kernel
theorem dX11_told_28 : decode cX11_told 28 = .ok (.iload 4, 2) := by decide +kernel
theorem dX11_told_30 : decode cX11_told 30 = .ok (.aload_n 0, 1) := by decide +kernel
theorem dX11_told_31 : decode cX11_told 31 = .ok (.getfield 57, 3) := by decide +kernel
theorem dX11_told_34 : decode cX11_told 34 = .ok (.iconst 2, 1) := by decide +kernel
theorem dX11_told_35 : decode cX11_told 35 = .ok (.iaload, 1) := by decide +kernel
theorem dX11_told_36 : decode cX11_told 36 = .ok (.if_icmp .eq 25, 3) := by decide +kernel
theorem dX11_told_39 : decode cX11_told 39 = .ok (.iload_n 3, 1) := by decide +kernel
theorem dX11_told_40 : decode cX11_told 40 = .ok (.aload_n 0, 1) := by decide +kernel
theorem dX11_told_41 : decode cX11_told 41 = .ok (.getfield 57, 3) := by decide +kernel
theorem dX11_told_44 : decode cX11_told 44 = .ok (.iconst 1, 1) := by decide +kernel
theorem dX11_told_45 : decode cX11_told 45 = .ok (.iaload, 1) := by decide +kernel
theorem dX11_told_46 : decode cX11_told 46 = .ok (.if_icmp .ge 19, 3) := by decide +kernel
theorem dX11_told_49 : decode cX11_told 49 = .ok (.aload_n 0, 1) := by decide +kernel
theorem dX11_told_50 : decode cX11_told 50 = .ok (.iconst 1, 1) := by decide +kernel
theorem dX11_told_51 : decode cX11_told 51 = .ok (.iload_n 3, 1) := by decide +kernel
theorem dX11_told_52 : decode cX11_told 52 = .ok (.iconst 2, 1) := by decide +kernel
theorem dX11_told_53 : decode cX11_told 53 = .ok (.iload 4, 2) := by decide +kernel
theorem dX11_told_55 : decode cX11_told 55 = .ok (.invokevirtual 312, 3) := by decide +kernel
theorem dX11_told_58 : decode cX11_told 58 = .ok (.ifCond .eq 7, 3) := by decide +kernel
theorem dX11_told_61 : decode cX11_told 61 = .ok (.iconst 1, 1) := by decide +kernel
theorem dX11_told_62 : decode cX11_told 62 = .ok (.goto 4, 3) := by decide +kernel
theorem dX11_told_65 : decode cX11_told 65 = .ok (.iconst 0, 1) := by decide +kernel
theorem dX11_told_66 : decode cX11_told 66 = .ok (.istore 5, 2) := by decide +kernel
theorem dX11_told_68 : decode cX11_told 68 = .ok (.iload_n 3, 1) := by decide +kernel
theorem dX11_told_69 : decode cX11_told 69 = .ok (.aload_n 0, 1) := by decide +kernel
theorem dX11_told_70 : decode cX11_told 70 = .ok (.getfield 57, 3) := by decide +kernel
theorem dX11_told_73 : decode cX11_told 73 = .ok (.iconst 1, 1) := by decide +kernel
theorem dX11_told_74 : decode cX11_told 74 = .ok (.iaload, 1) := by decide +kernel
theorem dX11_told_75 : decode cX11_told 75 = .ok (.if_icmp .eq 26, 3) := by decide +kernel
theorem dX11_told_78 : decode cX11_told 78 = .ok (.iload 4, 2) := by decide +kernel
theorem dX11_told_80 : decode cX11_told 80 = .ok (.aload_n 0, 1) := by decide +kernel
theorem dX11_told_81 : decode cX11_told 81 = .ok (.getfield 57, 3) := by decide +kernel
theorem dX11_told_84 : decode cX11_told 84 = .ok (.iconst 2, 1) := by decide +kernel
theorem dX11_told_85 : decode cX11_told 85 = .ok (.iaload, 1) := by decide +kernel
theorem dX11_told_86 : decode cX11_told 86 = .ok (.if_icmp .ge 19, 3) := by decide +kernel
theorem dX11_told_89 : decode cX11_told 89 = .ok (.aload_n 0, 1) := by decide +kernel
theorem dX11_told_90 : decode cX11_told 90 = .ok (.iconst 2, 1) := by decide +kernel
theorem dX11_told_91 : decode cX11_told 91 = .ok (.iload 4, 2) := by decide +kernel
theorem dX11_told_93 : decode cX11_told 93 = .ok (.iconst 1, 1) := by decide +kernel
theorem dX11_told_94 : decode cX11_told 94 = .ok (.iload_n 3, 1) := by decide +kernel
theorem dX11_told_95 : decode cX11_told 95 = .ok (.invokevirtual 312, 3) := by decide +kernel
theorem dX11_told_98 : decode cX11_told 98 = .ok (.ifCond .eq 7, 3) := by decide +kernel
theorem dX11_told_101 : decode cX11_told 101 = .ok (.iconst 1, 1) := by decide +kernel
theorem dX11_told_102 : decode cX11_told 102 = .ok (.goto 4, 3) := by decide +kernel
theorem dX11_told_105 : decode cX11_told 105 = .ok (.iconst 0, 1) := by decide +kernel
theorem dX11_told_106 : decode cX11_told 106 = .ok (.istore 6, 2) := by decide +kernel
theorem dX11_told_108 : decode cX11_told 108 = .ok (.iload 5, 2) := by decide +kernel
theorem dX11_told_110 : decode cX11_told 110 = .ok (.ifCond .ne 20, 3) := by decide +kernel
theorem dX11_told_113 : decode cX11_told 113 = .ok (.iload 6, 2) := by decide +kernel
theorem dX11_told_115 : decode cX11_told 115 = .ok (.ifCond .ne 15, 3) := by decide +kernel
theorem dX11_told_118 : decode cX11_told 118 = .ok (.aload_n 0, 1) := by decide +kernel
theorem dX11_told_119 : decode cX11_told 119 = .ok (.iconst 1, 1) := by decide +kernel
theorem dX11_told_120 : decode cX11_told 120 = .ok (.iload_n 3, 1) := by decide +kernel
theorem dX11_told_121 : decode cX11_told 121 = .ok (.iconst 2, 1) := by decide +kernel
theorem dX11_told_122 : decode cX11_told 122 = .ok (.iload 4, 2) := by decide +kernel
theorem dX11_told_124 : decode cX11_told 124 = .ok (.invokevirtual 315, 3) := by decide +kernel
theorem dX11_told_127 : decode cX11_told 127 = .ok (.ifCond .ne 7, 3) := by decide +kernel
theorem dX11_told_130 : decode cX11_told 130 = .ok (.iconst 1, 1) := by decide +kernel
theorem dX11_told_131 : decode cX11_told 131 = .ok (.goto 4, 3) := by decide +kernel
theorem dX11_told_134 : decode cX11_told 134 = .ok (.iconst 0, 1) := by decide +kernel
theorem dX11_told_135 : decode cX11_told 135 = .ok (.istore 7, 2) := by decide +kernel
theorem dX11_told_137 : decode cX11_told 137 = .ok (.iload 7, 2) := by decide +kernel
theorem dX11_told_139 : decode cX11_told 139 = .ok (.ifCond .eq 39, 3) := by decide +kernel
theorem dX11_told_142 : decode cX11_told 142 = .ok (.iload_n 2, 1) := by decide +kernel
theorem dX11_told_143 : decode cX11_told 143 = .ok (.iload_n 1, 1) := by decide +kernel
theorem dX11_told_144 : decode cX11_told 144 = .ok (.if_icmp .ne 34, 3) := by decide +kernel
theorem dX11_told_147 : decode cX11_told 147 = .ok (.aload_n 0, 1) := by decide +kernel
theorem dX11_told_148 : decode cX11_told 148 = .ok (.iload 6, 2) := by decide +kernel
theorem dX11_told_150 : decode cX11_told 150 = .ok (.ifCond .eq 7, 3) := by decide +kernel
theorem dX11_told_153 : decode cX11_told 153 = .ok (.iconst (-1), 1) := by decide +kernel
theorem dX11_told_154 : decode cX11_told 154 = .ok (.goto 4, 3) := by decide +kernel
theorem dX11_told_157 : decode cX11_told 157 = .ok (.iload_n 3, 1) := by decide +kernel
theorem dX11_told_158 : decode cX11_told 158 = .ok (.putfield 318, 3) := by decide +kernel
theorem dX11_told_161 : decode cX11_told 161 = .ok (.aload_n 0, 1) := by decide +kernel
theorem dX11_told_162 : decode cX11_told 162 = .ok (.iload 5, 2) := by decide +kernel
theorem dX11_told_164 : decode cX11_told 164 = .ok (.ifCond .eq 7, 3) := by decide +kernel
theorem dX11_told_167 : decode cX11_told 167 = .ok (.iconst (-1), 1) := by decide +kernel
theorem dX11_told_168 : decode cX11_told 168 = .ok (.goto 5, 3) := by decide +kernel
theorem dX11_told_171 : decode cX11_told 171 = .ok (.iload 4, 2) := by decide +kernel
theorem dX11_told_173 : decode cX11_told 173 = .ok (.putfield 321, 3) := by decide +kernel
theorem dX11_told_176 : decode cX11_told 176 = .ok (.iload_n 2, 1) := by decide +kernel
theorem dX11_told_177 : decode cX11_told 177 = .ok (.ireturn, 1) := by decide +kernel
theorem dX11_told_178 : decode cX11_told 178 = .ok (.iload 7, 2) := by decide +kernel
theorem dX11_told_180 : decode cX11_told 180 = .ok (.ifCond .eq 6, 3) := by decide +kernel
theorem dX11_told_183 : decode cX11_told 183 = .ok (.iinc 2 1, 3) := by decide +kernel
theorem dX11_told_186 : decode cX11_told 186 = .ok (.iload 6, 2) := by decide +kernel
theorem dX11_told_188 : decode cX11_told 188 = .ok (.ifCond .ne 6, 3) := by decide +kernel
theorem dX11_told_191 : decode cX11_told 191 = .ok (.iinc 3 1, 3) := by decide +kernel
theorem dX11_told_194 : decode cX11_told 194 = .ok (.iload 5, 2) := by decide +kernel
theorem dX11_told_196 : decode cX11_told 196 = .ok (.ifCond .ne 6, 3) := by decide +kernel
theorem dX11_told_199 : decode cX11_told 199 = .ok (.iinc 4 1, 3) := by decide +kernel
theorem dX11_told_202 : decode cX11_told 202 = .ok (.goto (-195), 3) := by decide +kernel
theorem dX11_told_205 : decode cX11_told 205 = .ok (.aload_n 0, 1) := by decide +kernel
theorem dX11_told_206 : decode cX11_told 206 = .ok (.iconst (-1), 1) := by decide +kernel
theorem dX11_told_207 : decode cX11_told 207 = .ok (.putfield 318, 3) := by decide +kernel
theorem dX11_told_210 : decode cX11_told 210 = .ok (.aload_n 0, 1) := by decide +kernel
theorem dX11_told_211 : decode cX11_told 211 = .ok (.iconst (-1), 1) := by decide +kernel
theorem dX11_told_212 : decode cX11_told 212 = .ok (.putfield 321, 3) := by decide +kernel
theorem dX11_told_215 : decode cX11_told 215 = .ok (.iload_n 2, 1) := by decide +kernel
theorem dX11_told_216 : decode cX11_told 216 = .ok (.ireturn, 1) := by decide +kernel
def tb_170 (pc : Nat) : Option mEnt := bif Nat.ble pc 95 then (bif Nat.ble pc 45 then (bif Nat.ble pc 19 then (bif Nat.ble pc 7 then (bif Nat.ble pc 2 then (bif Nat.ble pc 0 then (bif Nat.beq pc 0 then some (.inl (oS 1 (s_push (.int 0)))) else none) else (bif Nat.ble pc 1 then (bif Nat.beq pc 1 then some (.inl (o_is 2 1)) else none) else (bif Nat.beq pc 2 then some (.inl (oS 1 (s_push (.int 0)))) else none))) else (bif Nat.ble pc 4 then (bif Nat.ble pc 3 then (bif Nat.beq pc 3 then some (.inl (o_is 3 1)) else none) else (bif Nat.beq pc 4 then some (.inl (oS 1 (s_push (.int 0)))) else none)) else (bif Nat.ble pc 5 then (bif Nat.beq pc 5 then some (.inl (o_is 4 2)) else none) else (bif Nat.beq pc 7 then some (.inl (o_il 3 1)) else none)))) else (bif Nat.ble pc 12 then (bif Nat.ble pc 8 then (bif Nat.beq pc 8 then some (.inl (o_al 0 1)) else none) else (bif Nat.ble pc 9 then (bif Nat.beq pc 9 then some (.inl (o_gP 11 20)) else none) else (bif Nat.beq pc 12 then some (.inl (oS 1 (s_push (.int 1)))) else none))) else (bif Nat.ble pc 14 then (bif Nat.ble pc 13 then (bif Nat.beq pc 13 then some (.inl (o_iald)) else none) else (bif Nat.beq pc 14 then some (.inl (o_clt 28)) else none)) else (bif Nat.ble pc 17 then (bif Nat.beq pc 17 then some (.inl (o_il 4 2)) else none) else (bif Nat.beq pc 19 then some (.inl (o_al 0 1)) else none))))) else (bif Nat.ble pc 31 then (bif Nat.ble pc 24 then (bif Nat.ble pc 20 then (bif Nat.beq pc 20 then some (.inl (o_gP 11 20)) else none) else (bif Nat.ble pc 23 then (bif Nat.beq pc 23 then some (.inl (oS 1 (s_push (.int 2)))) else none) else (bif Nat.beq pc 24 then some (.inl (o_iald)) else none))) else (bif Nat.ble pc 28 then (bif Nat.ble pc 25 then (bif Nat.beq pc 25 then some (.inl (o_cge 205)) else none) else (bif Nat.beq pc 28 then some (.inl (o_il 4 2)) else none)) else (bif Nat.ble pc 30 then (bif Nat.beq pc 30 then some (.inl (o_al 0 1)) else none) else (bif Nat.beq pc 31 then some (.inl (o_gP 11 20)) else none)))) else (bif Nat.ble pc 39 then (bif Nat.ble pc 35 then (bif Nat.ble pc 34 then (bif Nat.beq pc 34 then some (.inl (oS 1 (s_push (.int 2)))) else none) else (bif Nat.beq pc 35 then some (.inl (o_iald)) else none)) else (bif Nat.ble pc 36 then (bif Nat.beq pc 36 then some (.inl (o_ceq 61)) else none) else (bif Nat.beq pc 39 then some (.inl (o_il 3 1)) else none))) else (bif Nat.ble pc 41 then (bif Nat.ble pc 40 then (bif Nat.beq pc 40 then some (.inl (o_al 0 1)) else none) else (bif Nat.beq pc 41 then some (.inl (o_gP 11 20)) else none)) else (bif Nat.ble pc 44 then (bif Nat.beq pc 44 then some (.inl (oS 1 (s_push (.int 1)))) else none) else (bif Nat.beq pc 45 then some (.inl (o_iald)) else none)))))) else (bif Nat.ble pc 70 then (bif Nat.ble pc 55 then (bif Nat.ble pc 50 then (bif Nat.ble pc 46 then (bif Nat.beq pc 46 then some (.inl (o_cge 65)) else none) else (bif Nat.ble pc 49 then (bif Nat.beq pc 49 then some (.inl (o_al 0 1)) else none) else (bif Nat.beq pc 50 then some (.inl (oS 1 (s_push (.int 1)))) else none))) else (bif Nat.ble pc 52 then (bif Nat.ble pc 51 then (bif Nat.beq pc 51 then some (.inl (o_il 3 1)) else none) else (bif Nat.beq pc 52 then some (.inl (oS 1 (s_push (.int 2)))) else none)) else (bif Nat.ble pc 53 then (bif Nat.beq pc 53 then some (.inl (o_il 4 2)) else none) else (bif Nat.beq pc 55 then some (.inr (3, 169, 5, 11)) else none)))) else (bif Nat.ble pc 65 then (bif Nat.ble pc 61 then (bif Nat.ble pc 58 then (bif Nat.beq pc 58 then some (.inl (o_zeq 65)) else none) else (bif Nat.beq pc 61 then some (.inl (oS 1 (s_push (.int 1)))) else none)) else (bif Nat.ble pc 62 then (bif Nat.beq pc 62 then some (.inl (o_goto 66)) else none) else (bif Nat.beq pc 65 then some (.inl (oS 1 (s_push (.int 0)))) else none))) else (bif Nat.ble pc 68 then (bif Nat.ble pc 66 then (bif Nat.beq pc 66 then some (.inl (o_is 5 2)) else none) else (bif Nat.beq pc 68 then some (.inl (o_il 3 1)) else none)) else (bif Nat.ble pc 69 then (bif Nat.beq pc 69 then some (.inl (o_al 0 1)) else none) else (bif Nat.beq pc 70 then some (.inl (o_gP 11 20)) else none))))) else (bif Nat.ble pc 84 then (bif Nat.ble pc 75 then (bif Nat.ble pc 73 then (bif Nat.beq pc 73 then some (.inl (oS 1 (s_push (.int 1)))) else none) else (bif Nat.ble pc 74 then (bif Nat.beq pc 74 then some (.inl (o_iald)) else none) else (bif Nat.beq pc 75 then some (.inl (o_ceq 101)) else none))) else (bif Nat.ble pc 80 then (bif Nat.ble pc 78 then (bif Nat.beq pc 78 then some (.inl (o_il 4 2)) else none) else (bif Nat.beq pc 80 then some (.inl (o_al 0 1)) else none)) else (bif Nat.ble pc 81 then (bif Nat.beq pc 81 then some (.inl (o_gP 11 20)) else none) else (bif Nat.beq pc 84 then some (.inl (oS 1 (s_push (.int 2)))) else none)))) else (bif Nat.ble pc 90 then (bif Nat.ble pc 86 then (bif Nat.ble pc 85 then (bif Nat.beq pc 85 then some (.inl (o_iald)) else none) else (bif Nat.beq pc 86 then some (.inl (o_cge 105)) else none)) else (bif Nat.ble pc 89 then (bif Nat.beq pc 89 then some (.inl (o_al 0 1)) else none) else (bif Nat.beq pc 90 then some (.inl (oS 1 (s_push (.int 2)))) else none))) else (bif Nat.ble pc 93 then (bif Nat.ble pc 91 then (bif Nat.beq pc 91 then some (.inl (o_il 4 2)) else none) else (bif Nat.beq pc 93 then some (.inl (oS 1 (s_push (.int 1)))) else none)) else (bif Nat.ble pc 94 then (bif Nat.beq pc 94 then some (.inl (o_il 3 1)) else none) else (bif Nat.beq pc 95 then some (.inr (3, 169, 5, 11)) else none))))))) else (bif Nat.ble pc 153 then (bif Nat.ble pc 122 then (bif Nat.ble pc 110 then (bif Nat.ble pc 102 then (bif Nat.ble pc 98 then (bif Nat.beq pc 98 then some (.inl (o_zeq 105)) else none) else (bif Nat.ble pc 101 then (bif Nat.beq pc 101 then some (.inl (oS 1 (s_push (.int 1)))) else none) else (bif Nat.beq pc 102 then some (.inl (o_goto 106)) else none))) else (bif Nat.ble pc 106 then (bif Nat.ble pc 105 then (bif Nat.beq pc 105 then some (.inl (oS 1 (s_push (.int 0)))) else none) else (bif Nat.beq pc 106 then some (.inl (o_is 6 2)) else none)) else (bif Nat.ble pc 108 then (bif Nat.beq pc 108 then some (.inl (o_il 5 2)) else none) else (bif Nat.beq pc 110 then some (.inl (o_zne 130)) else none)))) else (bif Nat.ble pc 118 then (bif Nat.ble pc 113 then (bif Nat.beq pc 113 then some (.inl (o_il 6 2)) else none) else (bif Nat.ble pc 115 then (bif Nat.beq pc 115 then some (.inl (o_zne 130)) else none) else (bif Nat.beq pc 118 then some (.inl (o_al 0 1)) else none))) else (bif Nat.ble pc 120 then (bif Nat.ble pc 119 then (bif Nat.beq pc 119 then some (.inl (oS 1 (s_push (.int 1)))) else none) else (bif Nat.beq pc 120 then some (.inl (o_il 3 1)) else none)) else (bif Nat.ble pc 121 then (bif Nat.beq pc 121 then some (.inl (oS 1 (s_push (.int 2)))) else none) else (bif Nat.beq pc 122 then some (.inl (o_il 4 2)) else none))))) else (bif Nat.ble pc 137 then (bif Nat.ble pc 130 then (bif Nat.ble pc 124 then (bif Nat.beq pc 124 then some (.inr (3, 167, 5, 11)) else none) else (bif Nat.ble pc 127 then (bif Nat.beq pc 127 then some (.inl (o_zne 134)) else none) else (bif Nat.beq pc 130 then some (.inl (oS 1 (s_push (.int 1)))) else none))) else (bif Nat.ble pc 134 then (bif Nat.ble pc 131 then (bif Nat.beq pc 131 then some (.inl (o_goto 135)) else none) else (bif Nat.beq pc 134 then some (.inl (oS 1 (s_push (.int 0)))) else none)) else (bif Nat.ble pc 135 then (bif Nat.beq pc 135 then some (.inl (o_is 7 2)) else none) else (bif Nat.beq pc 137 then some (.inl (o_il 7 2)) else none)))) else (bif Nat.ble pc 144 then (bif Nat.ble pc 142 then (bif Nat.ble pc 139 then (bif Nat.beq pc 139 then some (.inl (o_zeq 178)) else none) else (bif Nat.beq pc 142 then some (.inl (o_il 2 1)) else none)) else (bif Nat.ble pc 143 then (bif Nat.beq pc 143 then some (.inl (o_il 1 1)) else none) else (bif Nat.beq pc 144 then some (.inl (o_cne 178)) else none))) else (bif Nat.ble pc 148 then (bif Nat.ble pc 147 then (bif Nat.beq pc 147 then some (.inl (o_al 0 1)) else none) else (bif Nat.beq pc 148 then some (.inl (o_il 6 2)) else none)) else (bif Nat.ble pc 150 then (bif Nat.beq pc 150 then some (.inl (o_zeq 157)) else none) else (bif Nat.beq pc 153 then some (.inl (oS 1 (s_push (.int (-1))))) else none)))))) else (bif Nat.ble pc 183 then (bif Nat.ble pc 167 then (bif Nat.ble pc 158 then (bif Nat.ble pc 154 then (bif Nat.beq pc 154 then some (.inl (o_goto 158)) else none) else (bif Nat.ble pc 157 then (bif Nat.beq pc 157 then some (.inl (o_il 3 1)) else none) else (bif Nat.beq pc 158 then some (.inl (o_pI 11 49)) else none))) else (bif Nat.ble pc 162 then (bif Nat.ble pc 161 then (bif Nat.beq pc 161 then some (.inl (o_al 0 1)) else none) else (bif Nat.beq pc 162 then some (.inl (o_il 5 2)) else none)) else (bif Nat.ble pc 164 then (bif Nat.beq pc 164 then some (.inl (o_zeq 171)) else none) else (bif Nat.beq pc 167 then some (.inl (oS 1 (s_push (.int (-1))))) else none)))) else (bif Nat.ble pc 176 then (bif Nat.ble pc 171 then (bif Nat.ble pc 168 then (bif Nat.beq pc 168 then some (.inl (o_goto 173)) else none) else (bif Nat.beq pc 171 then some (.inl (o_il 4 2)) else none)) else (bif Nat.ble pc 173 then (bif Nat.beq pc 173 then some (.inl (o_pI 11 50)) else none) else (bif Nat.beq pc 176 then some (.inl (o_il 2 1)) else none))) else (bif Nat.ble pc 178 then (bif Nat.ble pc 177 then (bif Nat.beq pc 177 then some (.inr (0, 0, 0, 0)) else none) else (bif Nat.beq pc 178 then some (.inl (o_il 7 2)) else none)) else (bif Nat.ble pc 180 then (bif Nat.beq pc 180 then some (.inl (o_zeq 186)) else none) else (bif Nat.beq pc 183 then some (.inl (o_inc 2 1)) else none))))) else (bif Nat.ble pc 202 then (bif Nat.ble pc 191 then (bif Nat.ble pc 186 then (bif Nat.beq pc 186 then some (.inl (o_il 6 2)) else none) else (bif Nat.ble pc 188 then (bif Nat.beq pc 188 then some (.inl (o_zne 194)) else none) else (bif Nat.beq pc 191 then some (.inl (o_inc 3 1)) else none))) else (bif Nat.ble pc 196 then (bif Nat.ble pc 194 then (bif Nat.beq pc 194 then some (.inl (o_il 5 2)) else none) else (bif Nat.beq pc 196 then some (.inl (o_zne 202)) else none)) else (bif Nat.ble pc 199 then (bif Nat.beq pc 199 then some (.inl (o_inc 4 1)) else none) else (bif Nat.beq pc 202 then some (.inl (o_goto 7)) else none)))) else (bif Nat.ble pc 210 then (bif Nat.ble pc 206 then (bif Nat.ble pc 205 then (bif Nat.beq pc 205 then some (.inl (o_al 0 1)) else none) else (bif Nat.beq pc 206 then some (.inl (oS 1 (s_push (.int (-1))))) else none)) else (bif Nat.ble pc 207 then (bif Nat.beq pc 207 then some (.inl (o_pI 11 49)) else none) else (bif Nat.beq pc 210 then some (.inl (o_al 0 1)) else none))) else (bif Nat.ble pc 212 then (bif Nat.ble pc 211 then (bif Nat.beq pc 211 then some (.inl (oS 1 (s_push (.int (-1))))) else none) else (bif Nat.beq pc 212 then some (.inl (o_pI 11 50)) else none)) else (bif Nat.ble pc 215 then (bif Nat.beq pc 215 then some (.inl (o_il 2 1)) else none) else (bif Nat.beq pc 216 then some (.inr (0, 0, 0, 0)) else none)))))))
theorem k_170_0 : mOk M_170.1 M_170.2.1 M_170.2.2.1 M_170.2.2.2 0 (oS 1 (s_push (.int 0))) := ok_iconst dX11_told_0 (by decide)
theorem k_170_1 : mOk M_170.1 M_170.2.1 M_170.2.2.1 M_170.2.2.2 1 (o_is 2 1) := ok_istore_n dX11_told_1 rfl
theorem k_170_2 : mOk M_170.1 M_170.2.1 M_170.2.2.1 M_170.2.2.2 2 (oS 1 (s_push (.int 0))) := ok_iconst dX11_told_2 (by decide)
theorem k_170_3 : mOk M_170.1 M_170.2.1 M_170.2.2.1 M_170.2.2.2 3 (o_is 3 1) := ok_istore_n dX11_told_3 rfl
theorem k_170_4 : mOk M_170.1 M_170.2.1 M_170.2.2.1 M_170.2.2.2 4 (oS 1 (s_push (.int 0))) := ok_iconst dX11_told_4 (by decide)
theorem k_170_5 : mOk M_170.1 M_170.2.1 M_170.2.2.1 M_170.2.2.2 5 (o_is 4 2) := ok_istore dX11_told_5
theorem k_170_7 : mOk M_170.1 M_170.2.1 M_170.2.2.1 M_170.2.2.2 7 (o_il 3 1) := ok_iload_n dX11_told_7 rfl
theorem k_170_8 : mOk M_170.1 M_170.2.1 M_170.2.2.1 M_170.2.2.2 8 (o_al 0 1) := ok_aload_n dX11_told_8 rfl
theorem k_170_9 : mOk M_170.1 M_170.2.1 M_170.2.2.1 M_170.2.2.2 9 (o_gP 11 20) := ok_gP dX11_told_9 f_RX11_57 rfl
theorem k_170_12 : mOk M_170.1 M_170.2.1 M_170.2.2.1 M_170.2.2.2 12 (oS 1 (s_push (.int 1))) := ok_iconst dX11_told_12 (by decide)
theorem k_170_13 : mOk M_170.1 M_170.2.1 M_170.2.2.1 M_170.2.2.2 13 (o_iald) := ok_iald dX11_told_13
theorem k_170_14 : mOk M_170.1 M_170.2.1 M_170.2.2.1 M_170.2.2.2 14 (o_clt 28) := ok_clt dX11_told_14 (by decide)
theorem k_170_17 : mOk M_170.1 M_170.2.1 M_170.2.2.1 M_170.2.2.2 17 (o_il 4 2) := ok_iload dX11_told_17
theorem k_170_19 : mOk M_170.1 M_170.2.1 M_170.2.2.1 M_170.2.2.2 19 (o_al 0 1) := ok_aload_n dX11_told_19 rfl
theorem k_170_20 : mOk M_170.1 M_170.2.1 M_170.2.2.1 M_170.2.2.2 20 (o_gP 11 20) := ok_gP dX11_told_20 f_RX11_57 rfl
theorem k_170_23 : mOk M_170.1 M_170.2.1 M_170.2.2.1 M_170.2.2.2 23 (oS 1 (s_push (.int 2))) := ok_iconst dX11_told_23 (by decide)
theorem k_170_24 : mOk M_170.1 M_170.2.1 M_170.2.2.1 M_170.2.2.2 24 (o_iald) := ok_iald dX11_told_24
theorem k_170_25 : mOk M_170.1 M_170.2.1 M_170.2.2.1 M_170.2.2.2 25 (o_cge 205) := ok_cge dX11_told_25 (by decide)
theorem k_170_28 : mOk M_170.1 M_170.2.1 M_170.2.2.1 M_170.2.2.2 28 (o_il 4 2) := ok_iload dX11_told_28
theorem k_170_30 : mOk M_170.1 M_170.2.1 M_170.2.2.1 M_170.2.2.2 30 (o_al 0 1) := ok_aload_n dX11_told_30 rfl
theorem k_170_31 : mOk M_170.1 M_170.2.1 M_170.2.2.1 M_170.2.2.2 31 (o_gP 11 20) := ok_gP dX11_told_31 f_RX11_57 rfl
theorem k_170_34 : mOk M_170.1 M_170.2.1 M_170.2.2.1 M_170.2.2.2 34 (oS 1 (s_push (.int 2))) := ok_iconst dX11_told_34 (by decide)
theorem k_170_35 : mOk M_170.1 M_170.2.1 M_170.2.2.1 M_170.2.2.2 35 (o_iald) := ok_iald dX11_told_35
theorem k_170_36 : mOk M_170.1 M_170.2.1 M_170.2.2.1 M_170.2.2.2 36 (o_ceq 61) := ok_ceq dX11_told_36 (by decide)
theorem k_170_39 : mOk M_170.1 M_170.2.1 M_170.2.2.1 M_170.2.2.2 39 (o_il 3 1) := ok_iload_n dX11_told_39 rfl
theorem k_170_40 : mOk M_170.1 M_170.2.1 M_170.2.2.1 M_170.2.2.2 40 (o_al 0 1) := ok_aload_n dX11_told_40 rfl
theorem k_170_41 : mOk M_170.1 M_170.2.1 M_170.2.2.1 M_170.2.2.2 41 (o_gP 11 20) := ok_gP dX11_told_41 f_RX11_57 rfl
theorem k_170_44 : mOk M_170.1 M_170.2.1 M_170.2.2.1 M_170.2.2.2 44 (oS 1 (s_push (.int 1))) := ok_iconst dX11_told_44 (by decide)
theorem k_170_45 : mOk M_170.1 M_170.2.1 M_170.2.2.1 M_170.2.2.2 45 (o_iald) := ok_iald dX11_told_45
theorem k_170_46 : mOk M_170.1 M_170.2.1 M_170.2.2.1 M_170.2.2.2 46 (o_cge 65) := ok_cge dX11_told_46 (by decide)
theorem k_170_49 : mOk M_170.1 M_170.2.1 M_170.2.2.1 M_170.2.2.2 49 (o_al 0 1) := ok_aload_n dX11_told_49 rfl
theorem k_170_50 : mOk M_170.1 M_170.2.1 M_170.2.2.1 M_170.2.2.2 50 (oS 1 (s_push (.int 1))) := ok_iconst dX11_told_50 (by decide)
theorem k_170_51 : mOk M_170.1 M_170.2.1 M_170.2.2.1 M_170.2.2.2 51 (o_il 3 1) := ok_iload_n dX11_told_51 rfl
theorem k_170_52 : mOk M_170.1 M_170.2.1 M_170.2.2.1 M_170.2.2.2 52 (oS 1 (s_push (.int 2))) := ok_iconst dX11_told_52 (by decide)
theorem k_170_53 : mOk M_170.1 M_170.2.1 M_170.2.2.1 M_170.2.2.2 53 (o_il 4 2) := ok_iload dX11_told_53
theorem k_170_58 : mOk M_170.1 M_170.2.1 M_170.2.2.1 M_170.2.2.2 58 (o_zeq 65) := ok_zeq dX11_told_58 (by decide)
theorem k_170_61 : mOk M_170.1 M_170.2.1 M_170.2.2.1 M_170.2.2.2 61 (oS 1 (s_push (.int 1))) := ok_iconst dX11_told_61 (by decide)
theorem k_170_62 : mOk M_170.1 M_170.2.1 M_170.2.2.1 M_170.2.2.2 62 (o_goto 66) := ok_goto dX11_told_62 (by decide)
theorem k_170_65 : mOk M_170.1 M_170.2.1 M_170.2.2.1 M_170.2.2.2 65 (oS 1 (s_push (.int 0))) := ok_iconst dX11_told_65 (by decide)
theorem k_170_66 : mOk M_170.1 M_170.2.1 M_170.2.2.1 M_170.2.2.2 66 (o_is 5 2) := ok_istore dX11_told_66
theorem k_170_68 : mOk M_170.1 M_170.2.1 M_170.2.2.1 M_170.2.2.2 68 (o_il 3 1) := ok_iload_n dX11_told_68 rfl
theorem k_170_69 : mOk M_170.1 M_170.2.1 M_170.2.2.1 M_170.2.2.2 69 (o_al 0 1) := ok_aload_n dX11_told_69 rfl
theorem k_170_70 : mOk M_170.1 M_170.2.1 M_170.2.2.1 M_170.2.2.2 70 (o_gP 11 20) := ok_gP dX11_told_70 f_RX11_57 rfl
theorem k_170_73 : mOk M_170.1 M_170.2.1 M_170.2.2.1 M_170.2.2.2 73 (oS 1 (s_push (.int 1))) := ok_iconst dX11_told_73 (by decide)
theorem k_170_74 : mOk M_170.1 M_170.2.1 M_170.2.2.1 M_170.2.2.2 74 (o_iald) := ok_iald dX11_told_74
theorem k_170_75 : mOk M_170.1 M_170.2.1 M_170.2.2.1 M_170.2.2.2 75 (o_ceq 101) := ok_ceq dX11_told_75 (by decide)
theorem k_170_78 : mOk M_170.1 M_170.2.1 M_170.2.2.1 M_170.2.2.2 78 (o_il 4 2) := ok_iload dX11_told_78
theorem k_170_80 : mOk M_170.1 M_170.2.1 M_170.2.2.1 M_170.2.2.2 80 (o_al 0 1) := ok_aload_n dX11_told_80 rfl
theorem k_170_81 : mOk M_170.1 M_170.2.1 M_170.2.2.1 M_170.2.2.2 81 (o_gP 11 20) := ok_gP dX11_told_81 f_RX11_57 rfl
theorem k_170_84 : mOk M_170.1 M_170.2.1 M_170.2.2.1 M_170.2.2.2 84 (oS 1 (s_push (.int 2))) := ok_iconst dX11_told_84 (by decide)
theorem k_170_85 : mOk M_170.1 M_170.2.1 M_170.2.2.1 M_170.2.2.2 85 (o_iald) := ok_iald dX11_told_85
theorem k_170_86 : mOk M_170.1 M_170.2.1 M_170.2.2.1 M_170.2.2.2 86 (o_cge 105) := ok_cge dX11_told_86 (by decide)
theorem k_170_89 : mOk M_170.1 M_170.2.1 M_170.2.2.1 M_170.2.2.2 89 (o_al 0 1) := ok_aload_n dX11_told_89 rfl
theorem k_170_90 : mOk M_170.1 M_170.2.1 M_170.2.2.1 M_170.2.2.2 90 (oS 1 (s_push (.int 2))) := ok_iconst dX11_told_90 (by decide)
theorem k_170_91 : mOk M_170.1 M_170.2.1 M_170.2.2.1 M_170.2.2.2 91 (o_il 4 2) := ok_iload dX11_told_91
theorem k_170_93 : mOk M_170.1 M_170.2.1 M_170.2.2.1 M_170.2.2.2 93 (oS 1 (s_push (.int 1))) := ok_iconst dX11_told_93 (by decide)
theorem k_170_94 : mOk M_170.1 M_170.2.1 M_170.2.2.1 M_170.2.2.2 94 (o_il 3 1) := ok_iload_n dX11_told_94 rfl
theorem k_170_98 : mOk M_170.1 M_170.2.1 M_170.2.2.1 M_170.2.2.2 98 (o_zeq 105) := ok_zeq dX11_told_98 (by decide)
theorem k_170_101 : mOk M_170.1 M_170.2.1 M_170.2.2.1 M_170.2.2.2 101 (oS 1 (s_push (.int 1))) := ok_iconst dX11_told_101 (by decide)
theorem k_170_102 : mOk M_170.1 M_170.2.1 M_170.2.2.1 M_170.2.2.2 102 (o_goto 106) := ok_goto dX11_told_102 (by decide)
theorem k_170_105 : mOk M_170.1 M_170.2.1 M_170.2.2.1 M_170.2.2.2 105 (oS 1 (s_push (.int 0))) := ok_iconst dX11_told_105 (by decide)
theorem k_170_106 : mOk M_170.1 M_170.2.1 M_170.2.2.1 M_170.2.2.2 106 (o_is 6 2) := ok_istore dX11_told_106
theorem k_170_108 : mOk M_170.1 M_170.2.1 M_170.2.2.1 M_170.2.2.2 108 (o_il 5 2) := ok_iload dX11_told_108
theorem k_170_110 : mOk M_170.1 M_170.2.1 M_170.2.2.1 M_170.2.2.2 110 (o_zne 130) := ok_zne dX11_told_110 (by decide)
theorem k_170_113 : mOk M_170.1 M_170.2.1 M_170.2.2.1 M_170.2.2.2 113 (o_il 6 2) := ok_iload dX11_told_113
theorem k_170_115 : mOk M_170.1 M_170.2.1 M_170.2.2.1 M_170.2.2.2 115 (o_zne 130) := ok_zne dX11_told_115 (by decide)
theorem k_170_118 : mOk M_170.1 M_170.2.1 M_170.2.2.1 M_170.2.2.2 118 (o_al 0 1) := ok_aload_n dX11_told_118 rfl
theorem k_170_119 : mOk M_170.1 M_170.2.1 M_170.2.2.1 M_170.2.2.2 119 (oS 1 (s_push (.int 1))) := ok_iconst dX11_told_119 (by decide)
theorem k_170_120 : mOk M_170.1 M_170.2.1 M_170.2.2.1 M_170.2.2.2 120 (o_il 3 1) := ok_iload_n dX11_told_120 rfl
theorem k_170_121 : mOk M_170.1 M_170.2.1 M_170.2.2.1 M_170.2.2.2 121 (oS 1 (s_push (.int 2))) := ok_iconst dX11_told_121 (by decide)
theorem k_170_122 : mOk M_170.1 M_170.2.1 M_170.2.2.1 M_170.2.2.2 122 (o_il 4 2) := ok_iload dX11_told_122
theorem k_170_127 : mOk M_170.1 M_170.2.1 M_170.2.2.1 M_170.2.2.2 127 (o_zne 134) := ok_zne dX11_told_127 (by decide)
theorem k_170_130 : mOk M_170.1 M_170.2.1 M_170.2.2.1 M_170.2.2.2 130 (oS 1 (s_push (.int 1))) := ok_iconst dX11_told_130 (by decide)
theorem k_170_131 : mOk M_170.1 M_170.2.1 M_170.2.2.1 M_170.2.2.2 131 (o_goto 135) := ok_goto dX11_told_131 (by decide)
theorem k_170_134 : mOk M_170.1 M_170.2.1 M_170.2.2.1 M_170.2.2.2 134 (oS 1 (s_push (.int 0))) := ok_iconst dX11_told_134 (by decide)
theorem k_170_135 : mOk M_170.1 M_170.2.1 M_170.2.2.1 M_170.2.2.2 135 (o_is 7 2) := ok_istore dX11_told_135
theorem k_170_137 : mOk M_170.1 M_170.2.1 M_170.2.2.1 M_170.2.2.2 137 (o_il 7 2) := ok_iload dX11_told_137
theorem k_170_139 : mOk M_170.1 M_170.2.1 M_170.2.2.1 M_170.2.2.2 139 (o_zeq 178) := ok_zeq dX11_told_139 (by decide)
theorem k_170_142 : mOk M_170.1 M_170.2.1 M_170.2.2.1 M_170.2.2.2 142 (o_il 2 1) := ok_iload_n dX11_told_142 rfl
theorem k_170_143 : mOk M_170.1 M_170.2.1 M_170.2.2.1 M_170.2.2.2 143 (o_il 1 1) := ok_iload_n dX11_told_143 rfl
theorem k_170_144 : mOk M_170.1 M_170.2.1 M_170.2.2.1 M_170.2.2.2 144 (o_cne 178) := ok_cne dX11_told_144 (by decide)
theorem k_170_147 : mOk M_170.1 M_170.2.1 M_170.2.2.1 M_170.2.2.2 147 (o_al 0 1) := ok_aload_n dX11_told_147 rfl
theorem k_170_148 : mOk M_170.1 M_170.2.1 M_170.2.2.1 M_170.2.2.2 148 (o_il 6 2) := ok_iload dX11_told_148
theorem k_170_150 : mOk M_170.1 M_170.2.1 M_170.2.2.1 M_170.2.2.2 150 (o_zeq 157) := ok_zeq dX11_told_150 (by decide)
theorem k_170_153 : mOk M_170.1 M_170.2.1 M_170.2.2.1 M_170.2.2.2 153 (oS 1 (s_push (.int (-1)))) := ok_iconst dX11_told_153 (by decide)
theorem k_170_154 : mOk M_170.1 M_170.2.1 M_170.2.2.1 M_170.2.2.2 154 (o_goto 158) := ok_goto dX11_told_154 (by decide)
theorem k_170_157 : mOk M_170.1 M_170.2.1 M_170.2.2.1 M_170.2.2.2 157 (o_il 3 1) := ok_iload_n dX11_told_157 rfl
theorem k_170_158 : mOk M_170.1 M_170.2.1 M_170.2.2.1 M_170.2.2.2 158 (o_pI 11 49) := ok_pI dX11_told_158 (mFw_of f_RX11_318_c (Or.inl rfl)) rfl
theorem k_170_161 : mOk M_170.1 M_170.2.1 M_170.2.2.1 M_170.2.2.2 161 (o_al 0 1) := ok_aload_n dX11_told_161 rfl
theorem k_170_162 : mOk M_170.1 M_170.2.1 M_170.2.2.1 M_170.2.2.2 162 (o_il 5 2) := ok_iload dX11_told_162
theorem k_170_164 : mOk M_170.1 M_170.2.1 M_170.2.2.1 M_170.2.2.2 164 (o_zeq 171) := ok_zeq dX11_told_164 (by decide)
theorem k_170_167 : mOk M_170.1 M_170.2.1 M_170.2.2.1 M_170.2.2.2 167 (oS 1 (s_push (.int (-1)))) := ok_iconst dX11_told_167 (by decide)
theorem k_170_168 : mOk M_170.1 M_170.2.1 M_170.2.2.1 M_170.2.2.2 168 (o_goto 173) := ok_goto dX11_told_168 (by decide)
theorem k_170_171 : mOk M_170.1 M_170.2.1 M_170.2.2.1 M_170.2.2.2 171 (o_il 4 2) := ok_iload dX11_told_171
theorem k_170_173 : mOk M_170.1 M_170.2.1 M_170.2.2.1 M_170.2.2.2 173 (o_pI 11 50) := ok_pI dX11_told_173 (mFw_of f_RX11_321_c (Or.inl rfl)) rfl
theorem k_170_176 : mOk M_170.1 M_170.2.1 M_170.2.2.1 M_170.2.2.2 176 (o_il 2 1) := ok_iload_n dX11_told_176 rfl
theorem k_170_178 : mOk M_170.1 M_170.2.1 M_170.2.2.1 M_170.2.2.2 178 (o_il 7 2) := ok_iload dX11_told_178
theorem k_170_180 : mOk M_170.1 M_170.2.1 M_170.2.2.1 M_170.2.2.2 180 (o_zeq 186) := ok_zeq dX11_told_180 (by decide)
theorem k_170_183 : mOk M_170.1 M_170.2.1 M_170.2.2.1 M_170.2.2.2 183 (o_inc 2 1) := ok_iinc dX11_told_183 (by decide)
theorem k_170_186 : mOk M_170.1 M_170.2.1 M_170.2.2.1 M_170.2.2.2 186 (o_il 6 2) := ok_iload dX11_told_186
theorem k_170_188 : mOk M_170.1 M_170.2.1 M_170.2.2.1 M_170.2.2.2 188 (o_zne 194) := ok_zne dX11_told_188 (by decide)
theorem k_170_191 : mOk M_170.1 M_170.2.1 M_170.2.2.1 M_170.2.2.2 191 (o_inc 3 1) := ok_iinc dX11_told_191 (by decide)
theorem k_170_194 : mOk M_170.1 M_170.2.1 M_170.2.2.1 M_170.2.2.2 194 (o_il 5 2) := ok_iload dX11_told_194
theorem k_170_196 : mOk M_170.1 M_170.2.1 M_170.2.2.1 M_170.2.2.2 196 (o_zne 202) := ok_zne dX11_told_196 (by decide)
theorem k_170_199 : mOk M_170.1 M_170.2.1 M_170.2.2.1 M_170.2.2.2 199 (o_inc 4 1) := ok_iinc dX11_told_199 (by decide)
theorem k_170_202 : mOk M_170.1 M_170.2.1 M_170.2.2.1 M_170.2.2.2 202 (o_goto 7) := ok_goto dX11_told_202 (by decide)
theorem k_170_205 : mOk M_170.1 M_170.2.1 M_170.2.2.1 M_170.2.2.2 205 (o_al 0 1) := ok_aload_n dX11_told_205 rfl
theorem k_170_206 : mOk M_170.1 M_170.2.1 M_170.2.2.1 M_170.2.2.2 206 (oS 1 (s_push (.int (-1)))) := ok_iconst dX11_told_206 (by decide)
theorem k_170_207 : mOk M_170.1 M_170.2.1 M_170.2.2.1 M_170.2.2.2 207 (o_pI 11 49) := ok_pI dX11_told_207 (mFw_of f_RX11_318_c (Or.inl rfl)) rfl
theorem k_170_210 : mOk M_170.1 M_170.2.1 M_170.2.2.1 M_170.2.2.2 210 (o_al 0 1) := ok_aload_n dX11_told_210 rfl
theorem k_170_211 : mOk M_170.1 M_170.2.1 M_170.2.2.1 M_170.2.2.2 211 (oS 1 (s_push (.int (-1)))) := ok_iconst dX11_told_211 (by decide)
theorem k_170_212 : mOk M_170.1 M_170.2.1 M_170.2.2.1 M_170.2.2.2 212 (o_pI 11 50) := ok_pI dX11_told_212 (mFw_of f_RX11_321_c (Or.inl rfl)) rfl
theorem k_170_215 : mOk M_170.1 M_170.2.1 M_170.2.2.1 M_170.2.2.2 215 (o_il 2 1) := ok_iload_n dX11_told_215 rfl
set_option maxRecDepth 20000 in
set_option maxHeartbeats 4000000 in
theorem tk_170 (l : Launch) (H9 : mThr l) (H10 : mSpl l) (pc : Nat) (q : mEnt) (h : tb_170 pc = some q) : EE l 170 pc q := nd h (fun h => nd h (fun h => nd h (fun h => nd h (fun h => nd h (fun h => nd h (fun h => lf (P := EE l 170) h k_170_0) (fun h => nd h (fun h => lf (P := EE l 170) h k_170_1) (fun h => lf (P := EE l 170) h k_170_2))) (fun h => nd h (fun h => nd h (fun h => lf (P := EE l 170) h k_170_3) (fun h => lf (P := EE l 170) h k_170_4)) (fun h => nd h (fun h => lf (P := EE l 170) h k_170_5) (fun h => lf (P := EE l 170) h k_170_7)))) (fun h => nd h (fun h => nd h (fun h => lf (P := EE l 170) h k_170_8) (fun h => nd h (fun h => lf (P := EE l 170) h k_170_9) (fun h => lf (P := EE l 170) h k_170_12))) (fun h => nd h (fun h => nd h (fun h => lf (P := EE l 170) h k_170_13) (fun h => lf (P := EE l 170) h k_170_14)) (fun h => nd h (fun h => lf (P := EE l 170) h k_170_17) (fun h => lf (P := EE l 170) h k_170_19))))) (fun h => nd h (fun h => nd h (fun h => nd h (fun h => lf (P := EE l 170) h k_170_20) (fun h => nd h (fun h => lf (P := EE l 170) h k_170_23) (fun h => lf (P := EE l 170) h k_170_24))) (fun h => nd h (fun h => nd h (fun h => lf (P := EE l 170) h k_170_25) (fun h => lf (P := EE l 170) h k_170_28)) (fun h => nd h (fun h => lf (P := EE l 170) h k_170_30) (fun h => lf (P := EE l 170) h k_170_31)))) (fun h => nd h (fun h => nd h (fun h => nd h (fun h => lf (P := EE l 170) h k_170_34) (fun h => lf (P := EE l 170) h k_170_35)) (fun h => nd h (fun h => lf (P := EE l 170) h k_170_36) (fun h => lf (P := EE l 170) h k_170_39))) (fun h => nd h (fun h => nd h (fun h => lf (P := EE l 170) h k_170_40) (fun h => lf (P := EE l 170) h k_170_41)) (fun h => nd h (fun h => lf (P := EE l 170) h k_170_44) (fun h => lf (P := EE l 170) h k_170_45)))))) (fun h => nd h (fun h => nd h (fun h => nd h (fun h => nd h (fun h => lf (P := EE l 170) h k_170_46) (fun h => nd h (fun h => lf (P := EE l 170) h k_170_49) (fun h => lf (P := EE l 170) h k_170_50))) (fun h => nd h (fun h => nd h (fun h => lf (P := EE l 170) h k_170_51) (fun h => lf (P := EE l 170) h k_170_52)) (fun h => nd h (fun h => lf (P := EE l 170) h k_170_53) (fun h => lf (P := EE l 170) h (EE_ca (by decide) (⟨m_1428, m_81, ⟨by decide, by decide⟩, by decide +kernel, ⟨by decide, by decide⟩, 312, 4, by decide +kernel, Or.inr (Or.inr (Or.inl ⟨rfl, rfl, dX11_told_55, m_1425, m_1427, _, rfl, by decide, m_65⟩))⟩) rfl))))) (fun h => nd h (fun h => nd h (fun h => nd h (fun h => lf (P := EE l 170) h k_170_58) (fun h => lf (P := EE l 170) h k_170_61)) (fun h => nd h (fun h => lf (P := EE l 170) h k_170_62) (fun h => lf (P := EE l 170) h k_170_65))) (fun h => nd h (fun h => nd h (fun h => lf (P := EE l 170) h k_170_66) (fun h => lf (P := EE l 170) h k_170_68)) (fun h => nd h (fun h => lf (P := EE l 170) h k_170_69) (fun h => lf (P := EE l 170) h k_170_70))))) (fun h => nd h (fun h => nd h (fun h => nd h (fun h => lf (P := EE l 170) h k_170_73) (fun h => nd h (fun h => lf (P := EE l 170) h k_170_74) (fun h => lf (P := EE l 170) h k_170_75))) (fun h => nd h (fun h => nd h (fun h => lf (P := EE l 170) h k_170_78) (fun h => lf (P := EE l 170) h k_170_80)) (fun h => nd h (fun h => lf (P := EE l 170) h k_170_81) (fun h => lf (P := EE l 170) h k_170_84)))) (fun h => nd h (fun h => nd h (fun h => nd h (fun h => lf (P := EE l 170) h k_170_85) (fun h => lf (P := EE l 170) h k_170_86)) (fun h => nd h (fun h => lf (P := EE l 170) h k_170_89) (fun h => lf (P := EE l 170) h k_170_90))) (fun h => nd h (fun h => nd h (fun h => lf (P := EE l 170) h k_170_91) (fun h => lf (P := EE l 170) h k_170_93)) (fun h => nd h (fun h => lf (P := EE l 170) h k_170_94) (fun h => lf (P := EE l 170) h (EE_ca (by decide) (⟨m_1428, m_81, ⟨by decide, by decide⟩, by decide +kernel, ⟨by decide, by decide⟩, 312, 4, by decide +kernel, Or.inr (Or.inr (Or.inl ⟨rfl, rfl, dX11_told_95, m_1425, m_1427, _, rfl, by decide, m_65⟩))⟩) rfl)))))))) (fun h => nd h (fun h => nd h (fun h => nd h (fun h => nd h (fun h => nd h (fun h => lf (P := EE l 170) h k_170_98) (fun h => nd h (fun h => lf (P := EE l 170) h k_170_101) (fun h => lf (P := EE l 170) h k_170_102))) (fun h => nd h (fun h => nd h (fun h => lf (P := EE l 170) h k_170_105) (fun h => lf (P := EE l 170) h k_170_106)) (fun h => nd h (fun h => lf (P := EE l 170) h k_170_108) (fun h => lf (P := EE l 170) h k_170_110)))) (fun h => nd h (fun h => nd h (fun h => lf (P := EE l 170) h k_170_113) (fun h => nd h (fun h => lf (P := EE l 170) h k_170_115) (fun h => lf (P := EE l 170) h k_170_118))) (fun h => nd h (fun h => nd h (fun h => lf (P := EE l 170) h k_170_119) (fun h => lf (P := EE l 170) h k_170_120)) (fun h => nd h (fun h => lf (P := EE l 170) h k_170_121) (fun h => lf (P := EE l 170) h k_170_122))))) (fun h => nd h (fun h => nd h (fun h => nd h (fun h => lf (P := EE l 170) h (EE_ca (by decide) (⟨m_1432, m_81, ⟨by decide, by decide⟩, by decide +kernel, ⟨by decide, by decide⟩, 315, 4, by decide +kernel, Or.inr (Or.inr (Or.inl ⟨rfl, rfl, dX11_told_124, m_1429, m_1431, _, rfl, by decide, m_66⟩))⟩) rfl)) (fun h => nd h (fun h => lf (P := EE l 170) h k_170_127) (fun h => lf (P := EE l 170) h k_170_130))) (fun h => nd h (fun h => nd h (fun h => lf (P := EE l 170) h k_170_131) (fun h => lf (P := EE l 170) h k_170_134)) (fun h => nd h (fun h => lf (P := EE l 170) h k_170_135) (fun h => lf (P := EE l 170) h k_170_137)))) (fun h => nd h (fun h => nd h (fun h => nd h (fun h => lf (P := EE l 170) h k_170_139) (fun h => lf (P := EE l 170) h k_170_142)) (fun h => nd h (fun h => lf (P := EE l 170) h k_170_143) (fun h => lf (P := EE l 170) h k_170_144))) (fun h => nd h (fun h => nd h (fun h => lf (P := EE l 170) h k_170_147) (fun h => lf (P := EE l 170) h k_170_148)) (fun h => nd h (fun h => lf (P := EE l 170) h k_170_150) (fun h => lf (P := EE l 170) h k_170_153)))))) (fun h => nd h (fun h => nd h (fun h => nd h (fun h => nd h (fun h => lf (P := EE l 170) h k_170_154) (fun h => nd h (fun h => lf (P := EE l 170) h k_170_157) (fun h => lf (P := EE l 170) h k_170_158))) (fun h => nd h (fun h => nd h (fun h => lf (P := EE l 170) h k_170_161) (fun h => lf (P := EE l 170) h k_170_162)) (fun h => nd h (fun h => lf (P := EE l 170) h k_170_164) (fun h => lf (P := EE l 170) h k_170_167)))) (fun h => nd h (fun h => nd h (fun h => nd h (fun h => lf (P := EE l 170) h k_170_168) (fun h => lf (P := EE l 170) h k_170_171)) (fun h => nd h (fun h => lf (P := EE l 170) h k_170_173) (fun h => lf (P := EE l 170) h k_170_176))) (fun h => nd h (fun h => nd h (fun h => lf (P := EE l 170) h (EE_re (Or.inl ⟨rfl, dX11_told_177, rfl⟩))) (fun h => lf (P := EE l 170) h k_170_178)) (fun h => nd h (fun h => lf (P := EE l 170) h k_170_180) (fun h => lf (P := EE l 170) h k_170_183))))) (fun h => nd h (fun h => nd h (fun h => nd h (fun h => lf (P := EE l 170) h k_170_186) (fun h => nd h (fun h => lf (P := EE l 170) h k_170_188) (fun h => lf (P := EE l 170) h k_170_191))) (fun h => nd h (fun h => nd h (fun h => lf (P := EE l 170) h k_170_194) (fun h => lf (P := EE l 170) h k_170_196)) (fun h => nd h (fun h => lf (P := EE l 170) h k_170_199) (fun h => lf (P := EE l 170) h k_170_202)))) (fun h => nd h (fun h => nd h (fun h => nd h (fun h => lf (P := EE l 170) h k_170_205) (fun h => lf (P := EE l 170) h k_170_206)) (fun h => nd h (fun h => lf (P := EE l 170) h k_170_207) (fun h => lf (P := EE l 170) h k_170_210))) (fun h => nd h (fun h => nd h (fun h => lf (P := EE l 170) h k_170_211) (fun h => lf (P := EE l 170) h k_170_212)) (fun h => nd h (fun h => lf (P := EE l 170) h k_170_215) (fun h => lf (P := EE l 170) h (EE_re (Or.inl ⟨rfl, dX11_told_216, rfl⟩)))))))))
theorem dX11_differs_0 : decode cX11_differs 0 = .ok (.aload_n 0, 1) := by decide +kernel
theorem dX11_differs_1 : decode cX11_differs 1 = .ok (.iconst 0, 1) := by decide +kernel
theorem dX11_differs_2 : decode cX11_differs 2 = .ok (.putfield 133, 3) := by decide +kernel
theorem dX11_differs_5 : decode cX11_differs 5 = .ok (.aload_n 0, 1) := by decide +kernel
theorem dX11_differs_6 : decode cX11_differs 6 = .ok (.getfield 274, 3) := by decide +kernel
theorem dX11_differs_9 : decode cX11_differs 9 = .ok (.ifCond .eq 16, 3) := by decide +kernel
theorem dX11_differs_12 : decode cX11_differs 12 = .ok (.iload_n 1, 1) := by decide +kernel
theorem dX11_differs_13 : decode cX11_differs 13 = .ok (.ifCond .lt 12, 3) := by decide +kernel
theorem dX11_differs_16 : decode cX11_differs 16 = .ok (.iload_n 2, 1) := by decide +kernel
theorem dX11_differs_17 : decode cX11_differs 17 = .ok (.iconst 0, 1) := by decide +kernel
theorem dX11_differs_18 : decode cX11_differs 18 = .ok (.iconst 4, 1) := by decide +kernel
theorem dX11_differs_19 : decode cX11_differs 19 = .ok (.invokestatic 137, 3) := by decide +kernel
theorem dX11_differs_22 : decode cX11_differs 22 = .ok (.ifCond .ne 5, 3) := by decide +kernel
theorem dX11_differs_25 : decode cX11_differs 25 = .ok (.iconst (-1), 1) := by decide +kernel
theorem dX11_differs_26 : decode cX11_differs 26 = .ok (.ireturn, 1) := by decide +kernel
theorem dX11_differs_27 : decode cX11_differs 27 = .ok (.aload_n 0, 1) := by decide +kernel
theorem dX11_differs_28 : decode cX11_differs 28 = .ok (.iload_n 1, 1) := by decide +kernel
theorem dX11_differs_29 : decode cX11_differs 29 = .ok (.invokevirtual 309, 3) := by decide +kernel
theorem dX11_differs_32 : decode cX11_differs 32 = .ok (.pop, 1) := by decide +kernel
theorem dX11_differs_33 : decode cX11_differs 33 = .ok (.aload_n 0, 1) := by decide +kernel
theorem dX11_differs_34 : decode cX11_differs 34 = .ok (.getfield 318, 3) := by decide +kernel
theorem dX11_differs_37 : decode cX11_differs 37 = .ok (.iconst (-1), 1) := by decide +kernel
theorem dX11_differs_38 : decode cX11_differs 38 = .ok (.if_icmp .ne 13, 3) := by decide +kernel
theorem dX11_differs_41 : decode cX11_differs 41 = .ok (.aload_n 0, 1) := by decide +kernel
theorem dX11_differs_42 : decode cX11_differs 42 = .ok (.getfield 321, 3) := by decide +kernel
theorem dX11_differs_45 : decode cX11_differs 45 = .ok (.iconst (-1), 1) := by decide +kernel
theorem dX11_differs_46 : decode cX11_differs 46 = .ok (.if_icmp .ne 5, 3) := by decide +kernel
theorem dX11_differs_49 : decode cX11_differs 49 = .ok (.iconst (-1), 1) := by decide +kernel
theorem dX11_differs_50 : decode cX11_differs 50 = .ok (.ireturn, 1) := by decide +kernel
theorem dX11_differs_51 : decode cX11_differs 51 = .ok (.aload_n 0, 1) := by decide +kernel
theorem dX11_differs_52 : decode cX11_differs 52 = .ok (.getfield 321, 3) := by decide +kernel
theorem dX11_differs_55 : decode cX11_differs 55 = .ok (.iconst (-1), 1) := by decide +kernel
theorem dX11_differs_56 : decode cX11_differs 56 = .ok (.if_icmp .ne 13, 3) := by decide +kernel
theorem dX11_differs_59 : decode cX11_differs 59 = .ok (.bipush 100, 2) := by decide +kernel
theorem dX11_differs_61 : decode cX11_differs 61 = .ok (.aload_n 0, 1) := by decide +kernel
theorem dX11_differs_62 : decode cX11_differs 62 = .ok (.getfield 318, 3) := by decide +kernel
theorem dX11_differs_65 : decode cX11_differs 65 = .ok (.iadd, 1) := by decide +kernel
theorem dX11_differs_66 : decode cX11_differs 66 = .ok (.goto 11, 3) := by decide +kernel
theorem dX11_differs_69 : decode cX11_differs 69 = .ok (.sipush 200, 3) := by decide +kernel
theorem dX11_differs_72 : decode cX11_differs 72 = .ok (.aload_n 0, 1) := by decide +kernel
theorem dX11_differs_73 : decode cX11_differs 73 = .ok (.getfield 321, 3) := by decide +kernel
theorem dX11_differs_76 : decode cX11_differs 76 = .ok (.iadd, 1) := by decide +kernel
theorem dX11_differs_77 : decode cX11_differs 77 = .ok (.istore_n 3, 1) := by decide +kernel
theorem dX11_differs_78 : decode cX11_differs 78 = .ok (.iload_n 2, 1) := by decide +kernel
theorem dX11_differs_79 : decode cX11_differs 79 = .ok (.ifCond .ne 29, 3) := by decide +kernel
theorem dX11_differs_82 : decode cX11_differs 82 = .ok (.aload_n 0, 1) := by decide +kernel
theorem dX11_differs_83 : decode cX11_differs 83 = .ok (.getfield 321, 3) := by decide +kernel
theorem dX11_differs_86 : decode cX11_differs 86 = .ok (.iconst (-1), 1) := by decide +kernel
theorem dX11_differs_87 : decode cX11_differs 87 = .ok (.if_icmp .ne 7, 3) := by decide +kernel
theorem dX11_differs_90 : decode cX11_differs 90 = .ok (.iconst 0, 1) := by decide +kernel
theorem dX11_differs_91 : decode cX11_differs 91 = .ok (.goto 16, 3) := by decide +kernel
theorem dX11_differs_94 : decode cX11_differs 94 = .ok (.aload_n 0, 1) := by decide +kernel
theorem dX11_differs_95 : decode cX11_differs 95 = .ok (.getfield 318, 3) := by decide +kernel
theorem dX11_differs_98 : decode cX11_differs 98 = .ok (.iconst (-1), 1) := by decide +kernel
theorem dX11_differs_99 : decode cX11_differs 99 = .ok (.if_icmp .ne 7, 3) := by decide +kernel
theorem dX11_differs_102 : decode cX11_differs 102 = .ok (.iconst 1, 1) := by decide +kernel
theorem dX11_differs_103 : decode cX11_differs 103 = .ok (.goto 4, 3) := by decide +kernel
theorem dX11_differs_106 : decode cX11_differs 106 = .ok (.iconst 2, 1) := by decide +kernel
theorem dX11_differs_107 : decode cX11_differs 107 = .ok (.ireturn, 1) := by decide +kernel
theorem dX11_differs_108 : decode cX11_differs 108 = .ok (.iload_n 2, 1) := by decide +kernel
theorem dX11_differs_109 : decode cX11_differs 109 = .ok (.iconst 4, 1) := by decide +kernel
theorem dX11_differs_110 : decode cX11_differs 110 = .ok (.if_icmp .ne 22, 3) := by decide +kernel
theorem dX11_differs_113 : decode cX11_differs 113 = .ok (.aload_n 0, 1) := by decide +kernel
theorem dX11_differs_114 : decode cX11_differs 114 = .ok (.getfield 321, 3) := by decide +kernel
theorem dX11_differs_117 : decode cX11_differs 117 = .ok (.iconst (-1), 1) := by decide +kernel
theorem dX11_differs_118 : decode cX11_differs 118 = .ok (.if_icmp .ne 7, 3) := by decide +kernel
theorem dX11_differs_121 : decode cX11_differs 121 = .ok (.iconst 0, 1) := by decide +kernel
theorem dX11_differs_122 : decode cX11_differs 122 = .ok (.goto 9, 3) := by decide +kernel
theorem dX11_differs_125 : decode cX11_differs 125 = .ok (.aload_n 0, 1) := by decide +kernel
theorem dX11_differs_126 : decode cX11_differs 126 = .ok (.getfield 69, 3) := by decide +kernel
theorem dX11_differs_129 : decode cX11_differs 129 = .ok (.iload_n 3, 1) := by decide +kernel
theorem dX11_differs_130 : decode cX11_differs 130 = .ok (.iaload, 1) := by decide +kernel
theorem dX11_differs_131 : decode cX11_differs 131 = .ok (.ireturn, 1) := by decide +kernel
theorem dX11_differs_132 : decode cX11_differs 132 = .ok (.iload_n 2, 1) := by decide +kernel
theorem dX11_differs_133 : decode cX11_differs 133 = .ok (.iconst 1, 1) := by decide +kernel
theorem dX11_differs_134 : decode cX11_differs 134 = .ok (.if_icmp .ne 12, 3) := by decide +kernel
theorem dX11_differs_137 : decode cX11_differs 137 = .ok (.aload_n 0, 1) := by decide +kernel
theorem dX11_differs_138 : decode cX11_differs 138 = .ok (.getfield 60, 3) := by decide +kernel
theorem dX11_differs_141 : decode cX11_differs 141 = .ok (.iload_n 3, 1) := by decide +kernel
theorem dX11_differs_142 : decode cX11_differs 142 = .ok (.iaload, 1) := by decide +kernel
theorem dX11_differs_143 : decode cX11_differs 143 = .ok (.goto 23, 3) := by decide +kernel
theorem dX11_differs_146 : decode cX11_differs 146 = .ok (.iload_n 2, 1) := by decide +kernel
theorem dX11_differs_147 : decode cX11_differs 147 = .ok (.iconst 2, 1) := by decide +kernel
theorem dX11_differs_148 : decode cX11_differs 148 = .ok (.if_icmp .ne 12, 3) := by decide +kernel
theorem dX11_differs_151 : decode cX11_differs 151 = .ok (.aload_n 0, 1) := by decide +kernel
theorem dX11_differs_152 : decode cX11_differs 152 = .ok (.getfield 63, 3) := by decide +kernel
theorem dX11_differs_155 : decode cX11_differs 155 = .ok (.iload_n 3, 1) := by decide +kernel
theorem dX11_differs_156 : decode cX11_differs 156 = .ok (.iaload, 1) := by decide +kernel
theorem dX11_differs_157 : decode cX11_differs 157 = .ok (.goto 9, 3) := by decide +kernel
theorem dX11_differs_160 : decode cX11_differs 160 = .ok (.aload_n 0, 1) := by decide +kernel
theorem dX11_differs_161 : decode cX11_differs 161 = .ok (.getfield 66, 3) := by decide +kernel
theorem dX11_differs_164 : decode cX11_differs 164 = .ok (.iload_n 3, 1) := by decide +kernel
theorem dX11_differs_165 : decode cX11_differs 165 = .ok (.iaload, 1) := by decide +kernel
theorem dX11_differs_166 : decode cX11_differs 166 = .ok (.ireturn, 1) := by decide +kernel
def tb_171 (pc : Nat) : Option mEnt := bif Nat.ble pc 83 then (bif Nat.ble pc 38 then (bif Nat.ble pc 18 then (bif Nat.ble pc 6 then (bif Nat.ble pc 1 then (bif Nat.ble pc 0 then (bif Nat.beq pc 0 then some (.inl (o_al 0 1)) else none) else (bif Nat.beq pc 1 then some (.inl (oS 1 (s_push (.int 0)))) else none)) else (bif Nat.ble pc 2 then (bif Nat.beq pc 2 then some (.inl (o_pI 11 13)) else none) else (bif Nat.ble pc 5 then (bif Nat.beq pc 5 then some (.inl (o_al 0 1)) else none) else (bif Nat.beq pc 6 then some (.inl (o_gI 11 16)) else none)))) else (bif Nat.ble pc 13 then (bif Nat.ble pc 9 then (bif Nat.beq pc 9 then some (.inl (o_zeq 25)) else none) else (bif Nat.ble pc 12 then (bif Nat.beq pc 12 then some (.inl (o_il 1 1)) else none) else (bif Nat.beq pc 13 then some (.inl (o_zlt 25)) else none))) else (bif Nat.ble pc 16 then (bif Nat.beq pc 16 then some (.inl (o_il 2 1)) else none) else (bif Nat.ble pc 17 then (bif Nat.beq pc 17 then some (.inl (oS 1 (s_push (.int 0)))) else none) else (bif Nat.beq pc 18 then some (.inl (oS 1 (s_push (.int 4)))) else none))))) else (bif Nat.ble pc 28 then (bif Nat.ble pc 25 then (bif Nat.ble pc 19 then (bif Nat.beq pc 19 then some (.inr (2, 115, 3, 0)) else none) else (bif Nat.ble pc 22 then (bif Nat.beq pc 22 then some (.inl (o_zne 27)) else none) else (bif Nat.beq pc 25 then some (.inl (oS 1 (s_push (.int (-1))))) else none))) else (bif Nat.ble pc 26 then (bif Nat.beq pc 26 then some (.inr (0, 0, 0, 0)) else none) else (bif Nat.ble pc 27 then (bif Nat.beq pc 27 then some (.inl (o_al 0 1)) else none) else (bif Nat.beq pc 28 then some (.inl (o_il 1 1)) else none)))) else (bif Nat.ble pc 33 then (bif Nat.ble pc 29 then (bif Nat.beq pc 29 then some (.inr (3, 170, 2, 11)) else none) else (bif Nat.ble pc 32 then (bif Nat.beq pc 32 then some (.inl (oS 1 s_pop)) else none) else (bif Nat.beq pc 33 then some (.inl (o_al 0 1)) else none))) else (bif Nat.ble pc 34 then (bif Nat.beq pc 34 then some (.inl (o_gI 11 49)) else none) else (bif Nat.ble pc 37 then (bif Nat.beq pc 37 then some (.inl (oS 1 (s_push (.int (-1))))) else none) else (bif Nat.beq pc 38 then some (.inl (o_cne 51)) else none)))))) else (bif Nat.ble pc 61 then (bif Nat.ble pc 50 then (bif Nat.ble pc 45 then (bif Nat.ble pc 41 then (bif Nat.beq pc 41 then some (.inl (o_al 0 1)) else none) else (bif Nat.ble pc 42 then (bif Nat.beq pc 42 then some (.inl (o_gI 11 50)) else none) else (bif Nat.beq pc 45 then some (.inl (oS 1 (s_push (.int (-1))))) else none))) else (bif Nat.ble pc 46 then (bif Nat.beq pc 46 then some (.inl (o_cne 51)) else none) else (bif Nat.ble pc 49 then (bif Nat.beq pc 49 then some (.inl (oS 1 (s_push (.int (-1))))) else none) else (bif Nat.beq pc 50 then some (.inr (0, 0, 0, 0)) else none)))) else (bif Nat.ble pc 55 then (bif Nat.ble pc 51 then (bif Nat.beq pc 51 then some (.inl (o_al 0 1)) else none) else (bif Nat.ble pc 52 then (bif Nat.beq pc 52 then some (.inl (o_gI 11 50)) else none) else (bif Nat.beq pc 55 then some (.inl (oS 1 (s_push (.int (-1))))) else none))) else (bif Nat.ble pc 56 then (bif Nat.beq pc 56 then some (.inl (o_cne 69)) else none) else (bif Nat.ble pc 59 then (bif Nat.beq pc 59 then some (.inl (oS 2 (s_push (.int 100)))) else none) else (bif Nat.beq pc 61 then some (.inl (o_al 0 1)) else none))))) else (bif Nat.ble pc 73 then (bif Nat.ble pc 66 then (bif Nat.ble pc 62 then (bif Nat.beq pc 62 then some (.inl (o_gI 11 49)) else none) else (bif Nat.ble pc 65 then (bif Nat.beq pc 65 then some (.inl (oS 1 (s_ii (fun a b => a + b)))) else none) else (bif Nat.beq pc 66 then some (.inl (o_goto 77)) else none))) else (bif Nat.ble pc 69 then (bif Nat.beq pc 69 then some (.inl (oS 3 (s_push (.int 200)))) else none) else (bif Nat.ble pc 72 then (bif Nat.beq pc 72 then some (.inl (o_al 0 1)) else none) else (bif Nat.beq pc 73 then some (.inl (o_gI 11 50)) else none)))) else (bif Nat.ble pc 78 then (bif Nat.ble pc 76 then (bif Nat.beq pc 76 then some (.inl (oS 1 (s_ii (fun a b => a + b)))) else none) else (bif Nat.ble pc 77 then (bif Nat.beq pc 77 then some (.inl (o_is 3 1)) else none) else (bif Nat.beq pc 78 then some (.inl (o_il 2 1)) else none))) else (bif Nat.ble pc 79 then (bif Nat.beq pc 79 then some (.inl (o_zne 108)) else none) else (bif Nat.ble pc 82 then (bif Nat.beq pc 82 then some (.inl (o_al 0 1)) else none) else (bif Nat.beq pc 83 then some (.inl (o_gI 11 50)) else none))))))) else (bif Nat.ble pc 126 then (bif Nat.ble pc 106 then (bif Nat.ble pc 94 then (bif Nat.ble pc 87 then (bif Nat.ble pc 86 then (bif Nat.beq pc 86 then some (.inl (oS 1 (s_push (.int (-1))))) else none) else (bif Nat.beq pc 87 then some (.inl (o_cne 94)) else none)) else (bif Nat.ble pc 90 then (bif Nat.beq pc 90 then some (.inl (oS 1 (s_push (.int 0)))) else none) else (bif Nat.ble pc 91 then (bif Nat.beq pc 91 then some (.inl (o_goto 107)) else none) else (bif Nat.beq pc 94 then some (.inl (o_al 0 1)) else none)))) else (bif Nat.ble pc 99 then (bif Nat.ble pc 95 then (bif Nat.beq pc 95 then some (.inl (o_gI 11 49)) else none) else (bif Nat.ble pc 98 then (bif Nat.beq pc 98 then some (.inl (oS 1 (s_push (.int (-1))))) else none) else (bif Nat.beq pc 99 then some (.inl (o_cne 106)) else none))) else (bif Nat.ble pc 102 then (bif Nat.beq pc 102 then some (.inl (oS 1 (s_push (.int 1)))) else none) else (bif Nat.ble pc 103 then (bif Nat.beq pc 103 then some (.inl (o_goto 107)) else none) else (bif Nat.beq pc 106 then some (.inl (oS 1 (s_push (.int 2)))) else none))))) else (bif Nat.ble pc 114 then (bif Nat.ble pc 109 then (bif Nat.ble pc 107 then (bif Nat.beq pc 107 then some (.inr (0, 0, 0, 0)) else none) else (bif Nat.ble pc 108 then (bif Nat.beq pc 108 then some (.inl (o_il 2 1)) else none) else (bif Nat.beq pc 109 then some (.inl (oS 1 (s_push (.int 4)))) else none))) else (bif Nat.ble pc 110 then (bif Nat.beq pc 110 then some (.inl (o_cne 132)) else none) else (bif Nat.ble pc 113 then (bif Nat.beq pc 113 then some (.inl (o_al 0 1)) else none) else (bif Nat.beq pc 114 then some (.inl (o_gI 11 50)) else none)))) else (bif Nat.ble pc 121 then (bif Nat.ble pc 117 then (bif Nat.beq pc 117 then some (.inl (oS 1 (s_push (.int (-1))))) else none) else (bif Nat.ble pc 118 then (bif Nat.beq pc 118 then some (.inl (o_cne 125)) else none) else (bif Nat.beq pc 121 then some (.inl (oS 1 (s_push (.int 0)))) else none))) else (bif Nat.ble pc 122 then (bif Nat.beq pc 122 then some (.inl (o_goto 131)) else none) else (bif Nat.ble pc 125 then (bif Nat.beq pc 125 then some (.inl (o_al 0 1)) else none) else (bif Nat.beq pc 126 then some (.inl (o_gP 11 24)) else none)))))) else (bif Nat.ble pc 146 then (bif Nat.ble pc 134 then (bif Nat.ble pc 131 then (bif Nat.ble pc 129 then (bif Nat.beq pc 129 then some (.inl (o_il 3 1)) else none) else (bif Nat.ble pc 130 then (bif Nat.beq pc 130 then some (.inl (o_iald)) else none) else (bif Nat.beq pc 131 then some (.inr (0, 0, 0, 0)) else none))) else (bif Nat.ble pc 132 then (bif Nat.beq pc 132 then some (.inl (o_il 2 1)) else none) else (bif Nat.ble pc 133 then (bif Nat.beq pc 133 then some (.inl (oS 1 (s_push (.int 1)))) else none) else (bif Nat.beq pc 134 then some (.inl (o_cne 146)) else none)))) else (bif Nat.ble pc 141 then (bif Nat.ble pc 137 then (bif Nat.beq pc 137 then some (.inl (o_al 0 1)) else none) else (bif Nat.ble pc 138 then (bif Nat.beq pc 138 then some (.inl (o_gP 11 21)) else none) else (bif Nat.beq pc 141 then some (.inl (o_il 3 1)) else none))) else (bif Nat.ble pc 142 then (bif Nat.beq pc 142 then some (.inl (o_iald)) else none) else (bif Nat.ble pc 143 then (bif Nat.beq pc 143 then some (.inl (o_goto 166)) else none) else (bif Nat.beq pc 146 then some (.inl (o_il 2 1)) else none))))) else (bif Nat.ble pc 156 then (bif Nat.ble pc 151 then (bif Nat.ble pc 147 then (bif Nat.beq pc 147 then some (.inl (oS 1 (s_push (.int 2)))) else none) else (bif Nat.ble pc 148 then (bif Nat.beq pc 148 then some (.inl (o_cne 160)) else none) else (bif Nat.beq pc 151 then some (.inl (o_al 0 1)) else none))) else (bif Nat.ble pc 152 then (bif Nat.beq pc 152 then some (.inl (o_gP 11 22)) else none) else (bif Nat.ble pc 155 then (bif Nat.beq pc 155 then some (.inl (o_il 3 1)) else none) else (bif Nat.beq pc 156 then some (.inl (o_iald)) else none)))) else (bif Nat.ble pc 161 then (bif Nat.ble pc 157 then (bif Nat.beq pc 157 then some (.inl (o_goto 166)) else none) else (bif Nat.ble pc 160 then (bif Nat.beq pc 160 then some (.inl (o_al 0 1)) else none) else (bif Nat.beq pc 161 then some (.inl (o_gP 11 23)) else none))) else (bif Nat.ble pc 164 then (bif Nat.beq pc 164 then some (.inl (o_il 3 1)) else none) else (bif Nat.ble pc 165 then (bif Nat.beq pc 165 then some (.inl (o_iald)) else none) else (bif Nat.beq pc 166 then some (.inr (0, 0, 0, 0)) else none)))))))
theorem k_171_0 : mOk M_171.1 M_171.2.1 M_171.2.2.1 M_171.2.2.2 0 (o_al 0 1) := ok_aload_n dX11_differs_0 rfl
theorem k_171_1 : mOk M_171.1 M_171.2.1 M_171.2.2.1 M_171.2.2.2 1 (oS 1 (s_push (.int 0))) := ok_iconst dX11_differs_1 (by decide)
theorem k_171_2 : mOk M_171.1 M_171.2.1 M_171.2.2.1 M_171.2.2.2 2 (o_pI 11 13) := ok_pI dX11_differs_2 (mFw_of f_RX11_133_c (Or.inl rfl)) rfl
theorem k_171_5 : mOk M_171.1 M_171.2.1 M_171.2.2.1 M_171.2.2.2 5 (o_al 0 1) := ok_aload_n dX11_differs_5 rfl
theorem k_171_6 : mOk M_171.1 M_171.2.1 M_171.2.2.1 M_171.2.2.2 6 (o_gI 11 16) := ok_gI dX11_differs_6 f_RX11_274 (Or.inr rfl)
theorem k_171_9 : mOk M_171.1 M_171.2.1 M_171.2.2.1 M_171.2.2.2 9 (o_zeq 25) := ok_zeq dX11_differs_9 (by decide)
theorem k_171_12 : mOk M_171.1 M_171.2.1 M_171.2.2.1 M_171.2.2.2 12 (o_il 1 1) := ok_iload_n dX11_differs_12 rfl
theorem k_171_13 : mOk M_171.1 M_171.2.1 M_171.2.2.1 M_171.2.2.2 13 (o_zlt 25) := ok_zlt dX11_differs_13 (by decide)
theorem k_171_16 : mOk M_171.1 M_171.2.1 M_171.2.2.1 M_171.2.2.2 16 (o_il 2 1) := ok_iload_n dX11_differs_16 rfl
theorem k_171_17 : mOk M_171.1 M_171.2.1 M_171.2.2.1 M_171.2.2.2 17 (oS 1 (s_push (.int 0))) := ok_iconst dX11_differs_17 (by decide)
theorem k_171_18 : mOk M_171.1 M_171.2.1 M_171.2.2.1 M_171.2.2.2 18 (oS 1 (s_push (.int 4))) := ok_iconst dX11_differs_18 (by decide)
theorem k_171_22 : mOk M_171.1 M_171.2.1 M_171.2.2.1 M_171.2.2.2 22 (o_zne 27) := ok_zne dX11_differs_22 (by decide)
theorem k_171_25 : mOk M_171.1 M_171.2.1 M_171.2.2.1 M_171.2.2.2 25 (oS 1 (s_push (.int (-1)))) := ok_iconst dX11_differs_25 (by decide)
theorem k_171_27 : mOk M_171.1 M_171.2.1 M_171.2.2.1 M_171.2.2.2 27 (o_al 0 1) := ok_aload_n dX11_differs_27 rfl
theorem k_171_28 : mOk M_171.1 M_171.2.1 M_171.2.2.1 M_171.2.2.2 28 (o_il 1 1) := ok_iload_n dX11_differs_28 rfl
theorem k_171_32 : mOk M_171.1 M_171.2.1 M_171.2.2.1 M_171.2.2.2 32 (oS 1 s_pop) := ok_pop dX11_differs_32
theorem k_171_33 : mOk M_171.1 M_171.2.1 M_171.2.2.1 M_171.2.2.2 33 (o_al 0 1) := ok_aload_n dX11_differs_33 rfl
theorem k_171_34 : mOk M_171.1 M_171.2.1 M_171.2.2.1 M_171.2.2.2 34 (o_gI 11 49) := ok_gI dX11_differs_34 f_RX11_318 (Or.inl rfl)
theorem k_171_37 : mOk M_171.1 M_171.2.1 M_171.2.2.1 M_171.2.2.2 37 (oS 1 (s_push (.int (-1)))) := ok_iconst dX11_differs_37 (by decide)
theorem k_171_38 : mOk M_171.1 M_171.2.1 M_171.2.2.1 M_171.2.2.2 38 (o_cne 51) := ok_cne dX11_differs_38 (by decide)
theorem k_171_41 : mOk M_171.1 M_171.2.1 M_171.2.2.1 M_171.2.2.2 41 (o_al 0 1) := ok_aload_n dX11_differs_41 rfl
theorem k_171_42 : mOk M_171.1 M_171.2.1 M_171.2.2.1 M_171.2.2.2 42 (o_gI 11 50) := ok_gI dX11_differs_42 f_RX11_321 (Or.inl rfl)
theorem k_171_45 : mOk M_171.1 M_171.2.1 M_171.2.2.1 M_171.2.2.2 45 (oS 1 (s_push (.int (-1)))) := ok_iconst dX11_differs_45 (by decide)
theorem k_171_46 : mOk M_171.1 M_171.2.1 M_171.2.2.1 M_171.2.2.2 46 (o_cne 51) := ok_cne dX11_differs_46 (by decide)
theorem k_171_49 : mOk M_171.1 M_171.2.1 M_171.2.2.1 M_171.2.2.2 49 (oS 1 (s_push (.int (-1)))) := ok_iconst dX11_differs_49 (by decide)
theorem k_171_51 : mOk M_171.1 M_171.2.1 M_171.2.2.1 M_171.2.2.2 51 (o_al 0 1) := ok_aload_n dX11_differs_51 rfl
theorem k_171_52 : mOk M_171.1 M_171.2.1 M_171.2.2.1 M_171.2.2.2 52 (o_gI 11 50) := ok_gI dX11_differs_52 f_RX11_321 (Or.inl rfl)
theorem k_171_55 : mOk M_171.1 M_171.2.1 M_171.2.2.1 M_171.2.2.2 55 (oS 1 (s_push (.int (-1)))) := ok_iconst dX11_differs_55 (by decide)
theorem k_171_56 : mOk M_171.1 M_171.2.1 M_171.2.2.1 M_171.2.2.2 56 (o_cne 69) := ok_cne dX11_differs_56 (by decide)
theorem k_171_59 : mOk M_171.1 M_171.2.1 M_171.2.2.1 M_171.2.2.2 59 (oS 2 (s_push (.int 100))) := ok_bipush dX11_differs_59 (by decide)
theorem k_171_61 : mOk M_171.1 M_171.2.1 M_171.2.2.1 M_171.2.2.2 61 (o_al 0 1) := ok_aload_n dX11_differs_61 rfl
theorem k_171_62 : mOk M_171.1 M_171.2.1 M_171.2.2.1 M_171.2.2.2 62 (o_gI 11 49) := ok_gI dX11_differs_62 f_RX11_318 (Or.inl rfl)
theorem k_171_65 : mOk M_171.1 M_171.2.1 M_171.2.2.1 M_171.2.2.2 65 (oS 1 (s_ii (fun a b => a + b))) := ok_iadd dX11_differs_65
theorem k_171_66 : mOk M_171.1 M_171.2.1 M_171.2.2.1 M_171.2.2.2 66 (o_goto 77) := ok_goto dX11_differs_66 (by decide)
theorem k_171_69 : mOk M_171.1 M_171.2.1 M_171.2.2.1 M_171.2.2.2 69 (oS 3 (s_push (.int 200))) := ok_sipush dX11_differs_69 (by decide)
theorem k_171_72 : mOk M_171.1 M_171.2.1 M_171.2.2.1 M_171.2.2.2 72 (o_al 0 1) := ok_aload_n dX11_differs_72 rfl
theorem k_171_73 : mOk M_171.1 M_171.2.1 M_171.2.2.1 M_171.2.2.2 73 (o_gI 11 50) := ok_gI dX11_differs_73 f_RX11_321 (Or.inl rfl)
theorem k_171_76 : mOk M_171.1 M_171.2.1 M_171.2.2.1 M_171.2.2.2 76 (oS 1 (s_ii (fun a b => a + b))) := ok_iadd dX11_differs_76
theorem k_171_77 : mOk M_171.1 M_171.2.1 M_171.2.2.1 M_171.2.2.2 77 (o_is 3 1) := ok_istore_n dX11_differs_77 rfl
theorem k_171_78 : mOk M_171.1 M_171.2.1 M_171.2.2.1 M_171.2.2.2 78 (o_il 2 1) := ok_iload_n dX11_differs_78 rfl
theorem k_171_79 : mOk M_171.1 M_171.2.1 M_171.2.2.1 M_171.2.2.2 79 (o_zne 108) := ok_zne dX11_differs_79 (by decide)
theorem k_171_82 : mOk M_171.1 M_171.2.1 M_171.2.2.1 M_171.2.2.2 82 (o_al 0 1) := ok_aload_n dX11_differs_82 rfl
theorem k_171_83 : mOk M_171.1 M_171.2.1 M_171.2.2.1 M_171.2.2.2 83 (o_gI 11 50) := ok_gI dX11_differs_83 f_RX11_321 (Or.inl rfl)
theorem k_171_86 : mOk M_171.1 M_171.2.1 M_171.2.2.1 M_171.2.2.2 86 (oS 1 (s_push (.int (-1)))) := ok_iconst dX11_differs_86 (by decide)
theorem k_171_87 : mOk M_171.1 M_171.2.1 M_171.2.2.1 M_171.2.2.2 87 (o_cne 94) := ok_cne dX11_differs_87 (by decide)
theorem k_171_90 : mOk M_171.1 M_171.2.1 M_171.2.2.1 M_171.2.2.2 90 (oS 1 (s_push (.int 0))) := ok_iconst dX11_differs_90 (by decide)
theorem k_171_91 : mOk M_171.1 M_171.2.1 M_171.2.2.1 M_171.2.2.2 91 (o_goto 107) := ok_goto dX11_differs_91 (by decide)
theorem k_171_94 : mOk M_171.1 M_171.2.1 M_171.2.2.1 M_171.2.2.2 94 (o_al 0 1) := ok_aload_n dX11_differs_94 rfl
theorem k_171_95 : mOk M_171.1 M_171.2.1 M_171.2.2.1 M_171.2.2.2 95 (o_gI 11 49) := ok_gI dX11_differs_95 f_RX11_318 (Or.inl rfl)
theorem k_171_98 : mOk M_171.1 M_171.2.1 M_171.2.2.1 M_171.2.2.2 98 (oS 1 (s_push (.int (-1)))) := ok_iconst dX11_differs_98 (by decide)
theorem k_171_99 : mOk M_171.1 M_171.2.1 M_171.2.2.1 M_171.2.2.2 99 (o_cne 106) := ok_cne dX11_differs_99 (by decide)
theorem k_171_102 : mOk M_171.1 M_171.2.1 M_171.2.2.1 M_171.2.2.2 102 (oS 1 (s_push (.int 1))) := ok_iconst dX11_differs_102 (by decide)
theorem k_171_103 : mOk M_171.1 M_171.2.1 M_171.2.2.1 M_171.2.2.2 103 (o_goto 107) := ok_goto dX11_differs_103 (by decide)
theorem k_171_106 : mOk M_171.1 M_171.2.1 M_171.2.2.1 M_171.2.2.2 106 (oS 1 (s_push (.int 2))) := ok_iconst dX11_differs_106 (by decide)
theorem k_171_108 : mOk M_171.1 M_171.2.1 M_171.2.2.1 M_171.2.2.2 108 (o_il 2 1) := ok_iload_n dX11_differs_108 rfl
theorem k_171_109 : mOk M_171.1 M_171.2.1 M_171.2.2.1 M_171.2.2.2 109 (oS 1 (s_push (.int 4))) := ok_iconst dX11_differs_109 (by decide)
theorem k_171_110 : mOk M_171.1 M_171.2.1 M_171.2.2.1 M_171.2.2.2 110 (o_cne 132) := ok_cne dX11_differs_110 (by decide)
theorem k_171_113 : mOk M_171.1 M_171.2.1 M_171.2.2.1 M_171.2.2.2 113 (o_al 0 1) := ok_aload_n dX11_differs_113 rfl
theorem k_171_114 : mOk M_171.1 M_171.2.1 M_171.2.2.1 M_171.2.2.2 114 (o_gI 11 50) := ok_gI dX11_differs_114 f_RX11_321 (Or.inl rfl)
theorem k_171_117 : mOk M_171.1 M_171.2.1 M_171.2.2.1 M_171.2.2.2 117 (oS 1 (s_push (.int (-1)))) := ok_iconst dX11_differs_117 (by decide)
theorem k_171_118 : mOk M_171.1 M_171.2.1 M_171.2.2.1 M_171.2.2.2 118 (o_cne 125) := ok_cne dX11_differs_118 (by decide)
theorem k_171_121 : mOk M_171.1 M_171.2.1 M_171.2.2.1 M_171.2.2.2 121 (oS 1 (s_push (.int 0))) := ok_iconst dX11_differs_121 (by decide)
theorem k_171_122 : mOk M_171.1 M_171.2.1 M_171.2.2.1 M_171.2.2.2 122 (o_goto 131) := ok_goto dX11_differs_122 (by decide)
theorem k_171_125 : mOk M_171.1 M_171.2.1 M_171.2.2.1 M_171.2.2.2 125 (o_al 0 1) := ok_aload_n dX11_differs_125 rfl
theorem k_171_126 : mOk M_171.1 M_171.2.1 M_171.2.2.1 M_171.2.2.2 126 (o_gP 11 24) := ok_gP dX11_differs_126 f_RX11_69 rfl
theorem k_171_129 : mOk M_171.1 M_171.2.1 M_171.2.2.1 M_171.2.2.2 129 (o_il 3 1) := ok_iload_n dX11_differs_129 rfl
theorem k_171_130 : mOk M_171.1 M_171.2.1 M_171.2.2.1 M_171.2.2.2 130 (o_iald) := ok_iald dX11_differs_130
theorem k_171_132 : mOk M_171.1 M_171.2.1 M_171.2.2.1 M_171.2.2.2 132 (o_il 2 1) := ok_iload_n dX11_differs_132 rfl
theorem k_171_133 : mOk M_171.1 M_171.2.1 M_171.2.2.1 M_171.2.2.2 133 (oS 1 (s_push (.int 1))) := ok_iconst dX11_differs_133 (by decide)
theorem k_171_134 : mOk M_171.1 M_171.2.1 M_171.2.2.1 M_171.2.2.2 134 (o_cne 146) := ok_cne dX11_differs_134 (by decide)
theorem k_171_137 : mOk M_171.1 M_171.2.1 M_171.2.2.1 M_171.2.2.2 137 (o_al 0 1) := ok_aload_n dX11_differs_137 rfl
theorem k_171_138 : mOk M_171.1 M_171.2.1 M_171.2.2.1 M_171.2.2.2 138 (o_gP 11 21) := ok_gP dX11_differs_138 f_RX11_60 rfl
theorem k_171_141 : mOk M_171.1 M_171.2.1 M_171.2.2.1 M_171.2.2.2 141 (o_il 3 1) := ok_iload_n dX11_differs_141 rfl
theorem k_171_142 : mOk M_171.1 M_171.2.1 M_171.2.2.1 M_171.2.2.2 142 (o_iald) := ok_iald dX11_differs_142
theorem k_171_143 : mOk M_171.1 M_171.2.1 M_171.2.2.1 M_171.2.2.2 143 (o_goto 166) := ok_goto dX11_differs_143 (by decide)
theorem k_171_146 : mOk M_171.1 M_171.2.1 M_171.2.2.1 M_171.2.2.2 146 (o_il 2 1) := ok_iload_n dX11_differs_146 rfl
theorem k_171_147 : mOk M_171.1 M_171.2.1 M_171.2.2.1 M_171.2.2.2 147 (oS 1 (s_push (.int 2))) := ok_iconst dX11_differs_147 (by decide)
theorem k_171_148 : mOk M_171.1 M_171.2.1 M_171.2.2.1 M_171.2.2.2 148 (o_cne 160) := ok_cne dX11_differs_148 (by decide)
theorem k_171_151 : mOk M_171.1 M_171.2.1 M_171.2.2.1 M_171.2.2.2 151 (o_al 0 1) := ok_aload_n dX11_differs_151 rfl
theorem k_171_152 : mOk M_171.1 M_171.2.1 M_171.2.2.1 M_171.2.2.2 152 (o_gP 11 22) := ok_gP dX11_differs_152 f_RX11_63 rfl
theorem k_171_155 : mOk M_171.1 M_171.2.1 M_171.2.2.1 M_171.2.2.2 155 (o_il 3 1) := ok_iload_n dX11_differs_155 rfl
theorem k_171_156 : mOk M_171.1 M_171.2.1 M_171.2.2.1 M_171.2.2.2 156 (o_iald) := ok_iald dX11_differs_156
theorem k_171_157 : mOk M_171.1 M_171.2.1 M_171.2.2.1 M_171.2.2.2 157 (o_goto 166) := ok_goto dX11_differs_157 (by decide)
theorem k_171_160 : mOk M_171.1 M_171.2.1 M_171.2.2.1 M_171.2.2.2 160 (o_al 0 1) := ok_aload_n dX11_differs_160 rfl
theorem k_171_161 : mOk M_171.1 M_171.2.1 M_171.2.2.1 M_171.2.2.2 161 (o_gP 11 23) := ok_gP dX11_differs_161 f_RX11_66 rfl
theorem k_171_164 : mOk M_171.1 M_171.2.1 M_171.2.2.1 M_171.2.2.2 164 (o_il 3 1) := ok_iload_n dX11_differs_164 rfl
theorem k_171_165 : mOk M_171.1 M_171.2.1 M_171.2.2.1 M_171.2.2.2 165 (o_iald) := ok_iald dX11_differs_165
set_option maxRecDepth 20000 in
set_option maxHeartbeats 4000000 in
theorem tk_171 (l : Launch) (H9 : mThr l) (H10 : mSpl l) (pc : Nat) (q : mEnt) (h : tb_171 pc = some q) : EE l 171 pc q := nd h (fun h => nd h (fun h => nd h (fun h => nd h (fun h => nd h (fun h => nd h (fun h => lf (P := EE l 171) h k_171_0) (fun h => lf (P := EE l 171) h k_171_1)) (fun h => nd h (fun h => lf (P := EE l 171) h k_171_2) (fun h => nd h (fun h => lf (P := EE l 171) h k_171_5) (fun h => lf (P := EE l 171) h k_171_6)))) (fun h => nd h (fun h => nd h (fun h => lf (P := EE l 171) h k_171_9) (fun h => nd h (fun h => lf (P := EE l 171) h k_171_12) (fun h => lf (P := EE l 171) h k_171_13))) (fun h => nd h (fun h => lf (P := EE l 171) h k_171_16) (fun h => nd h (fun h => lf (P := EE l 171) h k_171_17) (fun h => lf (P := EE l 171) h k_171_18))))) (fun h => nd h (fun h => nd h (fun h => nd h (fun h => lf (P := EE l 171) h (EE_ca (by decide) (⟨m_1222, m_81, ⟨by decide, by decide⟩, by decide +kernel, ⟨by decide, by decide⟩, 137, 3, by decide +kernel, Or.inl ⟨rfl, rfl, dX11_differs_19, m_1220, m_1221⟩⟩) rfl)) (fun h => nd h (fun h => lf (P := EE l 171) h k_171_22) (fun h => lf (P := EE l 171) h k_171_25))) (fun h => nd h (fun h => lf (P := EE l 171) h (EE_re (Or.inl ⟨rfl, dX11_differs_26, rfl⟩))) (fun h => nd h (fun h => lf (P := EE l 171) h k_171_27) (fun h => lf (P := EE l 171) h k_171_28)))) (fun h => nd h (fun h => nd h (fun h => lf (P := EE l 171) h (EE_ca (by decide) (⟨m_1424, m_81, ⟨by decide, by decide⟩, by decide +kernel, ⟨by decide, by decide⟩, 309, 1, by decide +kernel, Or.inr (Or.inr (Or.inl ⟨rfl, rfl, dX11_differs_29, m_1421, m_1423, _, rfl, by decide, m_64⟩))⟩) rfl)) (fun h => nd h (fun h => lf (P := EE l 171) h k_171_32) (fun h => lf (P := EE l 171) h k_171_33))) (fun h => nd h (fun h => lf (P := EE l 171) h k_171_34) (fun h => nd h (fun h => lf (P := EE l 171) h k_171_37) (fun h => lf (P := EE l 171) h k_171_38)))))) (fun h => nd h (fun h => nd h (fun h => nd h (fun h => nd h (fun h => lf (P := EE l 171) h k_171_41) (fun h => nd h (fun h => lf (P := EE l 171) h k_171_42) (fun h => lf (P := EE l 171) h k_171_45))) (fun h => nd h (fun h => lf (P := EE l 171) h k_171_46) (fun h => nd h (fun h => lf (P := EE l 171) h k_171_49) (fun h => lf (P := EE l 171) h (EE_re (Or.inl ⟨rfl, dX11_differs_50, rfl⟩)))))) (fun h => nd h (fun h => nd h (fun h => lf (P := EE l 171) h k_171_51) (fun h => nd h (fun h => lf (P := EE l 171) h k_171_52) (fun h => lf (P := EE l 171) h k_171_55))) (fun h => nd h (fun h => lf (P := EE l 171) h k_171_56) (fun h => nd h (fun h => lf (P := EE l 171) h k_171_59) (fun h => lf (P := EE l 171) h k_171_61))))) (fun h => nd h (fun h => nd h (fun h => nd h (fun h => lf (P := EE l 171) h k_171_62) (fun h => nd h (fun h => lf (P := EE l 171) h k_171_65) (fun h => lf (P := EE l 171) h k_171_66))) (fun h => nd h (fun h => lf (P := EE l 171) h k_171_69) (fun h => nd h (fun h => lf (P := EE l 171) h k_171_72) (fun h => lf (P := EE l 171) h k_171_73)))) (fun h => nd h (fun h => nd h (fun h => lf (P := EE l 171) h k_171_76) (fun h => nd h (fun h => lf (P := EE l 171) h k_171_77) (fun h => lf (P := EE l 171) h k_171_78))) (fun h => nd h (fun h => lf (P := EE l 171) h k_171_79) (fun h => nd h (fun h => lf (P := EE l 171) h k_171_82) (fun h => lf (P := EE l 171) h k_171_83))))))) (fun h => nd h (fun h => nd h (fun h => nd h (fun h => nd h (fun h => nd h (fun h => lf (P := EE l 171) h k_171_86) (fun h => lf (P := EE l 171) h k_171_87)) (fun h => nd h (fun h => lf (P := EE l 171) h k_171_90) (fun h => nd h (fun h => lf (P := EE l 171) h k_171_91) (fun h => lf (P := EE l 171) h k_171_94)))) (fun h => nd h (fun h => nd h (fun h => lf (P := EE l 171) h k_171_95) (fun h => nd h (fun h => lf (P := EE l 171) h k_171_98) (fun h => lf (P := EE l 171) h k_171_99))) (fun h => nd h (fun h => lf (P := EE l 171) h k_171_102) (fun h => nd h (fun h => lf (P := EE l 171) h k_171_103) (fun h => lf (P := EE l 171) h k_171_106))))) (fun h => nd h (fun h => nd h (fun h => nd h (fun h => lf (P := EE l 171) h (EE_re (Or.inl ⟨rfl, dX11_differs_107, rfl⟩))) (fun h => nd h (fun h => lf (P := EE l 171) h k_171_108) (fun h => lf (P := EE l 171) h k_171_109))) (fun h => nd h (fun h => lf (P := EE l 171) h k_171_110) (fun h => nd h (fun h => lf (P := EE l 171) h k_171_113) (fun h => lf (P := EE l 171) h k_171_114)))) (fun h => nd h (fun h => nd h (fun h => lf (P := EE l 171) h k_171_117) (fun h => nd h (fun h => lf (P := EE l 171) h k_171_118) (fun h => lf (P := EE l 171) h k_171_121))) (fun h => nd h (fun h => lf (P := EE l 171) h k_171_122) (fun h => nd h (fun h => lf (P := EE l 171) h k_171_125) (fun h => lf (P := EE l 171) h k_171_126)))))) (fun h => nd h (fun h => nd h (fun h => nd h (fun h => nd h (fun h => lf (P := EE l 171) h k_171_129) (fun h => nd h (fun h => lf (P := EE l 171) h k_171_130) (fun h => lf (P := EE l 171) h (EE_re (Or.inl ⟨rfl, dX11_differs_131, rfl⟩))))) (fun h => nd h (fun h => lf (P := EE l 171) h k_171_132) (fun h => nd h (fun h => lf (P := EE l 171) h k_171_133) (fun h => lf (P := EE l 171) h k_171_134)))) (fun h => nd h (fun h => nd h (fun h => lf (P := EE l 171) h k_171_137) (fun h => nd h (fun h => lf (P := EE l 171) h k_171_138) (fun h => lf (P := EE l 171) h k_171_141))) (fun h => nd h (fun h => lf (P := EE l 171) h k_171_142) (fun h => nd h (fun h => lf (P := EE l 171) h k_171_143) (fun h => lf (P := EE l 171) h k_171_146))))) (fun h => nd h (fun h => nd h (fun h => nd h (fun h => lf (P := EE l 171) h k_171_147) (fun h => nd h (fun h => lf (P := EE l 171) h k_171_148) (fun h => lf (P := EE l 171) h k_171_151))) (fun h => nd h (fun h => lf (P := EE l 171) h k_171_152) (fun h => nd h (fun h => lf (P := EE l 171) h k_171_155) (fun h => lf (P := EE l 171) h k_171_156)))) (fun h => nd h (fun h => nd h (fun h => lf (P := EE l 171) h k_171_157) (fun h => nd h (fun h => lf (P := EE l 171) h k_171_160) (fun h => lf (P := EE l 171) h k_171_161))) (fun h => nd h (fun h => lf (P := EE l 171) h k_171_164) (fun h => nd h (fun h => lf (P := EE l 171) h k_171_165) (fun h => lf (P := EE l 171) h (EE_re (Or.inl ⟨rfl, dX11_differs_166, rfl⟩)))))))))
theorem dX11_isBefore_0 : decode cX11_isBefore 0 = .ok (.iconst 0, 1) := by decide +kernel
theorem dX11_isBefore_1 : decode cX11_isBefore 1 = .ok (.istore_n 1, 1) := by decide +kernel
theorem dX11_isBefore_2 : decode cX11_isBefore 2 = .ok (.iload_n 1, 1) := by decide +kernel
theorem dX11_isBefore_3 : decode cX11_isBefore 3 = .ok (.iconst 5, 1) := by decide +kernel
theorem dX11_isBefore_4 : decode cX11_isBefore 4 = .ok (.if_icmp .ge 28, 3) := by decide +kernel
theorem dX11_isBefore_7 : decode cX11_isBefore 7 = .ok (.aload_n 0, 1) := by decide +kernel
theorem dX11_isBefore_8 : decode cX11_isBefore 8 = .ok (.getfield 54, 3) := by decide +kernel
theorem dX11_isBefore_11 : decode cX11_isBefore 11 = .ok (.iload_n 1, 1) := by decide +kernel
theorem dX11_isBefore_12 : decode cX11_isBefore 12 = .ok (.iaload, 1) := by decide +kernel
theorem dX11_isBefore_13 : decode cX11_isBefore 13 = .ok (.aload_n 0, 1) := by decide +kernel
theorem dX11_isBefore_14 : decode cX11_isBefore 14 = .ok (.getfield 54, 3) := by decide +kernel
theorem dX11_isBefore_17 : decode cX11_isBefore 17 = .ok (.iconst 5, 1) := by decide +kernel
theorem dX11_isBefore_18 : decode cX11_isBefore 18 = .ok (.iload_n 1, 1) := by decide +kernel
theorem dX11_isBefore_19 : decode cX11_isBefore 19 = .ok (.iadd, 1) := by decide +kernel
theorem dX11_isBefore_20 : decode cX11_isBefore 20 = .ok (.iaload, 1) := by decide +kernel
theorem dX11_isBefore_21 : decode cX11_isBefore 21 = .ok (.if_icmp .eq 5, 3) := by decide +kernel
theorem dX11_isBefore_24 : decode cX11_isBefore 24 = .ok (.iconst 0, 1) := by decide +kernel
theorem dX11_isBefore_25 : decode cX11_isBefore 25 = .ok (.ireturn, 1) := by decide +kernel
theorem dX11_isBefore_26 : decode cX11_isBefore 26 = .ok (.iinc 1 1, 3) := by decide +kernel
theorem dX11_isBefore_29 : decode cX11_isBefore 29 = .ok (.goto (-27), 3) := by decide +kernel
theorem dX11_isBefore_32 : decode cX11_isBefore 32 = .ok (.aload_n 0, 1) := by decide +kernel
theorem dX11_isBefore_33 : decode cX11_isBefore 33 = .ok (.getfield 57, 3) := by decide +kernel
theorem dX11_isBefore_36 : decode cX11_isBefore 36 = .ok (.iconst 0, 1) := by decide +kernel
theorem dX11_isBefore_37 : decode cX11_isBefore 37 = .ok (.iaload, 1) := by decide +kernel
theorem dX11_isBefore_38 : decode cX11_isBefore 38 = .ok (.aload_n 0, 1) := by decide +kernel
theorem dX11_isBefore_39 : decode cX11_isBefore 39 = .ok (.getfield 57, 3) := by decide +kernel
theorem dX11_isBefore_42 : decode cX11_isBefore 42 = .ok (.iconst 1, 1) := by decide +kernel
theorem dX11_isBefore_43 : decode cX11_isBefore 43 = .ok (.iaload, 1) := by decide +kernel
theorem dX11_isBefore_44 : decode cX11_isBefore 44 = .ok (.if_icmp .eq 5, 3) := by decide +kernel
theorem dX11_isBefore_47 : decode cX11_isBefore 47 = .ok (.iconst 0, 1) := by decide +kernel
theorem dX11_isBefore_48 : decode cX11_isBefore 48 = .ok (.ireturn, 1) := by decide +kernel
theorem dX11_isBefore_49 : decode cX11_isBefore 49 = .ok (.iconst 0, 1) := by decide +kernel
theorem dX11_isBefore_50 : decode cX11_isBefore 50 = .ok (.istore_n 1, 1) := by decide +kernel
theorem dX11_isBefore_51 : decode cX11_isBefore 51 = .ok (.iload_n 1, 1) := by decide +kernel
theorem dX11_isBefore_52 : decode cX11_isBefore 52 = .ok (.aload_n 0, 1) := by decide +kernel
theorem dX11_isBefore_53 : decode cX11_isBefore 53 = .ok (.getfield 57, 3) := by decide +kernel
theorem dX11_isBefore_56 : decode cX11_isBefore 56 = .ok (.iconst 0, 1) := by decide +kernel
theorem dX11_isBefore_57 : decode cX11_isBefore 57 = .ok (.iaload, 1) := by decide +kernel
theorem dX11_isBefore_58 : decode cX11_isBefore 58 = .ok (.if_icmp .ge 72, 3) := by decide +kernel
theorem dX11_isBefore_61 : decode cX11_isBefore 61 = .ok (.bipush 100, 2) := by decide +kernel
theorem dX11_isBefore_63 : decode cX11_isBefore 63 = .ok (.iload_n 1, 1) := by decide +kernel
theorem dX11_isBefore_64 : decode cX11_isBefore 64 = .ok (.iadd, 1) := by decide +kernel
theorem dX11_isBefore_65 : decode cX11_isBefore 65 = .ok (.istore_n 2, 1) := by decide +kernel
theorem dX11_isBefore_66 : decode cX11_isBefore 66 = .ok (.aload_n 0, 1) := by decide +kernel
theorem dX11_isBefore_67 : decode cX11_isBefore 67 = .ok (.getfield 60, 3) := by decide +kernel
theorem dX11_isBefore_70 : decode cX11_isBefore 70 = .ok (.iload_n 1, 1) := by decide +kernel
theorem dX11_isBefore_71 : decode cX11_isBefore 71 = .ok (.iaload, 1) := by decide +kernel
theorem dX11_isBefore_72 : decode cX11_isBefore 72 = .ok (.aload_n 0, 1) := by decide +kernel
theorem dX11_isBefore_73 : decode cX11_isBefore 73 = .ok (.getfield 60, 3) := by decide +kernel
theorem dX11_isBefore_76 : decode cX11_isBefore 76 = .ok (.iload_n 2, 1) := by decide +kernel
theorem dX11_isBefore_77 : decode cX11_isBefore 77 = .ok (.iaload, 1) := by decide +kernel
theorem dX11_isBefore_78 : decode cX11_isBefore 78 = .ok (.if_icmp .ne 44, 3) := by decide +kernel
theorem dX11_isBefore_81 : decode cX11_isBefore 81 = .ok (.aload_n 0, 1) := by decide +kernel
theorem dX11_isBefore_82 : decode cX11_isBefore 82 = .ok (.getfield 63, 3) := by decide +kernel
theorem dX11_isBefore_85 : decode cX11_isBefore 85 = .ok (.iload_n 1, 1) := by decide +kernel
theorem dX11_isBefore_86 : decode cX11_isBefore 86 = .ok (.iaload, 1) := by decide +kernel
theorem dX11_isBefore_87 : decode cX11_isBefore 87 = .ok (.aload_n 0, 1) := by decide +kernel
theorem dX11_isBefore_88 : decode cX11_isBefore 88 = .ok (.getfield 63, 3) := by decide +kernel
theorem dX11_isBefore_91 : decode cX11_isBefore 91 = .ok (.iload_n 2, 1) := by decide +kernel
theorem dX11_isBefore_92 : decode cX11_isBefore 92 = .ok (.iaload, 1) := by decide +kernel
theorem dX11_isBefore_93 : decode cX11_isBefore 93 = .ok (.if_icmp .ne 29, 3) := by decide +kernel
theorem dX11_isBefore_96 : decode cX11_isBefore 96 = .ok (.aload_n 0, 1) := by decide +kernel
theorem dX11_isBefore_97 : decode cX11_isBefore 97 = .ok (.getfield 66, 3) := by decide +kernel
theorem dX11_isBefore_100 : decode cX11_isBefore 100 = .ok (.iload_n 1, 1) := by decide +kernel
theorem dX11_isBefore_101 : decode cX11_isBefore 101 = .ok (.iaload, 1) := by decide +kernel
theorem dX11_isBefore_102 : decode cX11_isBefore 102 = .ok (.aload_n 0, 1) := by decide +kernel
theorem dX11_isBefore_103 : decode cX11_isBefore 103 = .ok (.getfield 66, 3) := by decide +kernel
theorem dX11_isBefore_106 : decode cX11_isBefore 106 = .ok (.iload_n 2, 1) := by decide +kernel
theorem dX11_isBefore_107 : decode cX11_isBefore 107 = .ok (.iaload, 1) := by decide +kernel
theorem dX11_isBefore_108 : decode cX11_isBefore 108 = .ok (.if_icmp .ne 14, 3) := by decide +kernel
theorem dX11_isBefore_111 : decode cX11_isBefore 111 = .ok (.aload_n 0, 1) := by decide +kernel
theorem dX11_isBefore_112 : decode cX11_isBefore 112 = .ok (.iconst 0, 1) := by decide +kernel
theorem dX11_isBefore_113 : decode cX11_isBefore 113 = .ok (.iload_n 1, 1) := by decide +kernel
theorem dX11_isBefore_114 : decode cX11_isBefore 114 = .ok (.iconst 1, 1) := by decide +kernel
theorem dX11_isBefore_115 : decode cX11_isBefore 115 = .ok (.iload_n 1, 1) := by decide +kernel
theorem dX11_isBefore_116 : decode cX11_isBefore 116 = .ok (.invokevirtual 315, 3) := by decide +kernel
theorem dX11_isBefore_119 : decode cX11_isBefore 119 = .ok (.ifCond .ne 5, 3) := by decide +kernel
theorem dX11_isBefore_122 : decode cX11_isBefore 122 = .ok (.iconst 0, 1) := by decide +kernel
theorem dX11_isBefore_123 : decode cX11_isBefore 123 = .ok (.ireturn, 1) := by decide +kernel
theorem dX11_isBefore_124 : decode cX11_isBefore 124 = .ok (.iinc 1 1, 3) := by decide +kernel
theorem dX11_isBefore_127 : decode cX11_isBefore 127 = .ok (.goto (-76), 3) := by decide +kernel
theorem dX11_isBefore_130 : decode cX11_isBefore 130 = .ok (.iconst 1, 1) := by decide +kernel
theorem dX11_isBefore_131 : decode cX11_isBefore 131 = .ok (.ireturn, 1) := by decide +kernel
def tb_172 (pc : Nat) : Option mEnt := bif Nat.ble pc 63 then (bif Nat.ble pc 29 then (bif Nat.ble pc 13 then (bif Nat.ble pc 4 then (bif Nat.ble pc 1 then (bif Nat.ble pc 0 then (bif Nat.beq pc 0 then some (.inl (oS 1 (s_push (.int 0)))) else none) else (bif Nat.beq pc 1 then some (.inl (o_is 1 1)) else none)) else (bif Nat.ble pc 2 then (bif Nat.beq pc 2 then some (.inl (o_il 1 1)) else none) else (bif Nat.ble pc 3 then (bif Nat.beq pc 3 then some (.inl (oS 1 (s_push (.int 5)))) else none) else (bif Nat.beq pc 4 then some (.inl (o_cge 32)) else none)))) else (bif Nat.ble pc 8 then (bif Nat.ble pc 7 then (bif Nat.beq pc 7 then some (.inl (o_al 0 1)) else none) else (bif Nat.beq pc 8 then some (.inl (o_gP 11 19)) else none)) else (bif Nat.ble pc 11 then (bif Nat.beq pc 11 then some (.inl (o_il 1 1)) else none) else (bif Nat.ble pc 12 then (bif Nat.beq pc 12 then some (.inl (o_iald)) else none) else (bif Nat.beq pc 13 then some (.inl (o_al 0 1)) else none))))) else (bif Nat.ble pc 20 then (bif Nat.ble pc 17 then (bif Nat.ble pc 14 then (bif Nat.beq pc 14 then some (.inl (o_gP 11 19)) else none) else (bif Nat.beq pc 17 then some (.inl (oS 1 (s_push (.int 5)))) else none)) else (bif Nat.ble pc 18 then (bif Nat.beq pc 18 then some (.inl (o_il 1 1)) else none) else (bif Nat.ble pc 19 then (bif Nat.beq pc 19 then some (.inl (oS 1 (s_ii (fun a b => a + b)))) else none) else (bif Nat.beq pc 20 then some (.inl (o_iald)) else none)))) else (bif Nat.ble pc 24 then (bif Nat.ble pc 21 then (bif Nat.beq pc 21 then some (.inl (o_ceq 26)) else none) else (bif Nat.beq pc 24 then some (.inl (oS 1 (s_push (.int 0)))) else none)) else (bif Nat.ble pc 25 then (bif Nat.beq pc 25 then some (.inr (0, 0, 0, 4)) else none) else (bif Nat.ble pc 26 then (bif Nat.beq pc 26 then some (.inl (o_inc 1 1)) else none) else (bif Nat.beq pc 29 then some (.inl (o_goto 2)) else none)))))) else (bif Nat.ble pc 47 then (bif Nat.ble pc 38 then (bif Nat.ble pc 33 then (bif Nat.ble pc 32 then (bif Nat.beq pc 32 then some (.inl (o_al 0 1)) else none) else (bif Nat.beq pc 33 then some (.inl (o_gP 11 20)) else none)) else (bif Nat.ble pc 36 then (bif Nat.beq pc 36 then some (.inl (oS 1 (s_push (.int 0)))) else none) else (bif Nat.ble pc 37 then (bif Nat.beq pc 37 then some (.inl (o_iald)) else none) else (bif Nat.beq pc 38 then some (.inl (o_al 0 1)) else none)))) else (bif Nat.ble pc 42 then (bif Nat.ble pc 39 then (bif Nat.beq pc 39 then some (.inl (o_gP 11 20)) else none) else (bif Nat.beq pc 42 then some (.inl (oS 1 (s_push (.int 1)))) else none)) else (bif Nat.ble pc 43 then (bif Nat.beq pc 43 then some (.inl (o_iald)) else none) else (bif Nat.ble pc 44 then (bif Nat.beq pc 44 then some (.inl (o_ceq 49)) else none) else (bif Nat.beq pc 47 then some (.inl (oS 1 (s_push (.int 0)))) else none))))) else (bif Nat.ble pc 52 then (bif Nat.ble pc 49 then (bif Nat.ble pc 48 then (bif Nat.beq pc 48 then some (.inr (0, 0, 0, 4)) else none) else (bif Nat.beq pc 49 then some (.inl (oS 1 (s_push (.int 0)))) else none)) else (bif Nat.ble pc 50 then (bif Nat.beq pc 50 then some (.inl (o_is 1 1)) else none) else (bif Nat.ble pc 51 then (bif Nat.beq pc 51 then some (.inl (o_il 1 1)) else none) else (bif Nat.beq pc 52 then some (.inl (o_al 0 1)) else none)))) else (bif Nat.ble pc 57 then (bif Nat.ble pc 53 then (bif Nat.beq pc 53 then some (.inl (o_gP 11 20)) else none) else (bif Nat.ble pc 56 then (bif Nat.beq pc 56 then some (.inl (oS 1 (s_push (.int 0)))) else none) else (bif Nat.beq pc 57 then some (.inl (o_iald)) else none))) else (bif Nat.ble pc 58 then (bif Nat.beq pc 58 then some (.inl (o_cge 130)) else none) else (bif Nat.ble pc 61 then (bif Nat.beq pc 61 then some (.inl (oS 2 (s_push (.int 100)))) else none) else (bif Nat.beq pc 63 then some (.inl (o_il 1 1)) else none))))))) else (bif Nat.ble pc 96 then (bif Nat.ble pc 77 then (bif Nat.ble pc 70 then (bif Nat.ble pc 65 then (bif Nat.ble pc 64 then (bif Nat.beq pc 64 then some (.inl (oS 1 (s_ii (fun a b => a + b)))) else none) else (bif Nat.beq pc 65 then some (.inl (o_is 2 1)) else none)) else (bif Nat.ble pc 66 then (bif Nat.beq pc 66 then some (.inl (o_al 0 1)) else none) else (bif Nat.ble pc 67 then (bif Nat.beq pc 67 then some (.inl (o_gP 11 21)) else none) else (bif Nat.beq pc 70 then some (.inl (o_il 1 1)) else none)))) else (bif Nat.ble pc 72 then (bif Nat.ble pc 71 then (bif Nat.beq pc 71 then some (.inl (o_iald)) else none) else (bif Nat.beq pc 72 then some (.inl (o_al 0 1)) else none)) else (bif Nat.ble pc 73 then (bif Nat.beq pc 73 then some (.inl (o_gP 11 21)) else none) else (bif Nat.ble pc 76 then (bif Nat.beq pc 76 then some (.inl (o_il 2 1)) else none) else (bif Nat.beq pc 77 then some (.inl (o_iald)) else none))))) else (bif Nat.ble pc 86 then (bif Nat.ble pc 81 then (bif Nat.ble pc 78 then (bif Nat.beq pc 78 then some (.inl (o_cne 122)) else none) else (bif Nat.beq pc 81 then some (.inl (o_al 0 1)) else none)) else (bif Nat.ble pc 82 then (bif Nat.beq pc 82 then some (.inl (o_gP 11 22)) else none) else (bif Nat.ble pc 85 then (bif Nat.beq pc 85 then some (.inl (o_il 1 1)) else none) else (bif Nat.beq pc 86 then some (.inl (o_iald)) else none)))) else (bif Nat.ble pc 91 then (bif Nat.ble pc 87 then (bif Nat.beq pc 87 then some (.inl (o_al 0 1)) else none) else (bif Nat.ble pc 88 then (bif Nat.beq pc 88 then some (.inl (o_gP 11 22)) else none) else (bif Nat.beq pc 91 then some (.inl (o_il 2 1)) else none))) else (bif Nat.ble pc 92 then (bif Nat.beq pc 92 then some (.inl (o_iald)) else none) else (bif Nat.ble pc 93 then (bif Nat.beq pc 93 then some (.inl (o_cne 122)) else none) else (bif Nat.beq pc 96 then some (.inl (o_al 0 1)) else none)))))) else (bif Nat.ble pc 112 then (bif Nat.ble pc 103 then (bif Nat.ble pc 100 then (bif Nat.ble pc 97 then (bif Nat.beq pc 97 then some (.inl (o_gP 11 23)) else none) else (bif Nat.beq pc 100 then some (.inl (o_il 1 1)) else none)) else (bif Nat.ble pc 101 then (bif Nat.beq pc 101 then some (.inl (o_iald)) else none) else (bif Nat.ble pc 102 then (bif Nat.beq pc 102 then some (.inl (o_al 0 1)) else none) else (bif Nat.beq pc 103 then some (.inl (o_gP 11 23)) else none)))) else (bif Nat.ble pc 107 then (bif Nat.ble pc 106 then (bif Nat.beq pc 106 then some (.inl (o_il 2 1)) else none) else (bif Nat.beq pc 107 then some (.inl (o_iald)) else none)) else (bif Nat.ble pc 108 then (bif Nat.beq pc 108 then some (.inl (o_cne 122)) else none) else (bif Nat.ble pc 111 then (bif Nat.beq pc 111 then some (.inl (o_al 0 1)) else none) else (bif Nat.beq pc 112 then some (.inl (oS 1 (s_push (.int 0)))) else none))))) else (bif Nat.ble pc 119 then (bif Nat.ble pc 114 then (bif Nat.ble pc 113 then (bif Nat.beq pc 113 then some (.inl (o_il 1 1)) else none) else (bif Nat.beq pc 114 then some (.inl (oS 1 (s_push (.int 1)))) else none)) else (bif Nat.ble pc 115 then (bif Nat.beq pc 115 then some (.inl (o_il 1 1)) else none) else (bif Nat.ble pc 116 then (bif Nat.beq pc 116 then some (.inr (3, 167, 5, 11)) else none) else (bif Nat.beq pc 119 then some (.inl (o_zne 124)) else none)))) else (bif Nat.ble pc 124 then (bif Nat.ble pc 122 then (bif Nat.beq pc 122 then some (.inl (oS 1 (s_push (.int 0)))) else none) else (bif Nat.ble pc 123 then (bif Nat.beq pc 123 then some (.inr (0, 0, 0, 4)) else none) else (bif Nat.beq pc 124 then some (.inl (o_inc 1 1)) else none))) else (bif Nat.ble pc 127 then (bif Nat.beq pc 127 then some (.inl (o_goto 51)) else none) else (bif Nat.ble pc 130 then (bif Nat.beq pc 130 then some (.inl (oS 1 (s_push (.int 1)))) else none) else (bif Nat.beq pc 131 then some (.inr (0, 0, 0, 4)) else none)))))))
theorem k_172_0 : mOk M_172.1 M_172.2.1 M_172.2.2.1 M_172.2.2.2 0 (oS 1 (s_push (.int 0))) := ok_iconst dX11_isBefore_0 (by decide)
theorem k_172_1 : mOk M_172.1 M_172.2.1 M_172.2.2.1 M_172.2.2.2 1 (o_is 1 1) := ok_istore_n dX11_isBefore_1 rfl
theorem k_172_2 : mOk M_172.1 M_172.2.1 M_172.2.2.1 M_172.2.2.2 2 (o_il 1 1) := ok_iload_n dX11_isBefore_2 rfl
theorem k_172_3 : mOk M_172.1 M_172.2.1 M_172.2.2.1 M_172.2.2.2 3 (oS 1 (s_push (.int 5))) := ok_iconst dX11_isBefore_3 (by decide)
theorem k_172_4 : mOk M_172.1 M_172.2.1 M_172.2.2.1 M_172.2.2.2 4 (o_cge 32) := ok_cge dX11_isBefore_4 (by decide)
theorem k_172_7 : mOk M_172.1 M_172.2.1 M_172.2.2.1 M_172.2.2.2 7 (o_al 0 1) := ok_aload_n dX11_isBefore_7 rfl
theorem k_172_8 : mOk M_172.1 M_172.2.1 M_172.2.2.1 M_172.2.2.2 8 (o_gP 11 19) := ok_gP dX11_isBefore_8 f_RX11_54 rfl
theorem k_172_11 : mOk M_172.1 M_172.2.1 M_172.2.2.1 M_172.2.2.2 11 (o_il 1 1) := ok_iload_n dX11_isBefore_11 rfl
theorem k_172_12 : mOk M_172.1 M_172.2.1 M_172.2.2.1 M_172.2.2.2 12 (o_iald) := ok_iald dX11_isBefore_12
theorem k_172_13 : mOk M_172.1 M_172.2.1 M_172.2.2.1 M_172.2.2.2 13 (o_al 0 1) := ok_aload_n dX11_isBefore_13 rfl
theorem k_172_14 : mOk M_172.1 M_172.2.1 M_172.2.2.1 M_172.2.2.2 14 (o_gP 11 19) := ok_gP dX11_isBefore_14 f_RX11_54 rfl
theorem k_172_17 : mOk M_172.1 M_172.2.1 M_172.2.2.1 M_172.2.2.2 17 (oS 1 (s_push (.int 5))) := ok_iconst dX11_isBefore_17 (by decide)
theorem k_172_18 : mOk M_172.1 M_172.2.1 M_172.2.2.1 M_172.2.2.2 18 (o_il 1 1) := ok_iload_n dX11_isBefore_18 rfl
theorem k_172_19 : mOk M_172.1 M_172.2.1 M_172.2.2.1 M_172.2.2.2 19 (oS 1 (s_ii (fun a b => a + b))) := ok_iadd dX11_isBefore_19
theorem k_172_20 : mOk M_172.1 M_172.2.1 M_172.2.2.1 M_172.2.2.2 20 (o_iald) := ok_iald dX11_isBefore_20
theorem k_172_21 : mOk M_172.1 M_172.2.1 M_172.2.2.1 M_172.2.2.2 21 (o_ceq 26) := ok_ceq dX11_isBefore_21 (by decide)
theorem k_172_24 : mOk M_172.1 M_172.2.1 M_172.2.2.1 M_172.2.2.2 24 (oS 1 (s_push (.int 0))) := ok_iconst dX11_isBefore_24 (by decide)
theorem k_172_26 : mOk M_172.1 M_172.2.1 M_172.2.2.1 M_172.2.2.2 26 (o_inc 1 1) := ok_iinc dX11_isBefore_26 (by decide)
theorem k_172_29 : mOk M_172.1 M_172.2.1 M_172.2.2.1 M_172.2.2.2 29 (o_goto 2) := ok_goto dX11_isBefore_29 (by decide)
theorem k_172_32 : mOk M_172.1 M_172.2.1 M_172.2.2.1 M_172.2.2.2 32 (o_al 0 1) := ok_aload_n dX11_isBefore_32 rfl
theorem k_172_33 : mOk M_172.1 M_172.2.1 M_172.2.2.1 M_172.2.2.2 33 (o_gP 11 20) := ok_gP dX11_isBefore_33 f_RX11_57 rfl
theorem k_172_36 : mOk M_172.1 M_172.2.1 M_172.2.2.1 M_172.2.2.2 36 (oS 1 (s_push (.int 0))) := ok_iconst dX11_isBefore_36 (by decide)
theorem k_172_37 : mOk M_172.1 M_172.2.1 M_172.2.2.1 M_172.2.2.2 37 (o_iald) := ok_iald dX11_isBefore_37
theorem k_172_38 : mOk M_172.1 M_172.2.1 M_172.2.2.1 M_172.2.2.2 38 (o_al 0 1) := ok_aload_n dX11_isBefore_38 rfl
theorem k_172_39 : mOk M_172.1 M_172.2.1 M_172.2.2.1 M_172.2.2.2 39 (o_gP 11 20) := ok_gP dX11_isBefore_39 f_RX11_57 rfl
theorem k_172_42 : mOk M_172.1 M_172.2.1 M_172.2.2.1 M_172.2.2.2 42 (oS 1 (s_push (.int 1))) := ok_iconst dX11_isBefore_42 (by decide)
theorem k_172_43 : mOk M_172.1 M_172.2.1 M_172.2.2.1 M_172.2.2.2 43 (o_iald) := ok_iald dX11_isBefore_43
theorem k_172_44 : mOk M_172.1 M_172.2.1 M_172.2.2.1 M_172.2.2.2 44 (o_ceq 49) := ok_ceq dX11_isBefore_44 (by decide)
theorem k_172_47 : mOk M_172.1 M_172.2.1 M_172.2.2.1 M_172.2.2.2 47 (oS 1 (s_push (.int 0))) := ok_iconst dX11_isBefore_47 (by decide)
theorem k_172_49 : mOk M_172.1 M_172.2.1 M_172.2.2.1 M_172.2.2.2 49 (oS 1 (s_push (.int 0))) := ok_iconst dX11_isBefore_49 (by decide)
theorem k_172_50 : mOk M_172.1 M_172.2.1 M_172.2.2.1 M_172.2.2.2 50 (o_is 1 1) := ok_istore_n dX11_isBefore_50 rfl
theorem k_172_51 : mOk M_172.1 M_172.2.1 M_172.2.2.1 M_172.2.2.2 51 (o_il 1 1) := ok_iload_n dX11_isBefore_51 rfl
theorem k_172_52 : mOk M_172.1 M_172.2.1 M_172.2.2.1 M_172.2.2.2 52 (o_al 0 1) := ok_aload_n dX11_isBefore_52 rfl
theorem k_172_53 : mOk M_172.1 M_172.2.1 M_172.2.2.1 M_172.2.2.2 53 (o_gP 11 20) := ok_gP dX11_isBefore_53 f_RX11_57 rfl
theorem k_172_56 : mOk M_172.1 M_172.2.1 M_172.2.2.1 M_172.2.2.2 56 (oS 1 (s_push (.int 0))) := ok_iconst dX11_isBefore_56 (by decide)
theorem k_172_57 : mOk M_172.1 M_172.2.1 M_172.2.2.1 M_172.2.2.2 57 (o_iald) := ok_iald dX11_isBefore_57
theorem k_172_58 : mOk M_172.1 M_172.2.1 M_172.2.2.1 M_172.2.2.2 58 (o_cge 130) := ok_cge dX11_isBefore_58 (by decide)
theorem k_172_61 : mOk M_172.1 M_172.2.1 M_172.2.2.1 M_172.2.2.2 61 (oS 2 (s_push (.int 100))) := ok_bipush dX11_isBefore_61 (by decide)
theorem k_172_63 : mOk M_172.1 M_172.2.1 M_172.2.2.1 M_172.2.2.2 63 (o_il 1 1) := ok_iload_n dX11_isBefore_63 rfl
theorem k_172_64 : mOk M_172.1 M_172.2.1 M_172.2.2.1 M_172.2.2.2 64 (oS 1 (s_ii (fun a b => a + b))) := ok_iadd dX11_isBefore_64
theorem k_172_65 : mOk M_172.1 M_172.2.1 M_172.2.2.1 M_172.2.2.2 65 (o_is 2 1) := ok_istore_n dX11_isBefore_65 rfl
theorem k_172_66 : mOk M_172.1 M_172.2.1 M_172.2.2.1 M_172.2.2.2 66 (o_al 0 1) := ok_aload_n dX11_isBefore_66 rfl
theorem k_172_67 : mOk M_172.1 M_172.2.1 M_172.2.2.1 M_172.2.2.2 67 (o_gP 11 21) := ok_gP dX11_isBefore_67 f_RX11_60 rfl
theorem k_172_70 : mOk M_172.1 M_172.2.1 M_172.2.2.1 M_172.2.2.2 70 (o_il 1 1) := ok_iload_n dX11_isBefore_70 rfl
theorem k_172_71 : mOk M_172.1 M_172.2.1 M_172.2.2.1 M_172.2.2.2 71 (o_iald) := ok_iald dX11_isBefore_71
theorem k_172_72 : mOk M_172.1 M_172.2.1 M_172.2.2.1 M_172.2.2.2 72 (o_al 0 1) := ok_aload_n dX11_isBefore_72 rfl
theorem k_172_73 : mOk M_172.1 M_172.2.1 M_172.2.2.1 M_172.2.2.2 73 (o_gP 11 21) := ok_gP dX11_isBefore_73 f_RX11_60 rfl
theorem k_172_76 : mOk M_172.1 M_172.2.1 M_172.2.2.1 M_172.2.2.2 76 (o_il 2 1) := ok_iload_n dX11_isBefore_76 rfl
theorem k_172_77 : mOk M_172.1 M_172.2.1 M_172.2.2.1 M_172.2.2.2 77 (o_iald) := ok_iald dX11_isBefore_77
theorem k_172_78 : mOk M_172.1 M_172.2.1 M_172.2.2.1 M_172.2.2.2 78 (o_cne 122) := ok_cne dX11_isBefore_78 (by decide)
theorem k_172_81 : mOk M_172.1 M_172.2.1 M_172.2.2.1 M_172.2.2.2 81 (o_al 0 1) := ok_aload_n dX11_isBefore_81 rfl
theorem k_172_82 : mOk M_172.1 M_172.2.1 M_172.2.2.1 M_172.2.2.2 82 (o_gP 11 22) := ok_gP dX11_isBefore_82 f_RX11_63 rfl
theorem k_172_85 : mOk M_172.1 M_172.2.1 M_172.2.2.1 M_172.2.2.2 85 (o_il 1 1) := ok_iload_n dX11_isBefore_85 rfl
theorem k_172_86 : mOk M_172.1 M_172.2.1 M_172.2.2.1 M_172.2.2.2 86 (o_iald) := ok_iald dX11_isBefore_86
theorem k_172_87 : mOk M_172.1 M_172.2.1 M_172.2.2.1 M_172.2.2.2 87 (o_al 0 1) := ok_aload_n dX11_isBefore_87 rfl
theorem k_172_88 : mOk M_172.1 M_172.2.1 M_172.2.2.1 M_172.2.2.2 88 (o_gP 11 22) := ok_gP dX11_isBefore_88 f_RX11_63 rfl
theorem k_172_91 : mOk M_172.1 M_172.2.1 M_172.2.2.1 M_172.2.2.2 91 (o_il 2 1) := ok_iload_n dX11_isBefore_91 rfl
theorem k_172_92 : mOk M_172.1 M_172.2.1 M_172.2.2.1 M_172.2.2.2 92 (o_iald) := ok_iald dX11_isBefore_92
theorem k_172_93 : mOk M_172.1 M_172.2.1 M_172.2.2.1 M_172.2.2.2 93 (o_cne 122) := ok_cne dX11_isBefore_93 (by decide)
theorem k_172_96 : mOk M_172.1 M_172.2.1 M_172.2.2.1 M_172.2.2.2 96 (o_al 0 1) := ok_aload_n dX11_isBefore_96 rfl
theorem k_172_97 : mOk M_172.1 M_172.2.1 M_172.2.2.1 M_172.2.2.2 97 (o_gP 11 23) := ok_gP dX11_isBefore_97 f_RX11_66 rfl
theorem k_172_100 : mOk M_172.1 M_172.2.1 M_172.2.2.1 M_172.2.2.2 100 (o_il 1 1) := ok_iload_n dX11_isBefore_100 rfl
theorem k_172_101 : mOk M_172.1 M_172.2.1 M_172.2.2.1 M_172.2.2.2 101 (o_iald) := ok_iald dX11_isBefore_101
theorem k_172_102 : mOk M_172.1 M_172.2.1 M_172.2.2.1 M_172.2.2.2 102 (o_al 0 1) := ok_aload_n dX11_isBefore_102 rfl
theorem k_172_103 : mOk M_172.1 M_172.2.1 M_172.2.2.1 M_172.2.2.2 103 (o_gP 11 23) := ok_gP dX11_isBefore_103 f_RX11_66 rfl
theorem k_172_106 : mOk M_172.1 M_172.2.1 M_172.2.2.1 M_172.2.2.2 106 (o_il 2 1) := ok_iload_n dX11_isBefore_106 rfl
theorem k_172_107 : mOk M_172.1 M_172.2.1 M_172.2.2.1 M_172.2.2.2 107 (o_iald) := ok_iald dX11_isBefore_107
theorem k_172_108 : mOk M_172.1 M_172.2.1 M_172.2.2.1 M_172.2.2.2 108 (o_cne 122) := ok_cne dX11_isBefore_108 (by decide)
theorem k_172_111 : mOk M_172.1 M_172.2.1 M_172.2.2.1 M_172.2.2.2 111 (o_al 0 1) := ok_aload_n dX11_isBefore_111 rfl
theorem k_172_112 : mOk M_172.1 M_172.2.1 M_172.2.2.1 M_172.2.2.2 112 (oS 1 (s_push (.int 0))) := ok_iconst dX11_isBefore_112 (by decide)
theorem k_172_113 : mOk M_172.1 M_172.2.1 M_172.2.2.1 M_172.2.2.2 113 (o_il 1 1) := ok_iload_n dX11_isBefore_113 rfl
theorem k_172_114 : mOk M_172.1 M_172.2.1 M_172.2.2.1 M_172.2.2.2 114 (oS 1 (s_push (.int 1))) := ok_iconst dX11_isBefore_114 (by decide)
theorem k_172_115 : mOk M_172.1 M_172.2.1 M_172.2.2.1 M_172.2.2.2 115 (o_il 1 1) := ok_iload_n dX11_isBefore_115 rfl
theorem k_172_119 : mOk M_172.1 M_172.2.1 M_172.2.2.1 M_172.2.2.2 119 (o_zne 124) := ok_zne dX11_isBefore_119 (by decide)
theorem k_172_122 : mOk M_172.1 M_172.2.1 M_172.2.2.1 M_172.2.2.2 122 (oS 1 (s_push (.int 0))) := ok_iconst dX11_isBefore_122 (by decide)
theorem k_172_124 : mOk M_172.1 M_172.2.1 M_172.2.2.1 M_172.2.2.2 124 (o_inc 1 1) := ok_iinc dX11_isBefore_124 (by decide)
theorem k_172_127 : mOk M_172.1 M_172.2.1 M_172.2.2.1 M_172.2.2.2 127 (o_goto 51) := ok_goto dX11_isBefore_127 (by decide)
theorem k_172_130 : mOk M_172.1 M_172.2.1 M_172.2.2.1 M_172.2.2.2 130 (oS 1 (s_push (.int 1))) := ok_iconst dX11_isBefore_130 (by decide)
set_option maxRecDepth 20000 in
set_option maxHeartbeats 4000000 in
theorem tk_172 (l : Launch) (H9 : mThr l) (H10 : mSpl l) (pc : Nat) (q : mEnt) (h : tb_172 pc = some q) : EE l 172 pc q := nd h (fun h => nd h (fun h => nd h (fun h => nd h (fun h => nd h (fun h => nd h (fun h => lf (P := EE l 172) h k_172_0) (fun h => lf (P := EE l 172) h k_172_1)) (fun h => nd h (fun h => lf (P := EE l 172) h k_172_2) (fun h => nd h (fun h => lf (P := EE l 172) h k_172_3) (fun h => lf (P := EE l 172) h k_172_4)))) (fun h => nd h (fun h => nd h (fun h => lf (P := EE l 172) h k_172_7) (fun h => lf (P := EE l 172) h k_172_8)) (fun h => nd h (fun h => lf (P := EE l 172) h k_172_11) (fun h => nd h (fun h => lf (P := EE l 172) h k_172_12) (fun h => lf (P := EE l 172) h k_172_13))))) (fun h => nd h (fun h => nd h (fun h => nd h (fun h => lf (P := EE l 172) h k_172_14) (fun h => lf (P := EE l 172) h k_172_17)) (fun h => nd h (fun h => lf (P := EE l 172) h k_172_18) (fun h => nd h (fun h => lf (P := EE l 172) h k_172_19) (fun h => lf (P := EE l 172) h k_172_20)))) (fun h => nd h (fun h => nd h (fun h => lf (P := EE l 172) h k_172_21) (fun h => lf (P := EE l 172) h k_172_24)) (fun h => nd h (fun h => lf (P := EE l 172) h (EE_re (Or.inr (Or.inl ⟨rfl, dX11_isBefore_25, rfl⟩)))) (fun h => nd h (fun h => lf (P := EE l 172) h k_172_26) (fun h => lf (P := EE l 172) h k_172_29)))))) (fun h => nd h (fun h => nd h (fun h => nd h (fun h => nd h (fun h => lf (P := EE l 172) h k_172_32) (fun h => lf (P := EE l 172) h k_172_33)) (fun h => nd h (fun h => lf (P := EE l 172) h k_172_36) (fun h => nd h (fun h => lf (P := EE l 172) h k_172_37) (fun h => lf (P := EE l 172) h k_172_38)))) (fun h => nd h (fun h => nd h (fun h => lf (P := EE l 172) h k_172_39) (fun h => lf (P := EE l 172) h k_172_42)) (fun h => nd h (fun h => lf (P := EE l 172) h k_172_43) (fun h => nd h (fun h => lf (P := EE l 172) h k_172_44) (fun h => lf (P := EE l 172) h k_172_47))))) (fun h => nd h (fun h => nd h (fun h => nd h (fun h => lf (P := EE l 172) h (EE_re (Or.inr (Or.inl ⟨rfl, dX11_isBefore_48, rfl⟩)))) (fun h => lf (P := EE l 172) h k_172_49)) (fun h => nd h (fun h => lf (P := EE l 172) h k_172_50) (fun h => nd h (fun h => lf (P := EE l 172) h k_172_51) (fun h => lf (P := EE l 172) h k_172_52)))) (fun h => nd h (fun h => nd h (fun h => lf (P := EE l 172) h k_172_53) (fun h => nd h (fun h => lf (P := EE l 172) h k_172_56) (fun h => lf (P := EE l 172) h k_172_57))) (fun h => nd h (fun h => lf (P := EE l 172) h k_172_58) (fun h => nd h (fun h => lf (P := EE l 172) h k_172_61) (fun h => lf (P := EE l 172) h k_172_63))))))) (fun h => nd h (fun h => nd h (fun h => nd h (fun h => nd h (fun h => nd h (fun h => lf (P := EE l 172) h k_172_64) (fun h => lf (P := EE l 172) h k_172_65)) (fun h => nd h (fun h => lf (P := EE l 172) h k_172_66) (fun h => nd h (fun h => lf (P := EE l 172) h k_172_67) (fun h => lf (P := EE l 172) h k_172_70)))) (fun h => nd h (fun h => nd h (fun h => lf (P := EE l 172) h k_172_71) (fun h => lf (P := EE l 172) h k_172_72)) (fun h => nd h (fun h => lf (P := EE l 172) h k_172_73) (fun h => nd h (fun h => lf (P := EE l 172) h k_172_76) (fun h => lf (P := EE l 172) h k_172_77))))) (fun h => nd h (fun h => nd h (fun h => nd h (fun h => lf (P := EE l 172) h k_172_78) (fun h => lf (P := EE l 172) h k_172_81)) (fun h => nd h (fun h => lf (P := EE l 172) h k_172_82) (fun h => nd h (fun h => lf (P := EE l 172) h k_172_85) (fun h => lf (P := EE l 172) h k_172_86)))) (fun h => nd h (fun h => nd h (fun h => lf (P := EE l 172) h k_172_87) (fun h => nd h (fun h => lf (P := EE l 172) h k_172_88) (fun h => lf (P := EE l 172) h k_172_91))) (fun h => nd h (fun h => lf (P := EE l 172) h k_172_92) (fun h => nd h (fun h => lf (P := EE l 172) h k_172_93) (fun h => lf (P := EE l 172) h k_172_96)))))) (fun h => nd h (fun h => nd h (fun h => nd h (fun h => nd h (fun h => lf (P := EE l 172) h k_172_97) (fun h => lf (P := EE l 172) h k_172_100)) (fun h => nd h (fun h => lf (P := EE l 172) h k_172_101) (fun h => nd h (fun h => lf (P := EE l 172) h k_172_102) (fun h => lf (P := EE l 172) h k_172_103)))) (fun h => nd h (fun h => nd h (fun h => lf (P := EE l 172) h k_172_106) (fun h => lf (P := EE l 172) h k_172_107)) (fun h => nd h (fun h => lf (P := EE l 172) h k_172_108) (fun h => nd h (fun h => lf (P := EE l 172) h k_172_111) (fun h => lf (P := EE l 172) h k_172_112))))) (fun h => nd h (fun h => nd h (fun h => nd h (fun h => lf (P := EE l 172) h k_172_113) (fun h => lf (P := EE l 172) h k_172_114)) (fun h => nd h (fun h => lf (P := EE l 172) h k_172_115) (fun h => nd h (fun h => lf (P := EE l 172) h (EE_ca (by decide) (⟨m_1432, m_81, ⟨by decide, by decide⟩, by decide +kernel, ⟨by decide, by decide⟩, 315, 4, by decide +kernel, Or.inr (Or.inr (Or.inl ⟨rfl, rfl, dX11_isBefore_116, m_1429, m_1431, _, rfl, by decide, m_66⟩))⟩) rfl)) (fun h => lf (P := EE l 172) h k_172_119)))) (fun h => nd h (fun h => nd h (fun h => lf (P := EE l 172) h k_172_122) (fun h => nd h (fun h => lf (P := EE l 172) h (EE_re (Or.inr (Or.inl ⟨rfl, dX11_isBefore_123, rfl⟩)))) (fun h => lf (P := EE l 172) h k_172_124))) (fun h => nd h (fun h => lf (P := EE l 172) h k_172_127) (fun h => nd h (fun h => lf (P := EE l 172) h k_172_130) (fun h => lf (P := EE l 172) h (EE_re (Or.inr (Or.inl ⟨rfl, dX11_isBefore_131, rfl⟩))))))))))
theorem dX11_apply_0 : decode cX11_apply 0 = .ok (.aload_n 0, 1) := by decide +kernel
theorem dX11_apply_1 : decode cX11_apply 1 = .ok (.aload_n 0, 1) := by decide +kernel
theorem dX11_apply_2 : decode cX11_apply 2 = .ok (.getfield 47, 3) := by decide +kernel
theorem dX11_apply_5 : decode cX11_apply 5 = .ok (.iconst 0, 1) := by decide +kernel
theorem dX11_apply_6 : decode cX11_apply 6 = .ok (.baload, 1) := by decide +kernel
theorem dX11_apply_7 : decode cX11_apply 7 = .ok (.ifCond .eq 21, 3) := by decide +kernel
theorem dX11_apply_10 : decode cX11_apply 10 = .ok (.aload_n 0, 1) := by decide +kernel
theorem dX11_apply_11 : decode cX11_apply 11 = .ok (.getfield 274, 3) := by decide +kernel
theorem dX11_apply_14 : decode cX11_apply 14 = .ok (.ifCond .eq 14, 3) := by decide +kernel
theorem dX11_apply_17 : decode cX11_apply 17 = .ok (.aload_n 0, 1) := by decide +kernel
theorem dX11_apply_18 : decode cX11_apply 18 = .ok (.invokevirtual 324, 3) := by decide +kernel
theorem dX11_apply_21 : decode cX11_apply 21 = .ok (.ifCond .eq 7, 3) := by decide +kernel
theorem dX11_apply_24 : decode cX11_apply 24 = .ok (.iconst 0, 1) := by decide +kernel
theorem dX11_apply_25 : decode cX11_apply 25 = .ok (.goto 4, 3) := by decide +kernel
theorem dX11_apply_28 : decode cX11_apply 28 = .ok (.iconst 1, 1) := by decide +kernel
theorem dX11_apply_29 : decode cX11_apply 29 = .ok (.putfield 133, 3) := by decide +kernel
theorem dX11_apply_32 : decode cX11_apply 32 = .ok (.aload_n 0, 1) := by decide +kernel
theorem dX11_apply_33 : decode cX11_apply 33 = .ok (.getfield 133, 3) := by decide +kernel
theorem dX11_apply_36 : decode cX11_apply 36 = .ok (.ifCond .eq 5, 3) := by decide +kernel
theorem dX11_apply_39 : decode cX11_apply 39 = .ok (.iconst 0, 1) := by decide +kernel
theorem dX11_apply_40 : decode cX11_apply 40 = .ok (.ireturn, 1) := by decide +kernel
theorem dX11_apply_41 : decode cX11_apply 41 = .ok (.aload_n 0, 1) := by decide +kernel
theorem dX11_apply_42 : decode cX11_apply 42 = .ok (.iconst 2, 1) := by decide +kernel
theorem dX11_apply_43 : decode cX11_apply 43 = .ok (.iconst 0, 1) := by decide +kernel
theorem dX11_apply_44 : decode cX11_apply 44 = .ok (.invokevirtual 302, 3) := by decide +kernel
theorem dX11_apply_47 : decode cX11_apply 47 = .ok (.aload_n 0, 1) := by decide +kernel
theorem dX11_apply_48 : decode cX11_apply 48 = .ok (.getfield 57, 3) := by decide +kernel
theorem dX11_apply_51 : decode cX11_apply 51 = .ok (.iconst 0, 1) := by decide +kernel
theorem dX11_apply_52 : decode cX11_apply 52 = .ok (.iaload, 1) := by decide +kernel
theorem dX11_apply_53 : decode cX11_apply 53 = .ok (.ireturn, 1) := by decide +kernel
def tb_173 (pc : Nat) : Option mEnt := bif Nat.ble pc 28 then (bif Nat.ble pc 10 then (bif Nat.ble pc 2 then (bif Nat.ble pc 0 then (bif Nat.beq pc 0 then some (.inl (o_al 0 1)) else none) else (bif Nat.ble pc 1 then (bif Nat.beq pc 1 then some (.inl (o_al 0 1)) else none) else (bif Nat.beq pc 2 then some (.inl (o_gP 11 17)) else none))) else (bif Nat.ble pc 6 then (bif Nat.ble pc 5 then (bif Nat.beq pc 5 then some (.inl (oS 1 (s_push (.int 0)))) else none) else (bif Nat.beq pc 6 then some (.inl (o_bald)) else none)) else (bif Nat.ble pc 7 then (bif Nat.beq pc 7 then some (.inl (o_zeq 28)) else none) else (bif Nat.beq pc 10 then some (.inl (o_al 0 1)) else none)))) else (bif Nat.ble pc 18 then (bif Nat.ble pc 14 then (bif Nat.ble pc 11 then (bif Nat.beq pc 11 then some (.inl (o_gI 11 16)) else none) else (bif Nat.beq pc 14 then some (.inl (o_zeq 28)) else none)) else (bif Nat.ble pc 17 then (bif Nat.beq pc 17 then some (.inl (o_al 0 1)) else none) else (bif Nat.beq pc 18 then some (.inr (3, 172, 1, 11)) else none))) else (bif Nat.ble pc 24 then (bif Nat.ble pc 21 then (bif Nat.beq pc 21 then some (.inl (o_zeq 28)) else none) else (bif Nat.beq pc 24 then some (.inl (oS 1 (s_push (.int 0)))) else none)) else (bif Nat.ble pc 25 then (bif Nat.beq pc 25 then some (.inl (o_goto 29)) else none) else (bif Nat.beq pc 28 then some (.inl (oS 1 (s_push (.int 1)))) else none))))) else (bif Nat.ble pc 41 then (bif Nat.ble pc 33 then (bif Nat.ble pc 29 then (bif Nat.beq pc 29 then some (.inl (o_pI 11 13)) else none) else (bif Nat.ble pc 32 then (bif Nat.beq pc 32 then some (.inl (o_al 0 1)) else none) else (bif Nat.beq pc 33 then some (.inl (o_gI 11 13)) else none))) else (bif Nat.ble pc 39 then (bif Nat.ble pc 36 then (bif Nat.beq pc 36 then some (.inl (o_zeq 41)) else none) else (bif Nat.beq pc 39 then some (.inl (oS 1 (s_push (.int 0)))) else none)) else (bif Nat.ble pc 40 then (bif Nat.beq pc 40 then some (.inr (0, 0, 0, 0)) else none) else (bif Nat.beq pc 41 then some (.inl (o_al 0 1)) else none)))) else (bif Nat.ble pc 47 then (bif Nat.ble pc 43 then (bif Nat.ble pc 42 then (bif Nat.beq pc 42 then some (.inl (oS 1 (s_push (.int 2)))) else none) else (bif Nat.beq pc 43 then some (.inl (oS 1 (s_push (.int 0)))) else none)) else (bif Nat.ble pc 44 then (bif Nat.beq pc 44 then some (.inr (3, 161, 3, 11)) else none) else (bif Nat.beq pc 47 then some (.inl (o_al 0 1)) else none))) else (bif Nat.ble pc 51 then (bif Nat.ble pc 48 then (bif Nat.beq pc 48 then some (.inl (o_gP 11 20)) else none) else (bif Nat.beq pc 51 then some (.inl (oS 1 (s_push (.int 0)))) else none)) else (bif Nat.ble pc 52 then (bif Nat.beq pc 52 then some (.inl (o_iald)) else none) else (bif Nat.beq pc 53 then some (.inr (0, 0, 0, 0)) else none)))))
theorem k_173_0 : mOk M_173.1 M_173.2.1 M_173.2.2.1 M_173.2.2.2 0 (o_al 0 1) := ok_aload_n dX11_apply_0 rfl
theorem k_173_1 : mOk M_173.1 M_173.2.1 M_173.2.2.1 M_173.2.2.2 1 (o_al 0 1) := ok_aload_n dX11_apply_1 rfl
theorem k_173_2 : mOk M_173.1 M_173.2.1 M_173.2.2.1 M_173.2.2.2 2 (o_gP 11 17) := ok_gP dX11_apply_2 f_RX11_47 rfl
theorem k_173_5 : mOk M_173.1 M_173.2.1 M_173.2.2.1 M_173.2.2.2 5 (oS 1 (s_push (.int 0))) := ok_iconst dX11_apply_5 (by decide)
theorem k_173_6 : mOk M_173.1 M_173.2.1 M_173.2.2.1 M_173.2.2.2 6 (o_bald) := ok_bald dX11_apply_6
theorem k_173_7 : mOk M_173.1 M_173.2.1 M_173.2.2.1 M_173.2.2.2 7 (o_zeq 28) := ok_zeq dX11_apply_7 (by decide)
theorem k_173_10 : mOk M_173.1 M_173.2.1 M_173.2.2.1 M_173.2.2.2 10 (o_al 0 1) := ok_aload_n dX11_apply_10 rfl
theorem k_173_11 : mOk M_173.1 M_173.2.1 M_173.2.2.1 M_173.2.2.2 11 (o_gI 11 16) := ok_gI dX11_apply_11 f_RX11_274 (Or.inr rfl)
theorem k_173_14 : mOk M_173.1 M_173.2.1 M_173.2.2.1 M_173.2.2.2 14 (o_zeq 28) := ok_zeq dX11_apply_14 (by decide)
theorem k_173_17 : mOk M_173.1 M_173.2.1 M_173.2.2.1 M_173.2.2.2 17 (o_al 0 1) := ok_aload_n dX11_apply_17 rfl
theorem k_173_21 : mOk M_173.1 M_173.2.1 M_173.2.2.1 M_173.2.2.2 21 (o_zeq 28) := ok_zeq dX11_apply_21 (by decide)
theorem k_173_24 : mOk M_173.1 M_173.2.1 M_173.2.2.1 M_173.2.2.2 24 (oS 1 (s_push (.int 0))) := ok_iconst dX11_apply_24 (by decide)
theorem k_173_25 : mOk M_173.1 M_173.2.1 M_173.2.2.1 M_173.2.2.2 25 (o_goto 29) := ok_goto dX11_apply_25 (by decide)
theorem k_173_28 : mOk M_173.1 M_173.2.1 M_173.2.2.1 M_173.2.2.2 28 (oS 1 (s_push (.int 1))) := ok_iconst dX11_apply_28 (by decide)
theorem k_173_29 : mOk M_173.1 M_173.2.1 M_173.2.2.1 M_173.2.2.2 29 (o_pI 11 13) := ok_pI dX11_apply_29 (mFw_of f_RX11_133_c (Or.inl rfl)) rfl
theorem k_173_32 : mOk M_173.1 M_173.2.1 M_173.2.2.1 M_173.2.2.2 32 (o_al 0 1) := ok_aload_n dX11_apply_32 rfl
theorem k_173_33 : mOk M_173.1 M_173.2.1 M_173.2.2.1 M_173.2.2.2 33 (o_gI 11 13) := ok_gI dX11_apply_33 f_RX11_133 (Or.inl rfl)
theorem k_173_36 : mOk M_173.1 M_173.2.1 M_173.2.2.1 M_173.2.2.2 36 (o_zeq 41) := ok_zeq dX11_apply_36 (by decide)
theorem k_173_39 : mOk M_173.1 M_173.2.1 M_173.2.2.1 M_173.2.2.2 39 (oS 1 (s_push (.int 0))) := ok_iconst dX11_apply_39 (by decide)
theorem k_173_41 : mOk M_173.1 M_173.2.1 M_173.2.2.1 M_173.2.2.2 41 (o_al 0 1) := ok_aload_n dX11_apply_41 rfl
theorem k_173_42 : mOk M_173.1 M_173.2.1 M_173.2.2.1 M_173.2.2.2 42 (oS 1 (s_push (.int 2))) := ok_iconst dX11_apply_42 (by decide)
theorem k_173_43 : mOk M_173.1 M_173.2.1 M_173.2.2.1 M_173.2.2.2 43 (oS 1 (s_push (.int 0))) := ok_iconst dX11_apply_43 (by decide)
theorem k_173_47 : mOk M_173.1 M_173.2.1 M_173.2.2.1 M_173.2.2.2 47 (o_al 0 1) := ok_aload_n dX11_apply_47 rfl
theorem k_173_48 : mOk M_173.1 M_173.2.1 M_173.2.2.1 M_173.2.2.2 48 (o_gP 11 20) := ok_gP dX11_apply_48 f_RX11_57 rfl
theorem k_173_51 : mOk M_173.1 M_173.2.1 M_173.2.2.1 M_173.2.2.2 51 (oS 1 (s_push (.int 0))) := ok_iconst dX11_apply_51 (by decide)
theorem k_173_52 : mOk M_173.1 M_173.2.1 M_173.2.2.1 M_173.2.2.2 52 (o_iald) := ok_iald dX11_apply_52
set_option maxRecDepth 20000 in
set_option maxHeartbeats 4000000 in
theorem tk_173 (l : Launch) (H9 : mThr l) (H10 : mSpl l) (pc : Nat) (q : mEnt) (h : tb_173 pc = some q) : EE l 173 pc q := nd h (fun h => nd h (fun h => nd h (fun h => nd h (fun h => lf (P := EE l 173) h k_173_0) (fun h => nd h (fun h => lf (P := EE l 173) h k_173_1) (fun h => lf (P := EE l 173) h k_173_2))) (fun h => nd h (fun h => nd h (fun h => lf (P := EE l 173) h k_173_5) (fun h => lf (P := EE l 173) h k_173_6)) (fun h => nd h (fun h => lf (P := EE l 173) h k_173_7) (fun h => lf (P := EE l 173) h k_173_10)))) (fun h => nd h (fun h => nd h (fun h => nd h (fun h => lf (P := EE l 173) h k_173_11) (fun h => lf (P := EE l 173) h k_173_14)) (fun h => nd h (fun h => lf (P := EE l 173) h k_173_17) (fun h => lf (P := EE l 173) h (EE_ca (by decide) (⟨m_1444, m_81, ⟨by decide, by decide⟩, by decide +kernel, ⟨by decide, by decide⟩, 324, 0, by decide +kernel, Or.inr (Or.inr (Or.inl ⟨rfl, rfl, dX11_apply_18, m_1441, m_1443, _, rfl, by decide, m_67⟩))⟩) rfl)))) (fun h => nd h (fun h => nd h (fun h => lf (P := EE l 173) h k_173_21) (fun h => lf (P := EE l 173) h k_173_24)) (fun h => nd h (fun h => lf (P := EE l 173) h k_173_25) (fun h => lf (P := EE l 173) h k_173_28))))) (fun h => nd h (fun h => nd h (fun h => nd h (fun h => lf (P := EE l 173) h k_173_29) (fun h => nd h (fun h => lf (P := EE l 173) h k_173_32) (fun h => lf (P := EE l 173) h k_173_33))) (fun h => nd h (fun h => nd h (fun h => lf (P := EE l 173) h k_173_36) (fun h => lf (P := EE l 173) h k_173_39)) (fun h => nd h (fun h => lf (P := EE l 173) h (EE_re (Or.inl ⟨rfl, dX11_apply_40, rfl⟩))) (fun h => lf (P := EE l 173) h k_173_41)))) (fun h => nd h (fun h => nd h (fun h => nd h (fun h => lf (P := EE l 173) h k_173_42) (fun h => lf (P := EE l 173) h k_173_43)) (fun h => nd h (fun h => lf (P := EE l 173) h (EE_ca (by decide) (⟨m_1400, m_81, ⟨by decide, by decide⟩, by decide +kernel, ⟨by decide, by decide⟩, 302, 2, by decide +kernel, Or.inr (Or.inr (Or.inl ⟨rfl, rfl, dX11_apply_44, m_1397, m_1399, _, rfl, by decide, m_62⟩))⟩) rfl)) (fun h => lf (P := EE l 173) h k_173_47))) (fun h => nd h (fun h => nd h (fun h => lf (P := EE l 173) h k_173_48) (fun h => lf (P := EE l 173) h k_173_51)) (fun h => nd h (fun h => lf (P := EE l 173) h k_173_52) (fun h => lf (P := EE l 173) h (EE_re (Or.inl ⟨rfl, dX11_apply_53, rfl⟩)))))))
theorem dX11_letters_0 : decode cX11_letters 0 = .ok (.iconst 0, 1) := by decide +kernel
theorem dX11_letters_1 : decode cX11_letters 1 = .ok (.istore_n 2, 1) := by decide +kernel
theorem dX11_letters_2 : decode cX11_letters 2 = .ok (.iconst 0, 1) := by decide +kernel
theorem dX11_letters_3 : decode cX11_letters 3 = .ok (.istore_n 3, 1) := by decide +kernel
theorem dX11_letters_4 : decode cX11_letters 4 = .ok (.iload_n 3, 1) := by decide +kernel
theorem dX11_letters_5 : decode cX11_letters 5 = .ok (.bipush 64, 2) := by decide +kernel
theorem dX11_letters_7 : decode cX11_letters 7 = .ok (.if_icmp .ge 24, 3) := by decide +kernel
theorem dX11_letters_10 : decode cX11_letters 10 = .ok (.lload_n 0, 1) := by decide +kernel
theorem dX11_letters_11 : decode cX11_letters 11 = .ok (.iload_n 3, 1) := by decide +kernel
theorem dX11_letters_12 : decode cX11_letters 12 = .ok (.lushr, 1) := by decide +kernel
theorem dX11_letters_13 : decode cX11_letters 13 = .ok (.ldc2_w 327, 3) := by decide +kernel
theorem dX11_letters_16 : decode cX11_letters 16 = .ok (.land, 1) := by decide +kernel
theorem dX11_letters_17 : decode cX11_letters 17 = .ok (.lconst 0, 1) := by decide +kernel
theorem dX11_letters_18 : decode cX11_letters 18 = .ok (.lcmp, 1) := by decide +kernel
theorem dX11_letters_19 : decode cX11_letters 19 = .ok (.ifCond .eq 6, 3) := by decide +kernel
theorem dX11_letters_22 : decode cX11_letters 22 = .ok (.iinc 2 1, 3) := by decide +kernel
theorem dX11_letters_25 : decode cX11_letters 25 = .ok (.iinc 3 8, 3) := by decide +kernel
theorem dX11_letters_28 : decode cX11_letters 28 = .ok (.goto (-24), 3) := by decide +kernel
theorem dX11_letters_31 : decode cX11_letters 31 = .ok (.iload_n 2, 1) := by decide +kernel
theorem dX11_letters_32 : decode cX11_letters 32 = .ok (.ireturn, 1) := by decide +kernel
def tb_174 (pc : Nat) : Option mEnt := bif Nat.ble pc 12 then (bif Nat.ble pc 4 then (bif Nat.ble pc 1 then (bif Nat.ble pc 0 then (bif Nat.beq pc 0 then some (.inl (oS 1 (s_push (.int 0)))) else none) else (bif Nat.beq pc 1 then some (.inl (o_is 2 1)) else none)) else (bif Nat.ble pc 2 then (bif Nat.beq pc 2 then some (.inl (oS 1 (s_push (.int 0)))) else none) else (bif Nat.ble pc 3 then (bif Nat.beq pc 3 then some (.inl (o_is 3 1)) else none) else (bif Nat.beq pc 4 then some (.inl (o_il 3 1)) else none)))) else (bif Nat.ble pc 7 then (bif Nat.ble pc 5 then (bif Nat.beq pc 5 then some (.inl (oS 2 (s_push (.int 64)))) else none) else (bif Nat.beq pc 7 then some (.inl (o_cge 31)) else none)) else (bif Nat.ble pc 10 then (bif Nat.beq pc 10 then some (.inl (o_ll 0 1)) else none) else (bif Nat.ble pc 11 then (bif Nat.beq pc 11 then some (.inl (o_il 3 1)) else none) else (bif Nat.beq pc 12 then some (.inl (oS 1 (s_li (fun a b => (a.toUInt64 >>> (b.toInt64.toUInt64 &&& Int64.toUInt64 63)).toInt64)))) else none))))) else (bif Nat.ble pc 19 then (bif Nat.ble pc 16 then (bif Nat.ble pc 13 then (bif Nat.beq pc 13 then some (.inl (oS 3 (s_push (.long 255)))) else none) else (bif Nat.beq pc 16 then some (.inl (oS 1 (s_ll (fun a b => a &&& b)))) else none)) else (bif Nat.ble pc 17 then (bif Nat.beq pc 17 then some (.inl (oS 1 (s_push (.long 0)))) else none) else (bif Nat.ble pc 18 then (bif Nat.beq pc 18 then some (.inl (oS 1 s_lcmp)) else none) else (bif Nat.beq pc 19 then some (.inl (o_zeq 25)) else none)))) else (bif Nat.ble pc 25 then (bif Nat.ble pc 22 then (bif Nat.beq pc 22 then some (.inl (o_inc 2 1)) else none) else (bif Nat.beq pc 25 then some (.inl (o_inc 3 8)) else none)) else (bif Nat.ble pc 28 then (bif Nat.beq pc 28 then some (.inl (o_goto 4)) else none) else (bif Nat.ble pc 31 then (bif Nat.beq pc 31 then some (.inl (o_il 2 1)) else none) else (bif Nat.beq pc 32 then some (.inr (0, 0, 0, 0)) else none)))))
theorem k_174_0 : mOk M_174.1 M_174.2.1 M_174.2.2.1 M_174.2.2.2 0 (oS 1 (s_push (.int 0))) := ok_iconst dX11_letters_0 (by decide)
theorem k_174_1 : mOk M_174.1 M_174.2.1 M_174.2.2.1 M_174.2.2.2 1 (o_is 2 1) := ok_istore_n dX11_letters_1 rfl
theorem k_174_2 : mOk M_174.1 M_174.2.1 M_174.2.2.1 M_174.2.2.2 2 (oS 1 (s_push (.int 0))) := ok_iconst dX11_letters_2 (by decide)
theorem k_174_3 : mOk M_174.1 M_174.2.1 M_174.2.2.1 M_174.2.2.2 3 (o_is 3 1) := ok_istore_n dX11_letters_3 rfl
theorem k_174_4 : mOk M_174.1 M_174.2.1 M_174.2.2.1 M_174.2.2.2 4 (o_il 3 1) := ok_iload_n dX11_letters_4 rfl
theorem k_174_5 : mOk M_174.1 M_174.2.1 M_174.2.2.1 M_174.2.2.2 5 (oS 2 (s_push (.int 64))) := ok_bipush dX11_letters_5 (by decide)
theorem k_174_7 : mOk M_174.1 M_174.2.1 M_174.2.2.1 M_174.2.2.2 7 (o_cge 31) := ok_cge dX11_letters_7 (by decide)
theorem k_174_10 : mOk M_174.1 M_174.2.1 M_174.2.2.1 M_174.2.2.2 10 (o_ll 0 1) := ok_lload_n dX11_letters_10 rfl
theorem k_174_11 : mOk M_174.1 M_174.2.1 M_174.2.2.1 M_174.2.2.2 11 (o_il 3 1) := ok_iload_n dX11_letters_11 rfl
theorem k_174_12 : mOk M_174.1 M_174.2.1 M_174.2.2.1 M_174.2.2.2 12 (oS 1 (s_li (fun a b => (a.toUInt64 >>> (b.toInt64.toUInt64 &&& Int64.toUInt64 63)).toInt64))) := ok_lushr dX11_letters_12
theorem k_174_13 : mOk M_174.1 M_174.2.1 M_174.2.2.1 M_174.2.2.2 13 (oS 3 (s_push (.long 255))) := ok_ldc2 dX11_letters_13 m_1455
theorem k_174_16 : mOk M_174.1 M_174.2.1 M_174.2.2.1 M_174.2.2.2 16 (oS 1 (s_ll (fun a b => a &&& b))) := ok_land dX11_letters_16
theorem k_174_17 : mOk M_174.1 M_174.2.1 M_174.2.2.1 M_174.2.2.2 17 (oS 1 (s_push (.long 0))) := ok_lconst dX11_letters_17 (by decide)
theorem k_174_18 : mOk M_174.1 M_174.2.1 M_174.2.2.1 M_174.2.2.2 18 (oS 1 s_lcmp) := ok_lcmp dX11_letters_18
theorem k_174_19 : mOk M_174.1 M_174.2.1 M_174.2.2.1 M_174.2.2.2 19 (o_zeq 25) := ok_zeq dX11_letters_19 (by decide)
theorem k_174_22 : mOk M_174.1 M_174.2.1 M_174.2.2.1 M_174.2.2.2 22 (o_inc 2 1) := ok_iinc dX11_letters_22 (by decide)
theorem k_174_25 : mOk M_174.1 M_174.2.1 M_174.2.2.1 M_174.2.2.2 25 (o_inc 3 8) := ok_iinc dX11_letters_25 (by decide)
theorem k_174_28 : mOk M_174.1 M_174.2.1 M_174.2.2.1 M_174.2.2.2 28 (o_goto 4) := ok_goto dX11_letters_28 (by decide)
theorem k_174_31 : mOk M_174.1 M_174.2.1 M_174.2.2.1 M_174.2.2.2 31 (o_il 2 1) := ok_iload_n dX11_letters_31 rfl
set_option maxRecDepth 20000 in
set_option maxHeartbeats 4000000 in
theorem tk_174 (l : Launch) (H9 : mThr l) (H10 : mSpl l) (pc : Nat) (q : mEnt) (h : tb_174 pc = some q) : EE l 174 pc q := nd h (fun h => nd h (fun h => nd h (fun h => nd h (fun h => lf (P := EE l 174) h k_174_0) (fun h => lf (P := EE l 174) h k_174_1)) (fun h => nd h (fun h => lf (P := EE l 174) h k_174_2) (fun h => nd h (fun h => lf (P := EE l 174) h k_174_3) (fun h => lf (P := EE l 174) h k_174_4)))) (fun h => nd h (fun h => nd h (fun h => lf (P := EE l 174) h k_174_5) (fun h => lf (P := EE l 174) h k_174_7)) (fun h => nd h (fun h => lf (P := EE l 174) h k_174_10) (fun h => nd h (fun h => lf (P := EE l 174) h k_174_11) (fun h => lf (P := EE l 174) h k_174_12))))) (fun h => nd h (fun h => nd h (fun h => nd h (fun h => lf (P := EE l 174) h k_174_13) (fun h => lf (P := EE l 174) h k_174_16)) (fun h => nd h (fun h => lf (P := EE l 174) h k_174_17) (fun h => nd h (fun h => lf (P := EE l 174) h k_174_18) (fun h => lf (P := EE l 174) h k_174_19)))) (fun h => nd h (fun h => nd h (fun h => lf (P := EE l 174) h k_174_22) (fun h => lf (P := EE l 174) h k_174_25)) (fun h => nd h (fun h => lf (P := EE l 174) h k_174_28) (fun h => nd h (fun h => lf (P := EE l 174) h k_174_31) (fun h => lf (P := EE l 174) h (EE_re (Or.inl ⟨rfl, dX11_letters_32, rfl⟩)))))))
theorem dX11_letter_0 : decode cX11_letter 0 = .ok (.lload_n 0, 1) := by decide +kernel
theorem dX11_letter_1 : decode cX11_letter 1 = .ok (.bipush 8, 2) := by decide +kernel
theorem dX11_letter_3 : decode cX11_letter 3 = .ok (.lload_n 0, 1) := by decide +kernel
theorem dX11_letter_4 : decode cX11_letter 4 = .ok (.invokestatic 329, 3) := by decide +kernel
theorem dX11_letter_7 : decode cX11_letter 7 = .ok (.iconst 1, 1) := by decide +kernel
theorem dX11_letter_8 : decode cX11_letter 8 = .ok (.isub, 1) := by decide +kernel
theorem dX11_letter_9 : decode cX11_letter 9 = .ok (.iload_n 2, 1) := by decide +kernel
theorem dX11_letter_10 : decode cX11_letter 10 = .ok (.isub, 1) := by decide +kernel
theorem dX11_letter_11 : decode cX11_letter 11 = .ok (.imul, 1) := by decide +kernel
theorem dX11_letter_12 : decode cX11_letter 12 = .ok (.lushr, 1) := by decide +kernel
theorem dX11_letter_13 : decode cX11_letter 13 = .ok (.l2i, 1) := by decide +kernel
theorem dX11_letter_14 : decode cX11_letter 14 = .ok (.sipush 255, 3) := by decide +kernel
theorem dX11_letter_17 : decode cX11_letter 17 = .ok (.iand, 1) := by decide +kernel
theorem dX11_letter_18 : decode cX11_letter 18 = .ok (.ireturn, 1) := by decide +kernel
def tb_175 (pc : Nat) : Option mEnt := bif Nat.ble pc 9 then (bif Nat.ble pc 3 then (bif Nat.ble pc 0 then (bif Nat.beq pc 0 then some (.inl (o_ll 0 1)) else none) else (bif Nat.ble pc 1 then (bif Nat.beq pc 1 then some (.inl (oS 2 (s_push (.int 8)))) else none) else (bif Nat.beq pc 3 then some (.inl (o_ll 0 1)) else none))) else (bif Nat.ble pc 7 then (bif Nat.ble pc 4 then (bif Nat.beq pc 4 then some (.inr (2, 174, 1, 0)) else none) else (bif Nat.beq pc 7 then some (.inl (oS 1 (s_push (.int 1)))) else none)) else (bif Nat.ble pc 8 then (bif Nat.beq pc 8 then some (.inl (oS 1 (s_ii (fun a b => a - b)))) else none) else (bif Nat.beq pc 9 then some (.inl (o_il 2 1)) else none)))) else (bif Nat.ble pc 12 then (bif Nat.ble pc 10 then (bif Nat.beq pc 10 then some (.inl (oS 1 (s_ii (fun a b => a - b)))) else none) else (bif Nat.ble pc 11 then (bif Nat.beq pc 11 then some (.inl (oS 1 (s_ii (fun a b => a * b)))) else none) else (bif Nat.beq pc 12 then some (.inl (oS 1 (s_li (fun a b => (a.toUInt64 >>> (b.toInt64.toUInt64 &&& Int64.toUInt64 63)).toInt64)))) else none))) else (bif Nat.ble pc 14 then (bif Nat.ble pc 13 then (bif Nat.beq pc 13 then some (.inl (oS 1 s_l2i)) else none) else (bif Nat.beq pc 14 then some (.inl (oS 3 (s_push (.int 255)))) else none)) else (bif Nat.ble pc 17 then (bif Nat.beq pc 17 then some (.inl (oS 1 (s_ii (fun a b => a &&& b)))) else none) else (bif Nat.beq pc 18 then some (.inr (0, 0, 0, 0)) else none))))
theorem k_175_0 : mOk M_175.1 M_175.2.1 M_175.2.2.1 M_175.2.2.2 0 (o_ll 0 1) := ok_lload_n dX11_letter_0 rfl
theorem k_175_1 : mOk M_175.1 M_175.2.1 M_175.2.2.1 M_175.2.2.2 1 (oS 2 (s_push (.int 8))) := ok_bipush dX11_letter_1 (by decide)
theorem k_175_3 : mOk M_175.1 M_175.2.1 M_175.2.2.1 M_175.2.2.2 3 (o_ll 0 1) := ok_lload_n dX11_letter_3 rfl
theorem k_175_7 : mOk M_175.1 M_175.2.1 M_175.2.2.1 M_175.2.2.2 7 (oS 1 (s_push (.int 1))) := ok_iconst dX11_letter_7 (by decide)
theorem k_175_8 : mOk M_175.1 M_175.2.1 M_175.2.2.1 M_175.2.2.2 8 (oS 1 (s_ii (fun a b => a - b))) := ok_isub dX11_letter_8
theorem k_175_9 : mOk M_175.1 M_175.2.1 M_175.2.2.1 M_175.2.2.2 9 (o_il 2 1) := ok_iload_n dX11_letter_9 rfl
theorem k_175_10 : mOk M_175.1 M_175.2.1 M_175.2.2.1 M_175.2.2.2 10 (oS 1 (s_ii (fun a b => a - b))) := ok_isub dX11_letter_10
theorem k_175_11 : mOk M_175.1 M_175.2.1 M_175.2.2.1 M_175.2.2.2 11 (oS 1 (s_ii (fun a b => a * b))) := ok_imul dX11_letter_11
theorem k_175_12 : mOk M_175.1 M_175.2.1 M_175.2.2.1 M_175.2.2.2 12 (oS 1 (s_li (fun a b => (a.toUInt64 >>> (b.toInt64.toUInt64 &&& Int64.toUInt64 63)).toInt64))) := ok_lushr dX11_letter_12
theorem k_175_13 : mOk M_175.1 M_175.2.1 M_175.2.2.1 M_175.2.2.2 13 (oS 1 s_l2i) := ok_l2i dX11_letter_13
theorem k_175_14 : mOk M_175.1 M_175.2.1 M_175.2.2.1 M_175.2.2.2 14 (oS 3 (s_push (.int 255))) := ok_sipush dX11_letter_14 (by decide)
theorem k_175_17 : mOk M_175.1 M_175.2.1 M_175.2.2.1 M_175.2.2.2 17 (oS 1 (s_ii (fun a b => a &&& b))) := ok_iand dX11_letter_17
set_option maxRecDepth 20000 in
set_option maxHeartbeats 4000000 in
theorem tk_175 (l : Launch) (H9 : mThr l) (H10 : mSpl l) (pc : Nat) (q : mEnt) (h : tb_175 pc = some q) : EE l 175 pc q := nd h (fun h => nd h (fun h => nd h (fun h => lf (P := EE l 175) h k_175_0) (fun h => nd h (fun h => lf (P := EE l 175) h k_175_1) (fun h => lf (P := EE l 175) h k_175_3))) (fun h => nd h (fun h => nd h (fun h => lf (P := EE l 175) h (EE_ca (by decide) (⟨m_1454, m_81, ⟨by decide, by decide⟩, by decide +kernel, ⟨by decide, by decide⟩, 329, 1, by decide +kernel, Or.inl ⟨rfl, rfl, dX11_letter_4, m_1452, m_1453⟩⟩) rfl)) (fun h => lf (P := EE l 175) h k_175_7)) (fun h => nd h (fun h => lf (P := EE l 175) h k_175_8) (fun h => lf (P := EE l 175) h k_175_9)))) (fun h => nd h (fun h => nd h (fun h => lf (P := EE l 175) h k_175_10) (fun h => nd h (fun h => lf (P := EE l 175) h k_175_11) (fun h => lf (P := EE l 175) h k_175_12))) (fun h => nd h (fun h => nd h (fun h => lf (P := EE l 175) h k_175_13) (fun h => lf (P := EE l 175) h k_175_14)) (fun h => nd h (fun h => lf (P := EE l 175) h k_175_17) (fun h => lf (P := EE l 175) h (EE_re (Or.inl ⟨rfl, dX11_letter_18, rfl⟩))))))
theorem dX11_compared_0 : decode cX11_compared 0 = .ok (.lload_n 0, 1) := by decide +kernel
theorem dX11_compared_1 : decode cX11_compared 1 = .ok (.invokestatic 329, 3) := by decide +kernel
theorem dX11_compared_4 : decode cX11_compared 4 = .ok (.lload_n 2, 1) := by decide +kernel
theorem dX11_compared_5 : decode cX11_compared 5 = .ok (.invokestatic 329, 3) := by decide +kernel
theorem dX11_compared_8 : decode cX11_compared 8 = .ok (.if_icmp .ge 10, 3) := by decide +kernel
theorem dX11_compared_11 : decode cX11_compared 11 = .ok (.lload_n 0, 1) := by decide +kernel
theorem dX11_compared_12 : decode cX11_compared 12 = .ok (.invokestatic 329, 3) := by decide +kernel
theorem dX11_compared_15 : decode cX11_compared 15 = .ok (.goto 7, 3) := by decide +kernel
theorem dX11_compared_18 : decode cX11_compared 18 = .ok (.lload_n 2, 1) := by decide +kernel
theorem dX11_compared_19 : decode cX11_compared 19 = .ok (.invokestatic 329, 3) := by decide +kernel
theorem dX11_compared_22 : decode cX11_compared 22 = .ok (.istore 4, 2) := by decide +kernel
theorem dX11_compared_24 : decode cX11_compared 24 = .ok (.iconst 0, 1) := by decide +kernel
theorem dX11_compared_25 : decode cX11_compared 25 = .ok (.istore 5, 2) := by decide +kernel
theorem dX11_compared_27 : decode cX11_compared 27 = .ok (.iload 5, 2) := by decide +kernel
theorem dX11_compared_29 : decode cX11_compared 29 = .ok (.iload 4, 2) := by decide +kernel
theorem dX11_compared_31 : decode cX11_compared 31 = .ok (.if_icmp .ge 38, 3) := by decide +kernel
theorem dX11_compared_34 : decode cX11_compared 34 = .ok (.lload_n 0, 1) := by decide +kernel
theorem dX11_compared_35 : decode cX11_compared 35 = .ok (.iload 5, 2) := by decide +kernel
theorem dX11_compared_37 : decode cX11_compared 37 = .ok (.invokestatic 333, 3) := by decide +kernel
theorem dX11_compared_40 : decode cX11_compared 40 = .ok (.lload_n 2, 1) := by decide +kernel
theorem dX11_compared_41 : decode cX11_compared 41 = .ok (.iload 5, 2) := by decide +kernel
theorem dX11_compared_43 : decode cX11_compared 43 = .ok (.invokestatic 333, 3) := by decide +kernel
theorem dX11_compared_46 : decode cX11_compared 46 = .ok (.if_icmp .eq 17, 3) := by decide +kernel
theorem dX11_compared_49 : decode cX11_compared 49 = .ok (.lload_n 0, 1) := by decide +kernel
theorem dX11_compared_50 : decode cX11_compared 50 = .ok (.iload 5, 2) := by decide +kernel
theorem dX11_compared_52 : decode cX11_compared 52 = .ok (.invokestatic 333, 3) := by decide +kernel
theorem dX11_compared_55 : decode cX11_compared 55 = .ok (.lload_n 2, 1) := by decide +kernel
theorem dX11_compared_56 : decode cX11_compared 56 = .ok (.iload 5, 2) := by decide +kernel
theorem dX11_compared_58 : decode cX11_compared 58 = .ok (.invokestatic 333, 3) := by decide +kernel
theorem dX11_compared_61 : decode cX11_compared 61 = .ok (.isub, 1) := by decide +kernel
theorem dX11_compared_62 : decode cX11_compared 62 = .ok (.ireturn, 1) := by decide +kernel
theorem dX11_compared_63 : decode cX11_compared 63 = .ok (.iinc 5 1, 3) := by decide +kernel
theorem dX11_compared_66 : decode cX11_compared 66 = .ok (.goto (-39), 3) := by decide +kernel
theorem dX11_compared_69 : decode cX11_compared 69 = .ok (.lload_n 0, 1) := by decide +kernel
theorem dX11_compared_70 : decode cX11_compared 70 = .ok (.invokestatic 329, 3) := by decide +kernel
theorem dX11_compared_73 : decode cX11_compared 73 = .ok (.lload_n 2, 1) := by decide +kernel
theorem dX11_compared_74 : decode cX11_compared 74 = .ok (.invokestatic 329, 3) := by decide +kernel
theorem dX11_compared_77 : decode cX11_compared 77 = .ok (.isub, 1) := by decide +kernel
theorem dX11_compared_78 : decode cX11_compared 78 = .ok (.ireturn, 1) := by decide +kernel
def tb_176 (pc : Nat) : Option mEnt := bif Nat.ble pc 37 then (bif Nat.ble pc 18 then (bif Nat.ble pc 5 then (bif Nat.ble pc 1 then (bif Nat.ble pc 0 then (bif Nat.beq pc 0 then some (.inl (o_ll 0 1)) else none) else (bif Nat.beq pc 1 then some (.inr (2, 174, 1, 0)) else none)) else (bif Nat.ble pc 4 then (bif Nat.beq pc 4 then some (.inl (o_ll 2 1)) else none) else (bif Nat.beq pc 5 then some (.inr (2, 174, 1, 0)) else none))) else (bif Nat.ble pc 11 then (bif Nat.ble pc 8 then (bif Nat.beq pc 8 then some (.inl (o_cge 18)) else none) else (bif Nat.beq pc 11 then some (.inl (o_ll 0 1)) else none)) else (bif Nat.ble pc 12 then (bif Nat.beq pc 12 then some (.inr (2, 174, 1, 0)) else none) else (bif Nat.ble pc 15 then (bif Nat.beq pc 15 then some (.inl (o_goto 22)) else none) else (bif Nat.beq pc 18 then some (.inl (o_ll 2 1)) else none))))) else (bif Nat.ble pc 27 then (bif Nat.ble pc 22 then (bif Nat.ble pc 19 then (bif Nat.beq pc 19 then some (.inr (2, 174, 1, 0)) else none) else (bif Nat.beq pc 22 then some (.inl (o_is 4 2)) else none)) else (bif Nat.ble pc 24 then (bif Nat.beq pc 24 then some (.inl (oS 1 (s_push (.int 0)))) else none) else (bif Nat.ble pc 25 then (bif Nat.beq pc 25 then some (.inl (o_is 5 2)) else none) else (bif Nat.beq pc 27 then some (.inl (o_il 5 2)) else none)))) else (bif Nat.ble pc 31 then (bif Nat.ble pc 29 then (bif Nat.beq pc 29 then some (.inl (o_il 4 2)) else none) else (bif Nat.beq pc 31 then some (.inl (o_cge 69)) else none)) else (bif Nat.ble pc 34 then (bif Nat.beq pc 34 then some (.inl (o_ll 0 1)) else none) else (bif Nat.ble pc 35 then (bif Nat.beq pc 35 then some (.inl (o_il 5 2)) else none) else (bif Nat.beq pc 37 then some (.inr (2, 175, 2, 0)) else none)))))) else (bif Nat.ble pc 58 then (bif Nat.ble pc 49 then (bif Nat.ble pc 41 then (bif Nat.ble pc 40 then (bif Nat.beq pc 40 then some (.inl (o_ll 2 1)) else none) else (bif Nat.beq pc 41 then some (.inl (o_il 5 2)) else none)) else (bif Nat.ble pc 43 then (bif Nat.beq pc 43 then some (.inr (2, 175, 2, 0)) else none) else (bif Nat.ble pc 46 then (bif Nat.beq pc 46 then some (.inl (o_ceq 63)) else none) else (bif Nat.beq pc 49 then some (.inl (o_ll 0 1)) else none)))) else (bif Nat.ble pc 52 then (bif Nat.ble pc 50 then (bif Nat.beq pc 50 then some (.inl (o_il 5 2)) else none) else (bif Nat.beq pc 52 then some (.inr (2, 175, 2, 0)) else none)) else (bif Nat.ble pc 55 then (bif Nat.beq pc 55 then some (.inl (o_ll 2 1)) else none) else (bif Nat.ble pc 56 then (bif Nat.beq pc 56 then some (.inl (o_il 5 2)) else none) else (bif Nat.beq pc 58 then some (.inr (2, 175, 2, 0)) else none))))) else (bif Nat.ble pc 69 then (bif Nat.ble pc 62 then (bif Nat.ble pc 61 then (bif Nat.beq pc 61 then some (.inl (oS 1 (s_ii (fun a b => a - b)))) else none) else (bif Nat.beq pc 62 then some (.inr (0, 0, 0, 0)) else none)) else (bif Nat.ble pc 63 then (bif Nat.beq pc 63 then some (.inl (o_inc 5 1)) else none) else (bif Nat.ble pc 66 then (bif Nat.beq pc 66 then some (.inl (o_goto 27)) else none) else (bif Nat.beq pc 69 then some (.inl (o_ll 0 1)) else none)))) else (bif Nat.ble pc 73 then (bif Nat.ble pc 70 then (bif Nat.beq pc 70 then some (.inr (2, 174, 1, 0)) else none) else (bif Nat.beq pc 73 then some (.inl (o_ll 2 1)) else none)) else (bif Nat.ble pc 74 then (bif Nat.beq pc 74 then some (.inr (2, 174, 1, 0)) else none) else (bif Nat.ble pc 77 then (bif Nat.beq pc 77 then some (.inl (oS 1 (s_ii (fun a b => a - b)))) else none) else (bif Nat.beq pc 78 then some (.inr (0, 0, 0, 0)) else none))))))
theorem k_176_0 : mOk M_176.1 M_176.2.1 M_176.2.2.1 M_176.2.2.2 0 (o_ll 0 1) := ok_lload_n dX11_compared_0 rfl
theorem k_176_4 : mOk M_176.1 M_176.2.1 M_176.2.2.1 M_176.2.2.2 4 (o_ll 2 1) := ok_lload_n dX11_compared_4 rfl
theorem k_176_8 : mOk M_176.1 M_176.2.1 M_176.2.2.1 M_176.2.2.2 8 (o_cge 18) := ok_cge dX11_compared_8 (by decide)
theorem k_176_11 : mOk M_176.1 M_176.2.1 M_176.2.2.1 M_176.2.2.2 11 (o_ll 0 1) := ok_lload_n dX11_compared_11 rfl
theorem k_176_15 : mOk M_176.1 M_176.2.1 M_176.2.2.1 M_176.2.2.2 15 (o_goto 22) := ok_goto dX11_compared_15 (by decide)
theorem k_176_18 : mOk M_176.1 M_176.2.1 M_176.2.2.1 M_176.2.2.2 18 (o_ll 2 1) := ok_lload_n dX11_compared_18 rfl
theorem k_176_22 : mOk M_176.1 M_176.2.1 M_176.2.2.1 M_176.2.2.2 22 (o_is 4 2) := ok_istore dX11_compared_22
theorem k_176_24 : mOk M_176.1 M_176.2.1 M_176.2.2.1 M_176.2.2.2 24 (oS 1 (s_push (.int 0))) := ok_iconst dX11_compared_24 (by decide)
theorem k_176_25 : mOk M_176.1 M_176.2.1 M_176.2.2.1 M_176.2.2.2 25 (o_is 5 2) := ok_istore dX11_compared_25
theorem k_176_27 : mOk M_176.1 M_176.2.1 M_176.2.2.1 M_176.2.2.2 27 (o_il 5 2) := ok_iload dX11_compared_27
theorem k_176_29 : mOk M_176.1 M_176.2.1 M_176.2.2.1 M_176.2.2.2 29 (o_il 4 2) := ok_iload dX11_compared_29
theorem k_176_31 : mOk M_176.1 M_176.2.1 M_176.2.2.1 M_176.2.2.2 31 (o_cge 69) := ok_cge dX11_compared_31 (by decide)
theorem k_176_34 : mOk M_176.1 M_176.2.1 M_176.2.2.1 M_176.2.2.2 34 (o_ll 0 1) := ok_lload_n dX11_compared_34 rfl
theorem k_176_35 : mOk M_176.1 M_176.2.1 M_176.2.2.1 M_176.2.2.2 35 (o_il 5 2) := ok_iload dX11_compared_35
theorem k_176_40 : mOk M_176.1 M_176.2.1 M_176.2.2.1 M_176.2.2.2 40 (o_ll 2 1) := ok_lload_n dX11_compared_40 rfl
theorem k_176_41 : mOk M_176.1 M_176.2.1 M_176.2.2.1 M_176.2.2.2 41 (o_il 5 2) := ok_iload dX11_compared_41
theorem k_176_46 : mOk M_176.1 M_176.2.1 M_176.2.2.1 M_176.2.2.2 46 (o_ceq 63) := ok_ceq dX11_compared_46 (by decide)
theorem k_176_49 : mOk M_176.1 M_176.2.1 M_176.2.2.1 M_176.2.2.2 49 (o_ll 0 1) := ok_lload_n dX11_compared_49 rfl
theorem k_176_50 : mOk M_176.1 M_176.2.1 M_176.2.2.1 M_176.2.2.2 50 (o_il 5 2) := ok_iload dX11_compared_50
theorem k_176_55 : mOk M_176.1 M_176.2.1 M_176.2.2.1 M_176.2.2.2 55 (o_ll 2 1) := ok_lload_n dX11_compared_55 rfl
theorem k_176_56 : mOk M_176.1 M_176.2.1 M_176.2.2.1 M_176.2.2.2 56 (o_il 5 2) := ok_iload dX11_compared_56
theorem k_176_61 : mOk M_176.1 M_176.2.1 M_176.2.2.1 M_176.2.2.2 61 (oS 1 (s_ii (fun a b => a - b))) := ok_isub dX11_compared_61
theorem k_176_63 : mOk M_176.1 M_176.2.1 M_176.2.2.1 M_176.2.2.2 63 (o_inc 5 1) := ok_iinc dX11_compared_63 (by decide)
theorem k_176_66 : mOk M_176.1 M_176.2.1 M_176.2.2.1 M_176.2.2.2 66 (o_goto 27) := ok_goto dX11_compared_66 (by decide)
theorem k_176_69 : mOk M_176.1 M_176.2.1 M_176.2.2.1 M_176.2.2.2 69 (o_ll 0 1) := ok_lload_n dX11_compared_69 rfl
theorem k_176_73 : mOk M_176.1 M_176.2.1 M_176.2.2.1 M_176.2.2.2 73 (o_ll 2 1) := ok_lload_n dX11_compared_73 rfl
theorem k_176_77 : mOk M_176.1 M_176.2.1 M_176.2.2.1 M_176.2.2.2 77 (oS 1 (s_ii (fun a b => a - b))) := ok_isub dX11_compared_77
set_option maxRecDepth 20000 in
set_option maxHeartbeats 4000000 in
theorem tk_176 (l : Launch) (H9 : mThr l) (H10 : mSpl l) (pc : Nat) (q : mEnt) (h : tb_176 pc = some q) : EE l 176 pc q := nd h (fun h => nd h (fun h => nd h (fun h => nd h (fun h => nd h (fun h => lf (P := EE l 176) h k_176_0) (fun h => lf (P := EE l 176) h (EE_ca (by decide) (⟨m_1454, m_81, ⟨by decide, by decide⟩, by decide +kernel, ⟨by decide, by decide⟩, 329, 1, by decide +kernel, Or.inl ⟨rfl, rfl, dX11_compared_1, m_1452, m_1453⟩⟩) rfl))) (fun h => nd h (fun h => lf (P := EE l 176) h k_176_4) (fun h => lf (P := EE l 176) h (EE_ca (by decide) (⟨m_1454, m_81, ⟨by decide, by decide⟩, by decide +kernel, ⟨by decide, by decide⟩, 329, 1, by decide +kernel, Or.inl ⟨rfl, rfl, dX11_compared_5, m_1452, m_1453⟩⟩) rfl)))) (fun h => nd h (fun h => nd h (fun h => lf (P := EE l 176) h k_176_8) (fun h => lf (P := EE l 176) h k_176_11)) (fun h => nd h (fun h => lf (P := EE l 176) h (EE_ca (by decide) (⟨m_1454, m_81, ⟨by decide, by decide⟩, by decide +kernel, ⟨by decide, by decide⟩, 329, 1, by decide +kernel, Or.inl ⟨rfl, rfl, dX11_compared_12, m_1452, m_1453⟩⟩) rfl)) (fun h => nd h (fun h => lf (P := EE l 176) h k_176_15) (fun h => lf (P := EE l 176) h k_176_18))))) (fun h => nd h (fun h => nd h (fun h => nd h (fun h => lf (P := EE l 176) h (EE_ca (by decide) (⟨m_1454, m_81, ⟨by decide, by decide⟩, by decide +kernel, ⟨by decide, by decide⟩, 329, 1, by decide +kernel, Or.inl ⟨rfl, rfl, dX11_compared_19, m_1452, m_1453⟩⟩) rfl)) (fun h => lf (P := EE l 176) h k_176_22)) (fun h => nd h (fun h => lf (P := EE l 176) h k_176_24) (fun h => nd h (fun h => lf (P := EE l 176) h k_176_25) (fun h => lf (P := EE l 176) h k_176_27)))) (fun h => nd h (fun h => nd h (fun h => lf (P := EE l 176) h k_176_29) (fun h => lf (P := EE l 176) h k_176_31)) (fun h => nd h (fun h => lf (P := EE l 176) h k_176_34) (fun h => nd h (fun h => lf (P := EE l 176) h k_176_35) (fun h => lf (P := EE l 176) h (EE_ca (by decide) (⟨m_1458, m_81, ⟨by decide, by decide⟩, by decide +kernel, ⟨by decide, by decide⟩, 333, 2, by decide +kernel, Or.inl ⟨rfl, rfl, dX11_compared_37, m_1456, m_1457⟩⟩) rfl))))))) (fun h => nd h (fun h => nd h (fun h => nd h (fun h => nd h (fun h => lf (P := EE l 176) h k_176_40) (fun h => lf (P := EE l 176) h k_176_41)) (fun h => nd h (fun h => lf (P := EE l 176) h (EE_ca (by decide) (⟨m_1458, m_81, ⟨by decide, by decide⟩, by decide +kernel, ⟨by decide, by decide⟩, 333, 2, by decide +kernel, Or.inl ⟨rfl, rfl, dX11_compared_43, m_1456, m_1457⟩⟩) rfl)) (fun h => nd h (fun h => lf (P := EE l 176) h k_176_46) (fun h => lf (P := EE l 176) h k_176_49)))) (fun h => nd h (fun h => nd h (fun h => lf (P := EE l 176) h k_176_50) (fun h => lf (P := EE l 176) h (EE_ca (by decide) (⟨m_1458, m_81, ⟨by decide, by decide⟩, by decide +kernel, ⟨by decide, by decide⟩, 333, 2, by decide +kernel, Or.inl ⟨rfl, rfl, dX11_compared_52, m_1456, m_1457⟩⟩) rfl))) (fun h => nd h (fun h => lf (P := EE l 176) h k_176_55) (fun h => nd h (fun h => lf (P := EE l 176) h k_176_56) (fun h => lf (P := EE l 176) h (EE_ca (by decide) (⟨m_1458, m_81, ⟨by decide, by decide⟩, by decide +kernel, ⟨by decide, by decide⟩, 333, 2, by decide +kernel, Or.inl ⟨rfl, rfl, dX11_compared_58, m_1456, m_1457⟩⟩) rfl)))))) (fun h => nd h (fun h => nd h (fun h => nd h (fun h => lf (P := EE l 176) h k_176_61) (fun h => lf (P := EE l 176) h (EE_re (Or.inl ⟨rfl, dX11_compared_62, rfl⟩)))) (fun h => nd h (fun h => lf (P := EE l 176) h k_176_63) (fun h => nd h (fun h => lf (P := EE l 176) h k_176_66) (fun h => lf (P := EE l 176) h k_176_69)))) (fun h => nd h (fun h => nd h (fun h => lf (P := EE l 176) h (EE_ca (by decide) (⟨m_1454, m_81, ⟨by decide, by decide⟩, by decide +kernel, ⟨by decide, by decide⟩, 329, 1, by decide +kernel, Or.inl ⟨rfl, rfl, dX11_compared_70, m_1452, m_1453⟩⟩) rfl)) (fun h => lf (P := EE l 176) h k_176_73)) (fun h => nd h (fun h => lf (P := EE l 176) h (EE_ca (by decide) (⟨m_1454, m_81, ⟨by decide, by decide⟩, by decide +kernel, ⟨by decide, by decide⟩, 329, 1, by decide +kernel, Or.inl ⟨rfl, rfl, dX11_compared_74, m_1452, m_1453⟩⟩) rfl)) (fun h => nd h (fun h => lf (P := EE l 176) h k_176_77) (fun h => lf (P := EE l 176) h (EE_re (Or.inl ⟨rfl, dX11_compared_78, rfl⟩))))))))
theorem dX11_startsWith_0 : decode cX11_startsWith 0 = .ok (.lload_n 2, 1) := by decide +kernel
theorem dX11_startsWith_1 : decode cX11_startsWith 1 = .ok (.invokestatic 167, 3) := by decide +kernel
theorem dX11_startsWith_4 : decode cX11_startsWith 4 = .ok (.ifCond .eq 14, 3) := by decide +kernel
theorem dX11_startsWith_7 : decode cX11_startsWith 7 = .ok (.lload_n 2, 1) := by decide +kernel
theorem dX11_startsWith_8 : decode cX11_startsWith 8 = .ok (.invokestatic 329, 3) := by decide +kernel
theorem dX11_startsWith_11 : decode cX11_startsWith 11 = .ok (.lload_n 0, 1) := by decide +kernel
theorem dX11_startsWith_12 : decode cX11_startsWith 12 = .ok (.invokestatic 329, 3) := by decide +kernel
theorem dX11_startsWith_15 : decode cX11_startsWith 15 = .ok (.if_icmp .le 5, 3) := by decide +kernel
theorem dX11_startsWith_18 : decode cX11_startsWith 18 = .ok (.iconst 0, 1) := by decide +kernel
theorem dX11_startsWith_19 : decode cX11_startsWith 19 = .ok (.ireturn, 1) := by decide +kernel
theorem dX11_startsWith_20 : decode cX11_startsWith 20 = .ok (.iconst 0, 1) := by decide +kernel
theorem dX11_startsWith_21 : decode cX11_startsWith 21 = .ok (.istore 4, 2) := by decide +kernel
theorem dX11_startsWith_23 : decode cX11_startsWith 23 = .ok (.iload 4, 2) := by decide +kernel
theorem dX11_startsWith_25 : decode cX11_startsWith 25 = .ok (.lload_n 2, 1) := by decide +kernel
theorem dX11_startsWith_26 : decode cX11_startsWith 26 = .ok (.invokestatic 329, 3) := by decide +kernel
theorem dX11_startsWith_29 : decode cX11_startsWith 29 = .ok (.if_icmp .ge 26, 3) := by decide +kernel
theorem dX11_startsWith_32 : decode cX11_startsWith 32 = .ok (.lload_n 0, 1) := by decide +kernel
theorem dX11_startsWith_33 : decode cX11_startsWith 33 = .ok (.iload 4, 2) := by decide +kernel
theorem dX11_startsWith_35 : decode cX11_startsWith 35 = .ok (.invokestatic 333, 3) := by decide +kernel
theorem dX11_startsWith_38 : decode cX11_startsWith 38 = .ok (.lload_n 2, 1) := by decide +kernel
theorem dX11_startsWith_39 : decode cX11_startsWith 39 = .ok (.iload 4, 2) := by decide +kernel
theorem dX11_startsWith_41 : decode cX11_startsWith 41 = .ok (.invokestatic 333, 3) := by decide +kernel
theorem dX11_startsWith_44 : decode cX11_startsWith 44 = .ok (.if_icmp .eq 5, 3) := by decide +kernel
theorem dX11_startsWith_47 : decode cX11_startsWith 47 = .ok (.iconst 0, 1) := by decide +kernel
theorem dX11_startsWith_48 : decode cX11_startsWith 48 = .ok (.ireturn, 1) := by decide +kernel
theorem dX11_startsWith_49 : decode cX11_startsWith 49 = .ok (.iinc 4 1, 3) := by decide +kernel
theorem dX11_startsWith_52 : decode cX11_startsWith 52 = .ok (.goto (-29), 3) := by decide +kernel
theorem dX11_startsWith_55 : decode cX11_startsWith 55 = .ok (.iconst 1, 1) := by decide +kernel
theorem dX11_startsWith_56 : decode cX11_startsWith 56 = .ok (.ireturn, 1) := by decide +kernel
def tb_177 (pc : Nat) : Option mEnt := bif Nat.ble pc 25 then (bif Nat.ble pc 12 then (bif Nat.ble pc 4 then (bif Nat.ble pc 0 then (bif Nat.beq pc 0 then some (.inl (o_ll 2 1)) else none) else (bif Nat.ble pc 1 then (bif Nat.beq pc 1 then some (.inr (2, 118, 1, 0)) else none) else (bif Nat.beq pc 4 then some (.inl (o_zeq 18)) else none))) else (bif Nat.ble pc 8 then (bif Nat.ble pc 7 then (bif Nat.beq pc 7 then some (.inl (o_ll 2 1)) else none) else (bif Nat.beq pc 8 then some (.inr (2, 174, 1, 0)) else none)) else (bif Nat.ble pc 11 then (bif Nat.beq pc 11 then some (.inl (o_ll 0 1)) else none) else (bif Nat.beq pc 12 then some (.inr (2, 174, 1, 0)) else none)))) else (bif Nat.ble pc 19 then (bif Nat.ble pc 15 then (bif Nat.beq pc 15 then some (.inl (o_cle 20)) else none) else (bif Nat.ble pc 18 then (bif Nat.beq pc 18 then some (.inl (oS 1 (s_push (.int 0)))) else none) else (bif Nat.beq pc 19 then some (.inr (0, 0, 0, 4)) else none))) else (bif Nat.ble pc 21 then (bif Nat.ble pc 20 then (bif Nat.beq pc 20 then some (.inl (oS 1 (s_push (.int 0)))) else none) else (bif Nat.beq pc 21 then some (.inl (o_is 4 2)) else none)) else (bif Nat.ble pc 23 then (bif Nat.beq pc 23 then some (.inl (o_il 4 2)) else none) else (bif Nat.beq pc 25 then some (.inl (o_ll 2 1)) else none))))) else (bif Nat.ble pc 39 then (bif Nat.ble pc 32 then (bif Nat.ble pc 26 then (bif Nat.beq pc 26 then some (.inr (2, 174, 1, 0)) else none) else (bif Nat.ble pc 29 then (bif Nat.beq pc 29 then some (.inl (o_cge 55)) else none) else (bif Nat.beq pc 32 then some (.inl (o_ll 0 1)) else none))) else (bif Nat.ble pc 35 then (bif Nat.ble pc 33 then (bif Nat.beq pc 33 then some (.inl (o_il 4 2)) else none) else (bif Nat.beq pc 35 then some (.inr (2, 175, 2, 0)) else none)) else (bif Nat.ble pc 38 then (bif Nat.beq pc 38 then some (.inl (o_ll 2 1)) else none) else (bif Nat.beq pc 39 then some (.inl (o_il 4 2)) else none)))) else (bif Nat.ble pc 48 then (bif Nat.ble pc 44 then (bif Nat.ble pc 41 then (bif Nat.beq pc 41 then some (.inr (2, 175, 2, 0)) else none) else (bif Nat.beq pc 44 then some (.inl (o_ceq 49)) else none)) else (bif Nat.ble pc 47 then (bif Nat.beq pc 47 then some (.inl (oS 1 (s_push (.int 0)))) else none) else (bif Nat.beq pc 48 then some (.inr (0, 0, 0, 4)) else none))) else (bif Nat.ble pc 52 then (bif Nat.ble pc 49 then (bif Nat.beq pc 49 then some (.inl (o_inc 4 1)) else none) else (bif Nat.beq pc 52 then some (.inl (o_goto 23)) else none)) else (bif Nat.ble pc 55 then (bif Nat.beq pc 55 then some (.inl (oS 1 (s_push (.int 1)))) else none) else (bif Nat.beq pc 56 then some (.inr (0, 0, 0, 4)) else none)))))
theorem k_177_0 : mOk M_177.1 M_177.2.1 M_177.2.2.1 M_177.2.2.2 0 (o_ll 2 1) := ok_lload_n dX11_startsWith_0 rfl
theorem k_177_4 : mOk M_177.1 M_177.2.1 M_177.2.2.1 M_177.2.2.2 4 (o_zeq 18) := ok_zeq dX11_startsWith_4 (by decide)
theorem k_177_7 : mOk M_177.1 M_177.2.1 M_177.2.2.1 M_177.2.2.2 7 (o_ll 2 1) := ok_lload_n dX11_startsWith_7 rfl
theorem k_177_11 : mOk M_177.1 M_177.2.1 M_177.2.2.1 M_177.2.2.2 11 (o_ll 0 1) := ok_lload_n dX11_startsWith_11 rfl
theorem k_177_15 : mOk M_177.1 M_177.2.1 M_177.2.2.1 M_177.2.2.2 15 (o_cle 20) := ok_cle dX11_startsWith_15 (by decide)
theorem k_177_18 : mOk M_177.1 M_177.2.1 M_177.2.2.1 M_177.2.2.2 18 (oS 1 (s_push (.int 0))) := ok_iconst dX11_startsWith_18 (by decide)
theorem k_177_20 : mOk M_177.1 M_177.2.1 M_177.2.2.1 M_177.2.2.2 20 (oS 1 (s_push (.int 0))) := ok_iconst dX11_startsWith_20 (by decide)
theorem k_177_21 : mOk M_177.1 M_177.2.1 M_177.2.2.1 M_177.2.2.2 21 (o_is 4 2) := ok_istore dX11_startsWith_21
theorem k_177_23 : mOk M_177.1 M_177.2.1 M_177.2.2.1 M_177.2.2.2 23 (o_il 4 2) := ok_iload dX11_startsWith_23
theorem k_177_25 : mOk M_177.1 M_177.2.1 M_177.2.2.1 M_177.2.2.2 25 (o_ll 2 1) := ok_lload_n dX11_startsWith_25 rfl
theorem k_177_29 : mOk M_177.1 M_177.2.1 M_177.2.2.1 M_177.2.2.2 29 (o_cge 55) := ok_cge dX11_startsWith_29 (by decide)
theorem k_177_32 : mOk M_177.1 M_177.2.1 M_177.2.2.1 M_177.2.2.2 32 (o_ll 0 1) := ok_lload_n dX11_startsWith_32 rfl
theorem k_177_33 : mOk M_177.1 M_177.2.1 M_177.2.2.1 M_177.2.2.2 33 (o_il 4 2) := ok_iload dX11_startsWith_33
theorem k_177_38 : mOk M_177.1 M_177.2.1 M_177.2.2.1 M_177.2.2.2 38 (o_ll 2 1) := ok_lload_n dX11_startsWith_38 rfl
theorem k_177_39 : mOk M_177.1 M_177.2.1 M_177.2.2.1 M_177.2.2.2 39 (o_il 4 2) := ok_iload dX11_startsWith_39
theorem k_177_44 : mOk M_177.1 M_177.2.1 M_177.2.2.1 M_177.2.2.2 44 (o_ceq 49) := ok_ceq dX11_startsWith_44 (by decide)
theorem k_177_47 : mOk M_177.1 M_177.2.1 M_177.2.2.1 M_177.2.2.2 47 (oS 1 (s_push (.int 0))) := ok_iconst dX11_startsWith_47 (by decide)
theorem k_177_49 : mOk M_177.1 M_177.2.1 M_177.2.2.1 M_177.2.2.2 49 (o_inc 4 1) := ok_iinc dX11_startsWith_49 (by decide)
theorem k_177_52 : mOk M_177.1 M_177.2.1 M_177.2.2.1 M_177.2.2.2 52 (o_goto 23) := ok_goto dX11_startsWith_52 (by decide)
theorem k_177_55 : mOk M_177.1 M_177.2.1 M_177.2.2.1 M_177.2.2.2 55 (oS 1 (s_push (.int 1))) := ok_iconst dX11_startsWith_55 (by decide)
set_option maxRecDepth 20000 in
set_option maxHeartbeats 4000000 in
theorem tk_177 (l : Launch) (H9 : mThr l) (H10 : mSpl l) (pc : Nat) (q : mEnt) (h : tb_177 pc = some q) : EE l 177 pc q := nd h (fun h => nd h (fun h => nd h (fun h => nd h (fun h => lf (P := EE l 177) h k_177_0) (fun h => nd h (fun h => lf (P := EE l 177) h (EE_ca (by decide) (⟨m_1229, m_81, ⟨by decide, by decide⟩, by decide +kernel, ⟨by decide, by decide⟩, 167, 1, by decide +kernel, Or.inl ⟨rfl, rfl, dX11_startsWith_1, m_1227, m_1228⟩⟩) rfl)) (fun h => lf (P := EE l 177) h k_177_4))) (fun h => nd h (fun h => nd h (fun h => lf (P := EE l 177) h k_177_7) (fun h => lf (P := EE l 177) h (EE_ca (by decide) (⟨m_1454, m_81, ⟨by decide, by decide⟩, by decide +kernel, ⟨by decide, by decide⟩, 329, 1, by decide +kernel, Or.inl ⟨rfl, rfl, dX11_startsWith_8, m_1452, m_1453⟩⟩) rfl))) (fun h => nd h (fun h => lf (P := EE l 177) h k_177_11) (fun h => lf (P := EE l 177) h (EE_ca (by decide) (⟨m_1454, m_81, ⟨by decide, by decide⟩, by decide +kernel, ⟨by decide, by decide⟩, 329, 1, by decide +kernel, Or.inl ⟨rfl, rfl, dX11_startsWith_12, m_1452, m_1453⟩⟩) rfl))))) (fun h => nd h (fun h => nd h (fun h => lf (P := EE l 177) h k_177_15) (fun h => nd h (fun h => lf (P := EE l 177) h k_177_18) (fun h => lf (P := EE l 177) h (EE_re (Or.inr (Or.inl ⟨rfl, dX11_startsWith_19, rfl⟩)))))) (fun h => nd h (fun h => nd h (fun h => lf (P := EE l 177) h k_177_20) (fun h => lf (P := EE l 177) h k_177_21)) (fun h => nd h (fun h => lf (P := EE l 177) h k_177_23) (fun h => lf (P := EE l 177) h k_177_25))))) (fun h => nd h (fun h => nd h (fun h => nd h (fun h => lf (P := EE l 177) h (EE_ca (by decide) (⟨m_1454, m_81, ⟨by decide, by decide⟩, by decide +kernel, ⟨by decide, by decide⟩, 329, 1, by decide +kernel, Or.inl ⟨rfl, rfl, dX11_startsWith_26, m_1452, m_1453⟩⟩) rfl)) (fun h => nd h (fun h => lf (P := EE l 177) h k_177_29) (fun h => lf (P := EE l 177) h k_177_32))) (fun h => nd h (fun h => nd h (fun h => lf (P := EE l 177) h k_177_33) (fun h => lf (P := EE l 177) h (EE_ca (by decide) (⟨m_1458, m_81, ⟨by decide, by decide⟩, by decide +kernel, ⟨by decide, by decide⟩, 333, 2, by decide +kernel, Or.inl ⟨rfl, rfl, dX11_startsWith_35, m_1456, m_1457⟩⟩) rfl))) (fun h => nd h (fun h => lf (P := EE l 177) h k_177_38) (fun h => lf (P := EE l 177) h k_177_39)))) (fun h => nd h (fun h => nd h (fun h => nd h (fun h => lf (P := EE l 177) h (EE_ca (by decide) (⟨m_1458, m_81, ⟨by decide, by decide⟩, by decide +kernel, ⟨by decide, by decide⟩, 333, 2, by decide +kernel, Or.inl ⟨rfl, rfl, dX11_startsWith_41, m_1456, m_1457⟩⟩) rfl)) (fun h => lf (P := EE l 177) h k_177_44)) (fun h => nd h (fun h => lf (P := EE l 177) h k_177_47) (fun h => lf (P := EE l 177) h (EE_re (Or.inr (Or.inl ⟨rfl, dX11_startsWith_48, rfl⟩)))))) (fun h => nd h (fun h => nd h (fun h => lf (P := EE l 177) h k_177_49) (fun h => lf (P := EE l 177) h k_177_52)) (fun h => nd h (fun h => lf (P := EE l 177) h k_177_55) (fun h => lf (P := EE l 177) h (EE_re (Or.inr (Or.inl ⟨rfl, dX11_startsWith_56, rfl⟩))))))))
theorem dX11_lookUp_0 : decode cX11_lookUp 0 = .ok (.aload_n 0, 1) := by decide +kernel
theorem dX11_lookUp_1 : decode cX11_lookUp 1 = .ok (.iconst 1, 1) := by decide +kernel
theorem dX11_lookUp_2 : decode cX11_lookUp 2 = .ok (.putfield 133, 3) := by decide +kernel
theorem dX11_lookUp_5 : decode cX11_lookUp 5 = .ok (.iconst 0, 1) := by decide +kernel
theorem dX11_lookUp_6 : decode cX11_lookUp 6 = .ok (.istore 4, 2) := by decide +kernel
theorem dX11_lookUp_8 : decode cX11_lookUp 8 = .ok (.aload_n 0, 1) := by decide +kernel
theorem dX11_lookUp_9 : decode cX11_lookUp 9 = .ok (.getfield 47, 3) := by decide +kernel
theorem dX11_lookUp_12 : decode cX11_lookUp 12 = .ok (.iconst 0, 1) := by decide +kernel
theorem dX11_lookUp_13 : decode cX11_lookUp 13 = .ok (.baload, 1) := by decide +kernel
theorem dX11_lookUp_14 : decode cX11_lookUp 14 = .ok (.ifCond .eq 139, 3) := by decide +kernel
theorem dX11_lookUp_17 : decode cX11_lookUp 17 = .ok (.iload 4, 2) := by decide +kernel
theorem dX11_lookUp_19 : decode cX11_lookUp 19 = .ok (.aload_n 0, 1) := by decide +kernel
theorem dX11_lookUp_20 : decode cX11_lookUp 20 = .ok (.getfield 85, 3) := by decide +kernel
theorem dX11_lookUp_23 : decode cX11_lookUp 23 = .ok (.iconst 0, 1) := by decide +kernel
theorem dX11_lookUp_24 : decode cX11_lookUp 24 = .ok (.iaload, 1) := by decide +kernel
theorem dX11_lookUp_25 : decode cX11_lookUp 25 = .ok (.if_icmp .ge 128, 3) := by decide +kernel
theorem dX11_lookUp_28 : decode cX11_lookUp 28 = .ok (.aload_n 0, 1) := by decide +kernel
theorem dX11_lookUp_29 : decode cX11_lookUp 29 = .ok (.getfield 97, 3) := by decide +kernel
theorem dX11_lookUp_32 : decode cX11_lookUp 32 = .ok (.iload 4, 2) := by decide +kernel
theorem dX11_lookUp_34 : decode cX11_lookUp 34 = .ok (.laload, 1) := by decide +kernel
theorem dX11_lookUp_35 : decode cX11_lookUp 35 = .ok (.lload_n 1, 1) := by decide +kernel
theorem dX11_lookUp_36 : decode cX11_lookUp 36 = .ok (.invokestatic 337, 3) := by decide +kernel
theorem dX11_lookUp_39 : decode cX11_lookUp 39 = .ok (.ifCond .eq 108, 3) := by decide +kernel
theorem dX11_lookUp_42 : decode cX11_lookUp 42 = .ok (.iconst 0, 1) := by decide +kernel
theorem dX11_lookUp_43 : decode cX11_lookUp 43 = .ok (.istore 5, 2) := by decide +kernel
theorem dX11_lookUp_45 : decode cX11_lookUp 45 = .ok (.iconst 0, 1) := by decide +kernel
theorem dX11_lookUp_46 : decode cX11_lookUp 46 = .ok (.istore 6, 2) := by decide +kernel
theorem dX11_lookUp_48 : decode cX11_lookUp 48 = .ok (.iload 6, 2) := by decide +kernel
theorem dX11_lookUp_50 : decode cX11_lookUp 50 = .ok (.aload_n 0, 1) := by decide +kernel
theorem dX11_lookUp_51 : decode cX11_lookUp 51 = .ok (.getfield 85, 3) := by decide +kernel
theorem dX11_lookUp_54 : decode cX11_lookUp 54 = .ok (.iconst 0, 1) := by decide +kernel
theorem dX11_lookUp_55 : decode cX11_lookUp 55 = .ok (.iaload, 1) := by decide +kernel
theorem dX11_lookUp_56 : decode cX11_lookUp 56 = .ok (.if_icmp .ge 72, 3) := by decide +kernel
theorem dX11_lookUp_59 : decode cX11_lookUp 59 = .ok (.aload_n 0, 1) := by decide +kernel
theorem dX11_lookUp_60 : decode cX11_lookUp 60 = .ok (.getfield 97, 3) := by decide +kernel
theorem dX11_lookUp_63 : decode cX11_lookUp 63 = .ok (.iload 6, 2) := by decide +kernel
theorem dX11_lookUp_65 : decode cX11_lookUp 65 = .ok (.laload, 1) := by decide +kernel
theorem dX11_lookUp_66 : decode cX11_lookUp 66 = .ok (.aload_n 0, 1) := by decide +kernel
theorem dX11_lookUp_67 : decode cX11_lookUp 67 = .ok (.getfield 97, 3) := by decide +kernel
theorem dX11_lookUp_70 : decode cX11_lookUp 70 = .ok (.iload 4, 2) := by decide +kernel
theorem dX11_lookUp_72 : decode cX11_lookUp 72 = .ok (.laload, 1) := by decide +kernel
theorem dX11_lookUp_73 : decode cX11_lookUp 73 = .ok (.invokestatic 341, 3) := by decide +kernel
theorem dX11_lookUp_76 : decode cX11_lookUp 76 = .ok (.istore 7, 2) := by decide +kernel
theorem dX11_lookUp_78 : decode cX11_lookUp 78 = .ok (.aload_n 0, 1) := by decide +kernel
theorem dX11_lookUp_79 : decode cX11_lookUp 79 = .ok (.getfield 97, 3) := by decide +kernel
theorem dX11_lookUp_82 : decode cX11_lookUp 82 = .ok (.iload 6, 2) := by decide +kernel
theorem dX11_lookUp_84 : decode cX11_lookUp 84 = .ok (.laload, 1) := by decide +kernel
theorem dX11_lookUp_85 : decode cX11_lookUp 85 = .ok (.lload_n 1, 1) := by decide +kernel
theorem dX11_lookUp_86 : decode cX11_lookUp 86 = .ok (.invokestatic 337, 3) := by decide +kernel
theorem dX11_lookUp_89 : decode cX11_lookUp 89 = .ok (.ifCond .eq 33, 3) := by decide +kernel
theorem dX11_lookUp_92 : decode cX11_lookUp 92 = .ok (.iload 7, 2) := by decide +kernel
theorem dX11_lookUp_94 : decode cX11_lookUp 94 = .ok (.ifCond .lt 25, 3) := by decide +kernel
theorem dX11_lookUp_97 : decode cX11_lookUp 97 = .ok (.iload 7, 2) := by decide +kernel
theorem dX11_lookUp_99 : decode cX11_lookUp 99 = .ok (.ifCond .ne 23, 3) := by decide +kernel
theorem dX11_lookUp_102 : decode cX11_lookUp 102 = .ok (.aload_n 0, 1) := by decide +kernel
theorem dX11_lookUp_103 : decode cX11_lookUp 103 = .ok (.getfield 88, 3) := by decide +kernel
theorem dX11_lookUp_106 : decode cX11_lookUp 106 = .ok (.iload 6, 2) := by decide +kernel
theorem dX11_lookUp_108 : decode cX11_lookUp 108 = .ok (.iaload, 1) := by decide +kernel
theorem dX11_lookUp_109 : decode cX11_lookUp 109 = .ok (.aload_n 0, 1) := by decide +kernel
theorem dX11_lookUp_110 : decode cX11_lookUp 110 = .ok (.getfield 88, 3) := by decide +kernel
theorem dX11_lookUp_113 : decode cX11_lookUp 113 = .ok (.iload 4, 2) := by decide +kernel
theorem dX11_lookUp_115 : decode cX11_lookUp 115 = .ok (.iaload, 1) := by decide +kernel
theorem dX11_lookUp_116 : decode cX11_lookUp 116 = .ok (.if_icmp .ge 6, 3) := by decide +kernel
theorem dX11_lookUp_119 : decode cX11_lookUp 119 = .ok (.iinc 5 1, 3) := by decide +kernel
theorem dX11_lookUp_122 : decode cX11_lookUp 122 = .ok (.iinc 6 1, 3) := by decide +kernel
theorem dX11_lookUp_125 : decode cX11_lookUp 125 = .ok (.goto (-77), 3) := by decide +kernel
theorem dX11_lookUp_128 : decode cX11_lookUp 128 = .ok (.iload 5, 2) := by decide +kernel
theorem dX11_lookUp_130 : decode cX11_lookUp 130 = .ok (.iload_n 3, 1) := by decide +kernel
theorem dX11_lookUp_131 : decode cX11_lookUp 131 = .ok (.if_icmp .ne 16, 3) := by decide +kernel
theorem dX11_lookUp_134 : decode cX11_lookUp 134 = .ok (.aload_n 0, 1) := by decide +kernel
theorem dX11_lookUp_135 : decode cX11_lookUp 135 = .ok (.iconst 0, 1) := by decide +kernel
theorem dX11_lookUp_136 : decode cX11_lookUp 136 = .ok (.putfield 133, 3) := by decide +kernel
theorem dX11_lookUp_139 : decode cX11_lookUp 139 = .ok (.aload_n 0, 1) := by decide +kernel
theorem dX11_lookUp_140 : decode cX11_lookUp 140 = .ok (.getfield 88, 3) := by decide +kernel
theorem dX11_lookUp_143 : decode cX11_lookUp 143 = .ok (.iload 4, 2) := by decide +kernel
theorem dX11_lookUp_145 : decode cX11_lookUp 145 = .ok (.iaload, 1) := by decide +kernel
theorem dX11_lookUp_146 : decode cX11_lookUp 146 = .ok (.ireturn, 1) := by decide +kernel
theorem dX11_lookUp_147 : decode cX11_lookUp 147 = .ok (.iinc 4 1, 3) := by decide +kernel
theorem dX11_lookUp_150 : decode cX11_lookUp 150 = .ok (.goto (-142), 3) := by decide +kernel
theorem dX11_lookUp_153 : decode cX11_lookUp 153 = .ok (.iconst 0, 1) := by decide +kernel
theorem dX11_lookUp_154 : decode cX11_lookUp 154 = .ok (.ireturn, 1) := by decide +kernel
def tb_178 (pc : Nat) : Option mEnt := bif Nat.ble pc 70 then (bif Nat.ble pc 34 then (bif Nat.ble pc 14 then (bif Nat.ble pc 6 then (bif Nat.ble pc 1 then (bif Nat.ble pc 0 then (bif Nat.beq pc 0 then some (.inl (o_al 0 1)) else none) else (bif Nat.beq pc 1 then some (.inl (oS 1 (s_push (.int 1)))) else none)) else (bif Nat.ble pc 2 then (bif Nat.beq pc 2 then some (.inl (o_pI 11 13)) else none) else (bif Nat.ble pc 5 then (bif Nat.beq pc 5 then some (.inl (oS 1 (s_push (.int 0)))) else none) else (bif Nat.beq pc 6 then some (.inl (o_is 4 2)) else none)))) else (bif Nat.ble pc 9 then (bif Nat.ble pc 8 then (bif Nat.beq pc 8 then some (.inl (o_al 0 1)) else none) else (bif Nat.beq pc 9 then some (.inl (o_gP 11 17)) else none)) else (bif Nat.ble pc 12 then (bif Nat.beq pc 12 then some (.inl (oS 1 (s_push (.int 0)))) else none) else (bif Nat.ble pc 13 then (bif Nat.beq pc 13 then some (.inl (o_bald)) else none) else (bif Nat.beq pc 14 then some (.inl (o_zeq 153)) else none))))) else (bif Nat.ble pc 24 then (bif Nat.ble pc 19 then (bif Nat.ble pc 17 then (bif Nat.beq pc 17 then some (.inl (o_il 4 2)) else none) else (bif Nat.beq pc 19 then some (.inl (o_al 0 1)) else none)) else (bif Nat.ble pc 20 then (bif Nat.beq pc 20 then some (.inl (o_gP 11 29)) else none) else (bif Nat.ble pc 23 then (bif Nat.beq pc 23 then some (.inl (oS 1 (s_push (.int 0)))) else none) else (bif Nat.beq pc 24 then some (.inl (o_iald)) else none)))) else (bif Nat.ble pc 28 then (bif Nat.ble pc 25 then (bif Nat.beq pc 25 then some (.inl (o_cge 153)) else none) else (bif Nat.beq pc 28 then some (.inl (o_al 0 1)) else none)) else (bif Nat.ble pc 29 then (bif Nat.beq pc 29 then some (.inl (o_gP 11 33)) else none) else (bif Nat.ble pc 32 then (bif Nat.beq pc 32 then some (.inl (o_il 4 2)) else none) else (bif Nat.beq pc 34 then some (.inl (o_lald)) else none)))))) else (bif Nat.ble pc 51 then (bif Nat.ble pc 43 then (bif Nat.ble pc 36 then (bif Nat.ble pc 35 then (bif Nat.beq pc 35 then some (.inl (o_ll 1 1)) else none) else (bif Nat.beq pc 36 then some (.inr (2, 177, 2, 0)) else none)) else (bif Nat.ble pc 39 then (bif Nat.beq pc 39 then some (.inl (o_zeq 147)) else none) else (bif Nat.ble pc 42 then (bif Nat.beq pc 42 then some (.inl (oS 1 (s_push (.int 0)))) else none) else (bif Nat.beq pc 43 then some (.inl (o_is 5 2)) else none)))) else (bif Nat.ble pc 46 then (bif Nat.ble pc 45 then (bif Nat.beq pc 45 then some (.inl (oS 1 (s_push (.int 0)))) else none) else (bif Nat.beq pc 46 then some (.inl (o_is 6 2)) else none)) else (bif Nat.ble pc 48 then (bif Nat.beq pc 48 then some (.inl (o_il 6 2)) else none) else (bif Nat.ble pc 50 then (bif Nat.beq pc 50 then some (.inl (o_al 0 1)) else none) else (bif Nat.beq pc 51 then some (.inl (o_gP 11 29)) else none))))) else (bif Nat.ble pc 60 then (bif Nat.ble pc 55 then (bif Nat.ble pc 54 then (bif Nat.beq pc 54 then some (.inl (oS 1 (s_push (.int 0)))) else none) else (bif Nat.beq pc 55 then some (.inl (o_iald)) else none)) else (bif Nat.ble pc 56 then (bif Nat.beq pc 56 then some (.inl (o_cge 128)) else none) else (bif Nat.ble pc 59 then (bif Nat.beq pc 59 then some (.inl (o_al 0 1)) else none) else (bif Nat.beq pc 60 then some (.inl (o_gP 11 33)) else none)))) else (bif Nat.ble pc 65 then (bif Nat.ble pc 63 then (bif Nat.beq pc 63 then some (.inl (o_il 6 2)) else none) else (bif Nat.beq pc 65 then some (.inl (o_lald)) else none)) else (bif Nat.ble pc 66 then (bif Nat.beq pc 66 then some (.inl (o_al 0 1)) else none) else (bif Nat.ble pc 67 then (bif Nat.beq pc 67 then some (.inl (o_gP 11 33)) else none) else (bif Nat.beq pc 70 then some (.inl (o_il 4 2)) else none))))))) else (bif Nat.ble pc 110 then (bif Nat.ble pc 89 then (bif Nat.ble pc 79 then (bif Nat.ble pc 73 then (bif Nat.ble pc 72 then (bif Nat.beq pc 72 then some (.inl (o_lald)) else none) else (bif Nat.beq pc 73 then some (.inr (2, 176, 2, 0)) else none)) else (bif Nat.ble pc 76 then (bif Nat.beq pc 76 then some (.inl (o_is 7 2)) else none) else (bif Nat.ble pc 78 then (bif Nat.beq pc 78 then some (.inl (o_al 0 1)) else none) else (bif Nat.beq pc 79 then some (.inl (o_gP 11 33)) else none)))) else (bif Nat.ble pc 84 then (bif Nat.ble pc 82 then (bif Nat.beq pc 82 then some (.inl (o_il 6 2)) else none) else (bif Nat.beq pc 84 then some (.inl (o_lald)) else none)) else (bif Nat.ble pc 85 then (bif Nat.beq pc 85 then some (.inl (o_ll 1 1)) else none) else (bif Nat.ble pc 86 then (bif Nat.beq pc 86 then some (.inr (2, 177, 2, 0)) else none) else (bif Nat.beq pc 89 then some (.inl (o_zeq 122)) else none))))) else (bif Nat.ble pc 102 then (bif Nat.ble pc 94 then (bif Nat.ble pc 92 then (bif Nat.beq pc 92 then some (.inl (o_il 7 2)) else none) else (bif Nat.beq pc 94 then some (.inl (o_zlt 119)) else none)) else (bif Nat.ble pc 97 then (bif Nat.beq pc 97 then some (.inl (o_il 7 2)) else none) else (bif Nat.ble pc 99 then (bif Nat.beq pc 99 then some (.inl (o_zne 122)) else none) else (bif Nat.beq pc 102 then some (.inl (o_al 0 1)) else none)))) else (bif Nat.ble pc 106 then (bif Nat.ble pc 103 then (bif Nat.beq pc 103 then some (.inl (o_gP 11 30)) else none) else (bif Nat.beq pc 106 then some (.inl (o_il 6 2)) else none)) else (bif Nat.ble pc 108 then (bif Nat.beq pc 108 then some (.inl (o_iald)) else none) else (bif Nat.ble pc 109 then (bif Nat.beq pc 109 then some (.inl (o_al 0 1)) else none) else (bif Nat.beq pc 110 then some (.inl (o_gP 11 30)) else none)))))) else (bif Nat.ble pc 134 then (bif Nat.ble pc 122 then (bif Nat.ble pc 115 then (bif Nat.ble pc 113 then (bif Nat.beq pc 113 then some (.inl (o_il 4 2)) else none) else (bif Nat.beq pc 115 then some (.inl (o_iald)) else none)) else (bif Nat.ble pc 116 then (bif Nat.beq pc 116 then some (.inl (o_cge 122)) else none) else (bif Nat.ble pc 119 then (bif Nat.beq pc 119 then some (.inl (o_inc 5 1)) else none) else (bif Nat.beq pc 122 then some (.inl (o_inc 6 1)) else none)))) else (bif Nat.ble pc 128 then (bif Nat.ble pc 125 then (bif Nat.beq pc 125 then some (.inl (o_goto 48)) else none) else (bif Nat.beq pc 128 then some (.inl (o_il 5 2)) else none)) else (bif Nat.ble pc 130 then (bif Nat.beq pc 130 then some (.inl (o_il 3 1)) else none) else (bif Nat.ble pc 131 then (bif Nat.beq pc 131 then some (.inl (o_cne 147)) else none) else (bif Nat.beq pc 134 then some (.inl (o_al 0 1)) else none))))) else (bif Nat.ble pc 143 then (bif Nat.ble pc 136 then (bif Nat.ble pc 135 then (bif Nat.beq pc 135 then some (.inl (oS 1 (s_push (.int 0)))) else none) else (bif Nat.beq pc 136 then some (.inl (o_pI 11 13)) else none)) else (bif Nat.ble pc 139 then (bif Nat.beq pc 139 then some (.inl (o_al 0 1)) else none) else (bif Nat.ble pc 140 then (bif Nat.beq pc 140 then some (.inl (o_gP 11 30)) else none) else (bif Nat.beq pc 143 then some (.inl (o_il 4 2)) else none)))) else (bif Nat.ble pc 147 then (bif Nat.ble pc 145 then (bif Nat.beq pc 145 then some (.inl (o_iald)) else none) else (bif Nat.ble pc 146 then (bif Nat.beq pc 146 then some (.inr (0, 0, 0, 0)) else none) else (bif Nat.beq pc 147 then some (.inl (o_inc 4 1)) else none))) else (bif Nat.ble pc 150 then (bif Nat.beq pc 150 then some (.inl (o_goto 8)) else none) else (bif Nat.ble pc 153 then (bif Nat.beq pc 153 then some (.inl (oS 1 (s_push (.int 0)))) else none) else (bif Nat.beq pc 154 then some (.inr (0, 0, 0, 0)) else none)))))))
theorem k_178_0 : mOk M_178.1 M_178.2.1 M_178.2.2.1 M_178.2.2.2 0 (o_al 0 1) := ok_aload_n dX11_lookUp_0 rfl
theorem k_178_1 : mOk M_178.1 M_178.2.1 M_178.2.2.1 M_178.2.2.2 1 (oS 1 (s_push (.int 1))) := ok_iconst dX11_lookUp_1 (by decide)
theorem k_178_2 : mOk M_178.1 M_178.2.1 M_178.2.2.1 M_178.2.2.2 2 (o_pI 11 13) := ok_pI dX11_lookUp_2 (mFw_of f_RX11_133_c (Or.inl rfl)) rfl
theorem k_178_5 : mOk M_178.1 M_178.2.1 M_178.2.2.1 M_178.2.2.2 5 (oS 1 (s_push (.int 0))) := ok_iconst dX11_lookUp_5 (by decide)
theorem k_178_6 : mOk M_178.1 M_178.2.1 M_178.2.2.1 M_178.2.2.2 6 (o_is 4 2) := ok_istore dX11_lookUp_6
theorem k_178_8 : mOk M_178.1 M_178.2.1 M_178.2.2.1 M_178.2.2.2 8 (o_al 0 1) := ok_aload_n dX11_lookUp_8 rfl
theorem k_178_9 : mOk M_178.1 M_178.2.1 M_178.2.2.1 M_178.2.2.2 9 (o_gP 11 17) := ok_gP dX11_lookUp_9 f_RX11_47 rfl
theorem k_178_12 : mOk M_178.1 M_178.2.1 M_178.2.2.1 M_178.2.2.2 12 (oS 1 (s_push (.int 0))) := ok_iconst dX11_lookUp_12 (by decide)
theorem k_178_13 : mOk M_178.1 M_178.2.1 M_178.2.2.1 M_178.2.2.2 13 (o_bald) := ok_bald dX11_lookUp_13
theorem k_178_14 : mOk M_178.1 M_178.2.1 M_178.2.2.1 M_178.2.2.2 14 (o_zeq 153) := ok_zeq dX11_lookUp_14 (by decide)
theorem k_178_17 : mOk M_178.1 M_178.2.1 M_178.2.2.1 M_178.2.2.2 17 (o_il 4 2) := ok_iload dX11_lookUp_17
theorem k_178_19 : mOk M_178.1 M_178.2.1 M_178.2.2.1 M_178.2.2.2 19 (o_al 0 1) := ok_aload_n dX11_lookUp_19 rfl
theorem k_178_20 : mOk M_178.1 M_178.2.1 M_178.2.2.1 M_178.2.2.2 20 (o_gP 11 29) := ok_gP dX11_lookUp_20 f_RX11_85 rfl
theorem k_178_23 : mOk M_178.1 M_178.2.1 M_178.2.2.1 M_178.2.2.2 23 (oS 1 (s_push (.int 0))) := ok_iconst dX11_lookUp_23 (by decide)
theorem k_178_24 : mOk M_178.1 M_178.2.1 M_178.2.2.1 M_178.2.2.2 24 (o_iald) := ok_iald dX11_lookUp_24
theorem k_178_25 : mOk M_178.1 M_178.2.1 M_178.2.2.1 M_178.2.2.2 25 (o_cge 153) := ok_cge dX11_lookUp_25 (by decide)
theorem k_178_28 : mOk M_178.1 M_178.2.1 M_178.2.2.1 M_178.2.2.2 28 (o_al 0 1) := ok_aload_n dX11_lookUp_28 rfl
theorem k_178_29 : mOk M_178.1 M_178.2.1 M_178.2.2.1 M_178.2.2.2 29 (o_gP 11 33) := ok_gP dX11_lookUp_29 f_RX11_97 rfl
theorem k_178_32 : mOk M_178.1 M_178.2.1 M_178.2.2.1 M_178.2.2.2 32 (o_il 4 2) := ok_iload dX11_lookUp_32
theorem k_178_34 : mOk M_178.1 M_178.2.1 M_178.2.2.1 M_178.2.2.2 34 (o_lald) := ok_lald dX11_lookUp_34
theorem k_178_35 : mOk M_178.1 M_178.2.1 M_178.2.2.1 M_178.2.2.2 35 (o_ll 1 1) := ok_lload_n dX11_lookUp_35 rfl
theorem k_178_39 : mOk M_178.1 M_178.2.1 M_178.2.2.1 M_178.2.2.2 39 (o_zeq 147) := ok_zeq dX11_lookUp_39 (by decide)
theorem k_178_42 : mOk M_178.1 M_178.2.1 M_178.2.2.1 M_178.2.2.2 42 (oS 1 (s_push (.int 0))) := ok_iconst dX11_lookUp_42 (by decide)
theorem k_178_43 : mOk M_178.1 M_178.2.1 M_178.2.2.1 M_178.2.2.2 43 (o_is 5 2) := ok_istore dX11_lookUp_43
theorem k_178_45 : mOk M_178.1 M_178.2.1 M_178.2.2.1 M_178.2.2.2 45 (oS 1 (s_push (.int 0))) := ok_iconst dX11_lookUp_45 (by decide)
theorem k_178_46 : mOk M_178.1 M_178.2.1 M_178.2.2.1 M_178.2.2.2 46 (o_is 6 2) := ok_istore dX11_lookUp_46
theorem k_178_48 : mOk M_178.1 M_178.2.1 M_178.2.2.1 M_178.2.2.2 48 (o_il 6 2) := ok_iload dX11_lookUp_48
theorem k_178_50 : mOk M_178.1 M_178.2.1 M_178.2.2.1 M_178.2.2.2 50 (o_al 0 1) := ok_aload_n dX11_lookUp_50 rfl
theorem k_178_51 : mOk M_178.1 M_178.2.1 M_178.2.2.1 M_178.2.2.2 51 (o_gP 11 29) := ok_gP dX11_lookUp_51 f_RX11_85 rfl
theorem k_178_54 : mOk M_178.1 M_178.2.1 M_178.2.2.1 M_178.2.2.2 54 (oS 1 (s_push (.int 0))) := ok_iconst dX11_lookUp_54 (by decide)
theorem k_178_55 : mOk M_178.1 M_178.2.1 M_178.2.2.1 M_178.2.2.2 55 (o_iald) := ok_iald dX11_lookUp_55
theorem k_178_56 : mOk M_178.1 M_178.2.1 M_178.2.2.1 M_178.2.2.2 56 (o_cge 128) := ok_cge dX11_lookUp_56 (by decide)
theorem k_178_59 : mOk M_178.1 M_178.2.1 M_178.2.2.1 M_178.2.2.2 59 (o_al 0 1) := ok_aload_n dX11_lookUp_59 rfl
theorem k_178_60 : mOk M_178.1 M_178.2.1 M_178.2.2.1 M_178.2.2.2 60 (o_gP 11 33) := ok_gP dX11_lookUp_60 f_RX11_97 rfl
theorem k_178_63 : mOk M_178.1 M_178.2.1 M_178.2.2.1 M_178.2.2.2 63 (o_il 6 2) := ok_iload dX11_lookUp_63
theorem k_178_65 : mOk M_178.1 M_178.2.1 M_178.2.2.1 M_178.2.2.2 65 (o_lald) := ok_lald dX11_lookUp_65
theorem k_178_66 : mOk M_178.1 M_178.2.1 M_178.2.2.1 M_178.2.2.2 66 (o_al 0 1) := ok_aload_n dX11_lookUp_66 rfl
theorem k_178_67 : mOk M_178.1 M_178.2.1 M_178.2.2.1 M_178.2.2.2 67 (o_gP 11 33) := ok_gP dX11_lookUp_67 f_RX11_97 rfl
theorem k_178_70 : mOk M_178.1 M_178.2.1 M_178.2.2.1 M_178.2.2.2 70 (o_il 4 2) := ok_iload dX11_lookUp_70
theorem k_178_72 : mOk M_178.1 M_178.2.1 M_178.2.2.1 M_178.2.2.2 72 (o_lald) := ok_lald dX11_lookUp_72
theorem k_178_76 : mOk M_178.1 M_178.2.1 M_178.2.2.1 M_178.2.2.2 76 (o_is 7 2) := ok_istore dX11_lookUp_76
theorem k_178_78 : mOk M_178.1 M_178.2.1 M_178.2.2.1 M_178.2.2.2 78 (o_al 0 1) := ok_aload_n dX11_lookUp_78 rfl
theorem k_178_79 : mOk M_178.1 M_178.2.1 M_178.2.2.1 M_178.2.2.2 79 (o_gP 11 33) := ok_gP dX11_lookUp_79 f_RX11_97 rfl
theorem k_178_82 : mOk M_178.1 M_178.2.1 M_178.2.2.1 M_178.2.2.2 82 (o_il 6 2) := ok_iload dX11_lookUp_82
theorem k_178_84 : mOk M_178.1 M_178.2.1 M_178.2.2.1 M_178.2.2.2 84 (o_lald) := ok_lald dX11_lookUp_84
theorem k_178_85 : mOk M_178.1 M_178.2.1 M_178.2.2.1 M_178.2.2.2 85 (o_ll 1 1) := ok_lload_n dX11_lookUp_85 rfl
theorem k_178_89 : mOk M_178.1 M_178.2.1 M_178.2.2.1 M_178.2.2.2 89 (o_zeq 122) := ok_zeq dX11_lookUp_89 (by decide)
theorem k_178_92 : mOk M_178.1 M_178.2.1 M_178.2.2.1 M_178.2.2.2 92 (o_il 7 2) := ok_iload dX11_lookUp_92
theorem k_178_94 : mOk M_178.1 M_178.2.1 M_178.2.2.1 M_178.2.2.2 94 (o_zlt 119) := ok_zlt dX11_lookUp_94 (by decide)
theorem k_178_97 : mOk M_178.1 M_178.2.1 M_178.2.2.1 M_178.2.2.2 97 (o_il 7 2) := ok_iload dX11_lookUp_97
theorem k_178_99 : mOk M_178.1 M_178.2.1 M_178.2.2.1 M_178.2.2.2 99 (o_zne 122) := ok_zne dX11_lookUp_99 (by decide)
theorem k_178_102 : mOk M_178.1 M_178.2.1 M_178.2.2.1 M_178.2.2.2 102 (o_al 0 1) := ok_aload_n dX11_lookUp_102 rfl
theorem k_178_103 : mOk M_178.1 M_178.2.1 M_178.2.2.1 M_178.2.2.2 103 (o_gP 11 30) := ok_gP dX11_lookUp_103 f_RX11_88 rfl
theorem k_178_106 : mOk M_178.1 M_178.2.1 M_178.2.2.1 M_178.2.2.2 106 (o_il 6 2) := ok_iload dX11_lookUp_106
theorem k_178_108 : mOk M_178.1 M_178.2.1 M_178.2.2.1 M_178.2.2.2 108 (o_iald) := ok_iald dX11_lookUp_108
theorem k_178_109 : mOk M_178.1 M_178.2.1 M_178.2.2.1 M_178.2.2.2 109 (o_al 0 1) := ok_aload_n dX11_lookUp_109 rfl
theorem k_178_110 : mOk M_178.1 M_178.2.1 M_178.2.2.1 M_178.2.2.2 110 (o_gP 11 30) := ok_gP dX11_lookUp_110 f_RX11_88 rfl
theorem k_178_113 : mOk M_178.1 M_178.2.1 M_178.2.2.1 M_178.2.2.2 113 (o_il 4 2) := ok_iload dX11_lookUp_113
theorem k_178_115 : mOk M_178.1 M_178.2.1 M_178.2.2.1 M_178.2.2.2 115 (o_iald) := ok_iald dX11_lookUp_115
theorem k_178_116 : mOk M_178.1 M_178.2.1 M_178.2.2.1 M_178.2.2.2 116 (o_cge 122) := ok_cge dX11_lookUp_116 (by decide)
theorem k_178_119 : mOk M_178.1 M_178.2.1 M_178.2.2.1 M_178.2.2.2 119 (o_inc 5 1) := ok_iinc dX11_lookUp_119 (by decide)
theorem k_178_122 : mOk M_178.1 M_178.2.1 M_178.2.2.1 M_178.2.2.2 122 (o_inc 6 1) := ok_iinc dX11_lookUp_122 (by decide)
theorem k_178_125 : mOk M_178.1 M_178.2.1 M_178.2.2.1 M_178.2.2.2 125 (o_goto 48) := ok_goto dX11_lookUp_125 (by decide)
theorem k_178_128 : mOk M_178.1 M_178.2.1 M_178.2.2.1 M_178.2.2.2 128 (o_il 5 2) := ok_iload dX11_lookUp_128
theorem k_178_130 : mOk M_178.1 M_178.2.1 M_178.2.2.1 M_178.2.2.2 130 (o_il 3 1) := ok_iload_n dX11_lookUp_130 rfl
theorem k_178_131 : mOk M_178.1 M_178.2.1 M_178.2.2.1 M_178.2.2.2 131 (o_cne 147) := ok_cne dX11_lookUp_131 (by decide)
theorem k_178_134 : mOk M_178.1 M_178.2.1 M_178.2.2.1 M_178.2.2.2 134 (o_al 0 1) := ok_aload_n dX11_lookUp_134 rfl
theorem k_178_135 : mOk M_178.1 M_178.2.1 M_178.2.2.1 M_178.2.2.2 135 (oS 1 (s_push (.int 0))) := ok_iconst dX11_lookUp_135 (by decide)
theorem k_178_136 : mOk M_178.1 M_178.2.1 M_178.2.2.1 M_178.2.2.2 136 (o_pI 11 13) := ok_pI dX11_lookUp_136 (mFw_of f_RX11_133_c (Or.inl rfl)) rfl
theorem k_178_139 : mOk M_178.1 M_178.2.1 M_178.2.2.1 M_178.2.2.2 139 (o_al 0 1) := ok_aload_n dX11_lookUp_139 rfl
theorem k_178_140 : mOk M_178.1 M_178.2.1 M_178.2.2.1 M_178.2.2.2 140 (o_gP 11 30) := ok_gP dX11_lookUp_140 f_RX11_88 rfl
theorem k_178_143 : mOk M_178.1 M_178.2.1 M_178.2.2.1 M_178.2.2.2 143 (o_il 4 2) := ok_iload dX11_lookUp_143
theorem k_178_145 : mOk M_178.1 M_178.2.1 M_178.2.2.1 M_178.2.2.2 145 (o_iald) := ok_iald dX11_lookUp_145
theorem k_178_147 : mOk M_178.1 M_178.2.1 M_178.2.2.1 M_178.2.2.2 147 (o_inc 4 1) := ok_iinc dX11_lookUp_147 (by decide)
theorem k_178_150 : mOk M_178.1 M_178.2.1 M_178.2.2.1 M_178.2.2.2 150 (o_goto 8) := ok_goto dX11_lookUp_150 (by decide)
theorem k_178_153 : mOk M_178.1 M_178.2.1 M_178.2.2.1 M_178.2.2.2 153 (oS 1 (s_push (.int 0))) := ok_iconst dX11_lookUp_153 (by decide)
set_option maxRecDepth 20000 in
set_option maxHeartbeats 4000000 in
theorem tk_178 (l : Launch) (H9 : mThr l) (H10 : mSpl l) (pc : Nat) (q : mEnt) (h : tb_178 pc = some q) : EE l 178 pc q := nd h (fun h => nd h (fun h => nd h (fun h => nd h (fun h => nd h (fun h => nd h (fun h => lf (P := EE l 178) h k_178_0) (fun h => lf (P := EE l 178) h k_178_1)) (fun h => nd h (fun h => lf (P := EE l 178) h k_178_2) (fun h => nd h (fun h => lf (P := EE l 178) h k_178_5) (fun h => lf (P := EE l 178) h k_178_6)))) (fun h => nd h (fun h => nd h (fun h => lf (P := EE l 178) h k_178_8) (fun h => lf (P := EE l 178) h k_178_9)) (fun h => nd h (fun h => lf (P := EE l 178) h k_178_12) (fun h => nd h (fun h => lf (P := EE l 178) h k_178_13) (fun h => lf (P := EE l 178) h k_178_14))))) (fun h => nd h (fun h => nd h (fun h => nd h (fun h => lf (P := EE l 178) h k_178_17) (fun h => lf (P := EE l 178) h k_178_19)) (fun h => nd h (fun h => lf (P := EE l 178) h k_178_20) (fun h => nd h (fun h => lf (P := EE l 178) h k_178_23) (fun h => lf (P := EE l 178) h k_178_24)))) (fun h => nd h (fun h => nd h (fun h => lf (P := EE l 178) h k_178_25) (fun h => lf (P := EE l 178) h k_178_28)) (fun h => nd h (fun h => lf (P := EE l 178) h k_178_29) (fun h => nd h (fun h => lf (P := EE l 178) h k_178_32) (fun h => lf (P := EE l 178) h k_178_34)))))) (fun h => nd h (fun h => nd h (fun h => nd h (fun h => nd h (fun h => lf (P := EE l 178) h k_178_35) (fun h => lf (P := EE l 178) h (EE_ca (by decide) (⟨m_1451, m_81, ⟨by decide, by decide⟩, by decide +kernel, ⟨by decide, by decide⟩, 337, 2, by decide +kernel, Or.inl ⟨rfl, rfl, dX11_lookUp_36, m_1449, m_1450⟩⟩) rfl))) (fun h => nd h (fun h => lf (P := EE l 178) h k_178_39) (fun h => nd h (fun h => lf (P := EE l 178) h k_178_42) (fun h => lf (P := EE l 178) h k_178_43)))) (fun h => nd h (fun h => nd h (fun h => lf (P := EE l 178) h k_178_45) (fun h => lf (P := EE l 178) h k_178_46)) (fun h => nd h (fun h => lf (P := EE l 178) h k_178_48) (fun h => nd h (fun h => lf (P := EE l 178) h k_178_50) (fun h => lf (P := EE l 178) h k_178_51))))) (fun h => nd h (fun h => nd h (fun h => nd h (fun h => lf (P := EE l 178) h k_178_54) (fun h => lf (P := EE l 178) h k_178_55)) (fun h => nd h (fun h => lf (P := EE l 178) h k_178_56) (fun h => nd h (fun h => lf (P := EE l 178) h k_178_59) (fun h => lf (P := EE l 178) h k_178_60)))) (fun h => nd h (fun h => nd h (fun h => lf (P := EE l 178) h k_178_63) (fun h => lf (P := EE l 178) h k_178_65)) (fun h => nd h (fun h => lf (P := EE l 178) h k_178_66) (fun h => nd h (fun h => lf (P := EE l 178) h k_178_67) (fun h => lf (P := EE l 178) h k_178_70))))))) (fun h => nd h (fun h => nd h (fun h => nd h (fun h => nd h (fun h => nd h (fun h => lf (P := EE l 178) h k_178_72) (fun h => lf (P := EE l 178) h (EE_ca (by decide) (⟨m_1461, m_81, ⟨by decide, by decide⟩, by decide +kernel, ⟨by decide, by decide⟩, 341, 2, by decide +kernel, Or.inl ⟨rfl, rfl, dX11_lookUp_73, m_1459, m_1460⟩⟩) rfl))) (fun h => nd h (fun h => lf (P := EE l 178) h k_178_76) (fun h => nd h (fun h => lf (P := EE l 178) h k_178_78) (fun h => lf (P := EE l 178) h k_178_79)))) (fun h => nd h (fun h => nd h (fun h => lf (P := EE l 178) h k_178_82) (fun h => lf (P := EE l 178) h k_178_84)) (fun h => nd h (fun h => lf (P := EE l 178) h k_178_85) (fun h => nd h (fun h => lf (P := EE l 178) h (EE_ca (by decide) (⟨m_1451, m_81, ⟨by decide, by decide⟩, by decide +kernel, ⟨by decide, by decide⟩, 337, 2, by decide +kernel, Or.inl ⟨rfl, rfl, dX11_lookUp_86, m_1449, m_1450⟩⟩) rfl)) (fun h => lf (P := EE l 178) h k_178_89))))) (fun h => nd h (fun h => nd h (fun h => nd h (fun h => lf (P := EE l 178) h k_178_92) (fun h => lf (P := EE l 178) h k_178_94)) (fun h => nd h (fun h => lf (P := EE l 178) h k_178_97) (fun h => nd h (fun h => lf (P := EE l 178) h k_178_99) (fun h => lf (P := EE l 178) h k_178_102)))) (fun h => nd h (fun h => nd h (fun h => lf (P := EE l 178) h k_178_103) (fun h => lf (P := EE l 178) h k_178_106)) (fun h => nd h (fun h => lf (P := EE l 178) h k_178_108) (fun h => nd h (fun h => lf (P := EE l 178) h k_178_109) (fun h => lf (P := EE l 178) h k_178_110)))))) (fun h => nd h (fun h => nd h (fun h => nd h (fun h => nd h (fun h => lf (P := EE l 178) h k_178_113) (fun h => lf (P := EE l 178) h k_178_115)) (fun h => nd h (fun h => lf (P := EE l 178) h k_178_116) (fun h => nd h (fun h => lf (P := EE l 178) h k_178_119) (fun h => lf (P := EE l 178) h k_178_122)))) (fun h => nd h (fun h => nd h (fun h => lf (P := EE l 178) h k_178_125) (fun h => lf (P := EE l 178) h k_178_128)) (fun h => nd h (fun h => lf (P := EE l 178) h k_178_130) (fun h => nd h (fun h => lf (P := EE l 178) h k_178_131) (fun h => lf (P := EE l 178) h k_178_134))))) (fun h => nd h (fun h => nd h (fun h => nd h (fun h => lf (P := EE l 178) h k_178_135) (fun h => lf (P := EE l 178) h k_178_136)) (fun h => nd h (fun h => lf (P := EE l 178) h k_178_139) (fun h => nd h (fun h => lf (P := EE l 178) h k_178_140) (fun h => lf (P := EE l 178) h k_178_143)))) (fun h => nd h (fun h => nd h (fun h => lf (P := EE l 178) h k_178_145) (fun h => nd h (fun h => lf (P := EE l 178) h (EE_re (Or.inl ⟨rfl, dX11_lookUp_146, rfl⟩))) (fun h => lf (P := EE l 178) h k_178_147))) (fun h => nd h (fun h => lf (P := EE l 178) h k_178_150) (fun h => nd h (fun h => lf (P := EE l 178) h k_178_153) (fun h => lf (P := EE l 178) h (EE_re (Or.inl ⟨rfl, dX11_lookUp_154, rfl⟩)))))))))
theorem dX11_nearer_0 : decode cX11_nearer 0 = .ok (.aload_n 0, 1) := by decide +kernel
theorem dX11_nearer_1 : decode cX11_nearer 1 = .ok (.getfield 100, 3) := by decide +kernel
theorem dX11_nearer_4 : decode cX11_nearer 4 = .ok (.iload_n 2, 1) := by decide +kernel
theorem dX11_nearer_5 : decode cX11_nearer 5 = .ok (.iaload, 1) := by decide +kernel
theorem dX11_nearer_6 : decode cX11_nearer 6 = .ok (.aload_n 0, 1) := by decide +kernel
theorem dX11_nearer_7 : decode cX11_nearer 7 = .ok (.getfield 100, 3) := by decide +kernel
theorem dX11_nearer_10 : decode cX11_nearer 10 = .ok (.iload_n 1, 1) := by decide +kernel
theorem dX11_nearer_11 : decode cX11_nearer 11 = .ok (.iaload, 1) := by decide +kernel
theorem dX11_nearer_12 : decode cX11_nearer 12 = .ok (.isub, 1) := by decide +kernel
theorem dX11_nearer_13 : decode cX11_nearer 13 = .ok (.i2l, 1) := by decide +kernel
theorem dX11_nearer_14 : decode cX11_nearer 14 = .ok (.ldc2_w 207, 3) := by decide +kernel
theorem dX11_nearer_17 : decode cX11_nearer 17 = .ok (.iload_n 3, 1) := by decide +kernel
theorem dX11_nearer_18 : decode cX11_nearer 18 = .ok (.i2l, 1) := by decide +kernel
theorem dX11_nearer_19 : decode cX11_nearer 19 = .ok (.lmul, 1) := by decide +kernel
theorem dX11_nearer_20 : decode cX11_nearer 20 = .ok (.aload_n 0, 1) := by decide +kernel
theorem dX11_nearer_21 : decode cX11_nearer 21 = .ok (.getfield 100, 3) := by decide +kernel
theorem dX11_nearer_24 : decode cX11_nearer 24 = .ok (.iload_n 1, 1) := by decide +kernel
theorem dX11_nearer_25 : decode cX11_nearer 25 = .ok (.iaload, 1) := by decide +kernel
theorem dX11_nearer_26 : decode cX11_nearer 26 = .ok (.i2l, 1) := by decide +kernel
theorem dX11_nearer_27 : decode cX11_nearer 27 = .ok (.lsub, 1) := by decide +kernel
theorem dX11_nearer_28 : decode cX11_nearer 28 = .ok (.aload_n 0, 1) := by decide +kernel
theorem dX11_nearer_29 : decode cX11_nearer 29 = .ok (.getfield 100, 3) := by decide +kernel
theorem dX11_nearer_32 : decode cX11_nearer 32 = .ok (.iload_n 2, 1) := by decide +kernel
theorem dX11_nearer_33 : decode cX11_nearer 33 = .ok (.iaload, 1) := by decide +kernel
theorem dX11_nearer_34 : decode cX11_nearer 34 = .ok (.i2l, 1) := by decide +kernel
theorem dX11_nearer_35 : decode cX11_nearer 35 = .ok (.lsub, 1) := by decide +kernel
theorem dX11_nearer_36 : decode cX11_nearer 36 = .ok (.lmul, 1) := by decide +kernel
theorem dX11_nearer_37 : decode cX11_nearer 37 = .ok (.lstore 5, 2) := by decide +kernel
theorem dX11_nearer_39 : decode cX11_nearer 39 = .ok (.aload_n 0, 1) := by decide +kernel
theorem dX11_nearer_40 : decode cX11_nearer 40 = .ok (.getfield 103, 3) := by decide +kernel
theorem dX11_nearer_43 : decode cX11_nearer 43 = .ok (.iload_n 2, 1) := by decide +kernel
theorem dX11_nearer_44 : decode cX11_nearer 44 = .ok (.iaload, 1) := by decide +kernel
theorem dX11_nearer_45 : decode cX11_nearer 45 = .ok (.aload_n 0, 1) := by decide +kernel
theorem dX11_nearer_46 : decode cX11_nearer 46 = .ok (.getfield 103, 3) := by decide +kernel
theorem dX11_nearer_49 : decode cX11_nearer 49 = .ok (.iload_n 1, 1) := by decide +kernel
theorem dX11_nearer_50 : decode cX11_nearer 50 = .ok (.iaload, 1) := by decide +kernel
theorem dX11_nearer_51 : decode cX11_nearer 51 = .ok (.isub, 1) := by decide +kernel
theorem dX11_nearer_52 : decode cX11_nearer 52 = .ok (.i2l, 1) := by decide +kernel
theorem dX11_nearer_53 : decode cX11_nearer 53 = .ok (.ldc2_w 207, 3) := by decide +kernel
theorem dX11_nearer_56 : decode cX11_nearer 56 = .ok (.iload 4, 2) := by decide +kernel
theorem dX11_nearer_58 : decode cX11_nearer 58 = .ok (.i2l, 1) := by decide +kernel
theorem dX11_nearer_59 : decode cX11_nearer 59 = .ok (.lmul, 1) := by decide +kernel
theorem dX11_nearer_60 : decode cX11_nearer 60 = .ok (.aload_n 0, 1) := by decide +kernel
theorem dX11_nearer_61 : decode cX11_nearer 61 = .ok (.getfield 103, 3) := by decide +kernel
theorem dX11_nearer_64 : decode cX11_nearer 64 = .ok (.iload_n 1, 1) := by decide +kernel
theorem dX11_nearer_65 : decode cX11_nearer 65 = .ok (.iaload, 1) := by decide +kernel
theorem dX11_nearer_66 : decode cX11_nearer 66 = .ok (.i2l, 1) := by decide +kernel
theorem dX11_nearer_67 : decode cX11_nearer 67 = .ok (.lsub, 1) := by decide +kernel
theorem dX11_nearer_68 : decode cX11_nearer 68 = .ok (.aload_n 0, 1) := by decide +kernel
theorem dX11_nearer_69 : decode cX11_nearer 69 = .ok (.getfield 103, 3) := by decide +kernel
theorem dX11_nearer_72 : decode cX11_nearer 72 = .ok (.iload_n 2, 1) := by decide +kernel
theorem dX11_nearer_73 : decode cX11_nearer 73 = .ok (.iaload, 1) := by decide +kernel
theorem dX11_nearer_74 : decode cX11_nearer 74 = .ok (.i2l, 1) := by decide +kernel
theorem dX11_nearer_75 : decode cX11_nearer 75 = .ok (.lsub, 1) := by decide +kernel
theorem dX11_nearer_76 : decode cX11_nearer 76 = .ok (.lmul, 1) := by decide +kernel
theorem dX11_nearer_77 : decode cX11_nearer 77 = .ok (.lstore 7, 2) := by decide +kernel
theorem dX11_nearer_79 : decode cX11_nearer 79 = .ok (.lload 5, 2) := by decide +kernel
theorem dX11_nearer_81 : decode cX11_nearer 81 = .ok (.lload 7, 2) := by decide +kernel
theorem dX11_nearer_83 : decode cX11_nearer 83 = .ok (.ladd, 1) := by decide +kernel
theorem dX11_nearer_84 : decode cX11_nearer 84 = .ok (.lconst 0, 1) := by decide +kernel
theorem dX11_nearer_85 : decode cX11_nearer 85 = .ok (.lcmp, 1) := by decide +kernel
theorem dX11_nearer_86 : decode cX11_nearer 86 = .ok (.ifCond .lt 28, 3) := by decide +kernel
theorem dX11_nearer_89 : decode cX11_nearer 89 = .ok (.lload 5, 2) := by decide +kernel
theorem dX11_nearer_91 : decode cX11_nearer 91 = .ok (.lload 7, 2) := by decide +kernel
theorem dX11_nearer_93 : decode cX11_nearer 93 = .ok (.ladd, 1) := by decide +kernel
theorem dX11_nearer_94 : decode cX11_nearer 94 = .ok (.lconst 0, 1) := by decide +kernel
theorem dX11_nearer_95 : decode cX11_nearer 95 = .ok (.lcmp, 1) := by decide +kernel
theorem dX11_nearer_96 : decode cX11_nearer 96 = .ok (.ifCond .ne 22, 3) := by decide +kernel
theorem dX11_nearer_99 : decode cX11_nearer 99 = .ok (.aload_n 0, 1) := by decide +kernel
theorem dX11_nearer_100 : decode cX11_nearer 100 = .ok (.getfield 88, 3) := by decide +kernel
theorem dX11_nearer_103 : decode cX11_nearer 103 = .ok (.iload_n 1, 1) := by decide +kernel
theorem dX11_nearer_104 : decode cX11_nearer 104 = .ok (.iaload, 1) := by decide +kernel
theorem dX11_nearer_105 : decode cX11_nearer 105 = .ok (.aload_n 0, 1) := by decide +kernel
theorem dX11_nearer_106 : decode cX11_nearer 106 = .ok (.getfield 88, 3) := by decide +kernel
theorem dX11_nearer_109 : decode cX11_nearer 109 = .ok (.iload_n 2, 1) := by decide +kernel
theorem dX11_nearer_110 : decode cX11_nearer 110 = .ok (.iaload, 1) := by decide +kernel
theorem dX11_nearer_111 : decode cX11_nearer 111 = .ok (.if_icmp .ge 7, 3) := by decide +kernel
theorem dX11_nearer_114 : decode cX11_nearer 114 = .ok (.iconst 1, 1) := by decide +kernel
theorem dX11_nearer_115 : decode cX11_nearer 115 = .ok (.goto 4, 3) := by decide +kernel
theorem dX11_nearer_118 : decode cX11_nearer 118 = .ok (.iconst 0, 1) := by decide +kernel
theorem dX11_nearer_119 : decode cX11_nearer 119 = .ok (.ireturn, 1) := by decide +kernel
def tb_179 (pc : Nat) : Option mEnt := bif Nat.ble pc 56 then (bif Nat.ble pc 27 then (bif Nat.ble pc 13 then (bif Nat.ble pc 6 then (bif Nat.ble pc 1 then (bif Nat.ble pc 0 then (bif Nat.beq pc 0 then some (.inl (o_al 0 1)) else none) else (bif Nat.beq pc 1 then some (.inl (o_gP 11 34)) else none)) else (bif Nat.ble pc 4 then (bif Nat.beq pc 4 then some (.inl (o_il 2 1)) else none) else (bif Nat.ble pc 5 then (bif Nat.beq pc 5 then some (.inl (o_iald)) else none) else (bif Nat.beq pc 6 then some (.inl (o_al 0 1)) else none)))) else (bif Nat.ble pc 10 then (bif Nat.ble pc 7 then (bif Nat.beq pc 7 then some (.inl (o_gP 11 34)) else none) else (bif Nat.beq pc 10 then some (.inl (o_il 1 1)) else none)) else (bif Nat.ble pc 11 then (bif Nat.beq pc 11 then some (.inl (o_iald)) else none) else (bif Nat.ble pc 12 then (bif Nat.beq pc 12 then some (.inl (oS 1 (s_ii (fun a b => a - b)))) else none) else (bif Nat.beq pc 13 then some (.inl (oS 1 s_i2l)) else none))))) else (bif Nat.ble pc 20 then (bif Nat.ble pc 17 then (bif Nat.ble pc 14 then (bif Nat.beq pc 14 then some (.inl (oS 3 (s_push (.long 2)))) else none) else (bif Nat.beq pc 17 then some (.inl (o_il 3 1)) else none)) else (bif Nat.ble pc 18 then (bif Nat.beq pc 18 then some (.inl (oS 1 s_i2l)) else none) else (bif Nat.ble pc 19 then (bif Nat.beq pc 19 then some (.inl (oS 1 (s_ll (fun a b => a * b)))) else none) else (bif Nat.beq pc 20 then some (.inl (o_al 0 1)) else none)))) else (bif Nat.ble pc 24 then (bif Nat.ble pc 21 then (bif Nat.beq pc 21 then some (.inl (o_gP 11 34)) else none) else (bif Nat.beq pc 24 then some (.inl (o_il 1 1)) else none)) else (bif Nat.ble pc 25 then (bif Nat.beq pc 25 then some (.inl (o_iald)) else none) else (bif Nat.ble pc 26 then (bif Nat.beq pc 26 then some (.inl (oS 1 s_i2l)) else none) else (bif Nat.beq pc 27 then some (.inl (oS 1 (s_ll (fun a b => a - b)))) else none)))))) else (bif Nat.ble pc 40 then (bif Nat.ble pc 34 then (bif Nat.ble pc 29 then (bif Nat.ble pc 28 then (bif Nat.beq pc 28 then some (.inl (o_al 0 1)) else none) else (bif Nat.beq pc 29 then some (.inl (o_gP 11 34)) else none)) else (bif Nat.ble pc 32 then (bif Nat.beq pc 32 then some (.inl (o_il 2 1)) else none) else (bif Nat.ble pc 33 then (bif Nat.beq pc 33 then some (.inl (o_iald)) else none) else (bif Nat.beq pc 34 then some (.inl (oS 1 s_i2l)) else none)))) else (bif Nat.ble pc 36 then (bif Nat.ble pc 35 then (bif Nat.beq pc 35 then some (.inl (oS 1 (s_ll (fun a b => a - b)))) else none) else (bif Nat.beq pc 36 then some (.inl (oS 1 (s_ll (fun a b => a * b)))) else none)) else (bif Nat.ble pc 37 then (bif Nat.beq pc 37 then some (.inl (o_ls 5 2)) else none) else (bif Nat.ble pc 39 then (bif Nat.beq pc 39 then some (.inl (o_al 0 1)) else none) else (bif Nat.beq pc 40 then some (.inl (o_gP 11 35)) else none))))) else (bif Nat.ble pc 49 then (bif Nat.ble pc 44 then (bif Nat.ble pc 43 then (bif Nat.beq pc 43 then some (.inl (o_il 2 1)) else none) else (bif Nat.beq pc 44 then some (.inl (o_iald)) else none)) else (bif Nat.ble pc 45 then (bif Nat.beq pc 45 then some (.inl (o_al 0 1)) else none) else (bif Nat.ble pc 46 then (bif Nat.beq pc 46 then some (.inl (o_gP 11 35)) else none) else (bif Nat.beq pc 49 then some (.inl (o_il 1 1)) else none)))) else (bif Nat.ble pc 51 then (bif Nat.ble pc 50 then (bif Nat.beq pc 50 then some (.inl (o_iald)) else none) else (bif Nat.beq pc 51 then some (.inl (oS 1 (s_ii (fun a b => a - b)))) else none)) else (bif Nat.ble pc 52 then (bif Nat.beq pc 52 then some (.inl (oS 1 s_i2l)) else none) else (bif Nat.ble pc 53 then (bif Nat.beq pc 53 then some (.inl (oS 3 (s_push (.long 2)))) else none) else (bif Nat.beq pc 56 then some (.inl (o_il 4 2)) else none))))))) else (bif Nat.ble pc 84 then (bif Nat.ble pc 69 then (bif Nat.ble pc 64 then (bif Nat.ble pc 59 then (bif Nat.ble pc 58 then (bif Nat.beq pc 58 then some (.inl (oS 1 s_i2l)) else none) else (bif Nat.beq pc 59 then some (.inl (oS 1 (s_ll (fun a b => a * b)))) else none)) else (bif Nat.ble pc 60 then (bif Nat.beq pc 60 then some (.inl (o_al 0 1)) else none) else (bif Nat.ble pc 61 then (bif Nat.beq pc 61 then some (.inl (o_gP 11 35)) else none) else (bif Nat.beq pc 64 then some (.inl (o_il 1 1)) else none)))) else (bif Nat.ble pc 66 then (bif Nat.ble pc 65 then (bif Nat.beq pc 65 then some (.inl (o_iald)) else none) else (bif Nat.beq pc 66 then some (.inl (oS 1 s_i2l)) else none)) else (bif Nat.ble pc 67 then (bif Nat.beq pc 67 then some (.inl (oS 1 (s_ll (fun a b => a - b)))) else none) else (bif Nat.ble pc 68 then (bif Nat.beq pc 68 then some (.inl (o_al 0 1)) else none) else (bif Nat.beq pc 69 then some (.inl (o_gP 11 35)) else none))))) else (bif Nat.ble pc 76 then (bif Nat.ble pc 73 then (bif Nat.ble pc 72 then (bif Nat.beq pc 72 then some (.inl (o_il 2 1)) else none) else (bif Nat.beq pc 73 then some (.inl (o_iald)) else none)) else (bif Nat.ble pc 74 then (bif Nat.beq pc 74 then some (.inl (oS 1 s_i2l)) else none) else (bif Nat.ble pc 75 then (bif Nat.beq pc 75 then some (.inl (oS 1 (s_ll (fun a b => a - b)))) else none) else (bif Nat.beq pc 76 then some (.inl (oS 1 (s_ll (fun a b => a * b)))) else none)))) else (bif Nat.ble pc 79 then (bif Nat.ble pc 77 then (bif Nat.beq pc 77 then some (.inl (o_ls 7 2)) else none) else (bif Nat.beq pc 79 then some (.inl (o_ll 5 2)) else none)) else (bif Nat.ble pc 81 then (bif Nat.beq pc 81 then some (.inl (o_ll 7 2)) else none) else (bif Nat.ble pc 83 then (bif Nat.beq pc 83 then some (.inl (oS 1 (s_ll (fun a b => a + b)))) else none) else (bif Nat.beq pc 84 then some (.inl (oS 1 (s_push (.long 0)))) else none)))))) else (bif Nat.ble pc 100 then (bif Nat.ble pc 93 then (bif Nat.ble pc 86 then (bif Nat.ble pc 85 then (bif Nat.beq pc 85 then some (.inl (oS 1 s_lcmp)) else none) else (bif Nat.beq pc 86 then some (.inl (o_zlt 114)) else none)) else (bif Nat.ble pc 89 then (bif Nat.beq pc 89 then some (.inl (o_ll 5 2)) else none) else (bif Nat.ble pc 91 then (bif Nat.beq pc 91 then some (.inl (o_ll 7 2)) else none) else (bif Nat.beq pc 93 then some (.inl (oS 1 (s_ll (fun a b => a + b)))) else none)))) else (bif Nat.ble pc 95 then (bif Nat.ble pc 94 then (bif Nat.beq pc 94 then some (.inl (oS 1 (s_push (.long 0)))) else none) else (bif Nat.beq pc 95 then some (.inl (oS 1 s_lcmp)) else none)) else (bif Nat.ble pc 96 then (bif Nat.beq pc 96 then some (.inl (o_zne 118)) else none) else (bif Nat.ble pc 99 then (bif Nat.beq pc 99 then some (.inl (o_al 0 1)) else none) else (bif Nat.beq pc 100 then some (.inl (o_gP 11 30)) else none))))) else (bif Nat.ble pc 109 then (bif Nat.ble pc 104 then (bif Nat.ble pc 103 then (bif Nat.beq pc 103 then some (.inl (o_il 1 1)) else none) else (bif Nat.beq pc 104 then some (.inl (o_iald)) else none)) else (bif Nat.ble pc 105 then (bif Nat.beq pc 105 then some (.inl (o_al 0 1)) else none) else (bif Nat.ble pc 106 then (bif Nat.beq pc 106 then some (.inl (o_gP 11 30)) else none) else (bif Nat.beq pc 109 then some (.inl (o_il 2 1)) else none)))) else (bif Nat.ble pc 114 then (bif Nat.ble pc 110 then (bif Nat.beq pc 110 then some (.inl (o_iald)) else none) else (bif Nat.ble pc 111 then (bif Nat.beq pc 111 then some (.inl (o_cge 118)) else none) else (bif Nat.beq pc 114 then some (.inl (oS 1 (s_push (.int 1)))) else none))) else (bif Nat.ble pc 115 then (bif Nat.beq pc 115 then some (.inl (o_goto 119)) else none) else (bif Nat.ble pc 118 then (bif Nat.beq pc 118 then some (.inl (oS 1 (s_push (.int 0)))) else none) else (bif Nat.beq pc 119 then some (.inr (0, 0, 0, 4)) else none)))))))
theorem k_179_0 : mOk M_179.1 M_179.2.1 M_179.2.2.1 M_179.2.2.2 0 (o_al 0 1) := ok_aload_n dX11_nearer_0 rfl
theorem k_179_1 : mOk M_179.1 M_179.2.1 M_179.2.2.1 M_179.2.2.2 1 (o_gP 11 34) := ok_gP dX11_nearer_1 f_RX11_100 rfl
theorem k_179_4 : mOk M_179.1 M_179.2.1 M_179.2.2.1 M_179.2.2.2 4 (o_il 2 1) := ok_iload_n dX11_nearer_4 rfl
theorem k_179_5 : mOk M_179.1 M_179.2.1 M_179.2.2.1 M_179.2.2.2 5 (o_iald) := ok_iald dX11_nearer_5
theorem k_179_6 : mOk M_179.1 M_179.2.1 M_179.2.2.1 M_179.2.2.2 6 (o_al 0 1) := ok_aload_n dX11_nearer_6 rfl
theorem k_179_7 : mOk M_179.1 M_179.2.1 M_179.2.2.1 M_179.2.2.2 7 (o_gP 11 34) := ok_gP dX11_nearer_7 f_RX11_100 rfl
theorem k_179_10 : mOk M_179.1 M_179.2.1 M_179.2.2.1 M_179.2.2.2 10 (o_il 1 1) := ok_iload_n dX11_nearer_10 rfl
theorem k_179_11 : mOk M_179.1 M_179.2.1 M_179.2.2.1 M_179.2.2.2 11 (o_iald) := ok_iald dX11_nearer_11
theorem k_179_12 : mOk M_179.1 M_179.2.1 M_179.2.2.1 M_179.2.2.2 12 (oS 1 (s_ii (fun a b => a - b))) := ok_isub dX11_nearer_12
theorem k_179_13 : mOk M_179.1 M_179.2.1 M_179.2.2.1 M_179.2.2.2 13 (oS 1 s_i2l) := ok_i2l dX11_nearer_13
theorem k_179_14 : mOk M_179.1 M_179.2.1 M_179.2.2.1 M_179.2.2.2 14 (oS 3 (s_push (.long 2))) := ok_ldc2 dX11_nearer_14 m_1325
theorem k_179_17 : mOk M_179.1 M_179.2.1 M_179.2.2.1 M_179.2.2.2 17 (o_il 3 1) := ok_iload_n dX11_nearer_17 rfl
theorem k_179_18 : mOk M_179.1 M_179.2.1 M_179.2.2.1 M_179.2.2.2 18 (oS 1 s_i2l) := ok_i2l dX11_nearer_18
theorem k_179_19 : mOk M_179.1 M_179.2.1 M_179.2.2.1 M_179.2.2.2 19 (oS 1 (s_ll (fun a b => a * b))) := ok_lmul dX11_nearer_19
theorem k_179_20 : mOk M_179.1 M_179.2.1 M_179.2.2.1 M_179.2.2.2 20 (o_al 0 1) := ok_aload_n dX11_nearer_20 rfl
theorem k_179_21 : mOk M_179.1 M_179.2.1 M_179.2.2.1 M_179.2.2.2 21 (o_gP 11 34) := ok_gP dX11_nearer_21 f_RX11_100 rfl
theorem k_179_24 : mOk M_179.1 M_179.2.1 M_179.2.2.1 M_179.2.2.2 24 (o_il 1 1) := ok_iload_n dX11_nearer_24 rfl
theorem k_179_25 : mOk M_179.1 M_179.2.1 M_179.2.2.1 M_179.2.2.2 25 (o_iald) := ok_iald dX11_nearer_25
theorem k_179_26 : mOk M_179.1 M_179.2.1 M_179.2.2.1 M_179.2.2.2 26 (oS 1 s_i2l) := ok_i2l dX11_nearer_26
theorem k_179_27 : mOk M_179.1 M_179.2.1 M_179.2.2.1 M_179.2.2.2 27 (oS 1 (s_ll (fun a b => a - b))) := ok_lsub dX11_nearer_27
theorem k_179_28 : mOk M_179.1 M_179.2.1 M_179.2.2.1 M_179.2.2.2 28 (o_al 0 1) := ok_aload_n dX11_nearer_28 rfl
theorem k_179_29 : mOk M_179.1 M_179.2.1 M_179.2.2.1 M_179.2.2.2 29 (o_gP 11 34) := ok_gP dX11_nearer_29 f_RX11_100 rfl
theorem k_179_32 : mOk M_179.1 M_179.2.1 M_179.2.2.1 M_179.2.2.2 32 (o_il 2 1) := ok_iload_n dX11_nearer_32 rfl
theorem k_179_33 : mOk M_179.1 M_179.2.1 M_179.2.2.1 M_179.2.2.2 33 (o_iald) := ok_iald dX11_nearer_33
theorem k_179_34 : mOk M_179.1 M_179.2.1 M_179.2.2.1 M_179.2.2.2 34 (oS 1 s_i2l) := ok_i2l dX11_nearer_34
theorem k_179_35 : mOk M_179.1 M_179.2.1 M_179.2.2.1 M_179.2.2.2 35 (oS 1 (s_ll (fun a b => a - b))) := ok_lsub dX11_nearer_35
theorem k_179_36 : mOk M_179.1 M_179.2.1 M_179.2.2.1 M_179.2.2.2 36 (oS 1 (s_ll (fun a b => a * b))) := ok_lmul dX11_nearer_36
theorem k_179_37 : mOk M_179.1 M_179.2.1 M_179.2.2.1 M_179.2.2.2 37 (o_ls 5 2) := ok_lstore dX11_nearer_37
theorem k_179_39 : mOk M_179.1 M_179.2.1 M_179.2.2.1 M_179.2.2.2 39 (o_al 0 1) := ok_aload_n dX11_nearer_39 rfl
theorem k_179_40 : mOk M_179.1 M_179.2.1 M_179.2.2.1 M_179.2.2.2 40 (o_gP 11 35) := ok_gP dX11_nearer_40 f_RX11_103 rfl
theorem k_179_43 : mOk M_179.1 M_179.2.1 M_179.2.2.1 M_179.2.2.2 43 (o_il 2 1) := ok_iload_n dX11_nearer_43 rfl
theorem k_179_44 : mOk M_179.1 M_179.2.1 M_179.2.2.1 M_179.2.2.2 44 (o_iald) := ok_iald dX11_nearer_44
theorem k_179_45 : mOk M_179.1 M_179.2.1 M_179.2.2.1 M_179.2.2.2 45 (o_al 0 1) := ok_aload_n dX11_nearer_45 rfl
theorem k_179_46 : mOk M_179.1 M_179.2.1 M_179.2.2.1 M_179.2.2.2 46 (o_gP 11 35) := ok_gP dX11_nearer_46 f_RX11_103 rfl
theorem k_179_49 : mOk M_179.1 M_179.2.1 M_179.2.2.1 M_179.2.2.2 49 (o_il 1 1) := ok_iload_n dX11_nearer_49 rfl
theorem k_179_50 : mOk M_179.1 M_179.2.1 M_179.2.2.1 M_179.2.2.2 50 (o_iald) := ok_iald dX11_nearer_50
theorem k_179_51 : mOk M_179.1 M_179.2.1 M_179.2.2.1 M_179.2.2.2 51 (oS 1 (s_ii (fun a b => a - b))) := ok_isub dX11_nearer_51
theorem k_179_52 : mOk M_179.1 M_179.2.1 M_179.2.2.1 M_179.2.2.2 52 (oS 1 s_i2l) := ok_i2l dX11_nearer_52
theorem k_179_53 : mOk M_179.1 M_179.2.1 M_179.2.2.1 M_179.2.2.2 53 (oS 3 (s_push (.long 2))) := ok_ldc2 dX11_nearer_53 m_1325
theorem k_179_56 : mOk M_179.1 M_179.2.1 M_179.2.2.1 M_179.2.2.2 56 (o_il 4 2) := ok_iload dX11_nearer_56
theorem k_179_58 : mOk M_179.1 M_179.2.1 M_179.2.2.1 M_179.2.2.2 58 (oS 1 s_i2l) := ok_i2l dX11_nearer_58
theorem k_179_59 : mOk M_179.1 M_179.2.1 M_179.2.2.1 M_179.2.2.2 59 (oS 1 (s_ll (fun a b => a * b))) := ok_lmul dX11_nearer_59
theorem k_179_60 : mOk M_179.1 M_179.2.1 M_179.2.2.1 M_179.2.2.2 60 (o_al 0 1) := ok_aload_n dX11_nearer_60 rfl
theorem k_179_61 : mOk M_179.1 M_179.2.1 M_179.2.2.1 M_179.2.2.2 61 (o_gP 11 35) := ok_gP dX11_nearer_61 f_RX11_103 rfl
theorem k_179_64 : mOk M_179.1 M_179.2.1 M_179.2.2.1 M_179.2.2.2 64 (o_il 1 1) := ok_iload_n dX11_nearer_64 rfl
theorem k_179_65 : mOk M_179.1 M_179.2.1 M_179.2.2.1 M_179.2.2.2 65 (o_iald) := ok_iald dX11_nearer_65
theorem k_179_66 : mOk M_179.1 M_179.2.1 M_179.2.2.1 M_179.2.2.2 66 (oS 1 s_i2l) := ok_i2l dX11_nearer_66
theorem k_179_67 : mOk M_179.1 M_179.2.1 M_179.2.2.1 M_179.2.2.2 67 (oS 1 (s_ll (fun a b => a - b))) := ok_lsub dX11_nearer_67
theorem k_179_68 : mOk M_179.1 M_179.2.1 M_179.2.2.1 M_179.2.2.2 68 (o_al 0 1) := ok_aload_n dX11_nearer_68 rfl
theorem k_179_69 : mOk M_179.1 M_179.2.1 M_179.2.2.1 M_179.2.2.2 69 (o_gP 11 35) := ok_gP dX11_nearer_69 f_RX11_103 rfl
theorem k_179_72 : mOk M_179.1 M_179.2.1 M_179.2.2.1 M_179.2.2.2 72 (o_il 2 1) := ok_iload_n dX11_nearer_72 rfl
theorem k_179_73 : mOk M_179.1 M_179.2.1 M_179.2.2.1 M_179.2.2.2 73 (o_iald) := ok_iald dX11_nearer_73
theorem k_179_74 : mOk M_179.1 M_179.2.1 M_179.2.2.1 M_179.2.2.2 74 (oS 1 s_i2l) := ok_i2l dX11_nearer_74
theorem k_179_75 : mOk M_179.1 M_179.2.1 M_179.2.2.1 M_179.2.2.2 75 (oS 1 (s_ll (fun a b => a - b))) := ok_lsub dX11_nearer_75
theorem k_179_76 : mOk M_179.1 M_179.2.1 M_179.2.2.1 M_179.2.2.2 76 (oS 1 (s_ll (fun a b => a * b))) := ok_lmul dX11_nearer_76
theorem k_179_77 : mOk M_179.1 M_179.2.1 M_179.2.2.1 M_179.2.2.2 77 (o_ls 7 2) := ok_lstore dX11_nearer_77
theorem k_179_79 : mOk M_179.1 M_179.2.1 M_179.2.2.1 M_179.2.2.2 79 (o_ll 5 2) := ok_lload dX11_nearer_79
theorem k_179_81 : mOk M_179.1 M_179.2.1 M_179.2.2.1 M_179.2.2.2 81 (o_ll 7 2) := ok_lload dX11_nearer_81
theorem k_179_83 : mOk M_179.1 M_179.2.1 M_179.2.2.1 M_179.2.2.2 83 (oS 1 (s_ll (fun a b => a + b))) := ok_ladd dX11_nearer_83
theorem k_179_84 : mOk M_179.1 M_179.2.1 M_179.2.2.1 M_179.2.2.2 84 (oS 1 (s_push (.long 0))) := ok_lconst dX11_nearer_84 (by decide)
theorem k_179_85 : mOk M_179.1 M_179.2.1 M_179.2.2.1 M_179.2.2.2 85 (oS 1 s_lcmp) := ok_lcmp dX11_nearer_85
theorem k_179_86 : mOk M_179.1 M_179.2.1 M_179.2.2.1 M_179.2.2.2 86 (o_zlt 114) := ok_zlt dX11_nearer_86 (by decide)
theorem k_179_89 : mOk M_179.1 M_179.2.1 M_179.2.2.1 M_179.2.2.2 89 (o_ll 5 2) := ok_lload dX11_nearer_89
theorem k_179_91 : mOk M_179.1 M_179.2.1 M_179.2.2.1 M_179.2.2.2 91 (o_ll 7 2) := ok_lload dX11_nearer_91
theorem k_179_93 : mOk M_179.1 M_179.2.1 M_179.2.2.1 M_179.2.2.2 93 (oS 1 (s_ll (fun a b => a + b))) := ok_ladd dX11_nearer_93
theorem k_179_94 : mOk M_179.1 M_179.2.1 M_179.2.2.1 M_179.2.2.2 94 (oS 1 (s_push (.long 0))) := ok_lconst dX11_nearer_94 (by decide)
theorem k_179_95 : mOk M_179.1 M_179.2.1 M_179.2.2.1 M_179.2.2.2 95 (oS 1 s_lcmp) := ok_lcmp dX11_nearer_95
theorem k_179_96 : mOk M_179.1 M_179.2.1 M_179.2.2.1 M_179.2.2.2 96 (o_zne 118) := ok_zne dX11_nearer_96 (by decide)
theorem k_179_99 : mOk M_179.1 M_179.2.1 M_179.2.2.1 M_179.2.2.2 99 (o_al 0 1) := ok_aload_n dX11_nearer_99 rfl
theorem k_179_100 : mOk M_179.1 M_179.2.1 M_179.2.2.1 M_179.2.2.2 100 (o_gP 11 30) := ok_gP dX11_nearer_100 f_RX11_88 rfl
theorem k_179_103 : mOk M_179.1 M_179.2.1 M_179.2.2.1 M_179.2.2.2 103 (o_il 1 1) := ok_iload_n dX11_nearer_103 rfl
theorem k_179_104 : mOk M_179.1 M_179.2.1 M_179.2.2.1 M_179.2.2.2 104 (o_iald) := ok_iald dX11_nearer_104
theorem k_179_105 : mOk M_179.1 M_179.2.1 M_179.2.2.1 M_179.2.2.2 105 (o_al 0 1) := ok_aload_n dX11_nearer_105 rfl
theorem k_179_106 : mOk M_179.1 M_179.2.1 M_179.2.2.1 M_179.2.2.2 106 (o_gP 11 30) := ok_gP dX11_nearer_106 f_RX11_88 rfl
theorem k_179_109 : mOk M_179.1 M_179.2.1 M_179.2.2.1 M_179.2.2.2 109 (o_il 2 1) := ok_iload_n dX11_nearer_109 rfl
theorem k_179_110 : mOk M_179.1 M_179.2.1 M_179.2.2.1 M_179.2.2.2 110 (o_iald) := ok_iald dX11_nearer_110
theorem k_179_111 : mOk M_179.1 M_179.2.1 M_179.2.2.1 M_179.2.2.2 111 (o_cge 118) := ok_cge dX11_nearer_111 (by decide)
theorem k_179_114 : mOk M_179.1 M_179.2.1 M_179.2.2.1 M_179.2.2.2 114 (oS 1 (s_push (.int 1))) := ok_iconst dX11_nearer_114 (by decide)
theorem k_179_115 : mOk M_179.1 M_179.2.1 M_179.2.2.1 M_179.2.2.2 115 (o_goto 119) := ok_goto dX11_nearer_115 (by decide)
theorem k_179_118 : mOk M_179.1 M_179.2.1 M_179.2.2.1 M_179.2.2.2 118 (oS 1 (s_push (.int 0))) := ok_iconst dX11_nearer_118 (by decide)
set_option maxRecDepth 20000 in
set_option maxHeartbeats 4000000 in
theorem tk_179 (l : Launch) (H9 : mThr l) (H10 : mSpl l) (pc : Nat) (q : mEnt) (h : tb_179 pc = some q) : EE l 179 pc q := nd h (fun h => nd h (fun h => nd h (fun h => nd h (fun h => nd h (fun h => nd h (fun h => lf (P := EE l 179) h k_179_0) (fun h => lf (P := EE l 179) h k_179_1)) (fun h => nd h (fun h => lf (P := EE l 179) h k_179_4) (fun h => nd h (fun h => lf (P := EE l 179) h k_179_5) (fun h => lf (P := EE l 179) h k_179_6)))) (fun h => nd h (fun h => nd h (fun h => lf (P := EE l 179) h k_179_7) (fun h => lf (P := EE l 179) h k_179_10)) (fun h => nd h (fun h => lf (P := EE l 179) h k_179_11) (fun h => nd h (fun h => lf (P := EE l 179) h k_179_12) (fun h => lf (P := EE l 179) h k_179_13))))) (fun h => nd h (fun h => nd h (fun h => nd h (fun h => lf (P := EE l 179) h k_179_14) (fun h => lf (P := EE l 179) h k_179_17)) (fun h => nd h (fun h => lf (P := EE l 179) h k_179_18) (fun h => nd h (fun h => lf (P := EE l 179) h k_179_19) (fun h => lf (P := EE l 179) h k_179_20)))) (fun h => nd h (fun h => nd h (fun h => lf (P := EE l 179) h k_179_21) (fun h => lf (P := EE l 179) h k_179_24)) (fun h => nd h (fun h => lf (P := EE l 179) h k_179_25) (fun h => nd h (fun h => lf (P := EE l 179) h k_179_26) (fun h => lf (P := EE l 179) h k_179_27)))))) (fun h => nd h (fun h => nd h (fun h => nd h (fun h => nd h (fun h => lf (P := EE l 179) h k_179_28) (fun h => lf (P := EE l 179) h k_179_29)) (fun h => nd h (fun h => lf (P := EE l 179) h k_179_32) (fun h => nd h (fun h => lf (P := EE l 179) h k_179_33) (fun h => lf (P := EE l 179) h k_179_34)))) (fun h => nd h (fun h => nd h (fun h => lf (P := EE l 179) h k_179_35) (fun h => lf (P := EE l 179) h k_179_36)) (fun h => nd h (fun h => lf (P := EE l 179) h k_179_37) (fun h => nd h (fun h => lf (P := EE l 179) h k_179_39) (fun h => lf (P := EE l 179) h k_179_40))))) (fun h => nd h (fun h => nd h (fun h => nd h (fun h => lf (P := EE l 179) h k_179_43) (fun h => lf (P := EE l 179) h k_179_44)) (fun h => nd h (fun h => lf (P := EE l 179) h k_179_45) (fun h => nd h (fun h => lf (P := EE l 179) h k_179_46) (fun h => lf (P := EE l 179) h k_179_49)))) (fun h => nd h (fun h => nd h (fun h => lf (P := EE l 179) h k_179_50) (fun h => lf (P := EE l 179) h k_179_51)) (fun h => nd h (fun h => lf (P := EE l 179) h k_179_52) (fun h => nd h (fun h => lf (P := EE l 179) h k_179_53) (fun h => lf (P := EE l 179) h k_179_56))))))) (fun h => nd h (fun h => nd h (fun h => nd h (fun h => nd h (fun h => nd h (fun h => lf (P := EE l 179) h k_179_58) (fun h => lf (P := EE l 179) h k_179_59)) (fun h => nd h (fun h => lf (P := EE l 179) h k_179_60) (fun h => nd h (fun h => lf (P := EE l 179) h k_179_61) (fun h => lf (P := EE l 179) h k_179_64)))) (fun h => nd h (fun h => nd h (fun h => lf (P := EE l 179) h k_179_65) (fun h => lf (P := EE l 179) h k_179_66)) (fun h => nd h (fun h => lf (P := EE l 179) h k_179_67) (fun h => nd h (fun h => lf (P := EE l 179) h k_179_68) (fun h => lf (P := EE l 179) h k_179_69))))) (fun h => nd h (fun h => nd h (fun h => nd h (fun h => lf (P := EE l 179) h k_179_72) (fun h => lf (P := EE l 179) h k_179_73)) (fun h => nd h (fun h => lf (P := EE l 179) h k_179_74) (fun h => nd h (fun h => lf (P := EE l 179) h k_179_75) (fun h => lf (P := EE l 179) h k_179_76)))) (fun h => nd h (fun h => nd h (fun h => lf (P := EE l 179) h k_179_77) (fun h => lf (P := EE l 179) h k_179_79)) (fun h => nd h (fun h => lf (P := EE l 179) h k_179_81) (fun h => nd h (fun h => lf (P := EE l 179) h k_179_83) (fun h => lf (P := EE l 179) h k_179_84)))))) (fun h => nd h (fun h => nd h (fun h => nd h (fun h => nd h (fun h => lf (P := EE l 179) h k_179_85) (fun h => lf (P := EE l 179) h k_179_86)) (fun h => nd h (fun h => lf (P := EE l 179) h k_179_89) (fun h => nd h (fun h => lf (P := EE l 179) h k_179_91) (fun h => lf (P := EE l 179) h k_179_93)))) (fun h => nd h (fun h => nd h (fun h => lf (P := EE l 179) h k_179_94) (fun h => lf (P := EE l 179) h k_179_95)) (fun h => nd h (fun h => lf (P := EE l 179) h k_179_96) (fun h => nd h (fun h => lf (P := EE l 179) h k_179_99) (fun h => lf (P := EE l 179) h k_179_100))))) (fun h => nd h (fun h => nd h (fun h => nd h (fun h => lf (P := EE l 179) h k_179_103) (fun h => lf (P := EE l 179) h k_179_104)) (fun h => nd h (fun h => lf (P := EE l 179) h k_179_105) (fun h => nd h (fun h => lf (P := EE l 179) h k_179_106) (fun h => lf (P := EE l 179) h k_179_109)))) (fun h => nd h (fun h => nd h (fun h => lf (P := EE l 179) h k_179_110) (fun h => nd h (fun h => lf (P := EE l 179) h k_179_111) (fun h => lf (P := EE l 179) h k_179_114))) (fun h => nd h (fun h => lf (P := EE l 179) h k_179_115) (fun h => nd h (fun h => lf (P := EE l 179) h k_179_118) (fun h => lf (P := EE l 179) h (EE_re (Or.inr (Or.inl ⟨rfl, dX11_nearer_119, rfl⟩))))))))))
