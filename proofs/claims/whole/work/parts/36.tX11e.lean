/-! tables of X11e (written by a program) -/
theorem dX11_near_0 : decode cX11_near 0 = .ok (.aload_n 0, 1) := by decide +kernel
theorem dX11_near_1 : decode cX11_near 1 = .ok (.iconst 1, 1) := by decide +kernel
theorem dX11_near_2 : decode cX11_near 2 = .ok (.putfield 133, 3) := by decide +kernel
theorem dX11_near_5 : decode cX11_near 5 = .ok (.iconst 0, 1) := by decide +kernel
theorem dX11_near_6 : decode cX11_near 6 = .ok (.istore 5, 2) := by decide +kernel
theorem dX11_near_8 : decode cX11_near 8 = .ok (.aload_n 0, 1) := by decide +kernel
theorem dX11_near_9 : decode cX11_near 9 = .ok (.getfield 47, 3) := by decide +kernel
theorem dX11_near_12 : decode cX11_near 12 = .ok (.iconst 0, 1) := by decide +kernel
theorem dX11_near_13 : decode cX11_near 13 = .ok (.baload, 1) := by decide +kernel
theorem dX11_near_14 : decode cX11_near 14 = .ok (.ifCond .eq 128, 3) := by decide +kernel
theorem dX11_near_17 : decode cX11_near 17 = .ok (.iload 5, 2) := by decide +kernel
theorem dX11_near_19 : decode cX11_near 19 = .ok (.aload_n 0, 1) := by decide +kernel
theorem dX11_near_20 : decode cX11_near 20 = .ok (.getfield 85, 3) := by decide +kernel
theorem dX11_near_23 : decode cX11_near 23 = .ok (.iconst 0, 1) := by decide +kernel
theorem dX11_near_24 : decode cX11_near 24 = .ok (.iaload, 1) := by decide +kernel
theorem dX11_near_25 : decode cX11_near 25 = .ok (.if_icmp .ge 117, 3) := by decide +kernel
theorem dX11_near_28 : decode cX11_near 28 = .ok (.aload_n 0, 1) := by decide +kernel
theorem dX11_near_29 : decode cX11_near 29 = .ok (.getfield 91, 3) := by decide +kernel
theorem dX11_near_32 : decode cX11_near 32 = .ok (.iload 5, 2) := by decide +kernel
theorem dX11_near_34 : decode cX11_near 34 = .ok (.iaload, 1) := by decide +kernel
theorem dX11_near_35 : decode cX11_near 35 = .ok (.ifCond .ne 101, 3) := by decide +kernel
theorem dX11_near_38 : decode cX11_near 38 = .ok (.aload_n 0, 1) := by decide +kernel
theorem dX11_near_39 : decode cX11_near 39 = .ok (.getfield 94, 3) := by decide +kernel
theorem dX11_near_42 : decode cX11_near 42 = .ok (.iload 5, 2) := by decide +kernel
theorem dX11_near_44 : decode cX11_near 44 = .ok (.iaload, 1) := by decide +kernel
theorem dX11_near_45 : decode cX11_near 45 = .ok (.iload_n 3, 1) := by decide +kernel
theorem dX11_near_46 : decode cX11_near 46 = .ok (.if_icmp .ne 90, 3) := by decide +kernel
theorem dX11_near_49 : decode cX11_near 49 = .ok (.iconst 0, 1) := by decide +kernel
theorem dX11_near_50 : decode cX11_near 50 = .ok (.istore 6, 2) := by decide +kernel
theorem dX11_near_52 : decode cX11_near 52 = .ok (.iconst 0, 1) := by decide +kernel
theorem dX11_near_53 : decode cX11_near 53 = .ok (.istore 7, 2) := by decide +kernel
theorem dX11_near_55 : decode cX11_near 55 = .ok (.iload 7, 2) := by decide +kernel
theorem dX11_near_57 : decode cX11_near 57 = .ok (.aload_n 0, 1) := by decide +kernel
theorem dX11_near_58 : decode cX11_near 58 = .ok (.getfield 85, 3) := by decide +kernel
theorem dX11_near_61 : decode cX11_near 61 = .ok (.iconst 0, 1) := by decide +kernel
theorem dX11_near_62 : decode cX11_near 62 = .ok (.iaload, 1) := by decide +kernel
theorem dX11_near_63 : decode cX11_near 63 = .ok (.if_icmp .ge 53, 3) := by decide +kernel
theorem dX11_near_66 : decode cX11_near 66 = .ok (.iload 7, 2) := by decide +kernel
theorem dX11_near_68 : decode cX11_near 68 = .ok (.iload 5, 2) := by decide +kernel
theorem dX11_near_70 : decode cX11_near 70 = .ok (.if_icmp .eq 40, 3) := by decide +kernel
theorem dX11_near_73 : decode cX11_near 73 = .ok (.aload_n 0, 1) := by decide +kernel
theorem dX11_near_74 : decode cX11_near 74 = .ok (.getfield 91, 3) := by decide +kernel
theorem dX11_near_77 : decode cX11_near 77 = .ok (.iload 7, 2) := by decide +kernel
theorem dX11_near_79 : decode cX11_near 79 = .ok (.iaload, 1) := by decide +kernel
theorem dX11_near_80 : decode cX11_near 80 = .ok (.ifCond .ne 30, 3) := by decide +kernel
theorem dX11_near_83 : decode cX11_near 83 = .ok (.aload_n 0, 1) := by decide +kernel
theorem dX11_near_84 : decode cX11_near 84 = .ok (.getfield 94, 3) := by decide +kernel
theorem dX11_near_87 : decode cX11_near 87 = .ok (.iload 7, 2) := by decide +kernel
theorem dX11_near_89 : decode cX11_near 89 = .ok (.iaload, 1) := by decide +kernel
theorem dX11_near_90 : decode cX11_near 90 = .ok (.iload_n 3, 1) := by decide +kernel
theorem dX11_near_91 : decode cX11_near 91 = .ok (.if_icmp .ne 19, 3) := by decide +kernel
theorem dX11_near_94 : decode cX11_near 94 = .ok (.aload_n 0, 1) := by decide +kernel
theorem dX11_near_95 : decode cX11_near 95 = .ok (.iload 7, 2) := by decide +kernel
theorem dX11_near_97 : decode cX11_near 97 = .ok (.iload 5, 2) := by decide +kernel
theorem dX11_near_99 : decode cX11_near 99 = .ok (.iload_n 1, 1) := by decide +kernel
theorem dX11_near_100 : decode cX11_near 100 = .ok (.iload_n 2, 1) := by decide +kernel
theorem dX11_near_101 : decode cX11_near 101 = .ok (.invokevirtual 345, 3) := by decide +kernel
theorem dX11_near_104 : decode cX11_near 104 = .ok (.ifCond .eq 6, 3) := by decide +kernel
theorem dX11_near_107 : decode cX11_near 107 = .ok (.iinc 6 1, 3) := by decide +kernel
theorem dX11_near_110 : decode cX11_near 110 = .ok (.iinc 7 1, 3) := by decide +kernel
theorem dX11_near_113 : decode cX11_near 113 = .ok (.goto (-58), 3) := by decide +kernel
theorem dX11_near_116 : decode cX11_near 116 = .ok (.iload 6, 2) := by decide +kernel
theorem dX11_near_118 : decode cX11_near 118 = .ok (.iload 4, 2) := by decide +kernel
theorem dX11_near_120 : decode cX11_near 120 = .ok (.if_icmp .ne 16, 3) := by decide +kernel
theorem dX11_near_123 : decode cX11_near 123 = .ok (.aload_n 0, 1) := by decide +kernel
theorem dX11_near_124 : decode cX11_near 124 = .ok (.iconst 0, 1) := by decide +kernel
theorem dX11_near_125 : decode cX11_near 125 = .ok (.putfield 133, 3) := by decide +kernel
theorem dX11_near_128 : decode cX11_near 128 = .ok (.aload_n 0, 1) := by decide +kernel
theorem dX11_near_129 : decode cX11_near 129 = .ok (.getfield 88, 3) := by decide +kernel
theorem dX11_near_132 : decode cX11_near 132 = .ok (.iload 5, 2) := by decide +kernel
theorem dX11_near_134 : decode cX11_near 134 = .ok (.iaload, 1) := by decide +kernel
theorem dX11_near_135 : decode cX11_near 135 = .ok (.ireturn, 1) := by decide +kernel
theorem dX11_near_136 : decode cX11_near 136 = .ok (.iinc 5 1, 3) := by decide +kernel
theorem dX11_near_139 : decode cX11_near 139 = .ok (.goto (-131), 3) := by decide +kernel
theorem dX11_near_142 : decode cX11_near 142 = .ok (.iconst 0, 1) := by decide +kernel
theorem dX11_near_143 : decode cX11_near 143 = .ok (.ireturn, 1) := by decide +kernel
def tb_180 (pc : Nat) : Option mEnt := bif Nat.ble pc 66 then (bif Nat.ble pc 32 then (bif Nat.ble pc 13 then (bif Nat.ble pc 5 then (bif Nat.ble pc 1 then (bif Nat.ble pc 0 then (bif Nat.beq pc 0 then some (.inl (o_al 0 1)) else none) else (bif Nat.beq pc 1 then some (.inl (oS 1 (s_push (.int 1)))) else none)) else (bif Nat.ble pc 2 then (bif Nat.beq pc 2 then some (.inl (o_pI 11 13)) else none) else (bif Nat.beq pc 5 then some (.inl (oS 1 (s_push (.int 0)))) else none))) else (bif Nat.ble pc 8 then (bif Nat.ble pc 6 then (bif Nat.beq pc 6 then some (.inl (o_is 5 2)) else none) else (bif Nat.beq pc 8 then some (.inl (o_al 0 1)) else none)) else (bif Nat.ble pc 9 then (bif Nat.beq pc 9 then some (.inl (o_gP 11 17)) else none) else (bif Nat.ble pc 12 then (bif Nat.beq pc 12 then some (.inl (oS 1 (s_push (.int 0)))) else none) else (bif Nat.beq pc 13 then some (.inl (o_bald)) else none))))) else (bif Nat.ble pc 23 then (bif Nat.ble pc 17 then (bif Nat.ble pc 14 then (bif Nat.beq pc 14 then some (.inl (o_zeq 142)) else none) else (bif Nat.beq pc 17 then some (.inl (o_il 5 2)) else none)) else (bif Nat.ble pc 19 then (bif Nat.beq pc 19 then some (.inl (o_al 0 1)) else none) else (bif Nat.ble pc 20 then (bif Nat.beq pc 20 then some (.inl (o_gP 11 29)) else none) else (bif Nat.beq pc 23 then some (.inl (oS 1 (s_push (.int 0)))) else none)))) else (bif Nat.ble pc 25 then (bif Nat.ble pc 24 then (bif Nat.beq pc 24 then some (.inl (o_iald)) else none) else (bif Nat.beq pc 25 then some (.inl (o_cge 142)) else none)) else (bif Nat.ble pc 28 then (bif Nat.beq pc 28 then some (.inl (o_al 0 1)) else none) else (bif Nat.ble pc 29 then (bif Nat.beq pc 29 then some (.inl (o_gP 11 31)) else none) else (bif Nat.beq pc 32 then some (.inl (o_il 5 2)) else none)))))) else (bif Nat.ble pc 49 then (bif Nat.ble pc 39 then (bif Nat.ble pc 35 then (bif Nat.ble pc 34 then (bif Nat.beq pc 34 then some (.inl (o_iald)) else none) else (bif Nat.beq pc 35 then some (.inl (o_zne 136)) else none)) else (bif Nat.ble pc 38 then (bif Nat.beq pc 38 then some (.inl (o_al 0 1)) else none) else (bif Nat.beq pc 39 then some (.inl (o_gP 11 32)) else none))) else (bif Nat.ble pc 44 then (bif Nat.ble pc 42 then (bif Nat.beq pc 42 then some (.inl (o_il 5 2)) else none) else (bif Nat.beq pc 44 then some (.inl (o_iald)) else none)) else (bif Nat.ble pc 45 then (bif Nat.beq pc 45 then some (.inl (o_il 3 1)) else none) else (bif Nat.ble pc 46 then (bif Nat.beq pc 46 then some (.inl (o_cne 136)) else none) else (bif Nat.beq pc 49 then some (.inl (oS 1 (s_push (.int 0)))) else none))))) else (bif Nat.ble pc 57 then (bif Nat.ble pc 52 then (bif Nat.ble pc 50 then (bif Nat.beq pc 50 then some (.inl (o_is 6 2)) else none) else (bif Nat.beq pc 52 then some (.inl (oS 1 (s_push (.int 0)))) else none)) else (bif Nat.ble pc 53 then (bif Nat.beq pc 53 then some (.inl (o_is 7 2)) else none) else (bif Nat.ble pc 55 then (bif Nat.beq pc 55 then some (.inl (o_il 7 2)) else none) else (bif Nat.beq pc 57 then some (.inl (o_al 0 1)) else none)))) else (bif Nat.ble pc 61 then (bif Nat.ble pc 58 then (bif Nat.beq pc 58 then some (.inl (o_gP 11 29)) else none) else (bif Nat.beq pc 61 then some (.inl (oS 1 (s_push (.int 0)))) else none)) else (bif Nat.ble pc 62 then (bif Nat.beq pc 62 then some (.inl (o_iald)) else none) else (bif Nat.ble pc 63 then (bif Nat.beq pc 63 then some (.inl (o_cge 116)) else none) else (bif Nat.beq pc 66 then some (.inl (o_il 7 2)) else none))))))) else (bif Nat.ble pc 101 then (bif Nat.ble pc 84 then (bif Nat.ble pc 74 then (bif Nat.ble pc 70 then (bif Nat.ble pc 68 then (bif Nat.beq pc 68 then some (.inl (o_il 5 2)) else none) else (bif Nat.beq pc 70 then some (.inl (o_ceq 110)) else none)) else (bif Nat.ble pc 73 then (bif Nat.beq pc 73 then some (.inl (o_al 0 1)) else none) else (bif Nat.beq pc 74 then some (.inl (o_gP 11 31)) else none))) else (bif Nat.ble pc 79 then (bif Nat.ble pc 77 then (bif Nat.beq pc 77 then some (.inl (o_il 7 2)) else none) else (bif Nat.beq pc 79 then some (.inl (o_iald)) else none)) else (bif Nat.ble pc 80 then (bif Nat.beq pc 80 then some (.inl (o_zne 110)) else none) else (bif Nat.ble pc 83 then (bif Nat.beq pc 83 then some (.inl (o_al 0 1)) else none) else (bif Nat.beq pc 84 then some (.inl (o_gP 11 32)) else none))))) else (bif Nat.ble pc 94 then (bif Nat.ble pc 89 then (bif Nat.ble pc 87 then (bif Nat.beq pc 87 then some (.inl (o_il 7 2)) else none) else (bif Nat.beq pc 89 then some (.inl (o_iald)) else none)) else (bif Nat.ble pc 90 then (bif Nat.beq pc 90 then some (.inl (o_il 3 1)) else none) else (bif Nat.ble pc 91 then (bif Nat.beq pc 91 then some (.inl (o_cne 110)) else none) else (bif Nat.beq pc 94 then some (.inl (o_al 0 1)) else none)))) else (bif Nat.ble pc 97 then (bif Nat.ble pc 95 then (bif Nat.beq pc 95 then some (.inl (o_il 7 2)) else none) else (bif Nat.beq pc 97 then some (.inl (o_il 5 2)) else none)) else (bif Nat.ble pc 99 then (bif Nat.beq pc 99 then some (.inl (o_il 1 1)) else none) else (bif Nat.ble pc 100 then (bif Nat.beq pc 100 then some (.inl (o_il 2 1)) else none) else (bif Nat.beq pc 101 then some (.inr (3, 179, 5, 11)) else none)))))) else (bif Nat.ble pc 124 then (bif Nat.ble pc 113 then (bif Nat.ble pc 107 then (bif Nat.ble pc 104 then (bif Nat.beq pc 104 then some (.inl (o_zeq 110)) else none) else (bif Nat.beq pc 107 then some (.inl (o_inc 6 1)) else none)) else (bif Nat.ble pc 110 then (bif Nat.beq pc 110 then some (.inl (o_inc 7 1)) else none) else (bif Nat.beq pc 113 then some (.inl (o_goto 55)) else none))) else (bif Nat.ble pc 118 then (bif Nat.ble pc 116 then (bif Nat.beq pc 116 then some (.inl (o_il 6 2)) else none) else (bif Nat.beq pc 118 then some (.inl (o_il 4 2)) else none)) else (bif Nat.ble pc 120 then (bif Nat.beq pc 120 then some (.inl (o_cne 136)) else none) else (bif Nat.ble pc 123 then (bif Nat.beq pc 123 then some (.inl (o_al 0 1)) else none) else (bif Nat.beq pc 124 then some (.inl (oS 1 (s_push (.int 0)))) else none))))) else (bif Nat.ble pc 134 then (bif Nat.ble pc 128 then (bif Nat.ble pc 125 then (bif Nat.beq pc 125 then some (.inl (o_pI 11 13)) else none) else (bif Nat.beq pc 128 then some (.inl (o_al 0 1)) else none)) else (bif Nat.ble pc 129 then (bif Nat.beq pc 129 then some (.inl (o_gP 11 30)) else none) else (bif Nat.ble pc 132 then (bif Nat.beq pc 132 then some (.inl (o_il 5 2)) else none) else (bif Nat.beq pc 134 then some (.inl (o_iald)) else none)))) else (bif Nat.ble pc 136 then (bif Nat.ble pc 135 then (bif Nat.beq pc 135 then some (.inr (0, 0, 0, 0)) else none) else (bif Nat.beq pc 136 then some (.inl (o_inc 5 1)) else none)) else (bif Nat.ble pc 139 then (bif Nat.beq pc 139 then some (.inl (o_goto 8)) else none) else (bif Nat.ble pc 142 then (bif Nat.beq pc 142 then some (.inl (oS 1 (s_push (.int 0)))) else none) else (bif Nat.beq pc 143 then some (.inr (0, 0, 0, 0)) else none)))))))
theorem k_180_0 : mOk M_180.1 M_180.2.1 M_180.2.2.1 M_180.2.2.2 0 (o_al 0 1) := ok_aload_n dX11_near_0 rfl
theorem k_180_1 : mOk M_180.1 M_180.2.1 M_180.2.2.1 M_180.2.2.2 1 (oS 1 (s_push (.int 1))) := ok_iconst dX11_near_1 (by decide)
theorem k_180_2 : mOk M_180.1 M_180.2.1 M_180.2.2.1 M_180.2.2.2 2 (o_pI 11 13) := ok_pI dX11_near_2 (mFw_of f_RX11_133_c (Or.inl rfl)) rfl
theorem k_180_5 : mOk M_180.1 M_180.2.1 M_180.2.2.1 M_180.2.2.2 5 (oS 1 (s_push (.int 0))) := ok_iconst dX11_near_5 (by decide)
theorem k_180_6 : mOk M_180.1 M_180.2.1 M_180.2.2.1 M_180.2.2.2 6 (o_is 5 2) := ok_istore dX11_near_6
theorem k_180_8 : mOk M_180.1 M_180.2.1 M_180.2.2.1 M_180.2.2.2 8 (o_al 0 1) := ok_aload_n dX11_near_8 rfl
theorem k_180_9 : mOk M_180.1 M_180.2.1 M_180.2.2.1 M_180.2.2.2 9 (o_gP 11 17) := ok_gP dX11_near_9 f_RX11_47 rfl
theorem k_180_12 : mOk M_180.1 M_180.2.1 M_180.2.2.1 M_180.2.2.2 12 (oS 1 (s_push (.int 0))) := ok_iconst dX11_near_12 (by decide)
theorem k_180_13 : mOk M_180.1 M_180.2.1 M_180.2.2.1 M_180.2.2.2 13 (o_bald) := ok_bald dX11_near_13
theorem k_180_14 : mOk M_180.1 M_180.2.1 M_180.2.2.1 M_180.2.2.2 14 (o_zeq 142) := ok_zeq dX11_near_14 (by decide)
theorem k_180_17 : mOk M_180.1 M_180.2.1 M_180.2.2.1 M_180.2.2.2 17 (o_il 5 2) := ok_iload dX11_near_17
theorem k_180_19 : mOk M_180.1 M_180.2.1 M_180.2.2.1 M_180.2.2.2 19 (o_al 0 1) := ok_aload_n dX11_near_19 rfl
theorem k_180_20 : mOk M_180.1 M_180.2.1 M_180.2.2.1 M_180.2.2.2 20 (o_gP 11 29) := ok_gP dX11_near_20 f_RX11_85 rfl
theorem k_180_23 : mOk M_180.1 M_180.2.1 M_180.2.2.1 M_180.2.2.2 23 (oS 1 (s_push (.int 0))) := ok_iconst dX11_near_23 (by decide)
theorem k_180_24 : mOk M_180.1 M_180.2.1 M_180.2.2.1 M_180.2.2.2 24 (o_iald) := ok_iald dX11_near_24
theorem k_180_25 : mOk M_180.1 M_180.2.1 M_180.2.2.1 M_180.2.2.2 25 (o_cge 142) := ok_cge dX11_near_25 (by decide)
theorem k_180_28 : mOk M_180.1 M_180.2.1 M_180.2.2.1 M_180.2.2.2 28 (o_al 0 1) := ok_aload_n dX11_near_28 rfl
theorem k_180_29 : mOk M_180.1 M_180.2.1 M_180.2.2.1 M_180.2.2.2 29 (o_gP 11 31) := ok_gP dX11_near_29 f_RX11_91 rfl
theorem k_180_32 : mOk M_180.1 M_180.2.1 M_180.2.2.1 M_180.2.2.2 32 (o_il 5 2) := ok_iload dX11_near_32
theorem k_180_34 : mOk M_180.1 M_180.2.1 M_180.2.2.1 M_180.2.2.2 34 (o_iald) := ok_iald dX11_near_34
theorem k_180_35 : mOk M_180.1 M_180.2.1 M_180.2.2.1 M_180.2.2.2 35 (o_zne 136) := ok_zne dX11_near_35 (by decide)
theorem k_180_38 : mOk M_180.1 M_180.2.1 M_180.2.2.1 M_180.2.2.2 38 (o_al 0 1) := ok_aload_n dX11_near_38 rfl
theorem k_180_39 : mOk M_180.1 M_180.2.1 M_180.2.2.1 M_180.2.2.2 39 (o_gP 11 32) := ok_gP dX11_near_39 f_RX11_94 rfl
theorem k_180_42 : mOk M_180.1 M_180.2.1 M_180.2.2.1 M_180.2.2.2 42 (o_il 5 2) := ok_iload dX11_near_42
theorem k_180_44 : mOk M_180.1 M_180.2.1 M_180.2.2.1 M_180.2.2.2 44 (o_iald) := ok_iald dX11_near_44
theorem k_180_45 : mOk M_180.1 M_180.2.1 M_180.2.2.1 M_180.2.2.2 45 (o_il 3 1) := ok_iload_n dX11_near_45 rfl
theorem k_180_46 : mOk M_180.1 M_180.2.1 M_180.2.2.1 M_180.2.2.2 46 (o_cne 136) := ok_cne dX11_near_46 (by decide)
theorem k_180_49 : mOk M_180.1 M_180.2.1 M_180.2.2.1 M_180.2.2.2 49 (oS 1 (s_push (.int 0))) := ok_iconst dX11_near_49 (by decide)
theorem k_180_50 : mOk M_180.1 M_180.2.1 M_180.2.2.1 M_180.2.2.2 50 (o_is 6 2) := ok_istore dX11_near_50
theorem k_180_52 : mOk M_180.1 M_180.2.1 M_180.2.2.1 M_180.2.2.2 52 (oS 1 (s_push (.int 0))) := ok_iconst dX11_near_52 (by decide)
theorem k_180_53 : mOk M_180.1 M_180.2.1 M_180.2.2.1 M_180.2.2.2 53 (o_is 7 2) := ok_istore dX11_near_53
theorem k_180_55 : mOk M_180.1 M_180.2.1 M_180.2.2.1 M_180.2.2.2 55 (o_il 7 2) := ok_iload dX11_near_55
theorem k_180_57 : mOk M_180.1 M_180.2.1 M_180.2.2.1 M_180.2.2.2 57 (o_al 0 1) := ok_aload_n dX11_near_57 rfl
theorem k_180_58 : mOk M_180.1 M_180.2.1 M_180.2.2.1 M_180.2.2.2 58 (o_gP 11 29) := ok_gP dX11_near_58 f_RX11_85 rfl
theorem k_180_61 : mOk M_180.1 M_180.2.1 M_180.2.2.1 M_180.2.2.2 61 (oS 1 (s_push (.int 0))) := ok_iconst dX11_near_61 (by decide)
theorem k_180_62 : mOk M_180.1 M_180.2.1 M_180.2.2.1 M_180.2.2.2 62 (o_iald) := ok_iald dX11_near_62
theorem k_180_63 : mOk M_180.1 M_180.2.1 M_180.2.2.1 M_180.2.2.2 63 (o_cge 116) := ok_cge dX11_near_63 (by decide)
theorem k_180_66 : mOk M_180.1 M_180.2.1 M_180.2.2.1 M_180.2.2.2 66 (o_il 7 2) := ok_iload dX11_near_66
theorem k_180_68 : mOk M_180.1 M_180.2.1 M_180.2.2.1 M_180.2.2.2 68 (o_il 5 2) := ok_iload dX11_near_68
theorem k_180_70 : mOk M_180.1 M_180.2.1 M_180.2.2.1 M_180.2.2.2 70 (o_ceq 110) := ok_ceq dX11_near_70 (by decide)
theorem k_180_73 : mOk M_180.1 M_180.2.1 M_180.2.2.1 M_180.2.2.2 73 (o_al 0 1) := ok_aload_n dX11_near_73 rfl
theorem k_180_74 : mOk M_180.1 M_180.2.1 M_180.2.2.1 M_180.2.2.2 74 (o_gP 11 31) := ok_gP dX11_near_74 f_RX11_91 rfl
theorem k_180_77 : mOk M_180.1 M_180.2.1 M_180.2.2.1 M_180.2.2.2 77 (o_il 7 2) := ok_iload dX11_near_77
theorem k_180_79 : mOk M_180.1 M_180.2.1 M_180.2.2.1 M_180.2.2.2 79 (o_iald) := ok_iald dX11_near_79
theorem k_180_80 : mOk M_180.1 M_180.2.1 M_180.2.2.1 M_180.2.2.2 80 (o_zne 110) := ok_zne dX11_near_80 (by decide)
theorem k_180_83 : mOk M_180.1 M_180.2.1 M_180.2.2.1 M_180.2.2.2 83 (o_al 0 1) := ok_aload_n dX11_near_83 rfl
theorem k_180_84 : mOk M_180.1 M_180.2.1 M_180.2.2.1 M_180.2.2.2 84 (o_gP 11 32) := ok_gP dX11_near_84 f_RX11_94 rfl
theorem k_180_87 : mOk M_180.1 M_180.2.1 M_180.2.2.1 M_180.2.2.2 87 (o_il 7 2) := ok_iload dX11_near_87
theorem k_180_89 : mOk M_180.1 M_180.2.1 M_180.2.2.1 M_180.2.2.2 89 (o_iald) := ok_iald dX11_near_89
theorem k_180_90 : mOk M_180.1 M_180.2.1 M_180.2.2.1 M_180.2.2.2 90 (o_il 3 1) := ok_iload_n dX11_near_90 rfl
theorem k_180_91 : mOk M_180.1 M_180.2.1 M_180.2.2.1 M_180.2.2.2 91 (o_cne 110) := ok_cne dX11_near_91 (by decide)
theorem k_180_94 : mOk M_180.1 M_180.2.1 M_180.2.2.1 M_180.2.2.2 94 (o_al 0 1) := ok_aload_n dX11_near_94 rfl
theorem k_180_95 : mOk M_180.1 M_180.2.1 M_180.2.2.1 M_180.2.2.2 95 (o_il 7 2) := ok_iload dX11_near_95
theorem k_180_97 : mOk M_180.1 M_180.2.1 M_180.2.2.1 M_180.2.2.2 97 (o_il 5 2) := ok_iload dX11_near_97
theorem k_180_99 : mOk M_180.1 M_180.2.1 M_180.2.2.1 M_180.2.2.2 99 (o_il 1 1) := ok_iload_n dX11_near_99 rfl
theorem k_180_100 : mOk M_180.1 M_180.2.1 M_180.2.2.1 M_180.2.2.2 100 (o_il 2 1) := ok_iload_n dX11_near_100 rfl
theorem k_180_104 : mOk M_180.1 M_180.2.1 M_180.2.2.1 M_180.2.2.2 104 (o_zeq 110) := ok_zeq dX11_near_104 (by decide)
theorem k_180_107 : mOk M_180.1 M_180.2.1 M_180.2.2.1 M_180.2.2.2 107 (o_inc 6 1) := ok_iinc dX11_near_107 (by decide)
theorem k_180_110 : mOk M_180.1 M_180.2.1 M_180.2.2.1 M_180.2.2.2 110 (o_inc 7 1) := ok_iinc dX11_near_110 (by decide)
theorem k_180_113 : mOk M_180.1 M_180.2.1 M_180.2.2.1 M_180.2.2.2 113 (o_goto 55) := ok_goto dX11_near_113 (by decide)
theorem k_180_116 : mOk M_180.1 M_180.2.1 M_180.2.2.1 M_180.2.2.2 116 (o_il 6 2) := ok_iload dX11_near_116
theorem k_180_118 : mOk M_180.1 M_180.2.1 M_180.2.2.1 M_180.2.2.2 118 (o_il 4 2) := ok_iload dX11_near_118
theorem k_180_120 : mOk M_180.1 M_180.2.1 M_180.2.2.1 M_180.2.2.2 120 (o_cne 136) := ok_cne dX11_near_120 (by decide)
theorem k_180_123 : mOk M_180.1 M_180.2.1 M_180.2.2.1 M_180.2.2.2 123 (o_al 0 1) := ok_aload_n dX11_near_123 rfl
theorem k_180_124 : mOk M_180.1 M_180.2.1 M_180.2.2.1 M_180.2.2.2 124 (oS 1 (s_push (.int 0))) := ok_iconst dX11_near_124 (by decide)
theorem k_180_125 : mOk M_180.1 M_180.2.1 M_180.2.2.1 M_180.2.2.2 125 (o_pI 11 13) := ok_pI dX11_near_125 (mFw_of f_RX11_133_c (Or.inl rfl)) rfl
theorem k_180_128 : mOk M_180.1 M_180.2.1 M_180.2.2.1 M_180.2.2.2 128 (o_al 0 1) := ok_aload_n dX11_near_128 rfl
theorem k_180_129 : mOk M_180.1 M_180.2.1 M_180.2.2.1 M_180.2.2.2 129 (o_gP 11 30) := ok_gP dX11_near_129 f_RX11_88 rfl
theorem k_180_132 : mOk M_180.1 M_180.2.1 M_180.2.2.1 M_180.2.2.2 132 (o_il 5 2) := ok_iload dX11_near_132
theorem k_180_134 : mOk M_180.1 M_180.2.1 M_180.2.2.1 M_180.2.2.2 134 (o_iald) := ok_iald dX11_near_134
theorem k_180_136 : mOk M_180.1 M_180.2.1 M_180.2.2.1 M_180.2.2.2 136 (o_inc 5 1) := ok_iinc dX11_near_136 (by decide)
theorem k_180_139 : mOk M_180.1 M_180.2.1 M_180.2.2.1 M_180.2.2.2 139 (o_goto 8) := ok_goto dX11_near_139 (by decide)
theorem k_180_142 : mOk M_180.1 M_180.2.1 M_180.2.2.1 M_180.2.2.2 142 (oS 1 (s_push (.int 0))) := ok_iconst dX11_near_142 (by decide)
set_option maxRecDepth 20000 in
set_option maxHeartbeats 4000000 in
theorem tk_180 (l : Launch) (H9 : mThr l) (H10 : mSpl l) (pc : Nat) (q : mEnt) (h : tb_180 pc = some q) : EE l 180 pc q := nd h (fun h => nd h (fun h => nd h (fun h => nd h (fun h => nd h (fun h => nd h (fun h => lf (P := EE l 180) h k_180_0) (fun h => lf (P := EE l 180) h k_180_1)) (fun h => nd h (fun h => lf (P := EE l 180) h k_180_2) (fun h => lf (P := EE l 180) h k_180_5))) (fun h => nd h (fun h => nd h (fun h => lf (P := EE l 180) h k_180_6) (fun h => lf (P := EE l 180) h k_180_8)) (fun h => nd h (fun h => lf (P := EE l 180) h k_180_9) (fun h => nd h (fun h => lf (P := EE l 180) h k_180_12) (fun h => lf (P := EE l 180) h k_180_13))))) (fun h => nd h (fun h => nd h (fun h => nd h (fun h => lf (P := EE l 180) h k_180_14) (fun h => lf (P := EE l 180) h k_180_17)) (fun h => nd h (fun h => lf (P := EE l 180) h k_180_19) (fun h => nd h (fun h => lf (P := EE l 180) h k_180_20) (fun h => lf (P := EE l 180) h k_180_23)))) (fun h => nd h (fun h => nd h (fun h => lf (P := EE l 180) h k_180_24) (fun h => lf (P := EE l 180) h k_180_25)) (fun h => nd h (fun h => lf (P := EE l 180) h k_180_28) (fun h => nd h (fun h => lf (P := EE l 180) h k_180_29) (fun h => lf (P := EE l 180) h k_180_32)))))) (fun h => nd h (fun h => nd h (fun h => nd h (fun h => nd h (fun h => lf (P := EE l 180) h k_180_34) (fun h => lf (P := EE l 180) h k_180_35)) (fun h => nd h (fun h => lf (P := EE l 180) h k_180_38) (fun h => lf (P := EE l 180) h k_180_39))) (fun h => nd h (fun h => nd h (fun h => lf (P := EE l 180) h k_180_42) (fun h => lf (P := EE l 180) h k_180_44)) (fun h => nd h (fun h => lf (P := EE l 180) h k_180_45) (fun h => nd h (fun h => lf (P := EE l 180) h k_180_46) (fun h => lf (P := EE l 180) h k_180_49))))) (fun h => nd h (fun h => nd h (fun h => nd h (fun h => lf (P := EE l 180) h k_180_50) (fun h => lf (P := EE l 180) h k_180_52)) (fun h => nd h (fun h => lf (P := EE l 180) h k_180_53) (fun h => nd h (fun h => lf (P := EE l 180) h k_180_55) (fun h => lf (P := EE l 180) h k_180_57)))) (fun h => nd h (fun h => nd h (fun h => lf (P := EE l 180) h k_180_58) (fun h => lf (P := EE l 180) h k_180_61)) (fun h => nd h (fun h => lf (P := EE l 180) h k_180_62) (fun h => nd h (fun h => lf (P := EE l 180) h k_180_63) (fun h => lf (P := EE l 180) h k_180_66))))))) (fun h => nd h (fun h => nd h (fun h => nd h (fun h => nd h (fun h => nd h (fun h => lf (P := EE l 180) h k_180_68) (fun h => lf (P := EE l 180) h k_180_70)) (fun h => nd h (fun h => lf (P := EE l 180) h k_180_73) (fun h => lf (P := EE l 180) h k_180_74))) (fun h => nd h (fun h => nd h (fun h => lf (P := EE l 180) h k_180_77) (fun h => lf (P := EE l 180) h k_180_79)) (fun h => nd h (fun h => lf (P := EE l 180) h k_180_80) (fun h => nd h (fun h => lf (P := EE l 180) h k_180_83) (fun h => lf (P := EE l 180) h k_180_84))))) (fun h => nd h (fun h => nd h (fun h => nd h (fun h => lf (P := EE l 180) h k_180_87) (fun h => lf (P := EE l 180) h k_180_89)) (fun h => nd h (fun h => lf (P := EE l 180) h k_180_90) (fun h => nd h (fun h => lf (P := EE l 180) h k_180_91) (fun h => lf (P := EE l 180) h k_180_94)))) (fun h => nd h (fun h => nd h (fun h => lf (P := EE l 180) h k_180_95) (fun h => lf (P := EE l 180) h k_180_97)) (fun h => nd h (fun h => lf (P := EE l 180) h k_180_99) (fun h => nd h (fun h => lf (P := EE l 180) h k_180_100) (fun h => lf (P := EE l 180) h (EE_ca (by decide) (⟨m_1469, m_81, ⟨by decide, by decide⟩, by decide +kernel, ⟨by decide, by decide⟩, 345, 4, by decide +kernel, Or.inr (Or.inr (Or.inl ⟨rfl, rfl, dX11_near_101, m_1466, m_1468, _, rfl, by decide, m_68⟩))⟩) rfl))))))) (fun h => nd h (fun h => nd h (fun h => nd h (fun h => nd h (fun h => lf (P := EE l 180) h k_180_104) (fun h => lf (P := EE l 180) h k_180_107)) (fun h => nd h (fun h => lf (P := EE l 180) h k_180_110) (fun h => lf (P := EE l 180) h k_180_113))) (fun h => nd h (fun h => nd h (fun h => lf (P := EE l 180) h k_180_116) (fun h => lf (P := EE l 180) h k_180_118)) (fun h => nd h (fun h => lf (P := EE l 180) h k_180_120) (fun h => nd h (fun h => lf (P := EE l 180) h k_180_123) (fun h => lf (P := EE l 180) h k_180_124))))) (fun h => nd h (fun h => nd h (fun h => nd h (fun h => lf (P := EE l 180) h k_180_125) (fun h => lf (P := EE l 180) h k_180_128)) (fun h => nd h (fun h => lf (P := EE l 180) h k_180_129) (fun h => nd h (fun h => lf (P := EE l 180) h k_180_132) (fun h => lf (P := EE l 180) h k_180_134)))) (fun h => nd h (fun h => nd h (fun h => lf (P := EE l 180) h (EE_re (Or.inl ⟨rfl, dX11_near_135, rfl⟩))) (fun h => lf (P := EE l 180) h k_180_136)) (fun h => nd h (fun h => lf (P := EE l 180) h k_180_139) (fun h => nd h (fun h => lf (P := EE l 180) h k_180_142) (fun h => lf (P := EE l 180) h (EE_re (Or.inl ⟨rfl, dX11_near_143, rfl⟩)))))))))
