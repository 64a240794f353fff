/-! tables of X11a (written by a program) -/
theorem dX11_drop_0 : decode cX11_drop 0 = .ok (.aload_n 0, 1) := by decide +kernel
theorem dX11_drop_1 : decode cX11_drop 1 = .ok (.iconst 0, 1) := by decide +kernel
theorem dX11_drop_2 : decode cX11_drop 2 = .ok (.putfield 133, 3) := by decide +kernel
theorem dX11_drop_5 : decode cX11_drop 5 = .ok (.aload_n 0, 1) := by decide +kernel
theorem dX11_drop_6 : decode cX11_drop 6 = .ok (.iconst 0, 1) := by decide +kernel
theorem dX11_drop_7 : decode cX11_drop 7 = .ok (.iload_n 1, 1) := by decide +kernel
theorem dX11_drop_8 : decode cX11_drop 8 = .ok (.invokevirtual 174, 3) := by decide +kernel
theorem dX11_drop_11 : decode cX11_drop 11 = .ok (.istore_n 2, 1) := by decide +kernel
theorem dX11_drop_12 : decode cX11_drop 12 = .ok (.iload_n 2, 1) := by decide +kernel
theorem dX11_drop_13 : decode cX11_drop 13 = .ok (.iconst (-1), 1) := by decide +kernel
theorem dX11_drop_14 : decode cX11_drop 14 = .ok (.if_icmp .ne 5, 3) := by decide +kernel
theorem dX11_drop_17 : decode cX11_drop 17 = .ok (.iconst 0, 1) := by decide +kernel
theorem dX11_drop_18 : decode cX11_drop 18 = .ok (.ireturn, 1) := by decide +kernel
theorem dX11_drop_19 : decode cX11_drop 19 = .ok (.aload_n 0, 1) := by decide +kernel
theorem dX11_drop_20 : decode cX11_drop 20 = .ok (.getfield 7, 3) := by decide +kernel
theorem dX11_drop_23 : decode cX11_drop 23 = .ok (.iconst 0, 1) := by decide +kernel
theorem dX11_drop_24 : decode cX11_drop 24 = .ok (.dup2, 1) := by decide +kernel
theorem dX11_drop_25 : decode cX11_drop 25 = .ok (.iaload, 1) := by decide +kernel
theorem dX11_drop_26 : decode cX11_drop 26 = .ok (.iconst 1, 1) := by decide +kernel
theorem dX11_drop_27 : decode cX11_drop 27 = .ok (.isub, 1) := by decide +kernel
theorem dX11_drop_28 : decode cX11_drop 28 = .ok (.iastore, 1) := by decide +kernel
theorem dX11_drop_29 : decode cX11_drop 29 = .ok (.iload_n 2, 1) := by decide +kernel
theorem dX11_drop_30 : decode cX11_drop 30 = .ok (.istore_n 3, 1) := by decide +kernel
theorem dX11_drop_31 : decode cX11_drop 31 = .ok (.iload_n 3, 1) := by decide +kernel
theorem dX11_drop_32 : decode cX11_drop 32 = .ok (.aload_n 0, 1) := by decide +kernel
theorem dX11_drop_33 : decode cX11_drop 33 = .ok (.getfield 7, 3) := by decide +kernel
theorem dX11_drop_36 : decode cX11_drop 36 = .ok (.iconst 0, 1) := by decide +kernel
theorem dX11_drop_37 : decode cX11_drop 37 = .ok (.iaload, 1) := by decide +kernel
theorem dX11_drop_38 : decode cX11_drop 38 = .ok (.if_icmp .ge 17, 3) := by decide +kernel
theorem dX11_drop_41 : decode cX11_drop 41 = .ok (.aload_n 0, 1) := by decide +kernel
theorem dX11_drop_42 : decode cX11_drop 42 = .ok (.iload_n 3, 1) := by decide +kernel
theorem dX11_drop_43 : decode cX11_drop 43 = .ok (.iconst 1, 1) := by decide +kernel
theorem dX11_drop_44 : decode cX11_drop 44 = .ok (.iadd, 1) := by decide +kernel
theorem dX11_drop_45 : decode cX11_drop 45 = .ok (.iload_n 3, 1) := by decide +kernel
theorem dX11_drop_46 : decode cX11_drop 46 = .ok (.invokevirtual 178, 3) := by decide +kernel
theorem dX11_drop_49 : decode cX11_drop 49 = .ok (.iinc 3 1, 3) := by decide +kernel
theorem dX11_drop_52 : decode cX11_drop 52 = .ok (.goto (-21), 3) := by decide +kernel
theorem dX11_drop_55 : decode cX11_drop 55 = .ok (.iconst 1, 1) := by decide +kernel
theorem dX11_drop_56 : decode cX11_drop 56 = .ok (.ireturn, 1) := by decide +kernel
def tb_128 (pc : Nat) : Option mEnt := bif Nat.ble pc 26 then (bif Nat.ble pc 12 then (bif Nat.ble pc 5 then (bif Nat.ble pc 1 then (bif Nat.ble pc 0 then (bif Nat.beq pc 0 then some (.inl (o_al 0 1)) else none) else (bif Nat.beq pc 1 then some (.inl (oS 1 (s_push (.int 0)))) else none)) else (bif Nat.ble pc 2 then (bif Nat.beq pc 2 then some (.inl (o_pI 11 13)) else none) else (bif Nat.beq pc 5 then some (.inl (o_al 0 1)) else none))) else (bif Nat.ble pc 7 then (bif Nat.ble pc 6 then (bif Nat.beq pc 6 then some (.inl (oS 1 (s_push (.int 0)))) else none) else (bif Nat.beq pc 7 then some (.inl (o_il 1 1)) else none)) else (bif Nat.ble pc 8 then (bif Nat.beq pc 8 then some (.inr (3, 125, 3, 11)) else none) else (bif Nat.ble pc 11 then (bif Nat.beq pc 11 then some (.inl (o_is 2 1)) else none) else (bif Nat.beq pc 12 then some (.inl (o_il 2 1)) else none))))) else (bif Nat.ble pc 19 then (bif Nat.ble pc 14 then (bif Nat.ble pc 13 then (bif Nat.beq pc 13 then some (.inl (oS 1 (s_push (.int (-1))))) else none) else (bif Nat.beq pc 14 then some (.inl (o_cne 19)) else none)) else (bif Nat.ble pc 17 then (bif Nat.beq pc 17 then some (.inl (oS 1 (s_push (.int 0)))) else none) else (bif Nat.ble pc 18 then (bif Nat.beq pc 18 then some (.inr (0, 0, 0, 4)) else none) else (bif Nat.beq pc 19 then some (.inl (o_al 0 1)) else none)))) else (bif Nat.ble pc 23 then (bif Nat.ble pc 20 then (bif Nat.beq pc 20 then some (.inl (o_gP 11 0)) else none) else (bif Nat.beq pc 23 then some (.inl (oS 1 (s_push (.int 0)))) else none)) else (bif Nat.ble pc 24 then (bif Nat.beq pc 24 then some (.inl (oS 1 s_dup2)) else none) else (bif Nat.ble pc 25 then (bif Nat.beq pc 25 then some (.inl (o_iald)) else none) else (bif Nat.beq pc 26 then some (.inl (oS 1 (s_push (.int 1)))) else none)))))) else (bif Nat.ble pc 38 then (bif Nat.ble pc 31 then (bif Nat.ble pc 28 then (bif Nat.ble pc 27 then (bif Nat.beq pc 27 then some (.inl (oS 1 (s_ii (fun a b => a - b)))) else none) else (bif Nat.beq pc 28 then some (.inl (o_iast)) else none)) else (bif Nat.ble pc 29 then (bif Nat.beq pc 29 then some (.inl (o_il 2 1)) else none) else (bif Nat.ble pc 30 then (bif Nat.beq pc 30 then some (.inl (o_is 3 1)) else none) else (bif Nat.beq pc 31 then some (.inl (o_il 3 1)) else none)))) else (bif Nat.ble pc 33 then (bif Nat.ble pc 32 then (bif Nat.beq pc 32 then some (.inl (o_al 0 1)) else none) else (bif Nat.beq pc 33 then some (.inl (o_gP 11 0)) else none)) else (bif Nat.ble pc 36 then (bif Nat.beq pc 36 then some (.inl (oS 1 (s_push (.int 0)))) else none) else (bif Nat.ble pc 37 then (bif Nat.beq pc 37 then some (.inl (o_iald)) else none) else (bif Nat.beq pc 38 then some (.inl (o_cge 55)) else none))))) else (bif Nat.ble pc 45 then (bif Nat.ble pc 42 then (bif Nat.ble pc 41 then (bif Nat.beq pc 41 then some (.inl (o_al 0 1)) else none) else (bif Nat.beq pc 42 then some (.inl (o_il 3 1)) else none)) else (bif Nat.ble pc 43 then (bif Nat.beq pc 43 then some (.inl (oS 1 (s_push (.int 1)))) else none) else (bif Nat.ble pc 44 then (bif Nat.beq pc 44 then some (.inl (oS 1 (s_ii (fun a b => a + b)))) else none) else (bif Nat.beq pc 45 then some (.inl (o_il 3 1)) else none)))) else (bif Nat.ble pc 49 then (bif Nat.ble pc 46 then (bif Nat.beq pc 46 then some (.inr (3, 126, 3, 11)) else none) else (bif Nat.beq pc 49 then some (.inl (o_inc 3 1)) else none)) else (bif Nat.ble pc 52 then (bif Nat.beq pc 52 then some (.inl (o_goto 31)) else none) else (bif Nat.ble pc 55 then (bif Nat.beq pc 55 then some (.inl (oS 1 (s_push (.int 1)))) else none) else (bif Nat.beq pc 56 then some (.inr (0, 0, 0, 4)) else none))))))
theorem k_128_0 : mOk M_128.1 M_128.2.1 M_128.2.2.1 M_128.2.2.2 0 (o_al 0 1) := ok_aload_n dX11_drop_0 rfl
theorem k_128_1 : mOk M_128.1 M_128.2.1 M_128.2.2.1 M_128.2.2.2 1 (oS 1 (s_push (.int 0))) := ok_iconst dX11_drop_1 (by decide)
theorem k_128_2 : mOk M_128.1 M_128.2.1 M_128.2.2.1 M_128.2.2.2 2 (o_pI 11 13) := ok_pI dX11_drop_2 (mFw_of f_RX11_133_c (Or.inl rfl)) rfl
theorem k_128_5 : mOk M_128.1 M_128.2.1 M_128.2.2.1 M_128.2.2.2 5 (o_al 0 1) := ok_aload_n dX11_drop_5 rfl
theorem k_128_6 : mOk M_128.1 M_128.2.1 M_128.2.2.1 M_128.2.2.2 6 (oS 1 (s_push (.int 0))) := ok_iconst dX11_drop_6 (by decide)
theorem k_128_7 : mOk M_128.1 M_128.2.1 M_128.2.2.1 M_128.2.2.2 7 (o_il 1 1) := ok_iload_n dX11_drop_7 rfl
theorem k_128_11 : mOk M_128.1 M_128.2.1 M_128.2.2.1 M_128.2.2.2 11 (o_is 2 1) := ok_istore_n dX11_drop_11 rfl
theorem k_128_12 : mOk M_128.1 M_128.2.1 M_128.2.2.1 M_128.2.2.2 12 (o_il 2 1) := ok_iload_n dX11_drop_12 rfl
theorem k_128_13 : mOk M_128.1 M_128.2.1 M_128.2.2.1 M_128.2.2.2 13 (oS 1 (s_push (.int (-1)))) := ok_iconst dX11_drop_13 (by decide)
theorem k_128_14 : mOk M_128.1 M_128.2.1 M_128.2.2.1 M_128.2.2.2 14 (o_cne 19) := ok_cne dX11_drop_14 (by decide)
theorem k_128_17 : mOk M_128.1 M_128.2.1 M_128.2.2.1 M_128.2.2.2 17 (oS 1 (s_push (.int 0))) := ok_iconst dX11_drop_17 (by decide)
theorem k_128_19 : mOk M_128.1 M_128.2.1 M_128.2.2.1 M_128.2.2.2 19 (o_al 0 1) := ok_aload_n dX11_drop_19 rfl
theorem k_128_20 : mOk M_128.1 M_128.2.1 M_128.2.2.1 M_128.2.2.2 20 (o_gP 11 0) := ok_gP dX11_drop_20 f_RX11_7 rfl
theorem k_128_23 : mOk M_128.1 M_128.2.1 M_128.2.2.1 M_128.2.2.2 23 (oS 1 (s_push (.int 0))) := ok_iconst dX11_drop_23 (by decide)
theorem k_128_24 : mOk M_128.1 M_128.2.1 M_128.2.2.1 M_128.2.2.2 24 (oS 1 s_dup2) := ok_dup2 dX11_drop_24
theorem k_128_25 : mOk M_128.1 M_128.2.1 M_128.2.2.1 M_128.2.2.2 25 (o_iald) := ok_iald dX11_drop_25
theorem k_128_26 : mOk M_128.1 M_128.2.1 M_128.2.2.1 M_128.2.2.2 26 (oS 1 (s_push (.int 1))) := ok_iconst dX11_drop_26 (by decide)
theorem k_128_27 : mOk M_128.1 M_128.2.1 M_128.2.2.1 M_128.2.2.2 27 (oS 1 (s_ii (fun a b => a - b))) := ok_isub dX11_drop_27
theorem k_128_28 : mOk M_128.1 M_128.2.1 M_128.2.2.1 M_128.2.2.2 28 (o_iast) := ok_iast dX11_drop_28
theorem k_128_29 : mOk M_128.1 M_128.2.1 M_128.2.2.1 M_128.2.2.2 29 (o_il 2 1) := ok_iload_n dX11_drop_29 rfl
theorem k_128_30 : mOk M_128.1 M_128.2.1 M_128.2.2.1 M_128.2.2.2 30 (o_is 3 1) := ok_istore_n dX11_drop_30 rfl
theorem k_128_31 : mOk M_128.1 M_128.2.1 M_128.2.2.1 M_128.2.2.2 31 (o_il 3 1) := ok_iload_n dX11_drop_31 rfl
theorem k_128_32 : mOk M_128.1 M_128.2.1 M_128.2.2.1 M_128.2.2.2 32 (o_al 0 1) := ok_aload_n dX11_drop_32 rfl
theorem k_128_33 : mOk M_128.1 M_128.2.1 M_128.2.2.1 M_128.2.2.2 33 (o_gP 11 0) := ok_gP dX11_drop_33 f_RX11_7 rfl
theorem k_128_36 : mOk M_128.1 M_128.2.1 M_128.2.2.1 M_128.2.2.2 36 (oS 1 (s_push (.int 0))) := ok_iconst dX11_drop_36 (by decide)
theorem k_128_37 : mOk M_128.1 M_128.2.1 M_128.2.2.1 M_128.2.2.2 37 (o_iald) := ok_iald dX11_drop_37
theorem k_128_38 : mOk M_128.1 M_128.2.1 M_128.2.2.1 M_128.2.2.2 38 (o_cge 55) := ok_cge dX11_drop_38 (by decide)
theorem k_128_41 : mOk M_128.1 M_128.2.1 M_128.2.2.1 M_128.2.2.2 41 (o_al 0 1) := ok_aload_n dX11_drop_41 rfl
theorem k_128_42 : mOk M_128.1 M_128.2.1 M_128.2.2.1 M_128.2.2.2 42 (o_il 3 1) := ok_iload_n dX11_drop_42 rfl
theorem k_128_43 : mOk M_128.1 M_128.2.1 M_128.2.2.1 M_128.2.2.2 43 (oS 1 (s_push (.int 1))) := ok_iconst dX11_drop_43 (by decide)
theorem k_128_44 : mOk M_128.1 M_128.2.1 M_128.2.2.1 M_128.2.2.2 44 (oS 1 (s_ii (fun a b => a + b))) := ok_iadd dX11_drop_44
theorem k_128_45 : mOk M_128.1 M_128.2.1 M_128.2.2.1 M_128.2.2.2 45 (o_il 3 1) := ok_iload_n dX11_drop_45 rfl
theorem k_128_49 : mOk M_128.1 M_128.2.1 M_128.2.2.1 M_128.2.2.2 49 (o_inc 3 1) := ok_iinc dX11_drop_49 (by decide)
theorem k_128_52 : mOk M_128.1 M_128.2.1 M_128.2.2.1 M_128.2.2.2 52 (o_goto 31) := ok_goto dX11_drop_52 (by decide)
theorem k_128_55 : mOk M_128.1 M_128.2.1 M_128.2.2.1 M_128.2.2.2 55 (oS 1 (s_push (.int 1))) := ok_iconst dX11_drop_55 (by decide)
set_option maxRecDepth 20000 in
set_option maxHeartbeats 4000000 in
theorem tk_128 (l : Launch) (H9 : mThr l) (H10 : mSpl l) (pc : Nat) (q : mEnt) (h : tb_128 pc = some q) : EE l 128 pc q := nd h (fun h => nd h (fun h => nd h (fun h => nd h (fun h => nd h (fun h => lf (P := EE l 128) h k_128_0) (fun h => lf (P := EE l 128) h k_128_1)) (fun h => nd h (fun h => lf (P := EE l 128) h k_128_2) (fun h => lf (P := EE l 128) h k_128_5))) (fun h => nd h (fun h => nd h (fun h => lf (P := EE l 128) h k_128_6) (fun h => lf (P := EE l 128) h k_128_7)) (fun h => nd h (fun h => lf (P := EE l 128) h (EE_ca (by decide) (⟨m_1256, m_81, ⟨by decide, by decide⟩, by decide +kernel, ⟨by decide, by decide⟩, 174, 2, by decide +kernel, Or.inr (Or.inr (Or.inl ⟨rfl, rfl, dX11_drop_8, m_1253, m_1255, _, rfl, by decide, m_34⟩))⟩) rfl)) (fun h => nd h (fun h => lf (P := EE l 128) h k_128_11) (fun h => lf (P := EE l 128) h k_128_12))))) (fun h => nd h (fun h => nd h (fun h => nd h (fun h => lf (P := EE l 128) h k_128_13) (fun h => lf (P := EE l 128) h k_128_14)) (fun h => nd h (fun h => lf (P := EE l 128) h k_128_17) (fun h => nd h (fun h => lf (P := EE l 128) h (EE_re (Or.inr (Or.inl ⟨rfl, dX11_drop_18, rfl⟩)))) (fun h => lf (P := EE l 128) h k_128_19)))) (fun h => nd h (fun h => nd h (fun h => lf (P := EE l 128) h k_128_20) (fun h => lf (P := EE l 128) h k_128_23)) (fun h => nd h (fun h => lf (P := EE l 128) h k_128_24) (fun h => nd h (fun h => lf (P := EE l 128) h k_128_25) (fun h => lf (P := EE l 128) h k_128_26)))))) (fun h => nd h (fun h => nd h (fun h => nd h (fun h => nd h (fun h => lf (P := EE l 128) h k_128_27) (fun h => lf (P := EE l 128) h k_128_28)) (fun h => nd h (fun h => lf (P := EE l 128) h k_128_29) (fun h => nd h (fun h => lf (P := EE l 128) h k_128_30) (fun h => lf (P := EE l 128) h k_128_31)))) (fun h => nd h (fun h => nd h (fun h => lf (P := EE l 128) h k_128_32) (fun h => lf (P := EE l 128) h k_128_33)) (fun h => nd h (fun h => lf (P := EE l 128) h k_128_36) (fun h => nd h (fun h => lf (P := EE l 128) h k_128_37) (fun h => lf (P := EE l 128) h k_128_38))))) (fun h => nd h (fun h => nd h (fun h => nd h (fun h => lf (P := EE l 128) h k_128_41) (fun h => lf (P := EE l 128) h k_128_42)) (fun h => nd h (fun h => lf (P := EE l 128) h k_128_43) (fun h => nd h (fun h => lf (P := EE l 128) h k_128_44) (fun h => lf (P := EE l 128) h k_128_45)))) (fun h => nd h (fun h => nd h (fun h => lf (P := EE l 128) h (EE_ca (by decide) (⟨m_1260, m_81, ⟨by decide, by decide⟩, by decide +kernel, ⟨by decide, by decide⟩, 178, 2, by decide +kernel, Or.inr (Or.inr (Or.inl ⟨rfl, rfl, dX11_drop_46, m_1257, m_1259, _, rfl, by decide, m_35⟩))⟩) rfl)) (fun h => lf (P := EE l 128) h k_128_49)) (fun h => nd h (fun h => lf (P := EE l 128) h k_128_52) (fun h => nd h (fun h => lf (P := EE l 128) h k_128_55) (fun h => lf (P := EE l 128) h (EE_re (Or.inr (Or.inl ⟨rfl, dX11_drop_56, rfl⟩)))))))))
theorem dX11_edition_0 : decode cX11_edition 0 = .ok (.aload_n 0, 1) := by decide +kernel
theorem dX11_edition_1 : decode cX11_edition 1 = .ok (.iconst 0, 1) := by decide +kernel
theorem dX11_edition_2 : decode cX11_edition 2 = .ok (.putfield 133, 3) := by decide +kernel
theorem dX11_edition_5 : decode cX11_edition 5 = .ok (.aload_n 0, 1) := by decide +kernel
theorem dX11_edition_6 : decode cX11_edition 6 = .ok (.dup, 1) := by decide +kernel
theorem dX11_edition_7 : decode cX11_edition 7 = .ok (.getfield 182, 3) := by decide +kernel
theorem dX11_edition_10 : decode cX11_edition 10 = .ok (.iconst 1, 1) := by decide +kernel
theorem dX11_edition_11 : decode cX11_edition 11 = .ok (.iadd, 1) := by decide +kernel
theorem dX11_edition_12 : decode cX11_edition 12 = .ok (.putfield 182, 3) := by decide +kernel
theorem dX11_edition_15 : decode cX11_edition 15 = .ok (.iconst 1, 1) := by decide +kernel
theorem dX11_edition_16 : decode cX11_edition 16 = .ok (.aload_n 0, 1) := by decide +kernel
theorem dX11_edition_17 : decode cX11_edition 17 = .ok (.getfield 182, 3) := by decide +kernel
theorem dX11_edition_20 : decode cX11_edition 20 = .ok (.iconst 2, 1) := by decide +kernel
theorem dX11_edition_21 : decode cX11_edition 21 = .ok (.irem, 1) := by decide +kernel
theorem dX11_edition_22 : decode cX11_edition 22 = .ok (.iadd, 1) := by decide +kernel
theorem dX11_edition_23 : decode cX11_edition 23 = .ok (.istore_n 1, 1) := by decide +kernel
theorem dX11_edition_24 : decode cX11_edition 24 = .ok (.aload_n 0, 1) := by decide +kernel
theorem dX11_edition_25 : decode cX11_edition 25 = .ok (.getfield 7, 3) := by decide +kernel
theorem dX11_edition_28 : decode cX11_edition 28 = .ok (.iload_n 1, 1) := by decide +kernel
theorem dX11_edition_29 : decode cX11_edition 29 = .ok (.aload_n 0, 1) := by decide +kernel
theorem dX11_edition_30 : decode cX11_edition 30 = .ok (.getfield 7, 3) := by decide +kernel
theorem dX11_edition_33 : decode cX11_edition 33 = .ok (.iconst 0, 1) := by decide +kernel
theorem dX11_edition_34 : decode cX11_edition 34 = .ok (.iaload, 1) := by decide +kernel
theorem dX11_edition_35 : decode cX11_edition 35 = .ok (.iastore, 1) := by decide +kernel
theorem dX11_edition_36 : decode cX11_edition 36 = .ok (.iconst 0, 1) := by decide +kernel
theorem dX11_edition_37 : decode cX11_edition 37 = .ok (.istore_n 2, 1) := by decide +kernel
theorem dX11_edition_38 : decode cX11_edition 38 = .ok (.iload_n 2, 1) := by decide +kernel
theorem dX11_edition_39 : decode cX11_edition 39 = .ok (.aload_n 0, 1) := by decide +kernel
theorem dX11_edition_40 : decode cX11_edition 40 = .ok (.getfield 7, 3) := by decide +kernel
theorem dX11_edition_43 : decode cX11_edition 43 = .ok (.iconst 0, 1) := by decide +kernel
theorem dX11_edition_44 : decode cX11_edition 44 = .ok (.iaload, 1) := by decide +kernel
theorem dX11_edition_45 : decode cX11_edition 45 = .ok (.if_icmp .ge 20, 3) := by decide +kernel
theorem dX11_edition_48 : decode cX11_edition 48 = .ok (.aload_n 0, 1) := by decide +kernel
theorem dX11_edition_49 : decode cX11_edition 49 = .ok (.iload_n 2, 1) := by decide +kernel
theorem dX11_edition_50 : decode cX11_edition 50 = .ok (.bipush 24, 2) := by decide +kernel
theorem dX11_edition_52 : decode cX11_edition 52 = .ok (.iload_n 1, 1) := by decide +kernel
theorem dX11_edition_53 : decode cX11_edition 53 = .ok (.imul, 1) := by decide +kernel
theorem dX11_edition_54 : decode cX11_edition 54 = .ok (.iload_n 2, 1) := by decide +kernel
theorem dX11_edition_55 : decode cX11_edition 55 = .ok (.iadd, 1) := by decide +kernel
theorem dX11_edition_56 : decode cX11_edition 56 = .ok (.invokevirtual 178, 3) := by decide +kernel
theorem dX11_edition_59 : decode cX11_edition 59 = .ok (.iinc 2 1, 3) := by decide +kernel
theorem dX11_edition_62 : decode cX11_edition 62 = .ok (.goto (-24), 3) := by decide +kernel
theorem dX11_edition_65 : decode cX11_edition 65 = .ok (.aload_n 0, 1) := by decide +kernel
theorem dX11_edition_66 : decode cX11_edition 66 = .ok (.getfield 182, 3) := by decide +kernel
theorem dX11_edition_69 : decode cX11_edition 69 = .ok (.ireturn, 1) := by decide +kernel
def tb_129 (pc : Nat) : Option mEnt := bif Nat.ble pc 33 then (bif Nat.ble pc 16 then (bif Nat.ble pc 6 then (bif Nat.ble pc 1 then (bif Nat.ble pc 0 then (bif Nat.beq pc 0 then some (.inl (o_al 0 1)) else none) else (bif Nat.beq pc 1 then some (.inl (oS 1 (s_push (.int 0)))) else none)) else (bif Nat.ble pc 2 then (bif Nat.beq pc 2 then some (.inl (o_pI 11 13)) else none) else (bif Nat.ble pc 5 then (bif Nat.beq pc 5 then some (.inl (o_al 0 1)) else none) else (bif Nat.beq pc 6 then some (.inl (oS 1 s_dup)) else none)))) else (bif Nat.ble pc 11 then (bif Nat.ble pc 7 then (bif Nat.beq pc 7 then some (.inl (o_gI 11 9)) else none) else (bif Nat.ble pc 10 then (bif Nat.beq pc 10 then some (.inl (oS 1 (s_push (.int 1)))) else none) else (bif Nat.beq pc 11 then some (.inl (oS 1 (s_ii (fun a b => a + b)))) else none))) else (bif Nat.ble pc 12 then (bif Nat.beq pc 12 then some (.inl (o_pI 11 9)) else none) else (bif Nat.ble pc 15 then (bif Nat.beq pc 15 then some (.inl (oS 1 (s_push (.int 1)))) else none) else (bif Nat.beq pc 16 then some (.inl (o_al 0 1)) else none))))) else (bif Nat.ble pc 23 then (bif Nat.ble pc 20 then (bif Nat.ble pc 17 then (bif Nat.beq pc 17 then some (.inl (o_gI 11 9)) else none) else (bif Nat.beq pc 20 then some (.inl (oS 1 (s_push (.int 2)))) else none)) else (bif Nat.ble pc 21 then (bif Nat.beq pc 21 then some (.inl (oS 1 (s_iiz (fun a b => a - a / b * b)))) else none) else (bif Nat.ble pc 22 then (bif Nat.beq pc 22 then some (.inl (oS 1 (s_ii (fun a b => a + b)))) else none) else (bif Nat.beq pc 23 then some (.inl (o_is 1 1)) else none)))) else (bif Nat.ble pc 28 then (bif Nat.ble pc 24 then (bif Nat.beq pc 24 then some (.inl (o_al 0 1)) else none) else (bif Nat.ble pc 25 then (bif Nat.beq pc 25 then some (.inl (o_gP 11 0)) else none) else (bif Nat.beq pc 28 then some (.inl (o_il 1 1)) else none))) else (bif Nat.ble pc 29 then (bif Nat.beq pc 29 then some (.inl (o_al 0 1)) else none) else (bif Nat.ble pc 30 then (bif Nat.beq pc 30 then some (.inl (o_gP 11 0)) else none) else (bif Nat.beq pc 33 then some (.inl (oS 1 (s_push (.int 0)))) else none)))))) else (bif Nat.ble pc 48 then (bif Nat.ble pc 38 then (bif Nat.ble pc 35 then (bif Nat.ble pc 34 then (bif Nat.beq pc 34 then some (.inl (o_iald)) else none) else (bif Nat.beq pc 35 then some (.inl (o_iast)) else none)) else (bif Nat.ble pc 36 then (bif Nat.beq pc 36 then some (.inl (oS 1 (s_push (.int 0)))) else none) else (bif Nat.ble pc 37 then (bif Nat.beq pc 37 then some (.inl (o_is 2 1)) else none) else (bif Nat.beq pc 38 then some (.inl (o_il 2 1)) else none)))) else (bif Nat.ble pc 43 then (bif Nat.ble pc 39 then (bif Nat.beq pc 39 then some (.inl (o_al 0 1)) else none) else (bif Nat.ble pc 40 then (bif Nat.beq pc 40 then some (.inl (o_gP 11 0)) else none) else (bif Nat.beq pc 43 then some (.inl (oS 1 (s_push (.int 0)))) else none))) else (bif Nat.ble pc 44 then (bif Nat.beq pc 44 then some (.inl (o_iald)) else none) else (bif Nat.ble pc 45 then (bif Nat.beq pc 45 then some (.inl (o_cge 65)) else none) else (bif Nat.beq pc 48 then some (.inl (o_al 0 1)) else none))))) else (bif Nat.ble pc 55 then (bif Nat.ble pc 52 then (bif Nat.ble pc 49 then (bif Nat.beq pc 49 then some (.inl (o_il 2 1)) else none) else (bif Nat.ble pc 50 then (bif Nat.beq pc 50 then some (.inl (oS 2 (s_push (.int 24)))) else none) else (bif Nat.beq pc 52 then some (.inl (o_il 1 1)) else none))) else (bif Nat.ble pc 53 then (bif Nat.beq pc 53 then some (.inl (oS 1 (s_ii (fun a b => a * b)))) else none) else (bif Nat.ble pc 54 then (bif Nat.beq pc 54 then some (.inl (o_il 2 1)) else none) else (bif Nat.beq pc 55 then some (.inl (oS 1 (s_ii (fun a b => a + b)))) else none)))) else (bif Nat.ble pc 62 then (bif Nat.ble pc 56 then (bif Nat.beq pc 56 then some (.inr (3, 126, 3, 11)) else none) else (bif Nat.ble pc 59 then (bif Nat.beq pc 59 then some (.inl (o_inc 2 1)) else none) else (bif Nat.beq pc 62 then some (.inl (o_goto 38)) else none))) else (bif Nat.ble pc 65 then (bif Nat.beq pc 65 then some (.inl (o_al 0 1)) else none) else (bif Nat.ble pc 66 then (bif Nat.beq pc 66 then some (.inl (o_gI 11 9)) else none) else (bif Nat.beq pc 69 then some (.inr (0, 0, 0, 0)) else none))))))
theorem k_129_0 : mOk M_129.1 M_129.2.1 M_129.2.2.1 M_129.2.2.2 0 (o_al 0 1) := ok_aload_n dX11_edition_0 rfl
theorem k_129_1 : mOk M_129.1 M_129.2.1 M_129.2.2.1 M_129.2.2.2 1 (oS 1 (s_push (.int 0))) := ok_iconst dX11_edition_1 (by decide)
theorem k_129_2 : mOk M_129.1 M_129.2.1 M_129.2.2.1 M_129.2.2.2 2 (o_pI 11 13) := ok_pI dX11_edition_2 (mFw_of f_RX11_133_c (Or.inl rfl)) rfl
theorem k_129_5 : mOk M_129.1 M_129.2.1 M_129.2.2.1 M_129.2.2.2 5 (o_al 0 1) := ok_aload_n dX11_edition_5 rfl
theorem k_129_6 : mOk M_129.1 M_129.2.1 M_129.2.2.1 M_129.2.2.2 6 (oS 1 s_dup) := ok_dup dX11_edition_6
theorem k_129_7 : mOk M_129.1 M_129.2.1 M_129.2.2.1 M_129.2.2.2 7 (o_gI 11 9) := ok_gI dX11_edition_7 f_RX11_182 (Or.inl rfl)
theorem k_129_10 : mOk M_129.1 M_129.2.1 M_129.2.2.1 M_129.2.2.2 10 (oS 1 (s_push (.int 1))) := ok_iconst dX11_edition_10 (by decide)
theorem k_129_11 : mOk M_129.1 M_129.2.1 M_129.2.2.1 M_129.2.2.2 11 (oS 1 (s_ii (fun a b => a + b))) := ok_iadd dX11_edition_11
theorem k_129_12 : mOk M_129.1 M_129.2.1 M_129.2.2.1 M_129.2.2.2 12 (o_pI 11 9) := ok_pI dX11_edition_12 (mFw_of f_RX11_182_c (Or.inl rfl)) rfl
theorem k_129_15 : mOk M_129.1 M_129.2.1 M_129.2.2.1 M_129.2.2.2 15 (oS 1 (s_push (.int 1))) := ok_iconst dX11_edition_15 (by decide)
theorem k_129_16 : mOk M_129.1 M_129.2.1 M_129.2.2.1 M_129.2.2.2 16 (o_al 0 1) := ok_aload_n dX11_edition_16 rfl
theorem k_129_17 : mOk M_129.1 M_129.2.1 M_129.2.2.1 M_129.2.2.2 17 (o_gI 11 9) := ok_gI dX11_edition_17 f_RX11_182 (Or.inl rfl)
theorem k_129_20 : mOk M_129.1 M_129.2.1 M_129.2.2.1 M_129.2.2.2 20 (oS 1 (s_push (.int 2))) := ok_iconst dX11_edition_20 (by decide)
theorem k_129_21 : mOk M_129.1 M_129.2.1 M_129.2.2.1 M_129.2.2.2 21 (oS 1 (s_iiz (fun a b => a - a / b * b))) := ok_irem dX11_edition_21
theorem k_129_22 : mOk M_129.1 M_129.2.1 M_129.2.2.1 M_129.2.2.2 22 (oS 1 (s_ii (fun a b => a + b))) := ok_iadd dX11_edition_22
theorem k_129_23 : mOk M_129.1 M_129.2.1 M_129.2.2.1 M_129.2.2.2 23 (o_is 1 1) := ok_istore_n dX11_edition_23 rfl
theorem k_129_24 : mOk M_129.1 M_129.2.1 M_129.2.2.1 M_129.2.2.2 24 (o_al 0 1) := ok_aload_n dX11_edition_24 rfl
theorem k_129_25 : mOk M_129.1 M_129.2.1 M_129.2.2.1 M_129.2.2.2 25 (o_gP 11 0) := ok_gP dX11_edition_25 f_RX11_7 rfl
theorem k_129_28 : mOk M_129.1 M_129.2.1 M_129.2.2.1 M_129.2.2.2 28 (o_il 1 1) := ok_iload_n dX11_edition_28 rfl
theorem k_129_29 : mOk M_129.1 M_129.2.1 M_129.2.2.1 M_129.2.2.2 29 (o_al 0 1) := ok_aload_n dX11_edition_29 rfl
theorem k_129_30 : mOk M_129.1 M_129.2.1 M_129.2.2.1 M_129.2.2.2 30 (o_gP 11 0) := ok_gP dX11_edition_30 f_RX11_7 rfl
theorem k_129_33 : mOk M_129.1 M_129.2.1 M_129.2.2.1 M_129.2.2.2 33 (oS 1 (s_push (.int 0))) := ok_iconst dX11_edition_33 (by decide)
theorem k_129_34 : mOk M_129.1 M_129.2.1 M_129.2.2.1 M_129.2.2.2 34 (o_iald) := ok_iald dX11_edition_34
theorem k_129_35 : mOk M_129.1 M_129.2.1 M_129.2.2.1 M_129.2.2.2 35 (o_iast) := ok_iast dX11_edition_35
theorem k_129_36 : mOk M_129.1 M_129.2.1 M_129.2.2.1 M_129.2.2.2 36 (oS 1 (s_push (.int 0))) := ok_iconst dX11_edition_36 (by decide)
theorem k_129_37 : mOk M_129.1 M_129.2.1 M_129.2.2.1 M_129.2.2.2 37 (o_is 2 1) := ok_istore_n dX11_edition_37 rfl
theorem k_129_38 : mOk M_129.1 M_129.2.1 M_129.2.2.1 M_129.2.2.2 38 (o_il 2 1) := ok_iload_n dX11_edition_38 rfl
theorem k_129_39 : mOk M_129.1 M_129.2.1 M_129.2.2.1 M_129.2.2.2 39 (o_al 0 1) := ok_aload_n dX11_edition_39 rfl
theorem k_129_40 : mOk M_129.1 M_129.2.1 M_129.2.2.1 M_129.2.2.2 40 (o_gP 11 0) := ok_gP dX11_edition_40 f_RX11_7 rfl
theorem k_129_43 : mOk M_129.1 M_129.2.1 M_129.2.2.1 M_129.2.2.2 43 (oS 1 (s_push (.int 0))) := ok_iconst dX11_edition_43 (by decide)
theorem k_129_44 : mOk M_129.1 M_129.2.1 M_129.2.2.1 M_129.2.2.2 44 (o_iald) := ok_iald dX11_edition_44
theorem k_129_45 : mOk M_129.1 M_129.2.1 M_129.2.2.1 M_129.2.2.2 45 (o_cge 65) := ok_cge dX11_edition_45 (by decide)
theorem k_129_48 : mOk M_129.1 M_129.2.1 M_129.2.2.1 M_129.2.2.2 48 (o_al 0 1) := ok_aload_n dX11_edition_48 rfl
theorem k_129_49 : mOk M_129.1 M_129.2.1 M_129.2.2.1 M_129.2.2.2 49 (o_il 2 1) := ok_iload_n dX11_edition_49 rfl
theorem k_129_50 : mOk M_129.1 M_129.2.1 M_129.2.2.1 M_129.2.2.2 50 (oS 2 (s_push (.int 24))) := ok_bipush dX11_edition_50 (by decide)
theorem k_129_52 : mOk M_129.1 M_129.2.1 M_129.2.2.1 M_129.2.2.2 52 (o_il 1 1) := ok_iload_n dX11_edition_52 rfl
theorem k_129_53 : mOk M_129.1 M_129.2.1 M_129.2.2.1 M_129.2.2.2 53 (oS 1 (s_ii (fun a b => a * b))) := ok_imul dX11_edition_53
theorem k_129_54 : mOk M_129.1 M_129.2.1 M_129.2.2.1 M_129.2.2.2 54 (o_il 2 1) := ok_iload_n dX11_edition_54 rfl
theorem k_129_55 : mOk M_129.1 M_129.2.1 M_129.2.2.1 M_129.2.2.2 55 (oS 1 (s_ii (fun a b => a + b))) := ok_iadd dX11_edition_55
theorem k_129_59 : mOk M_129.1 M_129.2.1 M_129.2.2.1 M_129.2.2.2 59 (o_inc 2 1) := ok_iinc dX11_edition_59 (by decide)
theorem k_129_62 : mOk M_129.1 M_129.2.1 M_129.2.2.1 M_129.2.2.2 62 (o_goto 38) := ok_goto dX11_edition_62 (by decide)
theorem k_129_65 : mOk M_129.1 M_129.2.1 M_129.2.2.1 M_129.2.2.2 65 (o_al 0 1) := ok_aload_n dX11_edition_65 rfl
theorem k_129_66 : mOk M_129.1 M_129.2.1 M_129.2.2.1 M_129.2.2.2 66 (o_gI 11 9) := ok_gI dX11_edition_66 f_RX11_182 (Or.inl rfl)
set_option maxRecDepth 20000 in
set_option maxHeartbeats 4000000 in
theorem tk_129 (l : Launch) (H9 : mThr l) (H10 : mSpl l) (pc : Nat) (q : mEnt) (h : tb_129 pc = some q) : EE l 129 pc q := nd h (fun h => nd h (fun h => nd h (fun h => nd h (fun h => nd h (fun h => lf (P := EE l 129) h k_129_0) (fun h => lf (P := EE l 129) h k_129_1)) (fun h => nd h (fun h => lf (P := EE l 129) h k_129_2) (fun h => nd h (fun h => lf (P := EE l 129) h k_129_5) (fun h => lf (P := EE l 129) h k_129_6)))) (fun h => nd h (fun h => nd h (fun h => lf (P := EE l 129) h k_129_7) (fun h => nd h (fun h => lf (P := EE l 129) h k_129_10) (fun h => lf (P := EE l 129) h k_129_11))) (fun h => nd h (fun h => lf (P := EE l 129) h k_129_12) (fun h => nd h (fun h => lf (P := EE l 129) h k_129_15) (fun h => lf (P := EE l 129) h k_129_16))))) (fun h => nd h (fun h => nd h (fun h => nd h (fun h => lf (P := EE l 129) h k_129_17) (fun h => lf (P := EE l 129) h k_129_20)) (fun h => nd h (fun h => lf (P := EE l 129) h k_129_21) (fun h => nd h (fun h => lf (P := EE l 129) h k_129_22) (fun h => lf (P := EE l 129) h k_129_23)))) (fun h => nd h (fun h => nd h (fun h => lf (P := EE l 129) h k_129_24) (fun h => nd h (fun h => lf (P := EE l 129) h k_129_25) (fun h => lf (P := EE l 129) h k_129_28))) (fun h => nd h (fun h => lf (P := EE l 129) h k_129_29) (fun h => nd h (fun h => lf (P := EE l 129) h k_129_30) (fun h => lf (P := EE l 129) h k_129_33)))))) (fun h => nd h (fun h => nd h (fun h => nd h (fun h => nd h (fun h => lf (P := EE l 129) h k_129_34) (fun h => lf (P := EE l 129) h k_129_35)) (fun h => nd h (fun h => lf (P := EE l 129) h k_129_36) (fun h => nd h (fun h => lf (P := EE l 129) h k_129_37) (fun h => lf (P := EE l 129) h k_129_38)))) (fun h => nd h (fun h => nd h (fun h => lf (P := EE l 129) h k_129_39) (fun h => nd h (fun h => lf (P := EE l 129) h k_129_40) (fun h => lf (P := EE l 129) h k_129_43))) (fun h => nd h (fun h => lf (P := EE l 129) h k_129_44) (fun h => nd h (fun h => lf (P := EE l 129) h k_129_45) (fun h => lf (P := EE l 129) h k_129_48))))) (fun h => nd h (fun h => nd h (fun h => nd h (fun h => lf (P := EE l 129) h k_129_49) (fun h => nd h (fun h => lf (P := EE l 129) h k_129_50) (fun h => lf (P := EE l 129) h k_129_52))) (fun h => nd h (fun h => lf (P := EE l 129) h k_129_53) (fun h => nd h (fun h => lf (P := EE l 129) h k_129_54) (fun h => lf (P := EE l 129) h k_129_55)))) (fun h => nd h (fun h => nd h (fun h => lf (P := EE l 129) h (EE_ca (by decide) (⟨m_1260, m_81, ⟨by decide, by decide⟩, by decide +kernel, ⟨by decide, by decide⟩, 178, 2, by decide +kernel, Or.inr (Or.inr (Or.inl ⟨rfl, rfl, dX11_edition_56, m_1257, m_1259, _, rfl, by decide, m_35⟩))⟩) rfl)) (fun h => nd h (fun h => lf (P := EE l 129) h k_129_59) (fun h => lf (P := EE l 129) h k_129_62))) (fun h => nd h (fun h => lf (P := EE l 129) h k_129_65) (fun h => nd h (fun h => lf (P := EE l 129) h k_129_66) (fun h => lf (P := EE l 129) h (EE_re (Or.inl ⟨rfl, dX11_edition_69, rfl⟩))))))))
theorem dX11_slotOf_0 : decode cX11_slotOf 0 = .ok (.iload_n 1, 1) := by decide +kernel
theorem dX11_slotOf_1 : decode cX11_slotOf 1 = .ok (.ifCond .ne 7, 3) := by decide +kernel
theorem dX11_slotOf_4 : decode cX11_slotOf 4 = .ok (.iconst 0, 1) := by decide +kernel
theorem dX11_slotOf_5 : decode cX11_slotOf 5 = .ok (.goto 35, 3) := by decide +kernel
theorem dX11_slotOf_8 : decode cX11_slotOf 8 = .ok (.iload_n 1, 1) := by decide +kernel
theorem dX11_slotOf_9 : decode cX11_slotOf 9 = .ok (.iconst 1, 1) := by decide +kernel
theorem dX11_slotOf_10 : decode cX11_slotOf 10 = .ok (.if_icmp .lt 29, 3) := by decide +kernel
theorem dX11_slotOf_13 : decode cX11_slotOf 13 = .ok (.iload_n 1, 1) := by decide +kernel
theorem dX11_slotOf_14 : decode cX11_slotOf 14 = .ok (.aload_n 0, 1) := by decide +kernel
theorem dX11_slotOf_15 : decode cX11_slotOf 15 = .ok (.getfield 182, 3) := by decide +kernel
theorem dX11_slotOf_18 : decode cX11_slotOf 18 = .ok (.if_icmp .gt 21, 3) := by decide +kernel
theorem dX11_slotOf_21 : decode cX11_slotOf 21 = .ok (.iload_n 1, 1) := by decide +kernel
theorem dX11_slotOf_22 : decode cX11_slotOf 22 = .ok (.aload_n 0, 1) := by decide +kernel
theorem dX11_slotOf_23 : decode cX11_slotOf 23 = .ok (.getfield 182, 3) := by decide +kernel
theorem dX11_slotOf_26 : decode cX11_slotOf 26 = .ok (.iconst 2, 1) := by decide +kernel
theorem dX11_slotOf_27 : decode cX11_slotOf 27 = .ok (.isub, 1) := by decide +kernel
theorem dX11_slotOf_28 : decode cX11_slotOf 28 = .ok (.if_icmp .le 11, 3) := by decide +kernel
theorem dX11_slotOf_31 : decode cX11_slotOf 31 = .ok (.iconst 1, 1) := by decide +kernel
theorem dX11_slotOf_32 : decode cX11_slotOf 32 = .ok (.iload_n 1, 1) := by decide +kernel
theorem dX11_slotOf_33 : decode cX11_slotOf 33 = .ok (.iconst 2, 1) := by decide +kernel
theorem dX11_slotOf_34 : decode cX11_slotOf 34 = .ok (.irem, 1) := by decide +kernel
theorem dX11_slotOf_35 : decode cX11_slotOf 35 = .ok (.iadd, 1) := by decide +kernel
theorem dX11_slotOf_36 : decode cX11_slotOf 36 = .ok (.goto 4, 3) := by decide +kernel
theorem dX11_slotOf_39 : decode cX11_slotOf 39 = .ok (.iconst (-1), 1) := by decide +kernel
theorem dX11_slotOf_40 : decode cX11_slotOf 40 = .ok (.ireturn, 1) := by decide +kernel
def tb_130 (pc : Nat) : Option mEnt := bif Nat.ble pc 21 then (bif Nat.ble pc 9 then (bif Nat.ble pc 4 then (bif Nat.ble pc 0 then (bif Nat.beq pc 0 then some (.inl (o_il 1 1)) else none) else (bif Nat.ble pc 1 then (bif Nat.beq pc 1 then some (.inl (o_zne 8)) else none) else (bif Nat.beq pc 4 then some (.inl (oS 1 (s_push (.int 0)))) else none))) else (bif Nat.ble pc 5 then (bif Nat.beq pc 5 then some (.inl (o_goto 40)) else none) else (bif Nat.ble pc 8 then (bif Nat.beq pc 8 then some (.inl (o_il 1 1)) else none) else (bif Nat.beq pc 9 then some (.inl (oS 1 (s_push (.int 1)))) else none)))) else (bif Nat.ble pc 14 then (bif Nat.ble pc 10 then (bif Nat.beq pc 10 then some (.inl (o_clt 39)) else none) else (bif Nat.ble pc 13 then (bif Nat.beq pc 13 then some (.inl (o_il 1 1)) else none) else (bif Nat.beq pc 14 then some (.inl (o_al 0 1)) else none))) else (bif Nat.ble pc 15 then (bif Nat.beq pc 15 then some (.inl (o_gI 11 9)) else none) else (bif Nat.ble pc 18 then (bif Nat.beq pc 18 then some (.inl (o_cgt 39)) else none) else (bif Nat.beq pc 21 then some (.inl (o_il 1 1)) else none))))) else (bif Nat.ble pc 31 then (bif Nat.ble pc 26 then (bif Nat.ble pc 22 then (bif Nat.beq pc 22 then some (.inl (o_al 0 1)) else none) else (bif Nat.ble pc 23 then (bif Nat.beq pc 23 then some (.inl (o_gI 11 9)) else none) else (bif Nat.beq pc 26 then some (.inl (oS 1 (s_push (.int 2)))) else none))) else (bif Nat.ble pc 27 then (bif Nat.beq pc 27 then some (.inl (oS 1 (s_ii (fun a b => a - b)))) else none) else (bif Nat.ble pc 28 then (bif Nat.beq pc 28 then some (.inl (o_cle 39)) else none) else (bif Nat.beq pc 31 then some (.inl (oS 1 (s_push (.int 1)))) else none)))) else (bif Nat.ble pc 34 then (bif Nat.ble pc 32 then (bif Nat.beq pc 32 then some (.inl (o_il 1 1)) else none) else (bif Nat.ble pc 33 then (bif Nat.beq pc 33 then some (.inl (oS 1 (s_push (.int 2)))) else none) else (bif Nat.beq pc 34 then some (.inl (oS 1 (s_iiz (fun a b => a - a / b * b)))) else none))) else (bif Nat.ble pc 36 then (bif Nat.ble pc 35 then (bif Nat.beq pc 35 then some (.inl (oS 1 (s_ii (fun a b => a + b)))) else none) else (bif Nat.beq pc 36 then some (.inl (o_goto 40)) else none)) else (bif Nat.ble pc 39 then (bif Nat.beq pc 39 then some (.inl (oS 1 (s_push (.int (-1))))) else none) else (bif Nat.beq pc 40 then some (.inr (0, 0, 0, 0)) else none)))))
theorem k_130_0 : mOk M_130.1 M_130.2.1 M_130.2.2.1 M_130.2.2.2 0 (o_il 1 1) := ok_iload_n dX11_slotOf_0 rfl
theorem k_130_1 : mOk M_130.1 M_130.2.1 M_130.2.2.1 M_130.2.2.2 1 (o_zne 8) := ok_zne dX11_slotOf_1 (by decide)
theorem k_130_4 : mOk M_130.1 M_130.2.1 M_130.2.2.1 M_130.2.2.2 4 (oS 1 (s_push (.int 0))) := ok_iconst dX11_slotOf_4 (by decide)
theorem k_130_5 : mOk M_130.1 M_130.2.1 M_130.2.2.1 M_130.2.2.2 5 (o_goto 40) := ok_goto dX11_slotOf_5 (by decide)
theorem k_130_8 : mOk M_130.1 M_130.2.1 M_130.2.2.1 M_130.2.2.2 8 (o_il 1 1) := ok_iload_n dX11_slotOf_8 rfl
theorem k_130_9 : mOk M_130.1 M_130.2.1 M_130.2.2.1 M_130.2.2.2 9 (oS 1 (s_push (.int 1))) := ok_iconst dX11_slotOf_9 (by decide)
theorem k_130_10 : mOk M_130.1 M_130.2.1 M_130.2.2.1 M_130.2.2.2 10 (o_clt 39) := ok_clt dX11_slotOf_10 (by decide)
theorem k_130_13 : mOk M_130.1 M_130.2.1 M_130.2.2.1 M_130.2.2.2 13 (o_il 1 1) := ok_iload_n dX11_slotOf_13 rfl
theorem k_130_14 : mOk M_130.1 M_130.2.1 M_130.2.2.1 M_130.2.2.2 14 (o_al 0 1) := ok_aload_n dX11_slotOf_14 rfl
theorem k_130_15 : mOk M_130.1 M_130.2.1 M_130.2.2.1 M_130.2.2.2 15 (o_gI 11 9) := ok_gI dX11_slotOf_15 f_RX11_182 (Or.inl rfl)
theorem k_130_18 : mOk M_130.1 M_130.2.1 M_130.2.2.1 M_130.2.2.2 18 (o_cgt 39) := ok_cgt dX11_slotOf_18 (by decide)
theorem k_130_21 : mOk M_130.1 M_130.2.1 M_130.2.2.1 M_130.2.2.2 21 (o_il 1 1) := ok_iload_n dX11_slotOf_21 rfl
theorem k_130_22 : mOk M_130.1 M_130.2.1 M_130.2.2.1 M_130.2.2.2 22 (o_al 0 1) := ok_aload_n dX11_slotOf_22 rfl
theorem k_130_23 : mOk M_130.1 M_130.2.1 M_130.2.2.1 M_130.2.2.2 23 (o_gI 11 9) := ok_gI dX11_slotOf_23 f_RX11_182 (Or.inl rfl)
theorem k_130_26 : mOk M_130.1 M_130.2.1 M_130.2.2.1 M_130.2.2.2 26 (oS 1 (s_push (.int 2))) := ok_iconst dX11_slotOf_26 (by decide)
theorem k_130_27 : mOk M_130.1 M_130.2.1 M_130.2.2.1 M_130.2.2.2 27 (oS 1 (s_ii (fun a b => a - b))) := ok_isub dX11_slotOf_27
theorem k_130_28 : mOk M_130.1 M_130.2.1 M_130.2.2.1 M_130.2.2.2 28 (o_cle 39) := ok_cle dX11_slotOf_28 (by decide)
theorem k_130_31 : mOk M_130.1 M_130.2.1 M_130.2.2.1 M_130.2.2.2 31 (oS 1 (s_push (.int 1))) := ok_iconst dX11_slotOf_31 (by decide)
theorem k_130_32 : mOk M_130.1 M_130.2.1 M_130.2.2.1 M_130.2.2.2 32 (o_il 1 1) := ok_iload_n dX11_slotOf_32 rfl
theorem k_130_33 : mOk M_130.1 M_130.2.1 M_130.2.2.1 M_130.2.2.2 33 (oS 1 (s_push (.int 2))) := ok_iconst dX11_slotOf_33 (by decide)
theorem k_130_34 : mOk M_130.1 M_130.2.1 M_130.2.2.1 M_130.2.2.2 34 (oS 1 (s_iiz (fun a b => a - a / b * b))) := ok_irem dX11_slotOf_34
theorem k_130_35 : mOk M_130.1 M_130.2.1 M_130.2.2.1 M_130.2.2.2 35 (oS 1 (s_ii (fun a b => a + b))) := ok_iadd dX11_slotOf_35
theorem k_130_36 : mOk M_130.1 M_130.2.1 M_130.2.2.1 M_130.2.2.2 36 (o_goto 40) := ok_goto dX11_slotOf_36 (by decide)
theorem k_130_39 : mOk M_130.1 M_130.2.1 M_130.2.2.1 M_130.2.2.2 39 (oS 1 (s_push (.int (-1)))) := ok_iconst dX11_slotOf_39 (by decide)
set_option maxRecDepth 20000 in
set_option maxHeartbeats 4000000 in
theorem tk_130 (l : Launch) (H9 : mThr l) (H10 : mSpl l) (pc : Nat) (q : mEnt) (h : tb_130 pc = some q) : EE l 130 pc q := nd h (fun h => nd h (fun h => nd h (fun h => nd h (fun h => lf (P := EE l 130) h k_130_0) (fun h => nd h (fun h => lf (P := EE l 130) h k_130_1) (fun h => lf (P := EE l 130) h k_130_4))) (fun h => nd h (fun h => lf (P := EE l 130) h k_130_5) (fun h => nd h (fun h => lf (P := EE l 130) h k_130_8) (fun h => lf (P := EE l 130) h k_130_9)))) (fun h => nd h (fun h => nd h (fun h => lf (P := EE l 130) h k_130_10) (fun h => nd h (fun h => lf (P := EE l 130) h k_130_13) (fun h => lf (P := EE l 130) h k_130_14))) (fun h => nd h (fun h => lf (P := EE l 130) h k_130_15) (fun h => nd h (fun h => lf (P := EE l 130) h k_130_18) (fun h => lf (P := EE l 130) h k_130_21))))) (fun h => nd h (fun h => nd h (fun h => nd h (fun h => lf (P := EE l 130) h k_130_22) (fun h => nd h (fun h => lf (P := EE l 130) h k_130_23) (fun h => lf (P := EE l 130) h k_130_26))) (fun h => nd h (fun h => lf (P := EE l 130) h k_130_27) (fun h => nd h (fun h => lf (P := EE l 130) h k_130_28) (fun h => lf (P := EE l 130) h k_130_31)))) (fun h => nd h (fun h => nd h (fun h => lf (P := EE l 130) h k_130_32) (fun h => nd h (fun h => lf (P := EE l 130) h k_130_33) (fun h => lf (P := EE l 130) h k_130_34))) (fun h => nd h (fun h => nd h (fun h => lf (P := EE l 130) h k_130_35) (fun h => lf (P := EE l 130) h k_130_36)) (fun h => nd h (fun h => lf (P := EE l 130) h k_130_39) (fun h => lf (P := EE l 130) h (EE_re (Or.inl ⟨rfl, dX11_slotOf_40, rfl⟩)))))))
theorem dX11_farness_0 : decode cX11_farness 0 = .ok (.aload_n 0, 1) := by decide +kernel
theorem dX11_farness_1 : decode cX11_farness 1 = .ok (.getfield 112, 3) := by decide +kernel
theorem dX11_farness_4 : decode cX11_farness 4 = .ok (.iload_n 2, 1) := by decide +kernel
theorem dX11_farness_5 : decode cX11_farness 5 = .ok (.iaload, 1) := by decide +kernel
theorem dX11_farness_6 : decode cX11_farness 6 = .ok (.aload_n 0, 1) := by decide +kernel
theorem dX11_farness_7 : decode cX11_farness 7 = .ok (.getfield 112, 3) := by decide +kernel
theorem dX11_farness_10 : decode cX11_farness 10 = .ok (.iload_n 1, 1) := by decide +kernel
theorem dX11_farness_11 : decode cX11_farness 11 = .ok (.iaload, 1) := by decide +kernel
theorem dX11_farness_12 : decode cX11_farness 12 = .ok (.isub, 1) := by decide +kernel
theorem dX11_farness_13 : decode cX11_farness 13 = .ok (.i2l, 1) := by decide +kernel
theorem dX11_farness_14 : decode cX11_farness 14 = .ok (.lstore 4, 2) := by decide +kernel
theorem dX11_farness_16 : decode cX11_farness 16 = .ok (.aload_n 0, 1) := by decide +kernel
theorem dX11_farness_17 : decode cX11_farness 17 = .ok (.getfield 115, 3) := by decide +kernel
theorem dX11_farness_20 : decode cX11_farness 20 = .ok (.iload_n 2, 1) := by decide +kernel
theorem dX11_farness_21 : decode cX11_farness 21 = .ok (.iaload, 1) := by decide +kernel
theorem dX11_farness_22 : decode cX11_farness 22 = .ok (.aload_n 0, 1) := by decide +kernel
theorem dX11_farness_23 : decode cX11_farness 23 = .ok (.getfield 115, 3) := by decide +kernel
theorem dX11_farness_26 : decode cX11_farness 26 = .ok (.iload_n 1, 1) := by decide +kernel
theorem dX11_farness_27 : decode cX11_farness 27 = .ok (.iaload, 1) := by decide +kernel
theorem dX11_farness_28 : decode cX11_farness 28 = .ok (.isub, 1) := by decide +kernel
theorem dX11_farness_29 : decode cX11_farness 29 = .ok (.i2l, 1) := by decide +kernel
theorem dX11_farness_30 : decode cX11_farness 30 = .ok (.lstore 6, 2) := by decide +kernel
theorem dX11_farness_32 : decode cX11_farness 32 = .ok (.aload_n 0, 1) := by decide +kernel
theorem dX11_farness_33 : decode cX11_farness 33 = .ok (.getfield 112, 3) := by decide +kernel
theorem dX11_farness_36 : decode cX11_farness 36 = .ok (.iload_n 3, 1) := by decide +kernel
theorem dX11_farness_37 : decode cX11_farness 37 = .ok (.iaload, 1) := by decide +kernel
theorem dX11_farness_38 : decode cX11_farness 38 = .ok (.aload_n 0, 1) := by decide +kernel
theorem dX11_farness_39 : decode cX11_farness 39 = .ok (.getfield 112, 3) := by decide +kernel
theorem dX11_farness_42 : decode cX11_farness 42 = .ok (.iload_n 1, 1) := by decide +kernel
theorem dX11_farness_43 : decode cX11_farness 43 = .ok (.iaload, 1) := by decide +kernel
theorem dX11_farness_44 : decode cX11_farness 44 = .ok (.isub, 1) := by decide +kernel
theorem dX11_farness_45 : decode cX11_farness 45 = .ok (.i2l, 1) := by decide +kernel
theorem dX11_farness_46 : decode cX11_farness 46 = .ok (.lstore 8, 2) := by decide +kernel
theorem dX11_farness_48 : decode cX11_farness 48 = .ok (.aload_n 0, 1) := by decide +kernel
theorem dX11_farness_49 : decode cX11_farness 49 = .ok (.getfield 115, 3) := by decide +kernel
theorem dX11_farness_52 : decode cX11_farness 52 = .ok (.iload_n 3, 1) := by decide +kernel
theorem dX11_farness_53 : decode cX11_farness 53 = .ok (.iaload, 1) := by decide +kernel
theorem dX11_farness_54 : decode cX11_farness 54 = .ok (.aload_n 0, 1) := by decide +kernel
theorem dX11_farness_55 : decode cX11_farness 55 = .ok (.getfield 115, 3) := by decide +kernel
theorem dX11_farness_58 : decode cX11_farness 58 = .ok (.iload_n 1, 1) := by decide +kernel
theorem dX11_farness_59 : decode cX11_farness 59 = .ok (.iaload, 1) := by decide +kernel
theorem dX11_farness_60 : decode cX11_farness 60 = .ok (.isub, 1) := by decide +kernel
theorem dX11_farness_61 : decode cX11_farness 61 = .ok (.i2l, 1) := by decide +kernel
theorem dX11_farness_62 : decode cX11_farness 62 = .ok (.lstore 10, 2) := by decide +kernel
theorem dX11_farness_64 : decode cX11_farness 64 = .ok (.lload 4, 2) := by decide +kernel
theorem dX11_farness_66 : decode cX11_farness 66 = .ok (.lconst 0, 1) := by decide +kernel
theorem dX11_farness_67 : decode cX11_farness 67 = .ok (.lcmp, 1) := by decide +kernel
theorem dX11_farness_68 : decode cX11_farness 68 = .ok (.ifCond .ne 22, 3) := by decide +kernel
theorem dX11_farness_71 : decode cX11_farness 71 = .ok (.lload 6, 2) := by decide +kernel
theorem dX11_farness_73 : decode cX11_farness 73 = .ok (.lconst 0, 1) := by decide +kernel
theorem dX11_farness_74 : decode cX11_farness 74 = .ok (.lcmp, 1) := by decide +kernel
theorem dX11_farness_75 : decode cX11_farness 75 = .ok (.ifCond .ne 15, 3) := by decide +kernel
theorem dX11_farness_78 : decode cX11_farness 78 = .ok (.lload 8, 2) := by decide +kernel
theorem dX11_farness_80 : decode cX11_farness 80 = .ok (.lload 8, 2) := by decide +kernel
theorem dX11_farness_82 : decode cX11_farness 82 = .ok (.lmul, 1) := by decide +kernel
theorem dX11_farness_83 : decode cX11_farness 83 = .ok (.lload 10, 2) := by decide +kernel
theorem dX11_farness_85 : decode cX11_farness 85 = .ok (.lload 10, 2) := by decide +kernel
theorem dX11_farness_87 : decode cX11_farness 87 = .ok (.lmul, 1) := by decide +kernel
theorem dX11_farness_88 : decode cX11_farness 88 = .ok (.ladd, 1) := by decide +kernel
theorem dX11_farness_89 : decode cX11_farness 89 = .ok (.lreturn, 1) := by decide +kernel
theorem dX11_farness_90 : decode cX11_farness 90 = .ok (.lload 4, 2) := by decide +kernel
theorem dX11_farness_92 : decode cX11_farness 92 = .ok (.lload 6, 2) := by decide +kernel
theorem dX11_farness_94 : decode cX11_farness 94 = .ok (.lload 8, 2) := by decide +kernel
theorem dX11_farness_96 : decode cX11_farness 96 = .ok (.lload 10, 2) := by decide +kernel
theorem dX11_farness_98 : decode cX11_farness 98 = .ok (.invokestatic 148, 3) := by decide +kernel
theorem dX11_farness_101 : decode cX11_farness 101 = .ok (.lstore 12, 2) := by decide +kernel
theorem dX11_farness_103 : decode cX11_farness 103 = .ok (.lload 12, 2) := by decide +kernel
theorem dX11_farness_105 : decode cX11_farness 105 = .ok (.lload 12, 2) := by decide +kernel
theorem dX11_farness_107 : decode cX11_farness 107 = .ok (.lmul, 1) := by decide +kernel
theorem dX11_farness_108 : decode cX11_farness 108 = .ok (.lreturn, 1) := by decide +kernel
def tb_131 (pc : Nat) : Option mEnt := bif Nat.ble pc 49 then (bif Nat.ble pc 23 then (bif Nat.ble pc 11 then (bif Nat.ble pc 5 then (bif Nat.ble pc 1 then (bif Nat.ble pc 0 then (bif Nat.beq pc 0 then some (.inl (o_al 0 1)) else none) else (bif Nat.beq pc 1 then some (.inl (o_gP 11 40)) else none)) else (bif Nat.ble pc 4 then (bif Nat.beq pc 4 then some (.inl (o_il 2 1)) else none) else (bif Nat.beq pc 5 then some (.inl (o_iald)) else none))) else (bif Nat.ble pc 7 then (bif Nat.ble pc 6 then (bif Nat.beq pc 6 then some (.inl (o_al 0 1)) else none) else (bif Nat.beq pc 7 then some (.inl (o_gP 11 40)) else none)) else (bif Nat.ble pc 10 then (bif Nat.beq pc 10 then some (.inl (o_il 1 1)) else none) else (bif Nat.beq pc 11 then some (.inl (o_iald)) else none)))) else (bif Nat.ble pc 16 then (bif Nat.ble pc 13 then (bif Nat.ble pc 12 then (bif Nat.beq pc 12 then some (.inl (oS 1 (s_ii (fun a b => a - b)))) else none) else (bif Nat.beq pc 13 then some (.inl (oS 1 s_i2l)) else none)) else (bif Nat.ble pc 14 then (bif Nat.beq pc 14 then some (.inl (o_ls 4 2)) else none) else (bif Nat.beq pc 16 then some (.inl (o_al 0 1)) else none))) else (bif Nat.ble pc 20 then (bif Nat.ble pc 17 then (bif Nat.beq pc 17 then some (.inl (o_gP 11 41)) else none) else (bif Nat.beq pc 20 then some (.inl (o_il 2 1)) else none)) else (bif Nat.ble pc 21 then (bif Nat.beq pc 21 then some (.inl (o_iald)) else none) else (bif Nat.ble pc 22 then (bif Nat.beq pc 22 then some (.inl (o_al 0 1)) else none) else (bif Nat.beq pc 23 then some (.inl (o_gP 11 41)) else none)))))) else (bif Nat.ble pc 37 then (bif Nat.ble pc 29 then (bif Nat.ble pc 27 then (bif Nat.ble pc 26 then (bif Nat.beq pc 26 then some (.inl (o_il 1 1)) else none) else (bif Nat.beq pc 27 then some (.inl (o_iald)) else none)) else (bif Nat.ble pc 28 then (bif Nat.beq pc 28 then some (.inl (oS 1 (s_ii (fun a b => a - b)))) else none) else (bif Nat.beq pc 29 then some (.inl (oS 1 s_i2l)) else none))) else (bif Nat.ble pc 32 then (bif Nat.ble pc 30 then (bif Nat.beq pc 30 then some (.inl (o_ls 6 2)) else none) else (bif Nat.beq pc 32 then some (.inl (o_al 0 1)) else none)) else (bif Nat.ble pc 33 then (bif Nat.beq pc 33 then some (.inl (o_gP 11 40)) else none) else (bif Nat.ble pc 36 then (bif Nat.beq pc 36 then some (.inl (o_il 3 1)) else none) else (bif Nat.beq pc 37 then some (.inl (o_iald)) else none))))) else (bif Nat.ble pc 43 then (bif Nat.ble pc 39 then (bif Nat.ble pc 38 then (bif Nat.beq pc 38 then some (.inl (o_al 0 1)) else none) else (bif Nat.beq pc 39 then some (.inl (o_gP 11 40)) else none)) else (bif Nat.ble pc 42 then (bif Nat.beq pc 42 then some (.inl (o_il 1 1)) else none) else (bif Nat.beq pc 43 then some (.inl (o_iald)) else none))) else (bif Nat.ble pc 45 then (bif Nat.ble pc 44 then (bif Nat.beq pc 44 then some (.inl (oS 1 (s_ii (fun a b => a - b)))) else none) else (bif Nat.beq pc 45 then some (.inl (oS 1 s_i2l)) else none)) else (bif Nat.ble pc 46 then (bif Nat.beq pc 46 then some (.inl (o_ls 8 2)) else none) else (bif Nat.ble pc 48 then (bif Nat.beq pc 48 then some (.inl (o_al 0 1)) else none) else (bif Nat.beq pc 49 then some (.inl (o_gP 11 41)) else none))))))) else (bif Nat.ble pc 75 then (bif Nat.ble pc 61 then (bif Nat.ble pc 55 then (bif Nat.ble pc 53 then (bif Nat.ble pc 52 then (bif Nat.beq pc 52 then some (.inl (o_il 3 1)) else none) else (bif Nat.beq pc 53 then some (.inl (o_iald)) else none)) else (bif Nat.ble pc 54 then (bif Nat.beq pc 54 then some (.inl (o_al 0 1)) else none) else (bif Nat.beq pc 55 then some (.inl (o_gP 11 41)) else none))) else (bif Nat.ble pc 59 then (bif Nat.ble pc 58 then (bif Nat.beq pc 58 then some (.inl (o_il 1 1)) else none) else (bif Nat.beq pc 59 then some (.inl (o_iald)) else none)) else (bif Nat.ble pc 60 then (bif Nat.beq pc 60 then some (.inl (oS 1 (s_ii (fun a b => a - b)))) else none) else (bif Nat.beq pc 61 then some (.inl (oS 1 s_i2l)) else none)))) else (bif Nat.ble pc 67 then (bif Nat.ble pc 64 then (bif Nat.ble pc 62 then (bif Nat.beq pc 62 then some (.inl (o_ls 10 2)) else none) else (bif Nat.beq pc 64 then some (.inl (o_ll 4 2)) else none)) else (bif Nat.ble pc 66 then (bif Nat.beq pc 66 then some (.inl (oS 1 (s_push (.long 0)))) else none) else (bif Nat.beq pc 67 then some (.inl (oS 1 s_lcmp)) else none))) else (bif Nat.ble pc 71 then (bif Nat.ble pc 68 then (bif Nat.beq pc 68 then some (.inl (o_zne 90)) else none) else (bif Nat.beq pc 71 then some (.inl (o_ll 6 2)) else none)) else (bif Nat.ble pc 73 then (bif Nat.beq pc 73 then some (.inl (oS 1 (s_push (.long 0)))) else none) else (bif Nat.ble pc 74 then (bif Nat.beq pc 74 then some (.inl (oS 1 s_lcmp)) else none) else (bif Nat.beq pc 75 then some (.inl (o_zne 90)) else none)))))) else (bif Nat.ble pc 90 then (bif Nat.ble pc 83 then (bif Nat.ble pc 80 then (bif Nat.ble pc 78 then (bif Nat.beq pc 78 then some (.inl (o_ll 8 2)) else none) else (bif Nat.beq pc 80 then some (.inl (o_ll 8 2)) else none)) else (bif Nat.ble pc 82 then (bif Nat.beq pc 82 then some (.inl (oS 1 (s_ll (fun a b => a * b)))) else none) else (bif Nat.beq pc 83 then some (.inl (o_ll 10 2)) else none))) else (bif Nat.ble pc 87 then (bif Nat.ble pc 85 then (bif Nat.beq pc 85 then some (.inl (o_ll 10 2)) else none) else (bif Nat.beq pc 87 then some (.inl (oS 1 (s_ll (fun a b => a * b)))) else none)) else (bif Nat.ble pc 88 then (bif Nat.beq pc 88 then some (.inl (oS 1 (s_ll (fun a b => a + b)))) else none) else (bif Nat.ble pc 89 then (bif Nat.beq pc 89 then some (.inr (0, 0, 0, 1)) else none) else (bif Nat.beq pc 90 then some (.inl (o_ll 4 2)) else none))))) else (bif Nat.ble pc 98 then (bif Nat.ble pc 94 then (bif Nat.ble pc 92 then (bif Nat.beq pc 92 then some (.inl (o_ll 6 2)) else none) else (bif Nat.beq pc 94 then some (.inl (o_ll 8 2)) else none)) else (bif Nat.ble pc 96 then (bif Nat.beq pc 96 then some (.inl (o_ll 10 2)) else none) else (bif Nat.beq pc 98 then some (.inr (2, 119, 4, 0)) else none))) else (bif Nat.ble pc 103 then (bif Nat.ble pc 101 then (bif Nat.beq pc 101 then some (.inl (o_ls 12 2)) else none) else (bif Nat.beq pc 103 then some (.inl (o_ll 12 2)) else none)) else (bif Nat.ble pc 105 then (bif Nat.beq pc 105 then some (.inl (o_ll 12 2)) else none) else (bif Nat.ble pc 107 then (bif Nat.beq pc 107 then some (.inl (oS 1 (s_ll (fun a b => a * b)))) else none) else (bif Nat.beq pc 108 then some (.inr (0, 0, 0, 1)) else none)))))))
theorem k_131_0 : mOk M_131.1 M_131.2.1 M_131.2.2.1 M_131.2.2.2 0 (o_al 0 1) := ok_aload_n dX11_farness_0 rfl
theorem k_131_1 : mOk M_131.1 M_131.2.1 M_131.2.2.1 M_131.2.2.2 1 (o_gP 11 40) := ok_gP dX11_farness_1 f_RX11_112 rfl
theorem k_131_4 : mOk M_131.1 M_131.2.1 M_131.2.2.1 M_131.2.2.2 4 (o_il 2 1) := ok_iload_n dX11_farness_4 rfl
theorem k_131_5 : mOk M_131.1 M_131.2.1 M_131.2.2.1 M_131.2.2.2 5 (o_iald) := ok_iald dX11_farness_5
theorem k_131_6 : mOk M_131.1 M_131.2.1 M_131.2.2.1 M_131.2.2.2 6 (o_al 0 1) := ok_aload_n dX11_farness_6 rfl
theorem k_131_7 : mOk M_131.1 M_131.2.1 M_131.2.2.1 M_131.2.2.2 7 (o_gP 11 40) := ok_gP dX11_farness_7 f_RX11_112 rfl
theorem k_131_10 : mOk M_131.1 M_131.2.1 M_131.2.2.1 M_131.2.2.2 10 (o_il 1 1) := ok_iload_n dX11_farness_10 rfl
theorem k_131_11 : mOk M_131.1 M_131.2.1 M_131.2.2.1 M_131.2.2.2 11 (o_iald) := ok_iald dX11_farness_11
theorem k_131_12 : mOk M_131.1 M_131.2.1 M_131.2.2.1 M_131.2.2.2 12 (oS 1 (s_ii (fun a b => a - b))) := ok_isub dX11_farness_12
theorem k_131_13 : mOk M_131.1 M_131.2.1 M_131.2.2.1 M_131.2.2.2 13 (oS 1 s_i2l) := ok_i2l dX11_farness_13
theorem k_131_14 : mOk M_131.1 M_131.2.1 M_131.2.2.1 M_131.2.2.2 14 (o_ls 4 2) := ok_lstore dX11_farness_14
theorem k_131_16 : mOk M_131.1 M_131.2.1 M_131.2.2.1 M_131.2.2.2 16 (o_al 0 1) := ok_aload_n dX11_farness_16 rfl
theorem k_131_17 : mOk M_131.1 M_131.2.1 M_131.2.2.1 M_131.2.2.2 17 (o_gP 11 41) := ok_gP dX11_farness_17 f_RX11_115 rfl
theorem k_131_20 : mOk M_131.1 M_131.2.1 M_131.2.2.1 M_131.2.2.2 20 (o_il 2 1) := ok_iload_n dX11_farness_20 rfl
theorem k_131_21 : mOk M_131.1 M_131.2.1 M_131.2.2.1 M_131.2.2.2 21 (o_iald) := ok_iald dX11_farness_21
theorem k_131_22 : mOk M_131.1 M_131.2.1 M_131.2.2.1 M_131.2.2.2 22 (o_al 0 1) := ok_aload_n dX11_farness_22 rfl
theorem k_131_23 : mOk M_131.1 M_131.2.1 M_131.2.2.1 M_131.2.2.2 23 (o_gP 11 41) := ok_gP dX11_farness_23 f_RX11_115 rfl
theorem k_131_26 : mOk M_131.1 M_131.2.1 M_131.2.2.1 M_131.2.2.2 26 (o_il 1 1) := ok_iload_n dX11_farness_26 rfl
theorem k_131_27 : mOk M_131.1 M_131.2.1 M_131.2.2.1 M_131.2.2.2 27 (o_iald) := ok_iald dX11_farness_27
theorem k_131_28 : mOk M_131.1 M_131.2.1 M_131.2.2.1 M_131.2.2.2 28 (oS 1 (s_ii (fun a b => a - b))) := ok_isub dX11_farness_28
theorem k_131_29 : mOk M_131.1 M_131.2.1 M_131.2.2.1 M_131.2.2.2 29 (oS 1 s_i2l) := ok_i2l dX11_farness_29
theorem k_131_30 : mOk M_131.1 M_131.2.1 M_131.2.2.1 M_131.2.2.2 30 (o_ls 6 2) := ok_lstore dX11_farness_30
theorem k_131_32 : mOk M_131.1 M_131.2.1 M_131.2.2.1 M_131.2.2.2 32 (o_al 0 1) := ok_aload_n dX11_farness_32 rfl
theorem k_131_33 : mOk M_131.1 M_131.2.1 M_131.2.2.1 M_131.2.2.2 33 (o_gP 11 40) := ok_gP dX11_farness_33 f_RX11_112 rfl
theorem k_131_36 : mOk M_131.1 M_131.2.1 M_131.2.2.1 M_131.2.2.2 36 (o_il 3 1) := ok_iload_n dX11_farness_36 rfl
theorem k_131_37 : mOk M_131.1 M_131.2.1 M_131.2.2.1 M_131.2.2.2 37 (o_iald) := ok_iald dX11_farness_37
theorem k_131_38 : mOk M_131.1 M_131.2.1 M_131.2.2.1 M_131.2.2.2 38 (o_al 0 1) := ok_aload_n dX11_farness_38 rfl
theorem k_131_39 : mOk M_131.1 M_131.2.1 M_131.2.2.1 M_131.2.2.2 39 (o_gP 11 40) := ok_gP dX11_farness_39 f_RX11_112 rfl
theorem k_131_42 : mOk M_131.1 M_131.2.1 M_131.2.2.1 M_131.2.2.2 42 (o_il 1 1) := ok_iload_n dX11_farness_42 rfl
theorem k_131_43 : mOk M_131.1 M_131.2.1 M_131.2.2.1 M_131.2.2.2 43 (o_iald) := ok_iald dX11_farness_43
theorem k_131_44 : mOk M_131.1 M_131.2.1 M_131.2.2.1 M_131.2.2.2 44 (oS 1 (s_ii (fun a b => a - b))) := ok_isub dX11_farness_44
theorem k_131_45 : mOk M_131.1 M_131.2.1 M_131.2.2.1 M_131.2.2.2 45 (oS 1 s_i2l) := ok_i2l dX11_farness_45
theorem k_131_46 : mOk M_131.1 M_131.2.1 M_131.2.2.1 M_131.2.2.2 46 (o_ls 8 2) := ok_lstore dX11_farness_46
theorem k_131_48 : mOk M_131.1 M_131.2.1 M_131.2.2.1 M_131.2.2.2 48 (o_al 0 1) := ok_aload_n dX11_farness_48 rfl
theorem k_131_49 : mOk M_131.1 M_131.2.1 M_131.2.2.1 M_131.2.2.2 49 (o_gP 11 41) := ok_gP dX11_farness_49 f_RX11_115 rfl
theorem k_131_52 : mOk M_131.1 M_131.2.1 M_131.2.2.1 M_131.2.2.2 52 (o_il 3 1) := ok_iload_n dX11_farness_52 rfl
theorem k_131_53 : mOk M_131.1 M_131.2.1 M_131.2.2.1 M_131.2.2.2 53 (o_iald) := ok_iald dX11_farness_53
theorem k_131_54 : mOk M_131.1 M_131.2.1 M_131.2.2.1 M_131.2.2.2 54 (o_al 0 1) := ok_aload_n dX11_farness_54 rfl
theorem k_131_55 : mOk M_131.1 M_131.2.1 M_131.2.2.1 M_131.2.2.2 55 (o_gP 11 41) := ok_gP dX11_farness_55 f_RX11_115 rfl
theorem k_131_58 : mOk M_131.1 M_131.2.1 M_131.2.2.1 M_131.2.2.2 58 (o_il 1 1) := ok_iload_n dX11_farness_58 rfl
theorem k_131_59 : mOk M_131.1 M_131.2.1 M_131.2.2.1 M_131.2.2.2 59 (o_iald) := ok_iald dX11_farness_59
theorem k_131_60 : mOk M_131.1 M_131.2.1 M_131.2.2.1 M_131.2.2.2 60 (oS 1 (s_ii (fun a b => a - b))) := ok_isub dX11_farness_60
theorem k_131_61 : mOk M_131.1 M_131.2.1 M_131.2.2.1 M_131.2.2.2 61 (oS 1 s_i2l) := ok_i2l dX11_farness_61
theorem k_131_62 : mOk M_131.1 M_131.2.1 M_131.2.2.1 M_131.2.2.2 62 (o_ls 10 2) := ok_lstore dX11_farness_62
theorem k_131_64 : mOk M_131.1 M_131.2.1 M_131.2.2.1 M_131.2.2.2 64 (o_ll 4 2) := ok_lload dX11_farness_64
theorem k_131_66 : mOk M_131.1 M_131.2.1 M_131.2.2.1 M_131.2.2.2 66 (oS 1 (s_push (.long 0))) := ok_lconst dX11_farness_66 (by decide)
theorem k_131_67 : mOk M_131.1 M_131.2.1 M_131.2.2.1 M_131.2.2.2 67 (oS 1 s_lcmp) := ok_lcmp dX11_farness_67
theorem k_131_68 : mOk M_131.1 M_131.2.1 M_131.2.2.1 M_131.2.2.2 68 (o_zne 90) := ok_zne dX11_farness_68 (by decide)
theorem k_131_71 : mOk M_131.1 M_131.2.1 M_131.2.2.1 M_131.2.2.2 71 (o_ll 6 2) := ok_lload dX11_farness_71
theorem k_131_73 : mOk M_131.1 M_131.2.1 M_131.2.2.1 M_131.2.2.2 73 (oS 1 (s_push (.long 0))) := ok_lconst dX11_farness_73 (by decide)
theorem k_131_74 : mOk M_131.1 M_131.2.1 M_131.2.2.1 M_131.2.2.2 74 (oS 1 s_lcmp) := ok_lcmp dX11_farness_74
theorem k_131_75 : mOk M_131.1 M_131.2.1 M_131.2.2.1 M_131.2.2.2 75 (o_zne 90) := ok_zne dX11_farness_75 (by decide)
theorem k_131_78 : mOk M_131.1 M_131.2.1 M_131.2.2.1 M_131.2.2.2 78 (o_ll 8 2) := ok_lload dX11_farness_78
theorem k_131_80 : mOk M_131.1 M_131.2.1 M_131.2.2.1 M_131.2.2.2 80 (o_ll 8 2) := ok_lload dX11_farness_80
theorem k_131_82 : mOk M_131.1 M_131.2.1 M_131.2.2.1 M_131.2.2.2 82 (oS 1 (s_ll (fun a b => a * b))) := ok_lmul dX11_farness_82
theorem k_131_83 : mOk M_131.1 M_131.2.1 M_131.2.2.1 M_131.2.2.2 83 (o_ll 10 2) := ok_lload dX11_farness_83
theorem k_131_85 : mOk M_131.1 M_131.2.1 M_131.2.2.1 M_131.2.2.2 85 (o_ll 10 2) := ok_lload dX11_farness_85
theorem k_131_87 : mOk M_131.1 M_131.2.1 M_131.2.2.1 M_131.2.2.2 87 (oS 1 (s_ll (fun a b => a * b))) := ok_lmul dX11_farness_87
theorem k_131_88 : mOk M_131.1 M_131.2.1 M_131.2.2.1 M_131.2.2.2 88 (oS 1 (s_ll (fun a b => a + b))) := ok_ladd dX11_farness_88
theorem k_131_90 : mOk M_131.1 M_131.2.1 M_131.2.2.1 M_131.2.2.2 90 (o_ll 4 2) := ok_lload dX11_farness_90
theorem k_131_92 : mOk M_131.1 M_131.2.1 M_131.2.2.1 M_131.2.2.2 92 (o_ll 6 2) := ok_lload dX11_farness_92
theorem k_131_94 : mOk M_131.1 M_131.2.1 M_131.2.2.1 M_131.2.2.2 94 (o_ll 8 2) := ok_lload dX11_farness_94
theorem k_131_96 : mOk M_131.1 M_131.2.1 M_131.2.2.1 M_131.2.2.2 96 (o_ll 10 2) := ok_lload dX11_farness_96
theorem k_131_101 : mOk M_131.1 M_131.2.1 M_131.2.2.1 M_131.2.2.2 101 (o_ls 12 2) := ok_lstore dX11_farness_101
theorem k_131_103 : mOk M_131.1 M_131.2.1 M_131.2.2.1 M_131.2.2.2 103 (o_ll 12 2) := ok_lload dX11_farness_103
theorem k_131_105 : mOk M_131.1 M_131.2.1 M_131.2.2.1 M_131.2.2.2 105 (o_ll 12 2) := ok_lload dX11_farness_105
theorem k_131_107 : mOk M_131.1 M_131.2.1 M_131.2.2.1 M_131.2.2.2 107 (oS 1 (s_ll (fun a b => a * b))) := ok_lmul dX11_farness_107
set_option maxRecDepth 20000 in
set_option maxHeartbeats 4000000 in
theorem tk_131 (l : Launch) (H9 : mThr l) (H10 : mSpl l) (pc : Nat) (q : mEnt) (h : tb_131 pc = some q) : EE l 131 pc q := nd h (fun h => nd h (fun h => nd h (fun h => nd h (fun h => nd h (fun h => nd h (fun h => lf (P := EE l 131) h k_131_0) (fun h => lf (P := EE l 131) h k_131_1)) (fun h => nd h (fun h => lf (P := EE l 131) h k_131_4) (fun h => lf (P := EE l 131) h k_131_5))) (fun h => nd h (fun h => nd h (fun h => lf (P := EE l 131) h k_131_6) (fun h => lf (P := EE l 131) h k_131_7)) (fun h => nd h (fun h => lf (P := EE l 131) h k_131_10) (fun h => lf (P := EE l 131) h k_131_11)))) (fun h => nd h (fun h => nd h (fun h => nd h (fun h => lf (P := EE l 131) h k_131_12) (fun h => lf (P := EE l 131) h k_131_13)) (fun h => nd h (fun h => lf (P := EE l 131) h k_131_14) (fun h => lf (P := EE l 131) h k_131_16))) (fun h => nd h (fun h => nd h (fun h => lf (P := EE l 131) h k_131_17) (fun h => lf (P := EE l 131) h k_131_20)) (fun h => nd h (fun h => lf (P := EE l 131) h k_131_21) (fun h => nd h (fun h => lf (P := EE l 131) h k_131_22) (fun h => lf (P := EE l 131) h k_131_23)))))) (fun h => nd h (fun h => nd h (fun h => nd h (fun h => nd h (fun h => lf (P := EE l 131) h k_131_26) (fun h => lf (P := EE l 131) h k_131_27)) (fun h => nd h (fun h => lf (P := EE l 131) h k_131_28) (fun h => lf (P := EE l 131) h k_131_29))) (fun h => nd h (fun h => nd h (fun h => lf (P := EE l 131) h k_131_30) (fun h => lf (P := EE l 131) h k_131_32)) (fun h => nd h (fun h => lf (P := EE l 131) h k_131_33) (fun h => nd h (fun h => lf (P := EE l 131) h k_131_36) (fun h => lf (P := EE l 131) h k_131_37))))) (fun h => nd h (fun h => nd h (fun h => nd h (fun h => lf (P := EE l 131) h k_131_38) (fun h => lf (P := EE l 131) h k_131_39)) (fun h => nd h (fun h => lf (P := EE l 131) h k_131_42) (fun h => lf (P := EE l 131) h k_131_43))) (fun h => nd h (fun h => nd h (fun h => lf (P := EE l 131) h k_131_44) (fun h => lf (P := EE l 131) h k_131_45)) (fun h => nd h (fun h => lf (P := EE l 131) h k_131_46) (fun h => nd h (fun h => lf (P := EE l 131) h k_131_48) (fun h => lf (P := EE l 131) h k_131_49))))))) (fun h => nd h (fun h => nd h (fun h => nd h (fun h => nd h (fun h => nd h (fun h => lf (P := EE l 131) h k_131_52) (fun h => lf (P := EE l 131) h k_131_53)) (fun h => nd h (fun h => lf (P := EE l 131) h k_131_54) (fun h => lf (P := EE l 131) h k_131_55))) (fun h => nd h (fun h => nd h (fun h => lf (P := EE l 131) h k_131_58) (fun h => lf (P := EE l 131) h k_131_59)) (fun h => nd h (fun h => lf (P := EE l 131) h k_131_60) (fun h => lf (P := EE l 131) h k_131_61)))) (fun h => nd h (fun h => nd h (fun h => nd h (fun h => lf (P := EE l 131) h k_131_62) (fun h => lf (P := EE l 131) h k_131_64)) (fun h => nd h (fun h => lf (P := EE l 131) h k_131_66) (fun h => lf (P := EE l 131) h k_131_67))) (fun h => nd h (fun h => nd h (fun h => lf (P := EE l 131) h k_131_68) (fun h => lf (P := EE l 131) h k_131_71)) (fun h => nd h (fun h => lf (P := EE l 131) h k_131_73) (fun h => nd h (fun h => lf (P := EE l 131) h k_131_74) (fun h => lf (P := EE l 131) h k_131_75)))))) (fun h => nd h (fun h => nd h (fun h => nd h (fun h => nd h (fun h => lf (P := EE l 131) h k_131_78) (fun h => lf (P := EE l 131) h k_131_80)) (fun h => nd h (fun h => lf (P := EE l 131) h k_131_82) (fun h => lf (P := EE l 131) h k_131_83))) (fun h => nd h (fun h => nd h (fun h => lf (P := EE l 131) h k_131_85) (fun h => lf (P := EE l 131) h k_131_87)) (fun h => nd h (fun h => lf (P := EE l 131) h k_131_88) (fun h => nd h (fun h => lf (P := EE l 131) h (EE_re (Or.inr (Or.inr (Or.inl ⟨rfl, dX11_farness_89, rfl⟩))))) (fun h => lf (P := EE l 131) h k_131_90))))) (fun h => nd h (fun h => nd h (fun h => nd h (fun h => lf (P := EE l 131) h k_131_92) (fun h => lf (P := EE l 131) h k_131_94)) (fun h => nd h (fun h => lf (P := EE l 131) h k_131_96) (fun h => lf (P := EE l 131) h (EE_ca (by decide) (⟨m_1244, m_81, ⟨by decide, by decide⟩, by decide +kernel, ⟨by decide, by decide⟩, 148, 4, by decide +kernel, Or.inl ⟨rfl, rfl, dX11_farness_98, m_1242, m_1243⟩⟩) rfl)))) (fun h => nd h (fun h => nd h (fun h => lf (P := EE l 131) h k_131_101) (fun h => lf (P := EE l 131) h k_131_103)) (fun h => nd h (fun h => lf (P := EE l 131) h k_131_105) (fun h => nd h (fun h => lf (P := EE l 131) h k_131_107) (fun h => lf (P := EE l 131) h (EE_re (Or.inr (Or.inr (Or.inl ⟨rfl, dX11_farness_108, rfl⟩)))))))))))
theorem dX11_farthest_0 : decode cX11_farthest 0 = .ok (.iconst (-1), 1) := by decide +kernel
theorem dX11_farthest_1 : decode cX11_farthest 1 = .ok (.istore_n 3, 1) := by decide +kernel
theorem dX11_farthest_2 : decode cX11_farthest 2 = .ok (.iload_n 1, 1) := by decide +kernel
theorem dX11_farthest_3 : decode cX11_farthest 3 = .ok (.iconst 1, 1) := by decide +kernel
theorem dX11_farthest_4 : decode cX11_farthest 4 = .ok (.iadd, 1) := by decide +kernel
theorem dX11_farthest_5 : decode cX11_farthest 5 = .ok (.istore 4, 2) := by decide +kernel
theorem dX11_farthest_7 : decode cX11_farthest 7 = .ok (.iload 4, 2) := by decide +kernel
theorem dX11_farthest_9 : decode cX11_farthest 9 = .ok (.iload_n 2, 1) := by decide +kernel
theorem dX11_farthest_10 : decode cX11_farthest 10 = .ok (.if_icmp .ge 36, 3) := by decide +kernel
theorem dX11_farthest_13 : decode cX11_farthest 13 = .ok (.iload_n 3, 1) := by decide +kernel
theorem dX11_farthest_14 : decode cX11_farthest 14 = .ok (.iconst (-1), 1) := by decide +kernel
theorem dX11_farthest_15 : decode cX11_farthest 15 = .ok (.if_icmp .eq 22, 3) := by decide +kernel
theorem dX11_farthest_18 : decode cX11_farthest 18 = .ok (.aload_n 0, 1) := by decide +kernel
theorem dX11_farthest_19 : decode cX11_farthest 19 = .ok (.iload_n 1, 1) := by decide +kernel
theorem dX11_farthest_20 : decode cX11_farthest 20 = .ok (.iload_n 2, 1) := by decide +kernel
theorem dX11_farthest_21 : decode cX11_farthest 21 = .ok (.iload 4, 2) := by decide +kernel
theorem dX11_farthest_23 : decode cX11_farthest 23 = .ok (.invokevirtual 185, 3) := by decide +kernel
theorem dX11_farthest_26 : decode cX11_farthest 26 = .ok (.aload_n 0, 1) := by decide +kernel
theorem dX11_farthest_27 : decode cX11_farthest 27 = .ok (.iload_n 1, 1) := by decide +kernel
theorem dX11_farthest_28 : decode cX11_farthest 28 = .ok (.iload_n 2, 1) := by decide +kernel
theorem dX11_farthest_29 : decode cX11_farthest 29 = .ok (.iload_n 3, 1) := by decide +kernel
theorem dX11_farthest_30 : decode cX11_farthest 30 = .ok (.invokevirtual 185, 3) := by decide +kernel
theorem dX11_farthest_33 : decode cX11_farthest 33 = .ok (.lcmp, 1) := by decide +kernel
theorem dX11_farthest_34 : decode cX11_farthest 34 = .ok (.ifCond .le 6, 3) := by decide +kernel
theorem dX11_farthest_37 : decode cX11_farthest 37 = .ok (.iload 4, 2) := by decide +kernel
theorem dX11_farthest_39 : decode cX11_farthest 39 = .ok (.istore_n 3, 1) := by decide +kernel
theorem dX11_farthest_40 : decode cX11_farthest 40 = .ok (.iinc 4 1, 3) := by decide +kernel
theorem dX11_farthest_43 : decode cX11_farthest 43 = .ok (.goto (-36), 3) := by decide +kernel
theorem dX11_farthest_46 : decode cX11_farthest 46 = .ok (.iload_n 3, 1) := by decide +kernel
theorem dX11_farthest_47 : decode cX11_farthest 47 = .ok (.iconst (-1), 1) := by decide +kernel
theorem dX11_farthest_48 : decode cX11_farthest 48 = .ok (.if_icmp .ne 5, 3) := by decide +kernel
theorem dX11_farthest_51 : decode cX11_farthest 51 = .ok (.iconst (-1), 1) := by decide +kernel
theorem dX11_farthest_52 : decode cX11_farthest 52 = .ok (.ireturn, 1) := by decide +kernel
theorem dX11_farthest_53 : decode cX11_farthest 53 = .ok (.aload_n 0, 1) := by decide +kernel
theorem dX11_farthest_54 : decode cX11_farthest 54 = .ok (.getfield 112, 3) := by decide +kernel
theorem dX11_farthest_57 : decode cX11_farthest 57 = .ok (.iload_n 2, 1) := by decide +kernel
theorem dX11_farthest_58 : decode cX11_farthest 58 = .ok (.iaload, 1) := by decide +kernel
theorem dX11_farthest_59 : decode cX11_farthest 59 = .ok (.aload_n 0, 1) := by decide +kernel
theorem dX11_farthest_60 : decode cX11_farthest 60 = .ok (.getfield 112, 3) := by decide +kernel
theorem dX11_farthest_63 : decode cX11_farthest 63 = .ok (.iload_n 1, 1) := by decide +kernel
theorem dX11_farthest_64 : decode cX11_farthest 64 = .ok (.iaload, 1) := by decide +kernel
theorem dX11_farthest_65 : decode cX11_farthest 65 = .ok (.isub, 1) := by decide +kernel
theorem dX11_farthest_66 : decode cX11_farthest 66 = .ok (.i2l, 1) := by decide +kernel
theorem dX11_farthest_67 : decode cX11_farthest 67 = .ok (.lstore 4, 2) := by decide +kernel
theorem dX11_farthest_69 : decode cX11_farthest 69 = .ok (.aload_n 0, 1) := by decide +kernel
theorem dX11_farthest_70 : decode cX11_farthest 70 = .ok (.getfield 115, 3) := by decide +kernel
theorem dX11_farthest_73 : decode cX11_farthest 73 = .ok (.iload_n 2, 1) := by decide +kernel
theorem dX11_farthest_74 : decode cX11_farthest 74 = .ok (.iaload, 1) := by decide +kernel
theorem dX11_farthest_75 : decode cX11_farthest 75 = .ok (.aload_n 0, 1) := by decide +kernel
theorem dX11_farthest_76 : decode cX11_farthest 76 = .ok (.getfield 115, 3) := by decide +kernel
theorem dX11_farthest_79 : decode cX11_farthest 79 = .ok (.iload_n 1, 1) := by decide +kernel
theorem dX11_farthest_80 : decode cX11_farthest 80 = .ok (.iaload, 1) := by decide +kernel
theorem dX11_farthest_81 : decode cX11_farthest 81 = .ok (.isub, 1) := by decide +kernel
theorem dX11_farthest_82 : decode cX11_farthest 82 = .ok (.i2l, 1) := by decide +kernel
theorem dX11_farthest_83 : decode cX11_farthest 83 = .ok (.lstore 6, 2) := by decide +kernel
theorem dX11_farthest_85 : decode cX11_farthest 85 = .ok (.lload 4, 2) := by decide +kernel
theorem dX11_farthest_87 : decode cX11_farthest 87 = .ok (.lconst 0, 1) := by decide +kernel
theorem dX11_farthest_88 : decode cX11_farthest 88 = .ok (.lcmp, 1) := by decide +kernel
theorem dX11_farthest_89 : decode cX11_farthest 89 = .ok (.ifCond .ne 14, 3) := by decide +kernel
theorem dX11_farthest_92 : decode cX11_farthest 92 = .ok (.lload 6, 2) := by decide +kernel
theorem dX11_farthest_94 : decode cX11_farthest 94 = .ok (.lconst 0, 1) := by decide +kernel
theorem dX11_farthest_95 : decode cX11_farthest 95 = .ok (.lcmp, 1) := by decide +kernel
theorem dX11_farthest_96 : decode cX11_farthest 96 = .ok (.ifCond .ne 7, 3) := by decide +kernel
theorem dX11_farthest_99 : decode cX11_farthest 99 = .ok (.lconst 1, 1) := by decide +kernel
theorem dX11_farthest_100 : decode cX11_farthest 100 = .ok (.goto 14, 3) := by decide +kernel
theorem dX11_farthest_103 : decode cX11_farthest 103 = .ok (.lload 4, 2) := by decide +kernel
theorem dX11_farthest_105 : decode cX11_farthest 105 = .ok (.lload 4, 2) := by decide +kernel
theorem dX11_farthest_107 : decode cX11_farthest 107 = .ok (.lmul, 1) := by decide +kernel
theorem dX11_farthest_108 : decode cX11_farthest 108 = .ok (.lload 6, 2) := by decide +kernel
theorem dX11_farthest_110 : decode cX11_farthest 110 = .ok (.lload 6, 2) := by decide +kernel
theorem dX11_farthest_112 : decode cX11_farthest 112 = .ok (.lmul, 1) := by decide +kernel
theorem dX11_farthest_113 : decode cX11_farthest 113 = .ok (.ladd, 1) := by decide +kernel
theorem dX11_farthest_114 : decode cX11_farthest 114 = .ok (.lstore 8, 2) := by decide +kernel
theorem dX11_farthest_116 : decode cX11_farthest 116 = .ok (.aload_n 0, 1) := by decide +kernel
theorem dX11_farthest_117 : decode cX11_farthest 117 = .ok (.iload_n 1, 1) := by decide +kernel
theorem dX11_farthest_118 : decode cX11_farthest 118 = .ok (.iload_n 2, 1) := by decide +kernel
theorem dX11_farthest_119 : decode cX11_farthest 119 = .ok (.iload_n 3, 1) := by decide +kernel
theorem dX11_farthest_120 : decode cX11_farthest 120 = .ok (.invokevirtual 185, 3) := by decide +kernel
theorem dX11_farthest_123 : decode cX11_farthest 123 = .ok (.ldc2_w 189, 3) := by decide +kernel
theorem dX11_farthest_126 : decode cX11_farthest 126 = .ok (.lload 8, 2) := by decide +kernel
theorem dX11_farthest_128 : decode cX11_farthest 128 = .ok (.lmul, 1) := by decide +kernel
theorem dX11_farthest_129 : decode cX11_farthest 129 = .ok (.lcmp, 1) := by decide +kernel
theorem dX11_farthest_130 : decode cX11_farthest 130 = .ok (.ifCond .lt 7, 3) := by decide +kernel
theorem dX11_farthest_133 : decode cX11_farthest 133 = .ok (.iload_n 3, 1) := by decide +kernel
theorem dX11_farthest_134 : decode cX11_farthest 134 = .ok (.goto 4, 3) := by decide +kernel
theorem dX11_farthest_137 : decode cX11_farthest 137 = .ok (.iconst (-1), 1) := by decide +kernel
theorem dX11_farthest_138 : decode cX11_farthest 138 = .ok (.ireturn, 1) := by decide +kernel
def tb_132 (pc : Nat) : Option mEnt := bif Nat.ble pc 66 then (bif Nat.ble pc 29 then (bif Nat.ble pc 13 then (bif Nat.ble pc 4 then (bif Nat.ble pc 1 then (bif Nat.ble pc 0 then (bif Nat.beq pc 0 then some (.inl (oS 1 (s_push (.int (-1))))) else none) else (bif Nat.beq pc 1 then some (.inl (o_is 3 1)) else none)) else (bif Nat.ble pc 2 then (bif Nat.beq pc 2 then some (.inl (o_il 1 1)) else none) else (bif Nat.ble pc 3 then (bif Nat.beq pc 3 then some (.inl (oS 1 (s_push (.int 1)))) else none) else (bif Nat.beq pc 4 then some (.inl (oS 1 (s_ii (fun a b => a + b)))) else none)))) else (bif Nat.ble pc 7 then (bif Nat.ble pc 5 then (bif Nat.beq pc 5 then some (.inl (o_is 4 2)) else none) else (bif Nat.beq pc 7 then some (.inl (o_il 4 2)) else none)) else (bif Nat.ble pc 9 then (bif Nat.beq pc 9 then some (.inl (o_il 2 1)) else none) else (bif Nat.ble pc 10 then (bif Nat.beq pc 10 then some (.inl (o_cge 46)) else none) else (bif Nat.beq pc 13 then some (.inl (o_il 3 1)) else none))))) else (bif Nat.ble pc 20 then (bif Nat.ble pc 15 then (bif Nat.ble pc 14 then (bif Nat.beq pc 14 then some (.inl (oS 1 (s_push (.int (-1))))) else none) else (bif Nat.beq pc 15 then some (.inl (o_ceq 37)) else none)) else (bif Nat.ble pc 18 then (bif Nat.beq pc 18 then some (.inl (o_al 0 1)) else none) else (bif Nat.ble pc 19 then (bif Nat.beq pc 19 then some (.inl (o_il 1 1)) else none) else (bif Nat.beq pc 20 then some (.inl (o_il 2 1)) else none)))) else (bif Nat.ble pc 26 then (bif Nat.ble pc 21 then (bif Nat.beq pc 21 then some (.inl (o_il 4 2)) else none) else (bif Nat.ble pc 23 then (bif Nat.beq pc 23 then some (.inr (3, 131, 4, 11)) else none) else (bif Nat.beq pc 26 then some (.inl (o_al 0 1)) else none))) else (bif Nat.ble pc 27 then (bif Nat.beq pc 27 then some (.inl (o_il 1 1)) else none) else (bif Nat.ble pc 28 then (bif Nat.beq pc 28 then some (.inl (o_il 2 1)) else none) else (bif Nat.beq pc 29 then some (.inl (o_il 3 1)) else none)))))) else (bif Nat.ble pc 51 then (bif Nat.ble pc 39 then (bif Nat.ble pc 33 then (bif Nat.ble pc 30 then (bif Nat.beq pc 30 then some (.inr (3, 131, 4, 11)) else none) else (bif Nat.beq pc 33 then some (.inl (oS 1 s_lcmp)) else none)) else (bif Nat.ble pc 34 then (bif Nat.beq pc 34 then some (.inl (o_zle 40)) else none) else (bif Nat.ble pc 37 then (bif Nat.beq pc 37 then some (.inl (o_il 4 2)) else none) else (bif Nat.beq pc 39 then some (.inl (o_is 3 1)) else none)))) else (bif Nat.ble pc 46 then (bif Nat.ble pc 40 then (bif Nat.beq pc 40 then some (.inl (o_inc 4 1)) else none) else (bif Nat.ble pc 43 then (bif Nat.beq pc 43 then some (.inl (o_goto 7)) else none) else (bif Nat.beq pc 46 then some (.inl (o_il 3 1)) else none))) else (bif Nat.ble pc 47 then (bif Nat.beq pc 47 then some (.inl (oS 1 (s_push (.int (-1))))) else none) else (bif Nat.ble pc 48 then (bif Nat.beq pc 48 then some (.inl (o_cne 53)) else none) else (bif Nat.beq pc 51 then some (.inl (oS 1 (s_push (.int (-1))))) else none))))) else (bif Nat.ble pc 58 then (bif Nat.ble pc 53 then (bif Nat.ble pc 52 then (bif Nat.beq pc 52 then some (.inr (0, 0, 0, 0)) else none) else (bif Nat.beq pc 53 then some (.inl (o_al 0 1)) else none)) else (bif Nat.ble pc 54 then (bif Nat.beq pc 54 then some (.inl (o_gP 11 40)) else none) else (bif Nat.ble pc 57 then (bif Nat.beq pc 57 then some (.inl (o_il 2 1)) else none) else (bif Nat.beq pc 58 then some (.inl (o_iald)) else none)))) else (bif Nat.ble pc 63 then (bif Nat.ble pc 59 then (bif Nat.beq pc 59 then some (.inl (o_al 0 1)) else none) else (bif Nat.ble pc 60 then (bif Nat.beq pc 60 then some (.inl (o_gP 11 40)) else none) else (bif Nat.beq pc 63 then some (.inl (o_il 1 1)) else none))) else (bif Nat.ble pc 64 then (bif Nat.beq pc 64 then some (.inl (o_iald)) else none) else (bif Nat.ble pc 65 then (bif Nat.beq pc 65 then some (.inl (oS 1 (s_ii (fun a b => a - b)))) else none) else (bif Nat.beq pc 66 then some (.inl (oS 1 s_i2l)) else none))))))) else (bif Nat.ble pc 100 then (bif Nat.ble pc 82 then (bif Nat.ble pc 74 then (bif Nat.ble pc 69 then (bif Nat.ble pc 67 then (bif Nat.beq pc 67 then some (.inl (o_ls 4 2)) else none) else (bif Nat.beq pc 69 then some (.inl (o_al 0 1)) else none)) else (bif Nat.ble pc 70 then (bif Nat.beq pc 70 then some (.inl (o_gP 11 41)) else none) else (bif Nat.ble pc 73 then (bif Nat.beq pc 73 then some (.inl (o_il 2 1)) else none) else (bif Nat.beq pc 74 then some (.inl (o_iald)) else none)))) else (bif Nat.ble pc 79 then (bif Nat.ble pc 75 then (bif Nat.beq pc 75 then some (.inl (o_al 0 1)) else none) else (bif Nat.ble pc 76 then (bif Nat.beq pc 76 then some (.inl (o_gP 11 41)) else none) else (bif Nat.beq pc 79 then some (.inl (o_il 1 1)) else none))) else (bif Nat.ble pc 80 then (bif Nat.beq pc 80 then some (.inl (o_iald)) else none) else (bif Nat.ble pc 81 then (bif Nat.beq pc 81 then some (.inl (oS 1 (s_ii (fun a b => a - b)))) else none) else (bif Nat.beq pc 82 then some (.inl (oS 1 s_i2l)) else none))))) else (bif Nat.ble pc 89 then (bif Nat.ble pc 85 then (bif Nat.ble pc 83 then (bif Nat.beq pc 83 then some (.inl (o_ls 6 2)) else none) else (bif Nat.beq pc 85 then some (.inl (o_ll 4 2)) else none)) else (bif Nat.ble pc 87 then (bif Nat.beq pc 87 then some (.inl (oS 1 (s_push (.long 0)))) else none) else (bif Nat.ble pc 88 then (bif Nat.beq pc 88 then some (.inl (oS 1 s_lcmp)) else none) else (bif Nat.beq pc 89 then some (.inl (o_zne 103)) else none)))) else (bif Nat.ble pc 95 then (bif Nat.ble pc 92 then (bif Nat.beq pc 92 then some (.inl (o_ll 6 2)) else none) else (bif Nat.ble pc 94 then (bif Nat.beq pc 94 then some (.inl (oS 1 (s_push (.long 0)))) else none) else (bif Nat.beq pc 95 then some (.inl (oS 1 s_lcmp)) else none))) else (bif Nat.ble pc 96 then (bif Nat.beq pc 96 then some (.inl (o_zne 103)) else none) else (bif Nat.ble pc 99 then (bif Nat.beq pc 99 then some (.inl (oS 1 (s_push (.long 1)))) else none) else (bif Nat.beq pc 100 then some (.inl (o_goto 114)) else none)))))) else (bif Nat.ble pc 118 then (bif Nat.ble pc 110 then (bif Nat.ble pc 105 then (bif Nat.ble pc 103 then (bif Nat.beq pc 103 then some (.inl (o_ll 4 2)) else none) else (bif Nat.beq pc 105 then some (.inl (o_ll 4 2)) else none)) else (bif Nat.ble pc 107 then (bif Nat.beq pc 107 then some (.inl (oS 1 (s_ll (fun a b => a * b)))) else none) else (bif Nat.ble pc 108 then (bif Nat.beq pc 108 then some (.inl (o_ll 6 2)) else none) else (bif Nat.beq pc 110 then some (.inl (o_ll 6 2)) else none)))) else (bif Nat.ble pc 114 then (bif Nat.ble pc 112 then (bif Nat.beq pc 112 then some (.inl (oS 1 (s_ll (fun a b => a * b)))) else none) else (bif Nat.ble pc 113 then (bif Nat.beq pc 113 then some (.inl (oS 1 (s_ll (fun a b => a + b)))) else none) else (bif Nat.beq pc 114 then some (.inl (o_ls 8 2)) else none))) else (bif Nat.ble pc 116 then (bif Nat.beq pc 116 then some (.inl (o_al 0 1)) else none) else (bif Nat.ble pc 117 then (bif Nat.beq pc 117 then some (.inl (o_il 1 1)) else none) else (bif Nat.beq pc 118 then some (.inl (o_il 2 1)) else none))))) else (bif Nat.ble pc 128 then (bif Nat.ble pc 120 then (bif Nat.ble pc 119 then (bif Nat.beq pc 119 then some (.inl (o_il 3 1)) else none) else (bif Nat.beq pc 120 then some (.inr (3, 131, 4, 11)) else none)) else (bif Nat.ble pc 123 then (bif Nat.beq pc 123 then some (.inl (oS 3 (s_push (.long 4)))) else none) else (bif Nat.ble pc 126 then (bif Nat.beq pc 126 then some (.inl (o_ll 8 2)) else none) else (bif Nat.beq pc 128 then some (.inl (oS 1 (s_ll (fun a b => a * b)))) else none)))) else (bif Nat.ble pc 133 then (bif Nat.ble pc 129 then (bif Nat.beq pc 129 then some (.inl (oS 1 s_lcmp)) else none) else (bif Nat.ble pc 130 then (bif Nat.beq pc 130 then some (.inl (o_zlt 137)) else none) else (bif Nat.beq pc 133 then some (.inl (o_il 3 1)) else none))) else (bif Nat.ble pc 134 then (bif Nat.beq pc 134 then some (.inl (o_goto 138)) else none) else (bif Nat.ble pc 137 then (bif Nat.beq pc 137 then some (.inl (oS 1 (s_push (.int (-1))))) else none) else (bif Nat.beq pc 138 then some (.inr (0, 0, 0, 0)) else none)))))))
theorem k_132_0 : mOk M_132.1 M_132.2.1 M_132.2.2.1 M_132.2.2.2 0 (oS 1 (s_push (.int (-1)))) := ok_iconst dX11_farthest_0 (by decide)
theorem k_132_1 : mOk M_132.1 M_132.2.1 M_132.2.2.1 M_132.2.2.2 1 (o_is 3 1) := ok_istore_n dX11_farthest_1 rfl
theorem k_132_2 : mOk M_132.1 M_132.2.1 M_132.2.2.1 M_132.2.2.2 2 (o_il 1 1) := ok_iload_n dX11_farthest_2 rfl
theorem k_132_3 : mOk M_132.1 M_132.2.1 M_132.2.2.1 M_132.2.2.2 3 (oS 1 (s_push (.int 1))) := ok_iconst dX11_farthest_3 (by decide)
theorem k_132_4 : mOk M_132.1 M_132.2.1 M_132.2.2.1 M_132.2.2.2 4 (oS 1 (s_ii (fun a b => a + b))) := ok_iadd dX11_farthest_4
theorem k_132_5 : mOk M_132.1 M_132.2.1 M_132.2.2.1 M_132.2.2.2 5 (o_is 4 2) := ok_istore dX11_farthest_5
theorem k_132_7 : mOk M_132.1 M_132.2.1 M_132.2.2.1 M_132.2.2.2 7 (o_il 4 2) := ok_iload dX11_farthest_7
theorem k_132_9 : mOk M_132.1 M_132.2.1 M_132.2.2.1 M_132.2.2.2 9 (o_il 2 1) := ok_iload_n dX11_farthest_9 rfl
theorem k_132_10 : mOk M_132.1 M_132.2.1 M_132.2.2.1 M_132.2.2.2 10 (o_cge 46) := ok_cge dX11_farthest_10 (by decide)
theorem k_132_13 : mOk M_132.1 M_132.2.1 M_132.2.2.1 M_132.2.2.2 13 (o_il 3 1) := ok_iload_n dX11_farthest_13 rfl
theorem k_132_14 : mOk M_132.1 M_132.2.1 M_132.2.2.1 M_132.2.2.2 14 (oS 1 (s_push (.int (-1)))) := ok_iconst dX11_farthest_14 (by decide)
theorem k_132_15 : mOk M_132.1 M_132.2.1 M_132.2.2.1 M_132.2.2.2 15 (o_ceq 37) := ok_ceq dX11_farthest_15 (by decide)
theorem k_132_18 : mOk M_132.1 M_132.2.1 M_132.2.2.1 M_132.2.2.2 18 (o_al 0 1) := ok_aload_n dX11_farthest_18 rfl
theorem k_132_19 : mOk M_132.1 M_132.2.1 M_132.2.2.1 M_132.2.2.2 19 (o_il 1 1) := ok_iload_n dX11_farthest_19 rfl
theorem k_132_20 : mOk M_132.1 M_132.2.1 M_132.2.2.1 M_132.2.2.2 20 (o_il 2 1) := ok_iload_n dX11_farthest_20 rfl
theorem k_132_21 : mOk M_132.1 M_132.2.1 M_132.2.2.1 M_132.2.2.2 21 (o_il 4 2) := ok_iload dX11_farthest_21
theorem k_132_26 : mOk M_132.1 M_132.2.1 M_132.2.2.1 M_132.2.2.2 26 (o_al 0 1) := ok_aload_n dX11_farthest_26 rfl
theorem k_132_27 : mOk M_132.1 M_132.2.1 M_132.2.2.1 M_132.2.2.2 27 (o_il 1 1) := ok_iload_n dX11_farthest_27 rfl
theorem k_132_28 : mOk M_132.1 M_132.2.1 M_132.2.2.1 M_132.2.2.2 28 (o_il 2 1) := ok_iload_n dX11_farthest_28 rfl
theorem k_132_29 : mOk M_132.1 M_132.2.1 M_132.2.2.1 M_132.2.2.2 29 (o_il 3 1) := ok_iload_n dX11_farthest_29 rfl
theorem k_132_33 : mOk M_132.1 M_132.2.1 M_132.2.2.1 M_132.2.2.2 33 (oS 1 s_lcmp) := ok_lcmp dX11_farthest_33
theorem k_132_34 : mOk M_132.1 M_132.2.1 M_132.2.2.1 M_132.2.2.2 34 (o_zle 40) := ok_zle dX11_farthest_34 (by decide)
theorem k_132_37 : mOk M_132.1 M_132.2.1 M_132.2.2.1 M_132.2.2.2 37 (o_il 4 2) := ok_iload dX11_farthest_37
theorem k_132_39 : mOk M_132.1 M_132.2.1 M_132.2.2.1 M_132.2.2.2 39 (o_is 3 1) := ok_istore_n dX11_farthest_39 rfl
theorem k_132_40 : mOk M_132.1 M_132.2.1 M_132.2.2.1 M_132.2.2.2 40 (o_inc 4 1) := ok_iinc dX11_farthest_40 (by decide)
theorem k_132_43 : mOk M_132.1 M_132.2.1 M_132.2.2.1 M_132.2.2.2 43 (o_goto 7) := ok_goto dX11_farthest_43 (by decide)
theorem k_132_46 : mOk M_132.1 M_132.2.1 M_132.2.2.1 M_132.2.2.2 46 (o_il 3 1) := ok_iload_n dX11_farthest_46 rfl
theorem k_132_47 : mOk M_132.1 M_132.2.1 M_132.2.2.1 M_132.2.2.2 47 (oS 1 (s_push (.int (-1)))) := ok_iconst dX11_farthest_47 (by decide)
theorem k_132_48 : mOk M_132.1 M_132.2.1 M_132.2.2.1 M_132.2.2.2 48 (o_cne 53) := ok_cne dX11_farthest_48 (by decide)
theorem k_132_51 : mOk M_132.1 M_132.2.1 M_132.2.2.1 M_132.2.2.2 51 (oS 1 (s_push (.int (-1)))) := ok_iconst dX11_farthest_51 (by decide)
theorem k_132_53 : mOk M_132.1 M_132.2.1 M_132.2.2.1 M_132.2.2.2 53 (o_al 0 1) := ok_aload_n dX11_farthest_53 rfl
theorem k_132_54 : mOk M_132.1 M_132.2.1 M_132.2.2.1 M_132.2.2.2 54 (o_gP 11 40) := ok_gP dX11_farthest_54 f_RX11_112 rfl
theorem k_132_57 : mOk M_132.1 M_132.2.1 M_132.2.2.1 M_132.2.2.2 57 (o_il 2 1) := ok_iload_n dX11_farthest_57 rfl
theorem k_132_58 : mOk M_132.1 M_132.2.1 M_132.2.2.1 M_132.2.2.2 58 (o_iald) := ok_iald dX11_farthest_58
theorem k_132_59 : mOk M_132.1 M_132.2.1 M_132.2.2.1 M_132.2.2.2 59 (o_al 0 1) := ok_aload_n dX11_farthest_59 rfl
theorem k_132_60 : mOk M_132.1 M_132.2.1 M_132.2.2.1 M_132.2.2.2 60 (o_gP 11 40) := ok_gP dX11_farthest_60 f_RX11_112 rfl
theorem k_132_63 : mOk M_132.1 M_132.2.1 M_132.2.2.1 M_132.2.2.2 63 (o_il 1 1) := ok_iload_n dX11_farthest_63 rfl
theorem k_132_64 : mOk M_132.1 M_132.2.1 M_132.2.2.1 M_132.2.2.2 64 (o_iald) := ok_iald dX11_farthest_64
theorem k_132_65 : mOk M_132.1 M_132.2.1 M_132.2.2.1 M_132.2.2.2 65 (oS 1 (s_ii (fun a b => a - b))) := ok_isub dX11_farthest_65
theorem k_132_66 : mOk M_132.1 M_132.2.1 M_132.2.2.1 M_132.2.2.2 66 (oS 1 s_i2l) := ok_i2l dX11_farthest_66
theorem k_132_67 : mOk M_132.1 M_132.2.1 M_132.2.2.1 M_132.2.2.2 67 (o_ls 4 2) := ok_lstore dX11_farthest_67
theorem k_132_69 : mOk M_132.1 M_132.2.1 M_132.2.2.1 M_132.2.2.2 69 (o_al 0 1) := ok_aload_n dX11_farthest_69 rfl
theorem k_132_70 : mOk M_132.1 M_132.2.1 M_132.2.2.1 M_132.2.2.2 70 (o_gP 11 41) := ok_gP dX11_farthest_70 f_RX11_115 rfl
theorem k_132_73 : mOk M_132.1 M_132.2.1 M_132.2.2.1 M_132.2.2.2 73 (o_il 2 1) := ok_iload_n dX11_farthest_73 rfl
theorem k_132_74 : mOk M_132.1 M_132.2.1 M_132.2.2.1 M_132.2.2.2 74 (o_iald) := ok_iald dX11_farthest_74
theorem k_132_75 : mOk M_132.1 M_132.2.1 M_132.2.2.1 M_132.2.2.2 75 (o_al 0 1) := ok_aload_n dX11_farthest_75 rfl
theorem k_132_76 : mOk M_132.1 M_132.2.1 M_132.2.2.1 M_132.2.2.2 76 (o_gP 11 41) := ok_gP dX11_farthest_76 f_RX11_115 rfl
theorem k_132_79 : mOk M_132.1 M_132.2.1 M_132.2.2.1 M_132.2.2.2 79 (o_il 1 1) := ok_iload_n dX11_farthest_79 rfl
theorem k_132_80 : mOk M_132.1 M_132.2.1 M_132.2.2.1 M_132.2.2.2 80 (o_iald) := ok_iald dX11_farthest_80
theorem k_132_81 : mOk M_132.1 M_132.2.1 M_132.2.2.1 M_132.2.2.2 81 (oS 1 (s_ii (fun a b => a - b))) := ok_isub dX11_farthest_81
theorem k_132_82 : mOk M_132.1 M_132.2.1 M_132.2.2.1 M_132.2.2.2 82 (oS 1 s_i2l) := ok_i2l dX11_farthest_82
theorem k_132_83 : mOk M_132.1 M_132.2.1 M_132.2.2.1 M_132.2.2.2 83 (o_ls 6 2) := ok_lstore dX11_farthest_83
theorem k_132_85 : mOk M_132.1 M_132.2.1 M_132.2.2.1 M_132.2.2.2 85 (o_ll 4 2) := ok_lload dX11_farthest_85
theorem k_132_87 : mOk M_132.1 M_132.2.1 M_132.2.2.1 M_132.2.2.2 87 (oS 1 (s_push (.long 0))) := ok_lconst dX11_farthest_87 (by decide)
theorem k_132_88 : mOk M_132.1 M_132.2.1 M_132.2.2.1 M_132.2.2.2 88 (oS 1 s_lcmp) := ok_lcmp dX11_farthest_88
theorem k_132_89 : mOk M_132.1 M_132.2.1 M_132.2.2.1 M_132.2.2.2 89 (o_zne 103) := ok_zne dX11_farthest_89 (by decide)
theorem k_132_92 : mOk M_132.1 M_132.2.1 M_132.2.2.1 M_132.2.2.2 92 (o_ll 6 2) := ok_lload dX11_farthest_92
theorem k_132_94 : mOk M_132.1 M_132.2.1 M_132.2.2.1 M_132.2.2.2 94 (oS 1 (s_push (.long 0))) := ok_lconst dX11_farthest_94 (by decide)
theorem k_132_95 : mOk M_132.1 M_132.2.1 M_132.2.2.1 M_132.2.2.2 95 (oS 1 s_lcmp) := ok_lcmp dX11_farthest_95
theorem k_132_96 : mOk M_132.1 M_132.2.1 M_132.2.2.1 M_132.2.2.2 96 (o_zne 103) := ok_zne dX11_farthest_96 (by decide)
theorem k_132_99 : mOk M_132.1 M_132.2.1 M_132.2.2.1 M_132.2.2.2 99 (oS 1 (s_push (.long 1))) := ok_lconst dX11_farthest_99 (by decide)
theorem k_132_100 : mOk M_132.1 M_132.2.1 M_132.2.2.1 M_132.2.2.2 100 (o_goto 114) := ok_goto dX11_farthest_100 (by decide)
theorem k_132_103 : mOk M_132.1 M_132.2.1 M_132.2.2.1 M_132.2.2.2 103 (o_ll 4 2) := ok_lload dX11_farthest_103
theorem k_132_105 : mOk M_132.1 M_132.2.1 M_132.2.2.1 M_132.2.2.2 105 (o_ll 4 2) := ok_lload dX11_farthest_105
theorem k_132_107 : mOk M_132.1 M_132.2.1 M_132.2.2.1 M_132.2.2.2 107 (oS 1 (s_ll (fun a b => a * b))) := ok_lmul dX11_farthest_107
theorem k_132_108 : mOk M_132.1 M_132.2.1 M_132.2.2.1 M_132.2.2.2 108 (o_ll 6 2) := ok_lload dX11_farthest_108
theorem k_132_110 : mOk M_132.1 M_132.2.1 M_132.2.2.1 M_132.2.2.2 110 (o_ll 6 2) := ok_lload dX11_farthest_110
theorem k_132_112 : mOk M_132.1 M_132.2.1 M_132.2.2.1 M_132.2.2.2 112 (oS 1 (s_ll (fun a b => a * b))) := ok_lmul dX11_farthest_112
theorem k_132_113 : mOk M_132.1 M_132.2.1 M_132.2.2.1 M_132.2.2.2 113 (oS 1 (s_ll (fun a b => a + b))) := ok_ladd dX11_farthest_113
theorem k_132_114 : mOk M_132.1 M_132.2.1 M_132.2.2.1 M_132.2.2.2 114 (o_ls 8 2) := ok_lstore dX11_farthest_114
theorem k_132_116 : mOk M_132.1 M_132.2.1 M_132.2.2.1 M_132.2.2.2 116 (o_al 0 1) := ok_aload_n dX11_farthest_116 rfl
theorem k_132_117 : mOk M_132.1 M_132.2.1 M_132.2.2.1 M_132.2.2.2 117 (o_il 1 1) := ok_iload_n dX11_farthest_117 rfl
theorem k_132_118 : mOk M_132.1 M_132.2.1 M_132.2.2.1 M_132.2.2.2 118 (o_il 2 1) := ok_iload_n dX11_farthest_118 rfl
theorem k_132_119 : mOk M_132.1 M_132.2.1 M_132.2.2.1 M_132.2.2.2 119 (o_il 3 1) := ok_iload_n dX11_farthest_119 rfl
theorem k_132_123 : mOk M_132.1 M_132.2.1 M_132.2.2.1 M_132.2.2.2 123 (oS 3 (s_push (.long 4))) := ok_ldc2 dX11_farthest_123 m_1297
theorem k_132_126 : mOk M_132.1 M_132.2.1 M_132.2.2.1 M_132.2.2.2 126 (o_ll 8 2) := ok_lload dX11_farthest_126
theorem k_132_128 : mOk M_132.1 M_132.2.1 M_132.2.2.1 M_132.2.2.2 128 (oS 1 (s_ll (fun a b => a * b))) := ok_lmul dX11_farthest_128
theorem k_132_129 : mOk M_132.1 M_132.2.1 M_132.2.2.1 M_132.2.2.2 129 (oS 1 s_lcmp) := ok_lcmp dX11_farthest_129
theorem k_132_130 : mOk M_132.1 M_132.2.1 M_132.2.2.1 M_132.2.2.2 130 (o_zlt 137) := ok_zlt dX11_farthest_130 (by decide)
theorem k_132_133 : mOk M_132.1 M_132.2.1 M_132.2.2.1 M_132.2.2.2 133 (o_il 3 1) := ok_iload_n dX11_farthest_133 rfl
theorem k_132_134 : mOk M_132.1 M_132.2.1 M_132.2.2.1 M_132.2.2.2 134 (o_goto 138) := ok_goto dX11_farthest_134 (by decide)
theorem k_132_137 : mOk M_132.1 M_132.2.1 M_132.2.2.1 M_132.2.2.2 137 (oS 1 (s_push (.int (-1)))) := ok_iconst dX11_farthest_137 (by decide)
set_option maxRecDepth 20000 in
set_option maxHeartbeats 4000000 in
theorem tk_132 (l : Launch) (H9 : mThr l) (H10 : mSpl l) (pc : Nat) (q : mEnt) (h : tb_132 pc = some q) : EE l 132 pc q := nd h (fun h => nd h (fun h => nd h (fun h => nd h (fun h => nd h (fun h => nd h (fun h => lf (P := EE l 132) h k_132_0) (fun h => lf (P := EE l 132) h k_132_1)) (fun h => nd h (fun h => lf (P := EE l 132) h k_132_2) (fun h => nd h (fun h => lf (P := EE l 132) h k_132_3) (fun h => lf (P := EE l 132) h k_132_4)))) (fun h => nd h (fun h => nd h (fun h => lf (P := EE l 132) h k_132_5) (fun h => lf (P := EE l 132) h k_132_7)) (fun h => nd h (fun h => lf (P := EE l 132) h k_132_9) (fun h => nd h (fun h => lf (P := EE l 132) h k_132_10) (fun h => lf (P := EE l 132) h k_132_13))))) (fun h => nd h (fun h => nd h (fun h => nd h (fun h => lf (P := EE l 132) h k_132_14) (fun h => lf (P := EE l 132) h k_132_15)) (fun h => nd h (fun h => lf (P := EE l 132) h k_132_18) (fun h => nd h (fun h => lf (P := EE l 132) h k_132_19) (fun h => lf (P := EE l 132) h k_132_20)))) (fun h => nd h (fun h => nd h (fun h => lf (P := EE l 132) h k_132_21) (fun h => nd h (fun h => lf (P := EE l 132) h (EE_ca (by decide) (⟨m_1296, m_81, ⟨by decide, by decide⟩, by decide +kernel, ⟨by decide, by decide⟩, 185, 3, by decide +kernel, Or.inr (Or.inr (Or.inl ⟨rfl, rfl, dX11_farthest_23, m_1293, m_1295, _, rfl, by decide, m_41⟩))⟩) rfl)) (fun h => lf (P := EE l 132) h k_132_26))) (fun h => nd h (fun h => lf (P := EE l 132) h k_132_27) (fun h => nd h (fun h => lf (P := EE l 132) h k_132_28) (fun h => lf (P := EE l 132) h k_132_29)))))) (fun h => nd h (fun h => nd h (fun h => nd h (fun h => nd h (fun h => lf (P := EE l 132) h (EE_ca (by decide) (⟨m_1296, m_81, ⟨by decide, by decide⟩, by decide +kernel, ⟨by decide, by decide⟩, 185, 3, by decide +kernel, Or.inr (Or.inr (Or.inl ⟨rfl, rfl, dX11_farthest_30, m_1293, m_1295, _, rfl, by decide, m_41⟩))⟩) rfl)) (fun h => lf (P := EE l 132) h k_132_33)) (fun h => nd h (fun h => lf (P := EE l 132) h k_132_34) (fun h => nd h (fun h => lf (P := EE l 132) h k_132_37) (fun h => lf (P := EE l 132) h k_132_39)))) (fun h => nd h (fun h => nd h (fun h => lf (P := EE l 132) h k_132_40) (fun h => nd h (fun h => lf (P := EE l 132) h k_132_43) (fun h => lf (P := EE l 132) h k_132_46))) (fun h => nd h (fun h => lf (P := EE l 132) h k_132_47) (fun h => nd h (fun h => lf (P := EE l 132) h k_132_48) (fun h => lf (P := EE l 132) h k_132_51))))) (fun h => nd h (fun h => nd h (fun h => nd h (fun h => lf (P := EE l 132) h (EE_re (Or.inl ⟨rfl, dX11_farthest_52, rfl⟩))) (fun h => lf (P := EE l 132) h k_132_53)) (fun h => nd h (fun h => lf (P := EE l 132) h k_132_54) (fun h => nd h (fun h => lf (P := EE l 132) h k_132_57) (fun h => lf (P := EE l 132) h k_132_58)))) (fun h => nd h (fun h => nd h (fun h => lf (P := EE l 132) h k_132_59) (fun h => nd h (fun h => lf (P := EE l 132) h k_132_60) (fun h => lf (P := EE l 132) h k_132_63))) (fun h => nd h (fun h => lf (P := EE l 132) h k_132_64) (fun h => nd h (fun h => lf (P := EE l 132) h k_132_65) (fun h => lf (P := EE l 132) h k_132_66))))))) (fun h => nd h (fun h => nd h (fun h => nd h (fun h => nd h (fun h => nd h (fun h => lf (P := EE l 132) h k_132_67) (fun h => lf (P := EE l 132) h k_132_69)) (fun h => nd h (fun h => lf (P := EE l 132) h k_132_70) (fun h => nd h (fun h => lf (P := EE l 132) h k_132_73) (fun h => lf (P := EE l 132) h k_132_74)))) (fun h => nd h (fun h => nd h (fun h => lf (P := EE l 132) h k_132_75) (fun h => nd h (fun h => lf (P := EE l 132) h k_132_76) (fun h => lf (P := EE l 132) h k_132_79))) (fun h => nd h (fun h => lf (P := EE l 132) h k_132_80) (fun h => nd h (fun h => lf (P := EE l 132) h k_132_81) (fun h => lf (P := EE l 132) h k_132_82))))) (fun h => nd h (fun h => nd h (fun h => nd h (fun h => lf (P := EE l 132) h k_132_83) (fun h => lf (P := EE l 132) h k_132_85)) (fun h => nd h (fun h => lf (P := EE l 132) h k_132_87) (fun h => nd h (fun h => lf (P := EE l 132) h k_132_88) (fun h => lf (P := EE l 132) h k_132_89)))) (fun h => nd h (fun h => nd h (fun h => lf (P := EE l 132) h k_132_92) (fun h => nd h (fun h => lf (P := EE l 132) h k_132_94) (fun h => lf (P := EE l 132) h k_132_95))) (fun h => nd h (fun h => lf (P := EE l 132) h k_132_96) (fun h => nd h (fun h => lf (P := EE l 132) h k_132_99) (fun h => lf (P := EE l 132) h k_132_100)))))) (fun h => nd h (fun h => nd h (fun h => nd h (fun h => nd h (fun h => lf (P := EE l 132) h k_132_103) (fun h => lf (P := EE l 132) h k_132_105)) (fun h => nd h (fun h => lf (P := EE l 132) h k_132_107) (fun h => nd h (fun h => lf (P := EE l 132) h k_132_108) (fun h => lf (P := EE l 132) h k_132_110)))) (fun h => nd h (fun h => nd h (fun h => lf (P := EE l 132) h k_132_112) (fun h => nd h (fun h => lf (P := EE l 132) h k_132_113) (fun h => lf (P := EE l 132) h k_132_114))) (fun h => nd h (fun h => lf (P := EE l 132) h k_132_116) (fun h => nd h (fun h => lf (P := EE l 132) h k_132_117) (fun h => lf (P := EE l 132) h k_132_118))))) (fun h => nd h (fun h => nd h (fun h => nd h (fun h => lf (P := EE l 132) h k_132_119) (fun h => lf (P := EE l 132) h (EE_ca (by decide) (⟨m_1296, m_81, ⟨by decide, by decide⟩, by decide +kernel, ⟨by decide, by decide⟩, 185, 3, by decide +kernel, Or.inr (Or.inr (Or.inl ⟨rfl, rfl, dX11_farthest_120, m_1293, m_1295, _, rfl, by decide, m_41⟩))⟩) rfl))) (fun h => nd h (fun h => lf (P := EE l 132) h k_132_123) (fun h => nd h (fun h => lf (P := EE l 132) h k_132_126) (fun h => lf (P := EE l 132) h k_132_128)))) (fun h => nd h (fun h => nd h (fun h => lf (P := EE l 132) h k_132_129) (fun h => nd h (fun h => lf (P := EE l 132) h k_132_130) (fun h => lf (P := EE l 132) h k_132_133))) (fun h => nd h (fun h => lf (P := EE l 132) h k_132_134) (fun h => nd h (fun h => lf (P := EE l 132) h k_132_137) (fun h => lf (P := EE l 132) h (EE_re (Or.inl ⟨rfl, dX11_farthest_138, rfl⟩)))))))))
theorem dX11_simplify_0 : decode cX11_simplify 0 = .ok (.iconst 0, 1) := by decide +kernel
theorem dX11_simplify_1 : decode cX11_simplify 1 = .ok (.istore_n 1, 1) := by decide +kernel
theorem dX11_simplify_2 : decode cX11_simplify 2 = .ok (.iload_n 1, 1) := by decide +kernel
theorem dX11_simplify_3 : decode cX11_simplify 3 = .ok (.aload_n 0, 1) := by decide +kernel
theorem dX11_simplify_4 : decode cX11_simplify 4 = .ok (.getfield 191, 3) := by decide +kernel
theorem dX11_simplify_7 : decode cX11_simplify 7 = .ok (.if_icmp .ge 34, 3) := by decide +kernel
theorem dX11_simplify_10 : decode cX11_simplify 10 = .ok (.aload_n 0, 1) := by decide +kernel
theorem dX11_simplify_11 : decode cX11_simplify 11 = .ok (.getfield 130, 3) := by decide +kernel
theorem dX11_simplify_14 : decode cX11_simplify 14 = .ok (.iload_n 1, 1) := by decide +kernel
theorem dX11_simplify_15 : decode cX11_simplify 15 = .ok (.iload_n 1, 1) := by decide +kernel
theorem dX11_simplify_16 : decode cX11_simplify 16 = .ok (.ifCond .eq 13, 3) := by decide +kernel
theorem dX11_simplify_19 : decode cX11_simplify 19 = .ok (.iload_n 1, 1) := by decide +kernel
theorem dX11_simplify_20 : decode cX11_simplify 20 = .ok (.aload_n 0, 1) := by decide +kernel
theorem dX11_simplify_21 : decode cX11_simplify 21 = .ok (.getfield 191, 3) := by decide +kernel
theorem dX11_simplify_24 : decode cX11_simplify 24 = .ok (.iconst 1, 1) := by decide +kernel
theorem dX11_simplify_25 : decode cX11_simplify 25 = .ok (.isub, 1) := by decide +kernel
theorem dX11_simplify_26 : decode cX11_simplify 26 = .ok (.if_icmp .ne 7, 3) := by decide +kernel
theorem dX11_simplify_29 : decode cX11_simplify 29 = .ok (.iconst 1, 1) := by decide +kernel
theorem dX11_simplify_30 : decode cX11_simplify 30 = .ok (.goto 4, 3) := by decide +kernel
theorem dX11_simplify_33 : decode cX11_simplify 33 = .ok (.iconst 0, 1) := by decide +kernel
theorem dX11_simplify_34 : decode cX11_simplify 34 = .ok (.bastore, 1) := by decide +kernel
theorem dX11_simplify_35 : decode cX11_simplify 35 = .ok (.iinc 1 1, 3) := by decide +kernel
theorem dX11_simplify_38 : decode cX11_simplify 38 = .ok (.goto (-36), 3) := by decide +kernel
theorem dX11_simplify_41 : decode cX11_simplify 41 = .ok (.iconst 1, 1) := by decide +kernel
theorem dX11_simplify_42 : decode cX11_simplify 42 = .ok (.istore_n 1, 1) := by decide +kernel
theorem dX11_simplify_43 : decode cX11_simplify 43 = .ok (.iconst 0, 1) := by decide +kernel
theorem dX11_simplify_44 : decode cX11_simplify 44 = .ok (.istore_n 2, 1) := by decide +kernel
theorem dX11_simplify_45 : decode cX11_simplify 45 = .ok (.iload_n 2, 1) := by decide +kernel
theorem dX11_simplify_46 : decode cX11_simplify 46 = .ok (.bipush 16, 2) := by decide +kernel
theorem dX11_simplify_48 : decode cX11_simplify 48 = .ok (.if_icmp .ge 73, 3) := by decide +kernel
theorem dX11_simplify_51 : decode cX11_simplify 51 = .ok (.iload_n 1, 1) := by decide +kernel
theorem dX11_simplify_52 : decode cX11_simplify 52 = .ok (.ifCond .eq 69, 3) := by decide +kernel
theorem dX11_simplify_55 : decode cX11_simplify 55 = .ok (.iconst 0, 1) := by decide +kernel
theorem dX11_simplify_56 : decode cX11_simplify 56 = .ok (.istore_n 1, 1) := by decide +kernel
theorem dX11_simplify_57 : decode cX11_simplify 57 = .ok (.iconst 0, 1) := by decide +kernel
theorem dX11_simplify_58 : decode cX11_simplify 58 = .ok (.istore_n 3, 1) := by decide +kernel
theorem dX11_simplify_59 : decode cX11_simplify 59 = .ok (.iconst 1, 1) := by decide +kernel
theorem dX11_simplify_60 : decode cX11_simplify 60 = .ok (.istore 4, 2) := by decide +kernel
theorem dX11_simplify_62 : decode cX11_simplify 62 = .ok (.iload 4, 2) := by decide +kernel
theorem dX11_simplify_64 : decode cX11_simplify 64 = .ok (.aload_n 0, 1) := by decide +kernel
theorem dX11_simplify_65 : decode cX11_simplify 65 = .ok (.getfield 191, 3) := by decide +kernel
theorem dX11_simplify_68 : decode cX11_simplify 68 = .ok (.if_icmp .ge 47, 3) := by decide +kernel
theorem dX11_simplify_71 : decode cX11_simplify 71 = .ok (.aload_n 0, 1) := by decide +kernel
theorem dX11_simplify_72 : decode cX11_simplify 72 = .ok (.getfield 130, 3) := by decide +kernel
theorem dX11_simplify_75 : decode cX11_simplify 75 = .ok (.iload 4, 2) := by decide +kernel
theorem dX11_simplify_77 : decode cX11_simplify 77 = .ok (.baload, 1) := by decide +kernel
theorem dX11_simplify_78 : decode cX11_simplify 78 = .ok (.ifCond .eq 31, 3) := by decide +kernel
theorem dX11_simplify_81 : decode cX11_simplify 81 = .ok (.aload_n 0, 1) := by decide +kernel
theorem dX11_simplify_82 : decode cX11_simplify 82 = .ok (.iload_n 3, 1) := by decide +kernel
theorem dX11_simplify_83 : decode cX11_simplify 83 = .ok (.iload 4, 2) := by decide +kernel
theorem dX11_simplify_85 : decode cX11_simplify 85 = .ok (.invokevirtual 194, 3) := by decide +kernel
theorem dX11_simplify_88 : decode cX11_simplify 88 = .ok (.istore 5, 2) := by decide +kernel
theorem dX11_simplify_90 : decode cX11_simplify 90 = .ok (.iload 5, 2) := by decide +kernel
theorem dX11_simplify_92 : decode cX11_simplify 92 = .ok (.iconst (-1), 1) := by decide +kernel
theorem dX11_simplify_93 : decode cX11_simplify 93 = .ok (.if_icmp .eq 13, 3) := by decide +kernel
theorem dX11_simplify_96 : decode cX11_simplify 96 = .ok (.aload_n 0, 1) := by decide +kernel
theorem dX11_simplify_97 : decode cX11_simplify 97 = .ok (.getfield 130, 3) := by decide +kernel
theorem dX11_simplify_100 : decode cX11_simplify 100 = .ok (.iload 5, 2) := by decide +kernel
theorem dX11_simplify_102 : decode cX11_simplify 102 = .ok (.iconst 1, 1) := by decide +kernel
theorem dX11_simplify_103 : decode cX11_simplify 103 = .ok (.bastore, 1) := by decide +kernel
theorem dX11_simplify_104 : decode cX11_simplify 104 = .ok (.iconst 1, 1) := by decide +kernel
theorem dX11_simplify_105 : decode cX11_simplify 105 = .ok (.istore_n 1, 1) := by decide +kernel
theorem dX11_simplify_106 : decode cX11_simplify 106 = .ok (.iload 4, 2) := by decide +kernel
theorem dX11_simplify_108 : decode cX11_simplify 108 = .ok (.istore_n 3, 1) := by decide +kernel
theorem dX11_simplify_109 : decode cX11_simplify 109 = .ok (.iinc 4 1, 3) := by decide +kernel
theorem dX11_simplify_112 : decode cX11_simplify 112 = .ok (.goto (-50), 3) := by decide +kernel
theorem dX11_simplify_115 : decode cX11_simplify 115 = .ok (.iinc 2 1, 3) := by decide +kernel
theorem dX11_simplify_118 : decode cX11_simplify 118 = .ok (.goto (-73), 3) := by decide +kernel
theorem dX11_simplify_121 : decode cX11_simplify 121 = .ok (.iconst 0, 1) := by decide +kernel
theorem dX11_simplify_122 : decode cX11_simplify 122 = .ok (.istore_n 2, 1) := by decide +kernel
theorem dX11_simplify_123 : decode cX11_simplify 123 = .ok (.iconst 0, 1) := by decide +kernel
theorem dX11_simplify_124 : decode cX11_simplify 124 = .ok (.istore_n 3, 1) := by decide +kernel
theorem dX11_simplify_125 : decode cX11_simplify 125 = .ok (.iload_n 3, 1) := by decide +kernel
theorem dX11_simplify_126 : decode cX11_simplify 126 = .ok (.aload_n 0, 1) := by decide +kernel
theorem dX11_simplify_127 : decode cX11_simplify 127 = .ok (.getfield 191, 3) := by decide +kernel
theorem dX11_simplify_130 : decode cX11_simplify 130 = .ok (.if_icmp .ge 60, 3) := by decide +kernel
theorem dX11_simplify_133 : decode cX11_simplify 133 = .ok (.aload_n 0, 1) := by decide +kernel
theorem dX11_simplify_134 : decode cX11_simplify 134 = .ok (.getfield 130, 3) := by decide +kernel
theorem dX11_simplify_137 : decode cX11_simplify 137 = .ok (.iload_n 3, 1) := by decide +kernel
theorem dX11_simplify_138 : decode cX11_simplify 138 = .ok (.baload, 1) := by decide +kernel
theorem dX11_simplify_139 : decode cX11_simplify 139 = .ok (.ifCond .eq 45, 3) := by decide +kernel
theorem dX11_simplify_142 : decode cX11_simplify 142 = .ok (.aload_n 0, 1) := by decide +kernel
theorem dX11_simplify_143 : decode cX11_simplify 143 = .ok (.getfield 112, 3) := by decide +kernel
theorem dX11_simplify_146 : decode cX11_simplify 146 = .ok (.iload_n 2, 1) := by decide +kernel
theorem dX11_simplify_147 : decode cX11_simplify 147 = .ok (.aload_n 0, 1) := by decide +kernel
theorem dX11_simplify_148 : decode cX11_simplify 148 = .ok (.getfield 112, 3) := by decide +kernel
theorem dX11_simplify_151 : decode cX11_simplify 151 = .ok (.iload_n 3, 1) := by decide +kernel
theorem dX11_simplify_152 : decode cX11_simplify 152 = .ok (.iaload, 1) := by decide +kernel
theorem dX11_simplify_153 : decode cX11_simplify 153 = .ok (.iastore, 1) := by decide +kernel
theorem dX11_simplify_154 : decode cX11_simplify 154 = .ok (.aload_n 0, 1) := by decide +kernel
theorem dX11_simplify_155 : decode cX11_simplify 155 = .ok (.getfield 115, 3) := by decide +kernel
theorem dX11_simplify_158 : decode cX11_simplify 158 = .ok (.iload_n 2, 1) := by decide +kernel
theorem dX11_simplify_159 : decode cX11_simplify 159 = .ok (.aload_n 0, 1) := by decide +kernel
theorem dX11_simplify_160 : decode cX11_simplify 160 = .ok (.getfield 115, 3) := by decide +kernel
theorem dX11_simplify_163 : decode cX11_simplify 163 = .ok (.iload_n 3, 1) := by decide +kernel
theorem dX11_simplify_164 : decode cX11_simplify 164 = .ok (.iaload, 1) := by decide +kernel
theorem dX11_simplify_165 : decode cX11_simplify 165 = .ok (.iastore, 1) := by decide +kernel
theorem dX11_simplify_166 : decode cX11_simplify 166 = .ok (.aload_n 0, 1) := by decide +kernel
theorem dX11_simplify_167 : decode cX11_simplify 167 = .ok (.getfield 118, 3) := by decide +kernel
theorem dX11_simplify_170 : decode cX11_simplify 170 = .ok (.iload_n 2, 1) := by decide +kernel
theorem dX11_simplify_171 : decode cX11_simplify 171 = .ok (.iload_n 2, 1) := by decide +kernel
theorem dX11_simplify_172 : decode cX11_simplify 172 = .ok (.ifCond .ne 7, 3) := by decide +kernel
theorem dX11_simplify_175 : decode cX11_simplify 175 = .ok (.iconst 1, 1) := by decide +kernel
theorem dX11_simplify_176 : decode cX11_simplify 176 = .ok (.goto 4, 3) := by decide +kernel
theorem dX11_simplify_179 : decode cX11_simplify 179 = .ok (.iconst 0, 1) := by decide +kernel
theorem dX11_simplify_180 : decode cX11_simplify 180 = .ok (.bastore, 1) := by decide +kernel
theorem dX11_simplify_181 : decode cX11_simplify 181 = .ok (.iinc 2 1, 3) := by decide +kernel
theorem dX11_simplify_184 : decode cX11_simplify 184 = .ok (.iinc 3 1, 3) := by decide +kernel
theorem dX11_simplify_187 : decode cX11_simplify 187 = .ok (.goto (-62), 3) := by decide +kernel
theorem dX11_simplify_190 : decode cX11_simplify 190 = .ok (.aload_n 0, 1) := by decide +kernel
theorem dX11_simplify_191 : decode cX11_simplify 191 = .ok (.iload_n 2, 1) := by decide +kernel
theorem dX11_simplify_192 : decode cX11_simplify 192 = .ok (.putfield 191, 3) := by decide +kernel
theorem dX11_simplify_195 : decode cX11_simplify 195 = .ok (.return_, 1) := by decide +kernel
def tb_133 (pc : Nat) : Option mEnt := bif Nat.ble pc 96 then (bif Nat.ble pc 45 then (bif Nat.ble pc 21 then (bif Nat.ble pc 10 then (bif Nat.ble pc 2 then (bif Nat.ble pc 0 then (bif Nat.beq pc 0 then some (.inl (oS 1 (s_push (.int 0)))) else none) else (bif Nat.ble pc 1 then (bif Nat.beq pc 1 then some (.inl (o_is 1 1)) else none) else (bif Nat.beq pc 2 then some (.inl (o_il 1 1)) else none))) else (bif Nat.ble pc 4 then (bif Nat.ble pc 3 then (bif Nat.beq pc 3 then some (.inl (o_al 0 1)) else none) else (bif Nat.beq pc 4 then some (.inl (o_gI 11 43)) else none)) else (bif Nat.ble pc 7 then (bif Nat.beq pc 7 then some (.inl (o_cge 41)) else none) else (bif Nat.beq pc 10 then some (.inl (o_al 0 1)) else none)))) else (bif Nat.ble pc 15 then (bif Nat.ble pc 11 then (bif Nat.beq pc 11 then some (.inl (o_gP 11 48)) else none) else (bif Nat.ble pc 14 then (bif Nat.beq pc 14 then some (.inl (o_il 1 1)) else none) else (bif Nat.beq pc 15 then some (.inl (o_il 1 1)) else none))) else (bif Nat.ble pc 19 then (bif Nat.ble pc 16 then (bif Nat.beq pc 16 then some (.inl (o_zeq 29)) else none) else (bif Nat.beq pc 19 then some (.inl (o_il 1 1)) else none)) else (bif Nat.ble pc 20 then (bif Nat.beq pc 20 then some (.inl (o_al 0 1)) else none) else (bif Nat.beq pc 21 then some (.inl (o_gI 11 43)) else none))))) else (bif Nat.ble pc 34 then (bif Nat.ble pc 26 then (bif Nat.ble pc 24 then (bif Nat.beq pc 24 then some (.inl (oS 1 (s_push (.int 1)))) else none) else (bif Nat.ble pc 25 then (bif Nat.beq pc 25 then some (.inl (oS 1 (s_ii (fun a b => a - b)))) else none) else (bif Nat.beq pc 26 then some (.inl (o_cne 33)) else none))) else (bif Nat.ble pc 30 then (bif Nat.ble pc 29 then (bif Nat.beq pc 29 then some (.inl (oS 1 (s_push (.int 1)))) else none) else (bif Nat.beq pc 30 then some (.inl (o_goto 34)) else none)) else (bif Nat.ble pc 33 then (bif Nat.beq pc 33 then some (.inl (oS 1 (s_push (.int 0)))) else none) else (bif Nat.beq pc 34 then some (.inl (o_bast)) else none)))) else (bif Nat.ble pc 41 then (bif Nat.ble pc 35 then (bif Nat.beq pc 35 then some (.inl (o_inc 1 1)) else none) else (bif Nat.ble pc 38 then (bif Nat.beq pc 38 then some (.inl (o_goto 2)) else none) else (bif Nat.beq pc 41 then some (.inl (oS 1 (s_push (.int 1)))) else none))) else (bif Nat.ble pc 43 then (bif Nat.ble pc 42 then (bif Nat.beq pc 42 then some (.inl (o_is 1 1)) else none) else (bif Nat.beq pc 43 then some (.inl (oS 1 (s_push (.int 0)))) else none)) else (bif Nat.ble pc 44 then (bif Nat.beq pc 44 then some (.inl (o_is 2 1)) else none) else (bif Nat.beq pc 45 then some (.inl (o_il 2 1)) else none)))))) else (bif Nat.ble pc 68 then (bif Nat.ble pc 57 then (bif Nat.ble pc 51 then (bif Nat.ble pc 46 then (bif Nat.beq pc 46 then some (.inl (oS 2 (s_push (.int 16)))) else none) else (bif Nat.ble pc 48 then (bif Nat.beq pc 48 then some (.inl (o_cge 121)) else none) else (bif Nat.beq pc 51 then some (.inl (o_il 1 1)) else none))) else (bif Nat.ble pc 55 then (bif Nat.ble pc 52 then (bif Nat.beq pc 52 then some (.inl (o_zeq 121)) else none) else (bif Nat.beq pc 55 then some (.inl (oS 1 (s_push (.int 0)))) else none)) else (bif Nat.ble pc 56 then (bif Nat.beq pc 56 then some (.inl (o_is 1 1)) else none) else (bif Nat.beq pc 57 then some (.inl (oS 1 (s_push (.int 0)))) else none)))) else (bif Nat.ble pc 60 then (bif Nat.ble pc 58 then (bif Nat.beq pc 58 then some (.inl (o_is 3 1)) else none) else (bif Nat.ble pc 59 then (bif Nat.beq pc 59 then some (.inl (oS 1 (s_push (.int 1)))) else none) else (bif Nat.beq pc 60 then some (.inl (o_is 4 2)) else none))) else (bif Nat.ble pc 64 then (bif Nat.ble pc 62 then (bif Nat.beq pc 62 then some (.inl (o_il 4 2)) else none) else (bif Nat.beq pc 64 then some (.inl (o_al 0 1)) else none)) else (bif Nat.ble pc 65 then (bif Nat.beq pc 65 then some (.inl (o_gI 11 43)) else none) else (bif Nat.beq pc 68 then some (.inl (o_cge 115)) else none))))) else (bif Nat.ble pc 82 then (bif Nat.ble pc 75 then (bif Nat.ble pc 71 then (bif Nat.beq pc 71 then some (.inl (o_al 0 1)) else none) else (bif Nat.ble pc 72 then (bif Nat.beq pc 72 then some (.inl (o_gP 11 48)) else none) else (bif Nat.beq pc 75 then some (.inl (o_il 4 2)) else none))) else (bif Nat.ble pc 78 then (bif Nat.ble pc 77 then (bif Nat.beq pc 77 then some (.inl (o_bald)) else none) else (bif Nat.beq pc 78 then some (.inl (o_zeq 109)) else none)) else (bif Nat.ble pc 81 then (bif Nat.beq pc 81 then some (.inl (o_al 0 1)) else none) else (bif Nat.beq pc 82 then some (.inl (o_il 3 1)) else none)))) else (bif Nat.ble pc 88 then (bif Nat.ble pc 83 then (bif Nat.beq pc 83 then some (.inl (o_il 4 2)) else none) else (bif Nat.ble pc 85 then (bif Nat.beq pc 85 then some (.inr (3, 132, 3, 11)) else none) else (bif Nat.beq pc 88 then some (.inl (o_is 5 2)) else none))) else (bif Nat.ble pc 92 then (bif Nat.ble pc 90 then (bif Nat.beq pc 90 then some (.inl (o_il 5 2)) else none) else (bif Nat.beq pc 92 then some (.inl (oS 1 (s_push (.int (-1))))) else none)) else (bif Nat.ble pc 93 then (bif Nat.beq pc 93 then some (.inl (o_ceq 106)) else none) else (bif Nat.beq pc 96 then some (.inl (o_al 0 1)) else none))))))) else (bif Nat.ble pc 146 then (bif Nat.ble pc 122 then (bif Nat.ble pc 106 then (bif Nat.ble pc 102 then (bif Nat.ble pc 97 then (bif Nat.beq pc 97 then some (.inl (o_gP 11 48)) else none) else (bif Nat.ble pc 100 then (bif Nat.beq pc 100 then some (.inl (o_il 5 2)) else none) else (bif Nat.beq pc 102 then some (.inl (oS 1 (s_push (.int 1)))) else none))) else (bif Nat.ble pc 104 then (bif Nat.ble pc 103 then (bif Nat.beq pc 103 then some (.inl (o_bast)) else none) else (bif Nat.beq pc 104 then some (.inl (oS 1 (s_push (.int 1)))) else none)) else (bif Nat.ble pc 105 then (bif Nat.beq pc 105 then some (.inl (o_is 1 1)) else none) else (bif Nat.beq pc 106 then some (.inl (o_il 4 2)) else none)))) else (bif Nat.ble pc 112 then (bif Nat.ble pc 108 then (bif Nat.beq pc 108 then some (.inl (o_is 3 1)) else none) else (bif Nat.ble pc 109 then (bif Nat.beq pc 109 then some (.inl (o_inc 4 1)) else none) else (bif Nat.beq pc 112 then some (.inl (o_goto 62)) else none))) else (bif Nat.ble pc 118 then (bif Nat.ble pc 115 then (bif Nat.beq pc 115 then some (.inl (o_inc 2 1)) else none) else (bif Nat.beq pc 118 then some (.inl (o_goto 45)) else none)) else (bif Nat.ble pc 121 then (bif Nat.beq pc 121 then some (.inl (oS 1 (s_push (.int 0)))) else none) else (bif Nat.beq pc 122 then some (.inl (o_is 2 1)) else none))))) else (bif Nat.ble pc 133 then (bif Nat.ble pc 125 then (bif Nat.ble pc 123 then (bif Nat.beq pc 123 then some (.inl (oS 1 (s_push (.int 0)))) else none) else (bif Nat.ble pc 124 then (bif Nat.beq pc 124 then some (.inl (o_is 3 1)) else none) else (bif Nat.beq pc 125 then some (.inl (o_il 3 1)) else none))) else (bif Nat.ble pc 127 then (bif Nat.ble pc 126 then (bif Nat.beq pc 126 then some (.inl (o_al 0 1)) else none) else (bif Nat.beq pc 127 then some (.inl (o_gI 11 43)) else none)) else (bif Nat.ble pc 130 then (bif Nat.beq pc 130 then some (.inl (o_cge 190)) else none) else (bif Nat.beq pc 133 then some (.inl (o_al 0 1)) else none)))) else (bif Nat.ble pc 138 then (bif Nat.ble pc 134 then (bif Nat.beq pc 134 then some (.inl (o_gP 11 48)) else none) else (bif Nat.ble pc 137 then (bif Nat.beq pc 137 then some (.inl (o_il 3 1)) else none) else (bif Nat.beq pc 138 then some (.inl (o_bald)) else none))) else (bif Nat.ble pc 142 then (bif Nat.ble pc 139 then (bif Nat.beq pc 139 then some (.inl (o_zeq 184)) else none) else (bif Nat.beq pc 142 then some (.inl (o_al 0 1)) else none)) else (bif Nat.ble pc 143 then (bif Nat.beq pc 143 then some (.inl (o_gP 11 40)) else none) else (bif Nat.beq pc 146 then some (.inl (o_il 2 1)) else none)))))) else (bif Nat.ble pc 166 then (bif Nat.ble pc 155 then (bif Nat.ble pc 151 then (bif Nat.ble pc 147 then (bif Nat.beq pc 147 then some (.inl (o_al 0 1)) else none) else (bif Nat.ble pc 148 then (bif Nat.beq pc 148 then some (.inl (o_gP 11 40)) else none) else (bif Nat.beq pc 151 then some (.inl (o_il 3 1)) else none))) else (bif Nat.ble pc 153 then (bif Nat.ble pc 152 then (bif Nat.beq pc 152 then some (.inl (o_iald)) else none) else (bif Nat.beq pc 153 then some (.inl (o_iast)) else none)) else (bif Nat.ble pc 154 then (bif Nat.beq pc 154 then some (.inl (o_al 0 1)) else none) else (bif Nat.beq pc 155 then some (.inl (o_gP 11 41)) else none)))) else (bif Nat.ble pc 160 then (bif Nat.ble pc 158 then (bif Nat.beq pc 158 then some (.inl (o_il 2 1)) else none) else (bif Nat.ble pc 159 then (bif Nat.beq pc 159 then some (.inl (o_al 0 1)) else none) else (bif Nat.beq pc 160 then some (.inl (o_gP 11 41)) else none))) else (bif Nat.ble pc 164 then (bif Nat.ble pc 163 then (bif Nat.beq pc 163 then some (.inl (o_il 3 1)) else none) else (bif Nat.beq pc 164 then some (.inl (o_iald)) else none)) else (bif Nat.ble pc 165 then (bif Nat.beq pc 165 then some (.inl (o_iast)) else none) else (bif Nat.beq pc 166 then some (.inl (o_al 0 1)) else none))))) else (bif Nat.ble pc 179 then (bif Nat.ble pc 171 then (bif Nat.ble pc 167 then (bif Nat.beq pc 167 then some (.inl (o_gP 11 42)) else none) else (bif Nat.ble pc 170 then (bif Nat.beq pc 170 then some (.inl (o_il 2 1)) else none) else (bif Nat.beq pc 171 then some (.inl (o_il 2 1)) else none))) else (bif Nat.ble pc 175 then (bif Nat.ble pc 172 then (bif Nat.beq pc 172 then some (.inl (o_zne 179)) else none) else (bif Nat.beq pc 175 then some (.inl (oS 1 (s_push (.int 1)))) else none)) else (bif Nat.ble pc 176 then (bif Nat.beq pc 176 then some (.inl (o_goto 180)) else none) else (bif Nat.beq pc 179 then some (.inl (oS 1 (s_push (.int 0)))) else none)))) else (bif Nat.ble pc 187 then (bif Nat.ble pc 181 then (bif Nat.ble pc 180 then (bif Nat.beq pc 180 then some (.inl (o_bast)) else none) else (bif Nat.beq pc 181 then some (.inl (o_inc 2 1)) else none)) else (bif Nat.ble pc 184 then (bif Nat.beq pc 184 then some (.inl (o_inc 3 1)) else none) else (bif Nat.beq pc 187 then some (.inl (o_goto 125)) else none))) else (bif Nat.ble pc 191 then (bif Nat.ble pc 190 then (bif Nat.beq pc 190 then some (.inl (o_al 0 1)) else none) else (bif Nat.beq pc 191 then some (.inl (o_il 2 1)) else none)) else (bif Nat.ble pc 192 then (bif Nat.beq pc 192 then some (.inl (o_pI 11 43)) else none) else (bif Nat.beq pc 195 then some (.inr (0, 0, 0, 3)) else none)))))))
theorem k_133_0 : mOk M_133.1 M_133.2.1 M_133.2.2.1 M_133.2.2.2 0 (oS 1 (s_push (.int 0))) := ok_iconst dX11_simplify_0 (by decide)
theorem k_133_1 : mOk M_133.1 M_133.2.1 M_133.2.2.1 M_133.2.2.2 1 (o_is 1 1) := ok_istore_n dX11_simplify_1 rfl
theorem k_133_2 : mOk M_133.1 M_133.2.1 M_133.2.2.1 M_133.2.2.2 2 (o_il 1 1) := ok_iload_n dX11_simplify_2 rfl
theorem k_133_3 : mOk M_133.1 M_133.2.1 M_133.2.2.1 M_133.2.2.2 3 (o_al 0 1) := ok_aload_n dX11_simplify_3 rfl
theorem k_133_4 : mOk M_133.1 M_133.2.1 M_133.2.2.1 M_133.2.2.2 4 (o_gI 11 43) := ok_gI dX11_simplify_4 f_RX11_191 (Or.inl rfl)
theorem k_133_7 : mOk M_133.1 M_133.2.1 M_133.2.2.1 M_133.2.2.2 7 (o_cge 41) := ok_cge dX11_simplify_7 (by decide)
theorem k_133_10 : mOk M_133.1 M_133.2.1 M_133.2.2.1 M_133.2.2.2 10 (o_al 0 1) := ok_aload_n dX11_simplify_10 rfl
theorem k_133_11 : mOk M_133.1 M_133.2.1 M_133.2.2.1 M_133.2.2.2 11 (o_gP 11 48) := ok_gP dX11_simplify_11 f_RX11_130 rfl
theorem k_133_14 : mOk M_133.1 M_133.2.1 M_133.2.2.1 M_133.2.2.2 14 (o_il 1 1) := ok_iload_n dX11_simplify_14 rfl
theorem k_133_15 : mOk M_133.1 M_133.2.1 M_133.2.2.1 M_133.2.2.2 15 (o_il 1 1) := ok_iload_n dX11_simplify_15 rfl
theorem k_133_16 : mOk M_133.1 M_133.2.1 M_133.2.2.1 M_133.2.2.2 16 (o_zeq 29) := ok_zeq dX11_simplify_16 (by decide)
theorem k_133_19 : mOk M_133.1 M_133.2.1 M_133.2.2.1 M_133.2.2.2 19 (o_il 1 1) := ok_iload_n dX11_simplify_19 rfl
theorem k_133_20 : mOk M_133.1 M_133.2.1 M_133.2.2.1 M_133.2.2.2 20 (o_al 0 1) := ok_aload_n dX11_simplify_20 rfl
theorem k_133_21 : mOk M_133.1 M_133.2.1 M_133.2.2.1 M_133.2.2.2 21 (o_gI 11 43) := ok_gI dX11_simplify_21 f_RX11_191 (Or.inl rfl)
theorem k_133_24 : mOk M_133.1 M_133.2.1 M_133.2.2.1 M_133.2.2.2 24 (oS 1 (s_push (.int 1))) := ok_iconst dX11_simplify_24 (by decide)
theorem k_133_25 : mOk M_133.1 M_133.2.1 M_133.2.2.1 M_133.2.2.2 25 (oS 1 (s_ii (fun a b => a - b))) := ok_isub dX11_simplify_25
theorem k_133_26 : mOk M_133.1 M_133.2.1 M_133.2.2.1 M_133.2.2.2 26 (o_cne 33) := ok_cne dX11_simplify_26 (by decide)
theorem k_133_29 : mOk M_133.1 M_133.2.1 M_133.2.2.1 M_133.2.2.2 29 (oS 1 (s_push (.int 1))) := ok_iconst dX11_simplify_29 (by decide)
theorem k_133_30 : mOk M_133.1 M_133.2.1 M_133.2.2.1 M_133.2.2.2 30 (o_goto 34) := ok_goto dX11_simplify_30 (by decide)
theorem k_133_33 : mOk M_133.1 M_133.2.1 M_133.2.2.1 M_133.2.2.2 33 (oS 1 (s_push (.int 0))) := ok_iconst dX11_simplify_33 (by decide)
theorem k_133_34 : mOk M_133.1 M_133.2.1 M_133.2.2.1 M_133.2.2.2 34 (o_bast) := ok_bast dX11_simplify_34
theorem k_133_35 : mOk M_133.1 M_133.2.1 M_133.2.2.1 M_133.2.2.2 35 (o_inc 1 1) := ok_iinc dX11_simplify_35 (by decide)
theorem k_133_38 : mOk M_133.1 M_133.2.1 M_133.2.2.1 M_133.2.2.2 38 (o_goto 2) := ok_goto dX11_simplify_38 (by decide)
theorem k_133_41 : mOk M_133.1 M_133.2.1 M_133.2.2.1 M_133.2.2.2 41 (oS 1 (s_push (.int 1))) := ok_iconst dX11_simplify_41 (by decide)
theorem k_133_42 : mOk M_133.1 M_133.2.1 M_133.2.2.1 M_133.2.2.2 42 (o_is 1 1) := ok_istore_n dX11_simplify_42 rfl
theorem k_133_43 : mOk M_133.1 M_133.2.1 M_133.2.2.1 M_133.2.2.2 43 (oS 1 (s_push (.int 0))) := ok_iconst dX11_simplify_43 (by decide)
theorem k_133_44 : mOk M_133.1 M_133.2.1 M_133.2.2.1 M_133.2.2.2 44 (o_is 2 1) := ok_istore_n dX11_simplify_44 rfl
theorem k_133_45 : mOk M_133.1 M_133.2.1 M_133.2.2.1 M_133.2.2.2 45 (o_il 2 1) := ok_iload_n dX11_simplify_45 rfl
theorem k_133_46 : mOk M_133.1 M_133.2.1 M_133.2.2.1 M_133.2.2.2 46 (oS 2 (s_push (.int 16))) := ok_bipush dX11_simplify_46 (by decide)
theorem k_133_48 : mOk M_133.1 M_133.2.1 M_133.2.2.1 M_133.2.2.2 48 (o_cge 121) := ok_cge dX11_simplify_48 (by decide)
theorem k_133_51 : mOk M_133.1 M_133.2.1 M_133.2.2.1 M_133.2.2.2 51 (o_il 1 1) := ok_iload_n dX11_simplify_51 rfl
theorem k_133_52 : mOk M_133.1 M_133.2.1 M_133.2.2.1 M_133.2.2.2 52 (o_zeq 121) := ok_zeq dX11_simplify_52 (by decide)
theorem k_133_55 : mOk M_133.1 M_133.2.1 M_133.2.2.1 M_133.2.2.2 55 (oS 1 (s_push (.int 0))) := ok_iconst dX11_simplify_55 (by decide)
theorem k_133_56 : mOk M_133.1 M_133.2.1 M_133.2.2.1 M_133.2.2.2 56 (o_is 1 1) := ok_istore_n dX11_simplify_56 rfl
theorem k_133_57 : mOk M_133.1 M_133.2.1 M_133.2.2.1 M_133.2.2.2 57 (oS 1 (s_push (.int 0))) := ok_iconst dX11_simplify_57 (by decide)
theorem k_133_58 : mOk M_133.1 M_133.2.1 M_133.2.2.1 M_133.2.2.2 58 (o_is 3 1) := ok_istore_n dX11_simplify_58 rfl
theorem k_133_59 : mOk M_133.1 M_133.2.1 M_133.2.2.1 M_133.2.2.2 59 (oS 1 (s_push (.int 1))) := ok_iconst dX11_simplify_59 (by decide)
theorem k_133_60 : mOk M_133.1 M_133.2.1 M_133.2.2.1 M_133.2.2.2 60 (o_is 4 2) := ok_istore dX11_simplify_60
theorem k_133_62 : mOk M_133.1 M_133.2.1 M_133.2.2.1 M_133.2.2.2 62 (o_il 4 2) := ok_iload dX11_simplify_62
theorem k_133_64 : mOk M_133.1 M_133.2.1 M_133.2.2.1 M_133.2.2.2 64 (o_al 0 1) := ok_aload_n dX11_simplify_64 rfl
theorem k_133_65 : mOk M_133.1 M_133.2.1 M_133.2.2.1 M_133.2.2.2 65 (o_gI 11 43) := ok_gI dX11_simplify_65 f_RX11_191 (Or.inl rfl)
theorem k_133_68 : mOk M_133.1 M_133.2.1 M_133.2.2.1 M_133.2.2.2 68 (o_cge 115) := ok_cge dX11_simplify_68 (by decide)
theorem k_133_71 : mOk M_133.1 M_133.2.1 M_133.2.2.1 M_133.2.2.2 71 (o_al 0 1) := ok_aload_n dX11_simplify_71 rfl
theorem k_133_72 : mOk M_133.1 M_133.2.1 M_133.2.2.1 M_133.2.2.2 72 (o_gP 11 48) := ok_gP dX11_simplify_72 f_RX11_130 rfl
theorem k_133_75 : mOk M_133.1 M_133.2.1 M_133.2.2.1 M_133.2.2.2 75 (o_il 4 2) := ok_iload dX11_simplify_75
theorem k_133_77 : mOk M_133.1 M_133.2.1 M_133.2.2.1 M_133.2.2.2 77 (o_bald) := ok_bald dX11_simplify_77
theorem k_133_78 : mOk M_133.1 M_133.2.1 M_133.2.2.1 M_133.2.2.2 78 (o_zeq 109) := ok_zeq dX11_simplify_78 (by decide)
theorem k_133_81 : mOk M_133.1 M_133.2.1 M_133.2.2.1 M_133.2.2.2 81 (o_al 0 1) := ok_aload_n dX11_simplify_81 rfl
theorem k_133_82 : mOk M_133.1 M_133.2.1 M_133.2.2.1 M_133.2.2.2 82 (o_il 3 1) := ok_iload_n dX11_simplify_82 rfl
theorem k_133_83 : mOk M_133.1 M_133.2.1 M_133.2.2.1 M_133.2.2.2 83 (o_il 4 2) := ok_iload dX11_simplify_83
theorem k_133_88 : mOk M_133.1 M_133.2.1 M_133.2.2.1 M_133.2.2.2 88 (o_is 5 2) := ok_istore dX11_simplify_88
theorem k_133_90 : mOk M_133.1 M_133.2.1 M_133.2.2.1 M_133.2.2.2 90 (o_il 5 2) := ok_iload dX11_simplify_90
theorem k_133_92 : mOk M_133.1 M_133.2.1 M_133.2.2.1 M_133.2.2.2 92 (oS 1 (s_push (.int (-1)))) := ok_iconst dX11_simplify_92 (by decide)
theorem k_133_93 : mOk M_133.1 M_133.2.1 M_133.2.2.1 M_133.2.2.2 93 (o_ceq 106) := ok_ceq dX11_simplify_93 (by decide)
theorem k_133_96 : mOk M_133.1 M_133.2.1 M_133.2.2.1 M_133.2.2.2 96 (o_al 0 1) := ok_aload_n dX11_simplify_96 rfl
theorem k_133_97 : mOk M_133.1 M_133.2.1 M_133.2.2.1 M_133.2.2.2 97 (o_gP 11 48) := ok_gP dX11_simplify_97 f_RX11_130 rfl
theorem k_133_100 : mOk M_133.1 M_133.2.1 M_133.2.2.1 M_133.2.2.2 100 (o_il 5 2) := ok_iload dX11_simplify_100
theorem k_133_102 : mOk M_133.1 M_133.2.1 M_133.2.2.1 M_133.2.2.2 102 (oS 1 (s_push (.int 1))) := ok_iconst dX11_simplify_102 (by decide)
theorem k_133_103 : mOk M_133.1 M_133.2.1 M_133.2.2.1 M_133.2.2.2 103 (o_bast) := ok_bast dX11_simplify_103
theorem k_133_104 : mOk M_133.1 M_133.2.1 M_133.2.2.1 M_133.2.2.2 104 (oS 1 (s_push (.int 1))) := ok_iconst dX11_simplify_104 (by decide)
theorem k_133_105 : mOk M_133.1 M_133.2.1 M_133.2.2.1 M_133.2.2.2 105 (o_is 1 1) := ok_istore_n dX11_simplify_105 rfl
theorem k_133_106 : mOk M_133.1 M_133.2.1 M_133.2.2.1 M_133.2.2.2 106 (o_il 4 2) := ok_iload dX11_simplify_106
theorem k_133_108 : mOk M_133.1 M_133.2.1 M_133.2.2.1 M_133.2.2.2 108 (o_is 3 1) := ok_istore_n dX11_simplify_108 rfl
theorem k_133_109 : mOk M_133.1 M_133.2.1 M_133.2.2.1 M_133.2.2.2 109 (o_inc 4 1) := ok_iinc dX11_simplify_109 (by decide)
theorem k_133_112 : mOk M_133.1 M_133.2.1 M_133.2.2.1 M_133.2.2.2 112 (o_goto 62) := ok_goto dX11_simplify_112 (by decide)
theorem k_133_115 : mOk M_133.1 M_133.2.1 M_133.2.2.1 M_133.2.2.2 115 (o_inc 2 1) := ok_iinc dX11_simplify_115 (by decide)
theorem k_133_118 : mOk M_133.1 M_133.2.1 M_133.2.2.1 M_133.2.2.2 118 (o_goto 45) := ok_goto dX11_simplify_118 (by decide)
theorem k_133_121 : mOk M_133.1 M_133.2.1 M_133.2.2.1 M_133.2.2.2 121 (oS 1 (s_push (.int 0))) := ok_iconst dX11_simplify_121 (by decide)
theorem k_133_122 : mOk M_133.1 M_133.2.1 M_133.2.2.1 M_133.2.2.2 122 (o_is 2 1) := ok_istore_n dX11_simplify_122 rfl
theorem k_133_123 : mOk M_133.1 M_133.2.1 M_133.2.2.1 M_133.2.2.2 123 (oS 1 (s_push (.int 0))) := ok_iconst dX11_simplify_123 (by decide)
theorem k_133_124 : mOk M_133.1 M_133.2.1 M_133.2.2.1 M_133.2.2.2 124 (o_is 3 1) := ok_istore_n dX11_simplify_124 rfl
theorem k_133_125 : mOk M_133.1 M_133.2.1 M_133.2.2.1 M_133.2.2.2 125 (o_il 3 1) := ok_iload_n dX11_simplify_125 rfl
theorem k_133_126 : mOk M_133.1 M_133.2.1 M_133.2.2.1 M_133.2.2.2 126 (o_al 0 1) := ok_aload_n dX11_simplify_126 rfl
theorem k_133_127 : mOk M_133.1 M_133.2.1 M_133.2.2.1 M_133.2.2.2 127 (o_gI 11 43) := ok_gI dX11_simplify_127 f_RX11_191 (Or.inl rfl)
theorem k_133_130 : mOk M_133.1 M_133.2.1 M_133.2.2.1 M_133.2.2.2 130 (o_cge 190) := ok_cge dX11_simplify_130 (by decide)
theorem k_133_133 : mOk M_133.1 M_133.2.1 M_133.2.2.1 M_133.2.2.2 133 (o_al 0 1) := ok_aload_n dX11_simplify_133 rfl
theorem k_133_134 : mOk M_133.1 M_133.2.1 M_133.2.2.1 M_133.2.2.2 134 (o_gP 11 48) := ok_gP dX11_simplify_134 f_RX11_130 rfl
theorem k_133_137 : mOk M_133.1 M_133.2.1 M_133.2.2.1 M_133.2.2.2 137 (o_il 3 1) := ok_iload_n dX11_simplify_137 rfl
theorem k_133_138 : mOk M_133.1 M_133.2.1 M_133.2.2.1 M_133.2.2.2 138 (o_bald) := ok_bald dX11_simplify_138
theorem k_133_139 : mOk M_133.1 M_133.2.1 M_133.2.2.1 M_133.2.2.2 139 (o_zeq 184) := ok_zeq dX11_simplify_139 (by decide)
theorem k_133_142 : mOk M_133.1 M_133.2.1 M_133.2.2.1 M_133.2.2.2 142 (o_al 0 1) := ok_aload_n dX11_simplify_142 rfl
theorem k_133_143 : mOk M_133.1 M_133.2.1 M_133.2.2.1 M_133.2.2.2 143 (o_gP 11 40) := ok_gP dX11_simplify_143 f_RX11_112 rfl
theorem k_133_146 : mOk M_133.1 M_133.2.1 M_133.2.2.1 M_133.2.2.2 146 (o_il 2 1) := ok_iload_n dX11_simplify_146 rfl
theorem k_133_147 : mOk M_133.1 M_133.2.1 M_133.2.2.1 M_133.2.2.2 147 (o_al 0 1) := ok_aload_n dX11_simplify_147 rfl
theorem k_133_148 : mOk M_133.1 M_133.2.1 M_133.2.2.1 M_133.2.2.2 148 (o_gP 11 40) := ok_gP dX11_simplify_148 f_RX11_112 rfl
theorem k_133_151 : mOk M_133.1 M_133.2.1 M_133.2.2.1 M_133.2.2.2 151 (o_il 3 1) := ok_iload_n dX11_simplify_151 rfl
theorem k_133_152 : mOk M_133.1 M_133.2.1 M_133.2.2.1 M_133.2.2.2 152 (o_iald) := ok_iald dX11_simplify_152
theorem k_133_153 : mOk M_133.1 M_133.2.1 M_133.2.2.1 M_133.2.2.2 153 (o_iast) := ok_iast dX11_simplify_153
theorem k_133_154 : mOk M_133.1 M_133.2.1 M_133.2.2.1 M_133.2.2.2 154 (o_al 0 1) := ok_aload_n dX11_simplify_154 rfl
theorem k_133_155 : mOk M_133.1 M_133.2.1 M_133.2.2.1 M_133.2.2.2 155 (o_gP 11 41) := ok_gP dX11_simplify_155 f_RX11_115 rfl
theorem k_133_158 : mOk M_133.1 M_133.2.1 M_133.2.2.1 M_133.2.2.2 158 (o_il 2 1) := ok_iload_n dX11_simplify_158 rfl
theorem k_133_159 : mOk M_133.1 M_133.2.1 M_133.2.2.1 M_133.2.2.2 159 (o_al 0 1) := ok_aload_n dX11_simplify_159 rfl
theorem k_133_160 : mOk M_133.1 M_133.2.1 M_133.2.2.1 M_133.2.2.2 160 (o_gP 11 41) := ok_gP dX11_simplify_160 f_RX11_115 rfl
theorem k_133_163 : mOk M_133.1 M_133.2.1 M_133.2.2.1 M_133.2.2.2 163 (o_il 3 1) := ok_iload_n dX11_simplify_163 rfl
theorem k_133_164 : mOk M_133.1 M_133.2.1 M_133.2.2.1 M_133.2.2.2 164 (o_iald) := ok_iald dX11_simplify_164
theorem k_133_165 : mOk M_133.1 M_133.2.1 M_133.2.2.1 M_133.2.2.2 165 (o_iast) := ok_iast dX11_simplify_165
theorem k_133_166 : mOk M_133.1 M_133.2.1 M_133.2.2.1 M_133.2.2.2 166 (o_al 0 1) := ok_aload_n dX11_simplify_166 rfl
theorem k_133_167 : mOk M_133.1 M_133.2.1 M_133.2.2.1 M_133.2.2.2 167 (o_gP 11 42) := ok_gP dX11_simplify_167 f_RX11_118 rfl
theorem k_133_170 : mOk M_133.1 M_133.2.1 M_133.2.2.1 M_133.2.2.2 170 (o_il 2 1) := ok_iload_n dX11_simplify_170 rfl
theorem k_133_171 : mOk M_133.1 M_133.2.1 M_133.2.2.1 M_133.2.2.2 171 (o_il 2 1) := ok_iload_n dX11_simplify_171 rfl
theorem k_133_172 : mOk M_133.1 M_133.2.1 M_133.2.2.1 M_133.2.2.2 172 (o_zne 179) := ok_zne dX11_simplify_172 (by decide)
theorem k_133_175 : mOk M_133.1 M_133.2.1 M_133.2.2.1 M_133.2.2.2 175 (oS 1 (s_push (.int 1))) := ok_iconst dX11_simplify_175 (by decide)
theorem k_133_176 : mOk M_133.1 M_133.2.1 M_133.2.2.1 M_133.2.2.2 176 (o_goto 180) := ok_goto dX11_simplify_176 (by decide)
theorem k_133_179 : mOk M_133.1 M_133.2.1 M_133.2.2.1 M_133.2.2.2 179 (oS 1 (s_push (.int 0))) := ok_iconst dX11_simplify_179 (by decide)
theorem k_133_180 : mOk M_133.1 M_133.2.1 M_133.2.2.1 M_133.2.2.2 180 (o_bast) := ok_bast dX11_simplify_180
theorem k_133_181 : mOk M_133.1 M_133.2.1 M_133.2.2.1 M_133.2.2.2 181 (o_inc 2 1) := ok_iinc dX11_simplify_181 (by decide)
theorem k_133_184 : mOk M_133.1 M_133.2.1 M_133.2.2.1 M_133.2.2.2 184 (o_inc 3 1) := ok_iinc dX11_simplify_184 (by decide)
theorem k_133_187 : mOk M_133.1 M_133.2.1 M_133.2.2.1 M_133.2.2.2 187 (o_goto 125) := ok_goto dX11_simplify_187 (by decide)
theorem k_133_190 : mOk M_133.1 M_133.2.1 M_133.2.2.1 M_133.2.2.2 190 (o_al 0 1) := ok_aload_n dX11_simplify_190 rfl
theorem k_133_191 : mOk M_133.1 M_133.2.1 M_133.2.2.1 M_133.2.2.2 191 (o_il 2 1) := ok_iload_n dX11_simplify_191 rfl
theorem k_133_192 : mOk M_133.1 M_133.2.1 M_133.2.2.1 M_133.2.2.2 192 (o_pI 11 43) := ok_pI dX11_simplify_192 (mFw_of f_RX11_191_c (Or.inl rfl)) rfl
set_option maxRecDepth 20000 in
set_option maxHeartbeats 4000000 in
theorem tk_133 (l : Launch) (H9 : mThr l) (H10 : mSpl l) (pc : Nat) (q : mEnt) (h : tb_133 pc = some q) : EE l 133 pc q := nd h (fun h => nd h (fun h => nd h (fun h => nd h (fun h => nd h (fun h => nd h (fun h => lf (P := EE l 133) h k_133_0) (fun h => nd h (fun h => lf (P := EE l 133) h k_133_1) (fun h => lf (P := EE l 133) h k_133_2))) (fun h => nd h (fun h => nd h (fun h => lf (P := EE l 133) h k_133_3) (fun h => lf (P := EE l 133) h k_133_4)) (fun h => nd h (fun h => lf (P := EE l 133) h k_133_7) (fun h => lf (P := EE l 133) h k_133_10)))) (fun h => nd h (fun h => nd h (fun h => lf (P := EE l 133) h k_133_11) (fun h => nd h (fun h => lf (P := EE l 133) h k_133_14) (fun h => lf (P := EE l 133) h k_133_15))) (fun h => nd h (fun h => nd h (fun h => lf (P := EE l 133) h k_133_16) (fun h => lf (P := EE l 133) h k_133_19)) (fun h => nd h (fun h => lf (P := EE l 133) h k_133_20) (fun h => lf (P := EE l 133) h k_133_21))))) (fun h => nd h (fun h => nd h (fun h => nd h (fun h => lf (P := EE l 133) h k_133_24) (fun h => nd h (fun h => lf (P := EE l 133) h k_133_25) (fun h => lf (P := EE l 133) h k_133_26))) (fun h => nd h (fun h => nd h (fun h => lf (P := EE l 133) h k_133_29) (fun h => lf (P := EE l 133) h k_133_30)) (fun h => nd h (fun h => lf (P := EE l 133) h k_133_33) (fun h => lf (P := EE l 133) h k_133_34)))) (fun h => nd h (fun h => nd h (fun h => lf (P := EE l 133) h k_133_35) (fun h => nd h (fun h => lf (P := EE l 133) h k_133_38) (fun h => lf (P := EE l 133) h k_133_41))) (fun h => nd h (fun h => nd h (fun h => lf (P := EE l 133) h k_133_42) (fun h => lf (P := EE l 133) h k_133_43)) (fun h => nd h (fun h => lf (P := EE l 133) h k_133_44) (fun h => lf (P := EE l 133) h k_133_45)))))) (fun h => nd h (fun h => nd h (fun h => nd h (fun h => nd h (fun h => lf (P := EE l 133) h k_133_46) (fun h => nd h (fun h => lf (P := EE l 133) h k_133_48) (fun h => lf (P := EE l 133) h k_133_51))) (fun h => nd h (fun h => nd h (fun h => lf (P := EE l 133) h k_133_52) (fun h => lf (P := EE l 133) h k_133_55)) (fun h => nd h (fun h => lf (P := EE l 133) h k_133_56) (fun h => lf (P := EE l 133) h k_133_57)))) (fun h => nd h (fun h => nd h (fun h => lf (P := EE l 133) h k_133_58) (fun h => nd h (fun h => lf (P := EE l 133) h k_133_59) (fun h => lf (P := EE l 133) h k_133_60))) (fun h => nd h (fun h => nd h (fun h => lf (P := EE l 133) h k_133_62) (fun h => lf (P := EE l 133) h k_133_64)) (fun h => nd h (fun h => lf (P := EE l 133) h k_133_65) (fun h => lf (P := EE l 133) h k_133_68))))) (fun h => nd h (fun h => nd h (fun h => nd h (fun h => lf (P := EE l 133) h k_133_71) (fun h => nd h (fun h => lf (P := EE l 133) h k_133_72) (fun h => lf (P := EE l 133) h k_133_75))) (fun h => nd h (fun h => nd h (fun h => lf (P := EE l 133) h k_133_77) (fun h => lf (P := EE l 133) h k_133_78)) (fun h => nd h (fun h => lf (P := EE l 133) h k_133_81) (fun h => lf (P := EE l 133) h k_133_82)))) (fun h => nd h (fun h => nd h (fun h => lf (P := EE l 133) h k_133_83) (fun h => nd h (fun h => lf (P := EE l 133) h (EE_ca (by decide) (⟨m_1292, m_81, ⟨by decide, by decide⟩, by decide +kernel, ⟨by decide, by decide⟩, 194, 2, by decide +kernel, Or.inr (Or.inr (Or.inl ⟨rfl, rfl, dX11_simplify_85, m_1289, m_1291, _, rfl, by decide, m_40⟩))⟩) rfl)) (fun h => lf (P := EE l 133) h k_133_88))) (fun h => nd h (fun h => nd h (fun h => lf (P := EE l 133) h k_133_90) (fun h => lf (P := EE l 133) h k_133_92)) (fun h => nd h (fun h => lf (P := EE l 133) h k_133_93) (fun h => lf (P := EE l 133) h k_133_96))))))) (fun h => nd h (fun h => nd h (fun h => nd h (fun h => nd h (fun h => nd h (fun h => lf (P := EE l 133) h k_133_97) (fun h => nd h (fun h => lf (P := EE l 133) h k_133_100) (fun h => lf (P := EE l 133) h k_133_102))) (fun h => nd h (fun h => nd h (fun h => lf (P := EE l 133) h k_133_103) (fun h => lf (P := EE l 133) h k_133_104)) (fun h => nd h (fun h => lf (P := EE l 133) h k_133_105) (fun h => lf (P := EE l 133) h k_133_106)))) (fun h => nd h (fun h => nd h (fun h => lf (P := EE l 133) h k_133_108) (fun h => nd h (fun h => lf (P := EE l 133) h k_133_109) (fun h => lf (P := EE l 133) h k_133_112))) (fun h => nd h (fun h => nd h (fun h => lf (P := EE l 133) h k_133_115) (fun h => lf (P := EE l 133) h k_133_118)) (fun h => nd h (fun h => lf (P := EE l 133) h k_133_121) (fun h => lf (P := EE l 133) h k_133_122))))) (fun h => nd h (fun h => nd h (fun h => nd h (fun h => lf (P := EE l 133) h k_133_123) (fun h => nd h (fun h => lf (P := EE l 133) h k_133_124) (fun h => lf (P := EE l 133) h k_133_125))) (fun h => nd h (fun h => nd h (fun h => lf (P := EE l 133) h k_133_126) (fun h => lf (P := EE l 133) h k_133_127)) (fun h => nd h (fun h => lf (P := EE l 133) h k_133_130) (fun h => lf (P := EE l 133) h k_133_133)))) (fun h => nd h (fun h => nd h (fun h => lf (P := EE l 133) h k_133_134) (fun h => nd h (fun h => lf (P := EE l 133) h k_133_137) (fun h => lf (P := EE l 133) h k_133_138))) (fun h => nd h (fun h => nd h (fun h => lf (P := EE l 133) h k_133_139) (fun h => lf (P := EE l 133) h k_133_142)) (fun h => nd h (fun h => lf (P := EE l 133) h k_133_143) (fun h => lf (P := EE l 133) h k_133_146)))))) (fun h => nd h (fun h => nd h (fun h => nd h (fun h => nd h (fun h => lf (P := EE l 133) h k_133_147) (fun h => nd h (fun h => lf (P := EE l 133) h k_133_148) (fun h => lf (P := EE l 133) h k_133_151))) (fun h => nd h (fun h => nd h (fun h => lf (P := EE l 133) h k_133_152) (fun h => lf (P := EE l 133) h k_133_153)) (fun h => nd h (fun h => lf (P := EE l 133) h k_133_154) (fun h => lf (P := EE l 133) h k_133_155)))) (fun h => nd h (fun h => nd h (fun h => lf (P := EE l 133) h k_133_158) (fun h => nd h (fun h => lf (P := EE l 133) h k_133_159) (fun h => lf (P := EE l 133) h k_133_160))) (fun h => nd h (fun h => nd h (fun h => lf (P := EE l 133) h k_133_163) (fun h => lf (P := EE l 133) h k_133_164)) (fun h => nd h (fun h => lf (P := EE l 133) h k_133_165) (fun h => lf (P := EE l 133) h k_133_166))))) (fun h => nd h (fun h => nd h (fun h => nd h (fun h => lf (P := EE l 133) h k_133_167) (fun h => nd h (fun h => lf (P := EE l 133) h k_133_170) (fun h => lf (P := EE l 133) h k_133_171))) (fun h => nd h (fun h => nd h (fun h => lf (P := EE l 133) h k_133_172) (fun h => lf (P := EE l 133) h k_133_175)) (fun h => nd h (fun h => lf (P := EE l 133) h k_133_176) (fun h => lf (P := EE l 133) h k_133_179)))) (fun h => nd h (fun h => nd h (fun h => nd h (fun h => lf (P := EE l 133) h k_133_180) (fun h => lf (P := EE l 133) h k_133_181)) (fun h => nd h (fun h => lf (P := EE l 133) h k_133_184) (fun h => lf (P := EE l 133) h k_133_187))) (fun h => nd h (fun h => nd h (fun h => lf (P := EE l 133) h k_133_190) (fun h => lf (P := EE l 133) h k_133_191)) (fun h => nd h (fun h => lf (P := EE l 133) h k_133_192) (fun h => lf (P := EE l 133) h (EE_re (Or.inr (Or.inr (Or.inr (Or.inr ⟨rfl, dX11_simplify_195, rfl⟩))))))))))))
theorem dX11_put_0 : decode cX11_put 0 = .ok (.aload_n 0, 1) := by decide +kernel
theorem dX11_put_1 : decode cX11_put 1 = .ok (.getfield 121, 3) := by decide +kernel
theorem dX11_put_4 : decode cX11_put 4 = .ok (.aload_n 0, 1) := by decide +kernel
theorem dX11_put_5 : decode cX11_put 5 = .ok (.getfield 197, 3) := by decide +kernel
theorem dX11_put_8 : decode cX11_put 8 = .ok (.iload_n 1, 1) := by decide +kernel
theorem dX11_put_9 : decode cX11_put 9 = .ok (.iastore, 1) := by decide +kernel
theorem dX11_put_10 : decode cX11_put 10 = .ok (.aload_n 0, 1) := by decide +kernel
theorem dX11_put_11 : decode cX11_put 11 = .ok (.getfield 124, 3) := by decide +kernel
theorem dX11_put_14 : decode cX11_put 14 = .ok (.aload_n 0, 1) := by decide +kernel
theorem dX11_put_15 : decode cX11_put 15 = .ok (.getfield 197, 3) := by decide +kernel
theorem dX11_put_18 : decode cX11_put 18 = .ok (.iload_n 2, 1) := by decide +kernel
theorem dX11_put_19 : decode cX11_put 19 = .ok (.iastore, 1) := by decide +kernel
theorem dX11_put_20 : decode cX11_put 20 = .ok (.aload_n 0, 1) := by decide +kernel
theorem dX11_put_21 : decode cX11_put 21 = .ok (.getfield 127, 3) := by decide +kernel
theorem dX11_put_24 : decode cX11_put 24 = .ok (.aload_n 0, 1) := by decide +kernel
theorem dX11_put_25 : decode cX11_put 25 = .ok (.getfield 197, 3) := by decide +kernel
theorem dX11_put_28 : decode cX11_put 28 = .ok (.iload_n 3, 1) := by decide +kernel
theorem dX11_put_29 : decode cX11_put 29 = .ok (.bastore, 1) := by decide +kernel
theorem dX11_put_30 : decode cX11_put 30 = .ok (.aload_n 0, 1) := by decide +kernel
theorem dX11_put_31 : decode cX11_put 31 = .ok (.dup, 1) := by decide +kernel
theorem dX11_put_32 : decode cX11_put 32 = .ok (.getfield 197, 3) := by decide +kernel
theorem dX11_put_35 : decode cX11_put 35 = .ok (.iconst 1, 1) := by decide +kernel
theorem dX11_put_36 : decode cX11_put 36 = .ok (.iadd, 1) := by decide +kernel
theorem dX11_put_37 : decode cX11_put 37 = .ok (.putfield 197, 3) := by decide +kernel
theorem dX11_put_40 : decode cX11_put 40 = .ok (.return_, 1) := by decide +kernel
def tb_134 (pc : Nat) : Option mEnt := bif Nat.ble pc 19 then (bif Nat.ble pc 9 then (bif Nat.ble pc 4 then (bif Nat.ble pc 0 then (bif Nat.beq pc 0 then some (.inl (o_al 0 1)) else none) else (bif Nat.ble pc 1 then (bif Nat.beq pc 1 then some (.inl (o_gP 11 44)) else none) else (bif Nat.beq pc 4 then some (.inl (o_al 0 1)) else none))) else (bif Nat.ble pc 5 then (bif Nat.beq pc 5 then some (.inl (o_gI 11 47)) else none) else (bif Nat.ble pc 8 then (bif Nat.beq pc 8 then some (.inl (o_il 1 1)) else none) else (bif Nat.beq pc 9 then some (.inl (o_iast)) else none)))) else (bif Nat.ble pc 14 then (bif Nat.ble pc 10 then (bif Nat.beq pc 10 then some (.inl (o_al 0 1)) else none) else (bif Nat.ble pc 11 then (bif Nat.beq pc 11 then some (.inl (o_gP 11 45)) else none) else (bif Nat.beq pc 14 then some (.inl (o_al 0 1)) else none))) else (bif Nat.ble pc 15 then (bif Nat.beq pc 15 then some (.inl (o_gI 11 47)) else none) else (bif Nat.ble pc 18 then (bif Nat.beq pc 18 then some (.inl (o_il 2 1)) else none) else (bif Nat.beq pc 19 then some (.inl (o_iast)) else none))))) else (bif Nat.ble pc 29 then (bif Nat.ble pc 24 then (bif Nat.ble pc 20 then (bif Nat.beq pc 20 then some (.inl (o_al 0 1)) else none) else (bif Nat.ble pc 21 then (bif Nat.beq pc 21 then some (.inl (o_gP 11 46)) else none) else (bif Nat.beq pc 24 then some (.inl (o_al 0 1)) else none))) else (bif Nat.ble pc 25 then (bif Nat.beq pc 25 then some (.inl (o_gI 11 47)) else none) else (bif Nat.ble pc 28 then (bif Nat.beq pc 28 then some (.inl (o_il 3 1)) else none) else (bif Nat.beq pc 29 then some (.inl (o_bast)) else none)))) else (bif Nat.ble pc 32 then (bif Nat.ble pc 30 then (bif Nat.beq pc 30 then some (.inl (o_al 0 1)) else none) else (bif Nat.ble pc 31 then (bif Nat.beq pc 31 then some (.inl (oS 1 s_dup)) else none) else (bif Nat.beq pc 32 then some (.inl (o_gI 11 47)) else none))) else (bif Nat.ble pc 36 then (bif Nat.ble pc 35 then (bif Nat.beq pc 35 then some (.inl (oS 1 (s_push (.int 1)))) else none) else (bif Nat.beq pc 36 then some (.inl (oS 1 (s_ii (fun a b => a + b)))) else none)) else (bif Nat.ble pc 37 then (bif Nat.beq pc 37 then some (.inl (o_pI 11 47)) else none) else (bif Nat.beq pc 40 then some (.inr (0, 0, 0, 3)) else none)))))
theorem k_134_0 : mOk M_134.1 M_134.2.1 M_134.2.2.1 M_134.2.2.2 0 (o_al 0 1) := ok_aload_n dX11_put_0 rfl
theorem k_134_1 : mOk M_134.1 M_134.2.1 M_134.2.2.1 M_134.2.2.2 1 (o_gP 11 44) := ok_gP dX11_put_1 f_RX11_121 rfl
theorem k_134_4 : mOk M_134.1 M_134.2.1 M_134.2.2.1 M_134.2.2.2 4 (o_al 0 1) := ok_aload_n dX11_put_4 rfl
theorem k_134_5 : mOk M_134.1 M_134.2.1 M_134.2.2.1 M_134.2.2.2 5 (o_gI 11 47) := ok_gI dX11_put_5 f_RX11_197 (Or.inl rfl)
theorem k_134_8 : mOk M_134.1 M_134.2.1 M_134.2.2.1 M_134.2.2.2 8 (o_il 1 1) := ok_iload_n dX11_put_8 rfl
theorem k_134_9 : mOk M_134.1 M_134.2.1 M_134.2.2.1 M_134.2.2.2 9 (o_iast) := ok_iast dX11_put_9
theorem k_134_10 : mOk M_134.1 M_134.2.1 M_134.2.2.1 M_134.2.2.2 10 (o_al 0 1) := ok_aload_n dX11_put_10 rfl
theorem k_134_11 : mOk M_134.1 M_134.2.1 M_134.2.2.1 M_134.2.2.2 11 (o_gP 11 45) := ok_gP dX11_put_11 f_RX11_124 rfl
theorem k_134_14 : mOk M_134.1 M_134.2.1 M_134.2.2.1 M_134.2.2.2 14 (o_al 0 1) := ok_aload_n dX11_put_14 rfl
theorem k_134_15 : mOk M_134.1 M_134.2.1 M_134.2.2.1 M_134.2.2.2 15 (o_gI 11 47) := ok_gI dX11_put_15 f_RX11_197 (Or.inl rfl)
theorem k_134_18 : mOk M_134.1 M_134.2.1 M_134.2.2.1 M_134.2.2.2 18 (o_il 2 1) := ok_iload_n dX11_put_18 rfl
theorem k_134_19 : mOk M_134.1 M_134.2.1 M_134.2.2.1 M_134.2.2.2 19 (o_iast) := ok_iast dX11_put_19
theorem k_134_20 : mOk M_134.1 M_134.2.1 M_134.2.2.1 M_134.2.2.2 20 (o_al 0 1) := ok_aload_n dX11_put_20 rfl
theorem k_134_21 : mOk M_134.1 M_134.2.1 M_134.2.2.1 M_134.2.2.2 21 (o_gP 11 46) := ok_gP dX11_put_21 f_RX11_127 rfl
theorem k_134_24 : mOk M_134.1 M_134.2.1 M_134.2.2.1 M_134.2.2.2 24 (o_al 0 1) := ok_aload_n dX11_put_24 rfl
theorem k_134_25 : mOk M_134.1 M_134.2.1 M_134.2.2.1 M_134.2.2.2 25 (o_gI 11 47) := ok_gI dX11_put_25 f_RX11_197 (Or.inl rfl)
theorem k_134_28 : mOk M_134.1 M_134.2.1 M_134.2.2.1 M_134.2.2.2 28 (o_il 3 1) := ok_iload_n dX11_put_28 rfl
theorem k_134_29 : mOk M_134.1 M_134.2.1 M_134.2.2.1 M_134.2.2.2 29 (o_bast) := ok_bast dX11_put_29
theorem k_134_30 : mOk M_134.1 M_134.2.1 M_134.2.2.1 M_134.2.2.2 30 (o_al 0 1) := ok_aload_n dX11_put_30 rfl
theorem k_134_31 : mOk M_134.1 M_134.2.1 M_134.2.2.1 M_134.2.2.2 31 (oS 1 s_dup) := ok_dup dX11_put_31
theorem k_134_32 : mOk M_134.1 M_134.2.1 M_134.2.2.1 M_134.2.2.2 32 (o_gI 11 47) := ok_gI dX11_put_32 f_RX11_197 (Or.inl rfl)
theorem k_134_35 : mOk M_134.1 M_134.2.1 M_134.2.2.1 M_134.2.2.2 35 (oS 1 (s_push (.int 1))) := ok_iconst dX11_put_35 (by decide)
theorem k_134_36 : mOk M_134.1 M_134.2.1 M_134.2.2.1 M_134.2.2.2 36 (oS 1 (s_ii (fun a b => a + b))) := ok_iadd dX11_put_36
theorem k_134_37 : mOk M_134.1 M_134.2.1 M_134.2.2.1 M_134.2.2.2 37 (o_pI 11 47) := ok_pI dX11_put_37 (mFw_of f_RX11_197_c (Or.inl rfl)) rfl
set_option maxRecDepth 20000 in
set_option maxHeartbeats 4000000 in
theorem tk_134 (l : Launch) (H9 : mThr l) (H10 : mSpl l) (pc : Nat) (q : mEnt) (h : tb_134 pc = some q) : EE l 134 pc q := nd h (fun h => nd h (fun h => nd h (fun h => nd h (fun h => lf (P := EE l 134) h k_134_0) (fun h => nd h (fun h => lf (P := EE l 134) h k_134_1) (fun h => lf (P := EE l 134) h k_134_4))) (fun h => nd h (fun h => lf (P := EE l 134) h k_134_5) (fun h => nd h (fun h => lf (P := EE l 134) h k_134_8) (fun h => lf (P := EE l 134) h k_134_9)))) (fun h => nd h (fun h => nd h (fun h => lf (P := EE l 134) h k_134_10) (fun h => nd h (fun h => lf (P := EE l 134) h k_134_11) (fun h => lf (P := EE l 134) h k_134_14))) (fun h => nd h (fun h => lf (P := EE l 134) h k_134_15) (fun h => nd h (fun h => lf (P := EE l 134) h k_134_18) (fun h => lf (P := EE l 134) h k_134_19))))) (fun h => nd h (fun h => nd h (fun h => nd h (fun h => lf (P := EE l 134) h k_134_20) (fun h => nd h (fun h => lf (P := EE l 134) h k_134_21) (fun h => lf (P := EE l 134) h k_134_24))) (fun h => nd h (fun h => lf (P := EE l 134) h k_134_25) (fun h => nd h (fun h => lf (P := EE l 134) h k_134_28) (fun h => lf (P := EE l 134) h k_134_29)))) (fun h => nd h (fun h => nd h (fun h => lf (P := EE l 134) h k_134_30) (fun h => nd h (fun h => lf (P := EE l 134) h k_134_31) (fun h => lf (P := EE l 134) h k_134_32))) (fun h => nd h (fun h => nd h (fun h => lf (P := EE l 134) h k_134_35) (fun h => lf (P := EE l 134) h k_134_36)) (fun h => nd h (fun h => lf (P := EE l 134) h k_134_37) (fun h => lf (P := EE l 134) h (EE_re (Or.inr (Or.inr (Or.inr (Or.inr ⟨rfl, dX11_put_40, rfl⟩))))))))))
theorem dX11_takeWritten_0 : decode cX11_takeWritten 0 = .ok (.iconst 0, 1) := by decide +kernel
theorem dX11_takeWritten_1 : decode cX11_takeWritten 1 = .ok (.istore_n 1, 1) := by decide +kernel
theorem dX11_takeWritten_2 : decode cX11_takeWritten 2 = .ok (.iload_n 1, 1) := by decide +kernel
theorem dX11_takeWritten_3 : decode cX11_takeWritten 3 = .ok (.aload_n 0, 1) := by decide +kernel
theorem dX11_takeWritten_4 : decode cX11_takeWritten 4 = .ok (.getfield 197, 3) := by decide +kernel
theorem dX11_takeWritten_7 : decode cX11_takeWritten 7 = .ok (.if_icmp .ge 45, 3) := by decide +kernel
theorem dX11_takeWritten_10 : decode cX11_takeWritten 10 = .ok (.aload_n 0, 1) := by decide +kernel
theorem dX11_takeWritten_11 : decode cX11_takeWritten 11 = .ok (.getfield 112, 3) := by decide +kernel
theorem dX11_takeWritten_14 : decode cX11_takeWritten 14 = .ok (.iload_n 1, 1) := by decide +kernel
theorem dX11_takeWritten_15 : decode cX11_takeWritten 15 = .ok (.aload_n 0, 1) := by decide +kernel
theorem dX11_takeWritten_16 : decode cX11_takeWritten 16 = .ok (.getfield 121, 3) := by decide +kernel
theorem dX11_takeWritten_19 : decode cX11_takeWritten 19 = .ok (.iload_n 1, 1) := by decide +kernel
theorem dX11_takeWritten_20 : decode cX11_takeWritten 20 = .ok (.iaload, 1) := by decide +kernel
theorem dX11_takeWritten_21 : decode cX11_takeWritten 21 = .ok (.iastore, 1) := by decide +kernel
theorem dX11_takeWritten_22 : decode cX11_takeWritten 22 = .ok (.aload_n 0, 1) := by decide +kernel
theorem dX11_takeWritten_23 : decode cX11_takeWritten 23 = .ok (.getfield 115, 3) := by decide +kernel
theorem dX11_takeWritten_26 : decode cX11_takeWritten 26 = .ok (.iload_n 1, 1) := by decide +kernel
theorem dX11_takeWritten_27 : decode cX11_takeWritten 27 = .ok (.aload_n 0, 1) := by decide +kernel
theorem dX11_takeWritten_28 : decode cX11_takeWritten 28 = .ok (.getfield 124, 3) := by decide +kernel
theorem dX11_takeWritten_31 : decode cX11_takeWritten 31 = .ok (.iload_n 1, 1) := by decide +kernel
theorem dX11_takeWritten_32 : decode cX11_takeWritten 32 = .ok (.iaload, 1) := by decide +kernel
theorem dX11_takeWritten_33 : decode cX11_takeWritten 33 = .ok (.iastore, 1) := by decide +kernel
theorem dX11_takeWritten_34 : decode cX11_takeWritten 34 = .ok (.aload_n 0, 1) := by decide +kernel
theorem dX11_takeWritten_35 : decode cX11_takeWritten 35 = .ok (.getfield 118, 3) := by decide +kernel
theorem dX11_takeWritten_38 : decode cX11_takeWritten 38 = .ok (.iload_n 1, 1) := by decide +kernel
theorem dX11_takeWritten_39 : decode cX11_takeWritten 39 = .ok (.aload_n 0, 1) := by decide +kernel
theorem dX11_takeWritten_40 : decode cX11_takeWritten 40 = .ok (.getfield 127, 3) := by decide +kernel
theorem dX11_takeWritten_43 : decode cX11_takeWritten 43 = .ok (.iload_n 1, 1) := by decide +kernel
theorem dX11_takeWritten_44 : decode cX11_takeWritten 44 = .ok (.baload, 1) := by decide +kernel
theorem dX11_takeWritten_45 : decode cX11_takeWritten 45 = .ok (.bastore, 1) := by decide +kernel
theorem dX11_takeWritten_46 : decode cX11_takeWritten 46 = .ok (.iinc 1 1, 3) := by decide +kernel
theorem dX11_takeWritten_49 : decode cX11_takeWritten 49 = .ok (.goto (-47), 3) := by decide +kernel
theorem dX11_takeWritten_52 : decode cX11_takeWritten 52 = .ok (.aload_n 0, 1) := by decide +kernel
theorem dX11_takeWritten_53 : decode cX11_takeWritten 53 = .ok (.aload_n 0, 1) := by decide +kernel
theorem dX11_takeWritten_54 : decode cX11_takeWritten 54 = .ok (.getfield 197, 3) := by decide +kernel
theorem dX11_takeWritten_57 : decode cX11_takeWritten 57 = .ok (.putfield 191, 3) := by decide +kernel
theorem dX11_takeWritten_60 : decode cX11_takeWritten 60 = .ok (.return_, 1) := by decide +kernel
def tb_135 (pc : Nat) : Option mEnt := bif Nat.ble pc 27 then (bif Nat.ble pc 14 then (bif Nat.ble pc 3 then (bif Nat.ble pc 1 then (bif Nat.ble pc 0 then (bif Nat.beq pc 0 then some (.inl (oS 1 (s_push (.int 0)))) else none) else (bif Nat.beq pc 1 then some (.inl (o_is 1 1)) else none)) else (bif Nat.ble pc 2 then (bif Nat.beq pc 2 then some (.inl (o_il 1 1)) else none) else (bif Nat.beq pc 3 then some (.inl (o_al 0 1)) else none))) else (bif Nat.ble pc 7 then (bif Nat.ble pc 4 then (bif Nat.beq pc 4 then some (.inl (o_gI 11 47)) else none) else (bif Nat.beq pc 7 then some (.inl (o_cge 52)) else none)) else (bif Nat.ble pc 10 then (bif Nat.beq pc 10 then some (.inl (o_al 0 1)) else none) else (bif Nat.ble pc 11 then (bif Nat.beq pc 11 then some (.inl (o_gP 11 40)) else none) else (bif Nat.beq pc 14 then some (.inl (o_il 1 1)) else none))))) else (bif Nat.ble pc 20 then (bif Nat.ble pc 16 then (bif Nat.ble pc 15 then (bif Nat.beq pc 15 then some (.inl (o_al 0 1)) else none) else (bif Nat.beq pc 16 then some (.inl (o_gP 11 44)) else none)) else (bif Nat.ble pc 19 then (bif Nat.beq pc 19 then some (.inl (o_il 1 1)) else none) else (bif Nat.beq pc 20 then some (.inl (o_iald)) else none))) else (bif Nat.ble pc 22 then (bif Nat.ble pc 21 then (bif Nat.beq pc 21 then some (.inl (o_iast)) else none) else (bif Nat.beq pc 22 then some (.inl (o_al 0 1)) else none)) else (bif Nat.ble pc 23 then (bif Nat.beq pc 23 then some (.inl (o_gP 11 41)) else none) else (bif Nat.ble pc 26 then (bif Nat.beq pc 26 then some (.inl (o_il 1 1)) else none) else (bif Nat.beq pc 27 then some (.inl (o_al 0 1)) else none)))))) else (bif Nat.ble pc 40 then (bif Nat.ble pc 33 then (bif Nat.ble pc 31 then (bif Nat.ble pc 28 then (bif Nat.beq pc 28 then some (.inl (o_gP 11 45)) else none) else (bif Nat.beq pc 31 then some (.inl (o_il 1 1)) else none)) else (bif Nat.ble pc 32 then (bif Nat.beq pc 32 then some (.inl (o_iald)) else none) else (bif Nat.beq pc 33 then some (.inl (o_iast)) else none))) else (bif Nat.ble pc 35 then (bif Nat.ble pc 34 then (bif Nat.beq pc 34 then some (.inl (o_al 0 1)) else none) else (bif Nat.beq pc 35 then some (.inl (o_gP 11 42)) else none)) else (bif Nat.ble pc 38 then (bif Nat.beq pc 38 then some (.inl (o_il 1 1)) else none) else (bif Nat.ble pc 39 then (bif Nat.beq pc 39 then some (.inl (o_al 0 1)) else none) else (bif Nat.beq pc 40 then some (.inl (o_gP 11 46)) else none))))) else (bif Nat.ble pc 49 then (bif Nat.ble pc 44 then (bif Nat.ble pc 43 then (bif Nat.beq pc 43 then some (.inl (o_il 1 1)) else none) else (bif Nat.beq pc 44 then some (.inl (o_bald)) else none)) else (bif Nat.ble pc 45 then (bif Nat.beq pc 45 then some (.inl (o_bast)) else none) else (bif Nat.ble pc 46 then (bif Nat.beq pc 46 then some (.inl (o_inc 1 1)) else none) else (bif Nat.beq pc 49 then some (.inl (o_goto 2)) else none)))) else (bif Nat.ble pc 53 then (bif Nat.ble pc 52 then (bif Nat.beq pc 52 then some (.inl (o_al 0 1)) else none) else (bif Nat.beq pc 53 then some (.inl (o_al 0 1)) else none)) else (bif Nat.ble pc 54 then (bif Nat.beq pc 54 then some (.inl (o_gI 11 47)) else none) else (bif Nat.ble pc 57 then (bif Nat.beq pc 57 then some (.inl (o_pI 11 43)) else none) else (bif Nat.beq pc 60 then some (.inr (0, 0, 0, 3)) else none))))))
theorem k_135_0 : mOk M_135.1 M_135.2.1 M_135.2.2.1 M_135.2.2.2 0 (oS 1 (s_push (.int 0))) := ok_iconst dX11_takeWritten_0 (by decide)
theorem k_135_1 : mOk M_135.1 M_135.2.1 M_135.2.2.1 M_135.2.2.2 1 (o_is 1 1) := ok_istore_n dX11_takeWritten_1 rfl
theorem k_135_2 : mOk M_135.1 M_135.2.1 M_135.2.2.1 M_135.2.2.2 2 (o_il 1 1) := ok_iload_n dX11_takeWritten_2 rfl
theorem k_135_3 : mOk M_135.1 M_135.2.1 M_135.2.2.1 M_135.2.2.2 3 (o_al 0 1) := ok_aload_n dX11_takeWritten_3 rfl
theorem k_135_4 : mOk M_135.1 M_135.2.1 M_135.2.2.1 M_135.2.2.2 4 (o_gI 11 47) := ok_gI dX11_takeWritten_4 f_RX11_197 (Or.inl rfl)
theorem k_135_7 : mOk M_135.1 M_135.2.1 M_135.2.2.1 M_135.2.2.2 7 (o_cge 52) := ok_cge dX11_takeWritten_7 (by decide)
theorem k_135_10 : mOk M_135.1 M_135.2.1 M_135.2.2.1 M_135.2.2.2 10 (o_al 0 1) := ok_aload_n dX11_takeWritten_10 rfl
theorem k_135_11 : mOk M_135.1 M_135.2.1 M_135.2.2.1 M_135.2.2.2 11 (o_gP 11 40) := ok_gP dX11_takeWritten_11 f_RX11_112 rfl
theorem k_135_14 : mOk M_135.1 M_135.2.1 M_135.2.2.1 M_135.2.2.2 14 (o_il 1 1) := ok_iload_n dX11_takeWritten_14 rfl
theorem k_135_15 : mOk M_135.1 M_135.2.1 M_135.2.2.1 M_135.2.2.2 15 (o_al 0 1) := ok_aload_n dX11_takeWritten_15 rfl
theorem k_135_16 : mOk M_135.1 M_135.2.1 M_135.2.2.1 M_135.2.2.2 16 (o_gP 11 44) := ok_gP dX11_takeWritten_16 f_RX11_121 rfl
theorem k_135_19 : mOk M_135.1 M_135.2.1 M_135.2.2.1 M_135.2.2.2 19 (o_il 1 1) := ok_iload_n dX11_takeWritten_19 rfl
theorem k_135_20 : mOk M_135.1 M_135.2.1 M_135.2.2.1 M_135.2.2.2 20 (o_iald) := ok_iald dX11_takeWritten_20
theorem k_135_21 : mOk M_135.1 M_135.2.1 M_135.2.2.1 M_135.2.2.2 21 (o_iast) := ok_iast dX11_takeWritten_21
theorem k_135_22 : mOk M_135.1 M_135.2.1 M_135.2.2.1 M_135.2.2.2 22 (o_al 0 1) := ok_aload_n dX11_takeWritten_22 rfl
theorem k_135_23 : mOk M_135.1 M_135.2.1 M_135.2.2.1 M_135.2.2.2 23 (o_gP 11 41) := ok_gP dX11_takeWritten_23 f_RX11_115 rfl
theorem k_135_26 : mOk M_135.1 M_135.2.1 M_135.2.2.1 M_135.2.2.2 26 (o_il 1 1) := ok_iload_n dX11_takeWritten_26 rfl
theorem k_135_27 : mOk M_135.1 M_135.2.1 M_135.2.2.1 M_135.2.2.2 27 (o_al 0 1) := ok_aload_n dX11_takeWritten_27 rfl
theorem k_135_28 : mOk M_135.1 M_135.2.1 M_135.2.2.1 M_135.2.2.2 28 (o_gP 11 45) := ok_gP dX11_takeWritten_28 f_RX11_124 rfl
theorem k_135_31 : mOk M_135.1 M_135.2.1 M_135.2.2.1 M_135.2.2.2 31 (o_il 1 1) := ok_iload_n dX11_takeWritten_31 rfl
theorem k_135_32 : mOk M_135.1 M_135.2.1 M_135.2.2.1 M_135.2.2.2 32 (o_iald) := ok_iald dX11_takeWritten_32
theorem k_135_33 : mOk M_135.1 M_135.2.1 M_135.2.2.1 M_135.2.2.2 33 (o_iast) := ok_iast dX11_takeWritten_33
theorem k_135_34 : mOk M_135.1 M_135.2.1 M_135.2.2.1 M_135.2.2.2 34 (o_al 0 1) := ok_aload_n dX11_takeWritten_34 rfl
theorem k_135_35 : mOk M_135.1 M_135.2.1 M_135.2.2.1 M_135.2.2.2 35 (o_gP 11 42) := ok_gP dX11_takeWritten_35 f_RX11_118 rfl
theorem k_135_38 : mOk M_135.1 M_135.2.1 M_135.2.2.1 M_135.2.2.2 38 (o_il 1 1) := ok_iload_n dX11_takeWritten_38 rfl
theorem k_135_39 : mOk M_135.1 M_135.2.1 M_135.2.2.1 M_135.2.2.2 39 (o_al 0 1) := ok_aload_n dX11_takeWritten_39 rfl
theorem k_135_40 : mOk M_135.1 M_135.2.1 M_135.2.2.1 M_135.2.2.2 40 (o_gP 11 46) := ok_gP dX11_takeWritten_40 f_RX11_127 rfl
theorem k_135_43 : mOk M_135.1 M_135.2.1 M_135.2.2.1 M_135.2.2.2 43 (o_il 1 1) := ok_iload_n dX11_takeWritten_43 rfl
theorem k_135_44 : mOk M_135.1 M_135.2.1 M_135.2.2.1 M_135.2.2.2 44 (o_bald) := ok_bald dX11_takeWritten_44
theorem k_135_45 : mOk M_135.1 M_135.2.1 M_135.2.2.1 M_135.2.2.2 45 (o_bast) := ok_bast dX11_takeWritten_45
theorem k_135_46 : mOk M_135.1 M_135.2.1 M_135.2.2.1 M_135.2.2.2 46 (o_inc 1 1) := ok_iinc dX11_takeWritten_46 (by decide)
theorem k_135_49 : mOk M_135.1 M_135.2.1 M_135.2.2.1 M_135.2.2.2 49 (o_goto 2) := ok_goto dX11_takeWritten_49 (by decide)
theorem k_135_52 : mOk M_135.1 M_135.2.1 M_135.2.2.1 M_135.2.2.2 52 (o_al 0 1) := ok_aload_n dX11_takeWritten_52 rfl
theorem k_135_53 : mOk M_135.1 M_135.2.1 M_135.2.2.1 M_135.2.2.2 53 (o_al 0 1) := ok_aload_n dX11_takeWritten_53 rfl
theorem k_135_54 : mOk M_135.1 M_135.2.1 M_135.2.2.1 M_135.2.2.2 54 (o_gI 11 47) := ok_gI dX11_takeWritten_54 f_RX11_197 (Or.inl rfl)
theorem k_135_57 : mOk M_135.1 M_135.2.1 M_135.2.2.1 M_135.2.2.2 57 (o_pI 11 43) := ok_pI dX11_takeWritten_57 (mFw_of f_RX11_191_c (Or.inl rfl)) rfl
set_option maxRecDepth 20000 in
set_option maxHeartbeats 4000000 in
theorem tk_135 (l : Launch) (H9 : mThr l) (H10 : mSpl l) (pc : Nat) (q : mEnt) (h : tb_135 pc = some q) : EE l 135 pc q := nd h (fun h => nd h (fun h => nd h (fun h => nd h (fun h => nd h (fun h => lf (P := EE l 135) h k_135_0) (fun h => lf (P := EE l 135) h k_135_1)) (fun h => nd h (fun h => lf (P := EE l 135) h k_135_2) (fun h => lf (P := EE l 135) h k_135_3))) (fun h => nd h (fun h => nd h (fun h => lf (P := EE l 135) h k_135_4) (fun h => lf (P := EE l 135) h k_135_7)) (fun h => nd h (fun h => lf (P := EE l 135) h k_135_10) (fun h => nd h (fun h => lf (P := EE l 135) h k_135_11) (fun h => lf (P := EE l 135) h k_135_14))))) (fun h => nd h (fun h => nd h (fun h => nd h (fun h => lf (P := EE l 135) h k_135_15) (fun h => lf (P := EE l 135) h k_135_16)) (fun h => nd h (fun h => lf (P := EE l 135) h k_135_19) (fun h => lf (P := EE l 135) h k_135_20))) (fun h => nd h (fun h => nd h (fun h => lf (P := EE l 135) h k_135_21) (fun h => lf (P := EE l 135) h k_135_22)) (fun h => nd h (fun h => lf (P := EE l 135) h k_135_23) (fun h => nd h (fun h => lf (P := EE l 135) h k_135_26) (fun h => lf (P := EE l 135) h k_135_27)))))) (fun h => nd h (fun h => nd h (fun h => nd h (fun h => nd h (fun h => lf (P := EE l 135) h k_135_28) (fun h => lf (P := EE l 135) h k_135_31)) (fun h => nd h (fun h => lf (P := EE l 135) h k_135_32) (fun h => lf (P := EE l 135) h k_135_33))) (fun h => nd h (fun h => nd h (fun h => lf (P := EE l 135) h k_135_34) (fun h => lf (P := EE l 135) h k_135_35)) (fun h => nd h (fun h => lf (P := EE l 135) h k_135_38) (fun h => nd h (fun h => lf (P := EE l 135) h k_135_39) (fun h => lf (P := EE l 135) h k_135_40))))) (fun h => nd h (fun h => nd h (fun h => nd h (fun h => lf (P := EE l 135) h k_135_43) (fun h => lf (P := EE l 135) h k_135_44)) (fun h => nd h (fun h => lf (P := EE l 135) h k_135_45) (fun h => nd h (fun h => lf (P := EE l 135) h k_135_46) (fun h => lf (P := EE l 135) h k_135_49)))) (fun h => nd h (fun h => nd h (fun h => lf (P := EE l 135) h k_135_52) (fun h => lf (P := EE l 135) h k_135_53)) (fun h => nd h (fun h => lf (P := EE l 135) h k_135_54) (fun h => nd h (fun h => lf (P := EE l 135) h k_135_57) (fun h => lf (P := EE l 135) h (EE_re (Or.inr (Or.inr (Or.inr (Or.inr ⟨rfl, dX11_takeWritten_60, rfl⟩)))))))))))
theorem dX11_once_0 : decode cX11_once 0 = .ok (.aload_n 0, 1) := by decide +kernel
theorem dX11_once_1 : decode cX11_once 1 = .ok (.iconst 0, 1) := by decide +kernel
theorem dX11_once_2 : decode cX11_once 2 = .ok (.putfield 197, 3) := by decide +kernel
theorem dX11_once_5 : decode cX11_once 5 = .ok (.iconst 0, 1) := by decide +kernel
theorem dX11_once_6 : decode cX11_once 6 = .ok (.istore_n 2, 1) := by decide +kernel
theorem dX11_once_7 : decode cX11_once 7 = .ok (.iload_n 2, 1) := by decide +kernel
theorem dX11_once_8 : decode cX11_once 8 = .ok (.aload_n 0, 1) := by decide +kernel
theorem dX11_once_9 : decode cX11_once 9 = .ok (.getfield 191, 3) := by decide +kernel
theorem dX11_once_12 : decode cX11_once 12 = .ok (.if_icmp .ge 74, 3) := by decide +kernel
theorem dX11_once_15 : decode cX11_once 15 = .ok (.aload_n 0, 1) := by decide +kernel
theorem dX11_once_16 : decode cX11_once 16 = .ok (.getfield 118, 3) := by decide +kernel
theorem dX11_once_19 : decode cX11_once 19 = .ok (.iload_n 2, 1) := by decide +kernel
theorem dX11_once_20 : decode cX11_once 20 = .ok (.baload, 1) := by decide +kernel
theorem dX11_once_21 : decode cX11_once 21 = .ok (.ifCond .ne 37, 3) := by decide +kernel
theorem dX11_once_24 : decode cX11_once 24 = .ok (.aload_n 0, 1) := by decide +kernel
theorem dX11_once_25 : decode cX11_once 25 = .ok (.getfield 112, 3) := by decide +kernel
theorem dX11_once_28 : decode cX11_once 28 = .ok (.iload_n 2, 1) := by decide +kernel
theorem dX11_once_29 : decode cX11_once 29 = .ok (.iaload, 1) := by decide +kernel
theorem dX11_once_30 : decode cX11_once 30 = .ok (.aload_n 0, 1) := by decide +kernel
theorem dX11_once_31 : decode cX11_once 31 = .ok (.getfield 112, 3) := by decide +kernel
theorem dX11_once_34 : decode cX11_once 34 = .ok (.iload_n 2, 1) := by decide +kernel
theorem dX11_once_35 : decode cX11_once 35 = .ok (.iconst 1, 1) := by decide +kernel
theorem dX11_once_36 : decode cX11_once 36 = .ok (.isub, 1) := by decide +kernel
theorem dX11_once_37 : decode cX11_once 37 = .ok (.iaload, 1) := by decide +kernel
theorem dX11_once_38 : decode cX11_once 38 = .ok (.if_icmp .ne 20, 3) := by decide +kernel
theorem dX11_once_41 : decode cX11_once 41 = .ok (.aload_n 0, 1) := by decide +kernel
theorem dX11_once_42 : decode cX11_once 42 = .ok (.getfield 115, 3) := by decide +kernel
theorem dX11_once_45 : decode cX11_once 45 = .ok (.iload_n 2, 1) := by decide +kernel
theorem dX11_once_46 : decode cX11_once 46 = .ok (.iaload, 1) := by decide +kernel
theorem dX11_once_47 : decode cX11_once 47 = .ok (.aload_n 0, 1) := by decide +kernel
theorem dX11_once_48 : decode cX11_once 48 = .ok (.getfield 115, 3) := by decide +kernel
theorem dX11_once_51 : decode cX11_once 51 = .ok (.iload_n 2, 1) := by decide +kernel
theorem dX11_once_52 : decode cX11_once 52 = .ok (.iconst 1, 1) := by decide +kernel
theorem dX11_once_53 : decode cX11_once 53 = .ok (.isub, 1) := by decide +kernel
theorem dX11_once_54 : decode cX11_once 54 = .ok (.iaload, 1) := by decide +kernel
theorem dX11_once_55 : decode cX11_once 55 = .ok (.if_icmp .eq 25, 3) := by decide +kernel
theorem dX11_once_58 : decode cX11_once 58 = .ok (.aload_n 0, 1) := by decide +kernel
theorem dX11_once_59 : decode cX11_once 59 = .ok (.aload_n 0, 1) := by decide +kernel
theorem dX11_once_60 : decode cX11_once 60 = .ok (.getfield 112, 3) := by decide +kernel
theorem dX11_once_63 : decode cX11_once 63 = .ok (.iload_n 2, 1) := by decide +kernel
theorem dX11_once_64 : decode cX11_once 64 = .ok (.iaload, 1) := by decide +kernel
theorem dX11_once_65 : decode cX11_once 65 = .ok (.aload_n 0, 1) := by decide +kernel
theorem dX11_once_66 : decode cX11_once 66 = .ok (.getfield 115, 3) := by decide +kernel
theorem dX11_once_69 : decode cX11_once 69 = .ok (.iload_n 2, 1) := by decide +kernel
theorem dX11_once_70 : decode cX11_once 70 = .ok (.iaload, 1) := by decide +kernel
theorem dX11_once_71 : decode cX11_once 71 = .ok (.aload_n 0, 1) := by decide +kernel
theorem dX11_once_72 : decode cX11_once 72 = .ok (.getfield 118, 3) := by decide +kernel
theorem dX11_once_75 : decode cX11_once 75 = .ok (.iload_n 2, 1) := by decide +kernel
theorem dX11_once_76 : decode cX11_once 76 = .ok (.baload, 1) := by decide +kernel
theorem dX11_once_77 : decode cX11_once 77 = .ok (.invokevirtual 200, 3) := by decide +kernel
theorem dX11_once_80 : decode cX11_once 80 = .ok (.iinc 2 1, 3) := by decide +kernel
theorem dX11_once_83 : decode cX11_once 83 = .ok (.goto (-76), 3) := by decide +kernel
theorem dX11_once_86 : decode cX11_once 86 = .ok (.iload_n 1, 1) := by decide +kernel
theorem dX11_once_87 : decode cX11_once 87 = .ok (.ifCond .eq 61, 3) := by decide +kernel
theorem dX11_once_90 : decode cX11_once 90 = .ok (.aload_n 0, 1) := by decide +kernel
theorem dX11_once_91 : decode cX11_once 91 = .ok (.getfield 197, 3) := by decide +kernel
theorem dX11_once_94 : decode cX11_once 94 = .ok (.iconst 1, 1) := by decide +kernel
theorem dX11_once_95 : decode cX11_once 95 = .ok (.if_icmp .le 53, 3) := by decide +kernel
theorem dX11_once_98 : decode cX11_once 98 = .ok (.aload_n 0, 1) := by decide +kernel
theorem dX11_once_99 : decode cX11_once 99 = .ok (.getfield 121, 3) := by decide +kernel
theorem dX11_once_102 : decode cX11_once 102 = .ok (.aload_n 0, 1) := by decide +kernel
theorem dX11_once_103 : decode cX11_once 103 = .ok (.getfield 197, 3) := by decide +kernel
theorem dX11_once_106 : decode cX11_once 106 = .ok (.iconst 1, 1) := by decide +kernel
theorem dX11_once_107 : decode cX11_once 107 = .ok (.isub, 1) := by decide +kernel
theorem dX11_once_108 : decode cX11_once 108 = .ok (.iaload, 1) := by decide +kernel
theorem dX11_once_109 : decode cX11_once 109 = .ok (.aload_n 0, 1) := by decide +kernel
theorem dX11_once_110 : decode cX11_once 110 = .ok (.getfield 121, 3) := by decide +kernel
theorem dX11_once_113 : decode cX11_once 113 = .ok (.iconst 0, 1) := by decide +kernel
theorem dX11_once_114 : decode cX11_once 114 = .ok (.iaload, 1) := by decide +kernel
theorem dX11_once_115 : decode cX11_once 115 = .ok (.if_icmp .ne 33, 3) := by decide +kernel
theorem dX11_once_118 : decode cX11_once 118 = .ok (.aload_n 0, 1) := by decide +kernel
theorem dX11_once_119 : decode cX11_once 119 = .ok (.getfield 124, 3) := by decide +kernel
theorem dX11_once_122 : decode cX11_once 122 = .ok (.aload_n 0, 1) := by decide +kernel
theorem dX11_once_123 : decode cX11_once 123 = .ok (.getfield 197, 3) := by decide +kernel
theorem dX11_once_126 : decode cX11_once 126 = .ok (.iconst 1, 1) := by decide +kernel
theorem dX11_once_127 : decode cX11_once 127 = .ok (.isub, 1) := by decide +kernel
theorem dX11_once_128 : decode cX11_once 128 = .ok (.iaload, 1) := by decide +kernel
theorem dX11_once_129 : decode cX11_once 129 = .ok (.aload_n 0, 1) := by decide +kernel
theorem dX11_once_130 : decode cX11_once 130 = .ok (.getfield 124, 3) := by decide +kernel
theorem dX11_once_133 : decode cX11_once 133 = .ok (.iconst 0, 1) := by decide +kernel
theorem dX11_once_134 : decode cX11_once 134 = .ok (.iaload, 1) := by decide +kernel
theorem dX11_once_135 : decode cX11_once 135 = .ok (.if_icmp .ne 13, 3) := by decide +kernel
theorem dX11_once_138 : decode cX11_once 138 = .ok (.aload_n 0, 1) := by decide +kernel
theorem dX11_once_139 : decode cX11_once 139 = .ok (.dup, 1) := by decide +kernel
theorem dX11_once_140 : decode cX11_once 140 = .ok (.getfield 197, 3) := by decide +kernel
theorem dX11_once_143 : decode cX11_once 143 = .ok (.iconst 1, 1) := by decide +kernel
theorem dX11_once_144 : decode cX11_once 144 = .ok (.isub, 1) := by decide +kernel
theorem dX11_once_145 : decode cX11_once 145 = .ok (.putfield 197, 3) := by decide +kernel
theorem dX11_once_148 : decode cX11_once 148 = .ok (.aload_n 0, 1) := by decide +kernel
theorem dX11_once_149 : decode cX11_once 149 = .ok (.invokevirtual 204, 3) := by decide +kernel
theorem dX11_once_152 : decode cX11_once 152 = .ok (.return_, 1) := by decide +kernel
def tb_136 (pc : Nat) : Option mEnt := bif Nat.ble pc 70 then (bif Nat.ble pc 35 then (bif Nat.ble pc 16 then (bif Nat.ble pc 6 then (bif Nat.ble pc 1 then (bif Nat.ble pc 0 then (bif Nat.beq pc 0 then some (.inl (o_al 0 1)) else none) else (bif Nat.beq pc 1 then some (.inl (oS 1 (s_push (.int 0)))) else none)) else (bif Nat.ble pc 2 then (bif Nat.beq pc 2 then some (.inl (o_pI 11 47)) else none) else (bif Nat.ble pc 5 then (bif Nat.beq pc 5 then some (.inl (oS 1 (s_push (.int 0)))) else none) else (bif Nat.beq pc 6 then some (.inl (o_is 2 1)) else none)))) else (bif Nat.ble pc 9 then (bif Nat.ble pc 7 then (bif Nat.beq pc 7 then some (.inl (o_il 2 1)) else none) else (bif Nat.ble pc 8 then (bif Nat.beq pc 8 then some (.inl (o_al 0 1)) else none) else (bif Nat.beq pc 9 then some (.inl (o_gI 11 43)) else none))) else (bif Nat.ble pc 12 then (bif Nat.beq pc 12 then some (.inl (o_cge 86)) else none) else (bif Nat.ble pc 15 then (bif Nat.beq pc 15 then some (.inl (o_al 0 1)) else none) else (bif Nat.beq pc 16 then some (.inl (o_gP 11 42)) else none))))) else (bif Nat.ble pc 25 then (bif Nat.ble pc 20 then (bif Nat.ble pc 19 then (bif Nat.beq pc 19 then some (.inl (o_il 2 1)) else none) else (bif Nat.beq pc 20 then some (.inl (o_bald)) else none)) else (bif Nat.ble pc 21 then (bif Nat.beq pc 21 then some (.inl (o_zne 58)) else none) else (bif Nat.ble pc 24 then (bif Nat.beq pc 24 then some (.inl (o_al 0 1)) else none) else (bif Nat.beq pc 25 then some (.inl (o_gP 11 40)) else none)))) else (bif Nat.ble pc 30 then (bif Nat.ble pc 28 then (bif Nat.beq pc 28 then some (.inl (o_il 2 1)) else none) else (bif Nat.ble pc 29 then (bif Nat.beq pc 29 then some (.inl (o_iald)) else none) else (bif Nat.beq pc 30 then some (.inl (o_al 0 1)) else none))) else (bif Nat.ble pc 31 then (bif Nat.beq pc 31 then some (.inl (o_gP 11 40)) else none) else (bif Nat.ble pc 34 then (bif Nat.beq pc 34 then some (.inl (o_il 2 1)) else none) else (bif Nat.beq pc 35 then some (.inl (oS 1 (s_push (.int 1)))) else none)))))) else (bif Nat.ble pc 52 then (bif Nat.ble pc 42 then (bif Nat.ble pc 37 then (bif Nat.ble pc 36 then (bif Nat.beq pc 36 then some (.inl (oS 1 (s_ii (fun a b => a - b)))) else none) else (bif Nat.beq pc 37 then some (.inl (o_iald)) else none)) else (bif Nat.ble pc 38 then (bif Nat.beq pc 38 then some (.inl (o_cne 58)) else none) else (bif Nat.ble pc 41 then (bif Nat.beq pc 41 then some (.inl (o_al 0 1)) else none) else (bif Nat.beq pc 42 then some (.inl (o_gP 11 41)) else none)))) else (bif Nat.ble pc 47 then (bif Nat.ble pc 45 then (bif Nat.beq pc 45 then some (.inl (o_il 2 1)) else none) else (bif Nat.ble pc 46 then (bif Nat.beq pc 46 then some (.inl (o_iald)) else none) else (bif Nat.beq pc 47 then some (.inl (o_al 0 1)) else none))) else (bif Nat.ble pc 48 then (bif Nat.beq pc 48 then some (.inl (o_gP 11 41)) else none) else (bif Nat.ble pc 51 then (bif Nat.beq pc 51 then some (.inl (o_il 2 1)) else none) else (bif Nat.beq pc 52 then some (.inl (oS 1 (s_push (.int 1)))) else none))))) else (bif Nat.ble pc 60 then (bif Nat.ble pc 55 then (bif Nat.ble pc 53 then (bif Nat.beq pc 53 then some (.inl (oS 1 (s_ii (fun a b => a - b)))) else none) else (bif Nat.ble pc 54 then (bif Nat.beq pc 54 then some (.inl (o_iald)) else none) else (bif Nat.beq pc 55 then some (.inl (o_ceq 80)) else none))) else (bif Nat.ble pc 58 then (bif Nat.beq pc 58 then some (.inl (o_al 0 1)) else none) else (bif Nat.ble pc 59 then (bif Nat.beq pc 59 then some (.inl (o_al 0 1)) else none) else (bif Nat.beq pc 60 then some (.inl (o_gP 11 40)) else none)))) else (bif Nat.ble pc 65 then (bif Nat.ble pc 63 then (bif Nat.beq pc 63 then some (.inl (o_il 2 1)) else none) else (bif Nat.ble pc 64 then (bif Nat.beq pc 64 then some (.inl (o_iald)) else none) else (bif Nat.beq pc 65 then some (.inl (o_al 0 1)) else none))) else (bif Nat.ble pc 66 then (bif Nat.beq pc 66 then some (.inl (o_gP 11 41)) else none) else (bif Nat.ble pc 69 then (bif Nat.beq pc 69 then some (.inl (o_il 2 1)) else none) else (bif Nat.beq pc 70 then some (.inl (o_iald)) else none))))))) else (bif Nat.ble pc 113 then (bif Nat.ble pc 91 then (bif Nat.ble pc 77 then (bif Nat.ble pc 72 then (bif Nat.ble pc 71 then (bif Nat.beq pc 71 then some (.inl (o_al 0 1)) else none) else (bif Nat.beq pc 72 then some (.inl (o_gP 11 42)) else none)) else (bif Nat.ble pc 75 then (bif Nat.beq pc 75 then some (.inl (o_il 2 1)) else none) else (bif Nat.ble pc 76 then (bif Nat.beq pc 76 then some (.inl (o_bald)) else none) else (bif Nat.beq pc 77 then some (.inr (3, 134, 4, 11)) else none)))) else (bif Nat.ble pc 86 then (bif Nat.ble pc 80 then (bif Nat.beq pc 80 then some (.inl (o_inc 2 1)) else none) else (bif Nat.ble pc 83 then (bif Nat.beq pc 83 then some (.inl (o_goto 7)) else none) else (bif Nat.beq pc 86 then some (.inl (o_il 1 1)) else none))) else (bif Nat.ble pc 87 then (bif Nat.beq pc 87 then some (.inl (o_zeq 148)) else none) else (bif Nat.ble pc 90 then (bif Nat.beq pc 90 then some (.inl (o_al 0 1)) else none) else (bif Nat.beq pc 91 then some (.inl (o_gI 11 47)) else none))))) else (bif Nat.ble pc 103 then (bif Nat.ble pc 98 then (bif Nat.ble pc 94 then (bif Nat.beq pc 94 then some (.inl (oS 1 (s_push (.int 1)))) else none) else (bif Nat.ble pc 95 then (bif Nat.beq pc 95 then some (.inl (o_cle 148)) else none) else (bif Nat.beq pc 98 then some (.inl (o_al 0 1)) else none))) else (bif Nat.ble pc 99 then (bif Nat.beq pc 99 then some (.inl (o_gP 11 44)) else none) else (bif Nat.ble pc 102 then (bif Nat.beq pc 102 then some (.inl (o_al 0 1)) else none) else (bif Nat.beq pc 103 then some (.inl (o_gI 11 47)) else none)))) else (bif Nat.ble pc 108 then (bif Nat.ble pc 106 then (bif Nat.beq pc 106 then some (.inl (oS 1 (s_push (.int 1)))) else none) else (bif Nat.ble pc 107 then (bif Nat.beq pc 107 then some (.inl (oS 1 (s_ii (fun a b => a - b)))) else none) else (bif Nat.beq pc 108 then some (.inl (o_iald)) else none))) else (bif Nat.ble pc 109 then (bif Nat.beq pc 109 then some (.inl (o_al 0 1)) else none) else (bif Nat.ble pc 110 then (bif Nat.beq pc 110 then some (.inl (o_gP 11 44)) else none) else (bif Nat.beq pc 113 then some (.inl (oS 1 (s_push (.int 0)))) else none)))))) else (bif Nat.ble pc 130 then (bif Nat.ble pc 122 then (bif Nat.ble pc 115 then (bif Nat.ble pc 114 then (bif Nat.beq pc 114 then some (.inl (o_iald)) else none) else (bif Nat.beq pc 115 then some (.inl (o_cne 148)) else none)) else (bif Nat.ble pc 118 then (bif Nat.beq pc 118 then some (.inl (o_al 0 1)) else none) else (bif Nat.ble pc 119 then (bif Nat.beq pc 119 then some (.inl (o_gP 11 45)) else none) else (bif Nat.beq pc 122 then some (.inl (o_al 0 1)) else none)))) else (bif Nat.ble pc 127 then (bif Nat.ble pc 123 then (bif Nat.beq pc 123 then some (.inl (o_gI 11 47)) else none) else (bif Nat.ble pc 126 then (bif Nat.beq pc 126 then some (.inl (oS 1 (s_push (.int 1)))) else none) else (bif Nat.beq pc 127 then some (.inl (oS 1 (s_ii (fun a b => a - b)))) else none))) else (bif Nat.ble pc 128 then (bif Nat.beq pc 128 then some (.inl (o_iald)) else none) else (bif Nat.ble pc 129 then (bif Nat.beq pc 129 then some (.inl (o_al 0 1)) else none) else (bif Nat.beq pc 130 then some (.inl (o_gP 11 45)) else none))))) else (bif Nat.ble pc 140 then (bif Nat.ble pc 135 then (bif Nat.ble pc 133 then (bif Nat.beq pc 133 then some (.inl (oS 1 (s_push (.int 0)))) else none) else (bif Nat.ble pc 134 then (bif Nat.beq pc 134 then some (.inl (o_iald)) else none) else (bif Nat.beq pc 135 then some (.inl (o_cne 148)) else none))) else (bif Nat.ble pc 138 then (bif Nat.beq pc 138 then some (.inl (o_al 0 1)) else none) else (bif Nat.ble pc 139 then (bif Nat.beq pc 139 then some (.inl (oS 1 s_dup)) else none) else (bif Nat.beq pc 140 then some (.inl (o_gI 11 47)) else none)))) else (bif Nat.ble pc 145 then (bif Nat.ble pc 143 then (bif Nat.beq pc 143 then some (.inl (oS 1 (s_push (.int 1)))) else none) else (bif Nat.ble pc 144 then (bif Nat.beq pc 144 then some (.inl (oS 1 (s_ii (fun a b => a - b)))) else none) else (bif Nat.beq pc 145 then some (.inl (o_pI 11 47)) else none))) else (bif Nat.ble pc 148 then (bif Nat.beq pc 148 then some (.inl (o_al 0 1)) else none) else (bif Nat.ble pc 149 then (bif Nat.beq pc 149 then some (.inr (3, 135, 1, 11)) else none) else (bif Nat.beq pc 152 then some (.inr (0, 0, 0, 3)) else none)))))))
theorem k_136_0 : mOk M_136.1 M_136.2.1 M_136.2.2.1 M_136.2.2.2 0 (o_al 0 1) := ok_aload_n dX11_once_0 rfl
theorem k_136_1 : mOk M_136.1 M_136.2.1 M_136.2.2.1 M_136.2.2.2 1 (oS 1 (s_push (.int 0))) := ok_iconst dX11_once_1 (by decide)
theorem k_136_2 : mOk M_136.1 M_136.2.1 M_136.2.2.1 M_136.2.2.2 2 (o_pI 11 47) := ok_pI dX11_once_2 (mFw_of f_RX11_197_c (Or.inl rfl)) rfl
theorem k_136_5 : mOk M_136.1 M_136.2.1 M_136.2.2.1 M_136.2.2.2 5 (oS 1 (s_push (.int 0))) := ok_iconst dX11_once_5 (by decide)
theorem k_136_6 : mOk M_136.1 M_136.2.1 M_136.2.2.1 M_136.2.2.2 6 (o_is 2 1) := ok_istore_n dX11_once_6 rfl
theorem k_136_7 : mOk M_136.1 M_136.2.1 M_136.2.2.1 M_136.2.2.2 7 (o_il 2 1) := ok_iload_n dX11_once_7 rfl
theorem k_136_8 : mOk M_136.1 M_136.2.1 M_136.2.2.1 M_136.2.2.2 8 (o_al 0 1) := ok_aload_n dX11_once_8 rfl
theorem k_136_9 : mOk M_136.1 M_136.2.1 M_136.2.2.1 M_136.2.2.2 9 (o_gI 11 43) := ok_gI dX11_once_9 f_RX11_191 (Or.inl rfl)
theorem k_136_12 : mOk M_136.1 M_136.2.1 M_136.2.2.1 M_136.2.2.2 12 (o_cge 86) := ok_cge dX11_once_12 (by decide)
theorem k_136_15 : mOk M_136.1 M_136.2.1 M_136.2.2.1 M_136.2.2.2 15 (o_al 0 1) := ok_aload_n dX11_once_15 rfl
theorem k_136_16 : mOk M_136.1 M_136.2.1 M_136.2.2.1 M_136.2.2.2 16 (o_gP 11 42) := ok_gP dX11_once_16 f_RX11_118 rfl
theorem k_136_19 : mOk M_136.1 M_136.2.1 M_136.2.2.1 M_136.2.2.2 19 (o_il 2 1) := ok_iload_n dX11_once_19 rfl
theorem k_136_20 : mOk M_136.1 M_136.2.1 M_136.2.2.1 M_136.2.2.2 20 (o_bald) := ok_bald dX11_once_20
theorem k_136_21 : mOk M_136.1 M_136.2.1 M_136.2.2.1 M_136.2.2.2 21 (o_zne 58) := ok_zne dX11_once_21 (by decide)
theorem k_136_24 : mOk M_136.1 M_136.2.1 M_136.2.2.1 M_136.2.2.2 24 (o_al 0 1) := ok_aload_n dX11_once_24 rfl
theorem k_136_25 : mOk M_136.1 M_136.2.1 M_136.2.2.1 M_136.2.2.2 25 (o_gP 11 40) := ok_gP dX11_once_25 f_RX11_112 rfl
theorem k_136_28 : mOk M_136.1 M_136.2.1 M_136.2.2.1 M_136.2.2.2 28 (o_il 2 1) := ok_iload_n dX11_once_28 rfl
theorem k_136_29 : mOk M_136.1 M_136.2.1 M_136.2.2.1 M_136.2.2.2 29 (o_iald) := ok_iald dX11_once_29
theorem k_136_30 : mOk M_136.1 M_136.2.1 M_136.2.2.1 M_136.2.2.2 30 (o_al 0 1) := ok_aload_n dX11_once_30 rfl
theorem k_136_31 : mOk M_136.1 M_136.2.1 M_136.2.2.1 M_136.2.2.2 31 (o_gP 11 40) := ok_gP dX11_once_31 f_RX11_112 rfl
theorem k_136_34 : mOk M_136.1 M_136.2.1 M_136.2.2.1 M_136.2.2.2 34 (o_il 2 1) := ok_iload_n dX11_once_34 rfl
theorem k_136_35 : mOk M_136.1 M_136.2.1 M_136.2.2.1 M_136.2.2.2 35 (oS 1 (s_push (.int 1))) := ok_iconst dX11_once_35 (by decide)
theorem k_136_36 : mOk M_136.1 M_136.2.1 M_136.2.2.1 M_136.2.2.2 36 (oS 1 (s_ii (fun a b => a - b))) := ok_isub dX11_once_36
theorem k_136_37 : mOk M_136.1 M_136.2.1 M_136.2.2.1 M_136.2.2.2 37 (o_iald) := ok_iald dX11_once_37
theorem k_136_38 : mOk M_136.1 M_136.2.1 M_136.2.2.1 M_136.2.2.2 38 (o_cne 58) := ok_cne dX11_once_38 (by decide)
theorem k_136_41 : mOk M_136.1 M_136.2.1 M_136.2.2.1 M_136.2.2.2 41 (o_al 0 1) := ok_aload_n dX11_once_41 rfl
theorem k_136_42 : mOk M_136.1 M_136.2.1 M_136.2.2.1 M_136.2.2.2 42 (o_gP 11 41) := ok_gP dX11_once_42 f_RX11_115 rfl
theorem k_136_45 : mOk M_136.1 M_136.2.1 M_136.2.2.1 M_136.2.2.2 45 (o_il 2 1) := ok_iload_n dX11_once_45 rfl
theorem k_136_46 : mOk M_136.1 M_136.2.1 M_136.2.2.1 M_136.2.2.2 46 (o_iald) := ok_iald dX11_once_46
theorem k_136_47 : mOk M_136.1 M_136.2.1 M_136.2.2.1 M_136.2.2.2 47 (o_al 0 1) := ok_aload_n dX11_once_47 rfl
theorem k_136_48 : mOk M_136.1 M_136.2.1 M_136.2.2.1 M_136.2.2.2 48 (o_gP 11 41) := ok_gP dX11_once_48 f_RX11_115 rfl
theorem k_136_51 : mOk M_136.1 M_136.2.1 M_136.2.2.1 M_136.2.2.2 51 (o_il 2 1) := ok_iload_n dX11_once_51 rfl
theorem k_136_52 : mOk M_136.1 M_136.2.1 M_136.2.2.1 M_136.2.2.2 52 (oS 1 (s_push (.int 1))) := ok_iconst dX11_once_52 (by decide)
theorem k_136_53 : mOk M_136.1 M_136.2.1 M_136.2.2.1 M_136.2.2.2 53 (oS 1 (s_ii (fun a b => a - b))) := ok_isub dX11_once_53
theorem k_136_54 : mOk M_136.1 M_136.2.1 M_136.2.2.1 M_136.2.2.2 54 (o_iald) := ok_iald dX11_once_54
theorem k_136_55 : mOk M_136.1 M_136.2.1 M_136.2.2.1 M_136.2.2.2 55 (o_ceq 80) := ok_ceq dX11_once_55 (by decide)
theorem k_136_58 : mOk M_136.1 M_136.2.1 M_136.2.2.1 M_136.2.2.2 58 (o_al 0 1) := ok_aload_n dX11_once_58 rfl
theorem k_136_59 : mOk M_136.1 M_136.2.1 M_136.2.2.1 M_136.2.2.2 59 (o_al 0 1) := ok_aload_n dX11_once_59 rfl
theorem k_136_60 : mOk M_136.1 M_136.2.1 M_136.2.2.1 M_136.2.2.2 60 (o_gP 11 40) := ok_gP dX11_once_60 f_RX11_112 rfl
theorem k_136_63 : mOk M_136.1 M_136.2.1 M_136.2.2.1 M_136.2.2.2 63 (o_il 2 1) := ok_iload_n dX11_once_63 rfl
theorem k_136_64 : mOk M_136.1 M_136.2.1 M_136.2.2.1 M_136.2.2.2 64 (o_iald) := ok_iald dX11_once_64
theorem k_136_65 : mOk M_136.1 M_136.2.1 M_136.2.2.1 M_136.2.2.2 65 (o_al 0 1) := ok_aload_n dX11_once_65 rfl
theorem k_136_66 : mOk M_136.1 M_136.2.1 M_136.2.2.1 M_136.2.2.2 66 (o_gP 11 41) := ok_gP dX11_once_66 f_RX11_115 rfl
theorem k_136_69 : mOk M_136.1 M_136.2.1 M_136.2.2.1 M_136.2.2.2 69 (o_il 2 1) := ok_iload_n dX11_once_69 rfl
theorem k_136_70 : mOk M_136.1 M_136.2.1 M_136.2.2.1 M_136.2.2.2 70 (o_iald) := ok_iald dX11_once_70
theorem k_136_71 : mOk M_136.1 M_136.2.1 M_136.2.2.1 M_136.2.2.2 71 (o_al 0 1) := ok_aload_n dX11_once_71 rfl
theorem k_136_72 : mOk M_136.1 M_136.2.1 M_136.2.2.1 M_136.2.2.2 72 (o_gP 11 42) := ok_gP dX11_once_72 f_RX11_118 rfl
theorem k_136_75 : mOk M_136.1 M_136.2.1 M_136.2.2.1 M_136.2.2.2 75 (o_il 2 1) := ok_iload_n dX11_once_75 rfl
theorem k_136_76 : mOk M_136.1 M_136.2.1 M_136.2.2.1 M_136.2.2.2 76 (o_bald) := ok_bald dX11_once_76
theorem k_136_80 : mOk M_136.1 M_136.2.1 M_136.2.2.1 M_136.2.2.2 80 (o_inc 2 1) := ok_iinc dX11_once_80 (by decide)
theorem k_136_83 : mOk M_136.1 M_136.2.1 M_136.2.2.1 M_136.2.2.2 83 (o_goto 7) := ok_goto dX11_once_83 (by decide)
theorem k_136_86 : mOk M_136.1 M_136.2.1 M_136.2.2.1 M_136.2.2.2 86 (o_il 1 1) := ok_iload_n dX11_once_86 rfl
theorem k_136_87 : mOk M_136.1 M_136.2.1 M_136.2.2.1 M_136.2.2.2 87 (o_zeq 148) := ok_zeq dX11_once_87 (by decide)
theorem k_136_90 : mOk M_136.1 M_136.2.1 M_136.2.2.1 M_136.2.2.2 90 (o_al 0 1) := ok_aload_n dX11_once_90 rfl
theorem k_136_91 : mOk M_136.1 M_136.2.1 M_136.2.2.1 M_136.2.2.2 91 (o_gI 11 47) := ok_gI dX11_once_91 f_RX11_197 (Or.inl rfl)
theorem k_136_94 : mOk M_136.1 M_136.2.1 M_136.2.2.1 M_136.2.2.2 94 (oS 1 (s_push (.int 1))) := ok_iconst dX11_once_94 (by decide)
theorem k_136_95 : mOk M_136.1 M_136.2.1 M_136.2.2.1 M_136.2.2.2 95 (o_cle 148) := ok_cle dX11_once_95 (by decide)
theorem k_136_98 : mOk M_136.1 M_136.2.1 M_136.2.2.1 M_136.2.2.2 98 (o_al 0 1) := ok_aload_n dX11_once_98 rfl
theorem k_136_99 : mOk M_136.1 M_136.2.1 M_136.2.2.1 M_136.2.2.2 99 (o_gP 11 44) := ok_gP dX11_once_99 f_RX11_121 rfl
theorem k_136_102 : mOk M_136.1 M_136.2.1 M_136.2.2.1 M_136.2.2.2 102 (o_al 0 1) := ok_aload_n dX11_once_102 rfl
theorem k_136_103 : mOk M_136.1 M_136.2.1 M_136.2.2.1 M_136.2.2.2 103 (o_gI 11 47) := ok_gI dX11_once_103 f_RX11_197 (Or.inl rfl)
theorem k_136_106 : mOk M_136.1 M_136.2.1 M_136.2.2.1 M_136.2.2.2 106 (oS 1 (s_push (.int 1))) := ok_iconst dX11_once_106 (by decide)
theorem k_136_107 : mOk M_136.1 M_136.2.1 M_136.2.2.1 M_136.2.2.2 107 (oS 1 (s_ii (fun a b => a - b))) := ok_isub dX11_once_107
theorem k_136_108 : mOk M_136.1 M_136.2.1 M_136.2.2.1 M_136.2.2.2 108 (o_iald) := ok_iald dX11_once_108
theorem k_136_109 : mOk M_136.1 M_136.2.1 M_136.2.2.1 M_136.2.2.2 109 (o_al 0 1) := ok_aload_n dX11_once_109 rfl
theorem k_136_110 : mOk M_136.1 M_136.2.1 M_136.2.2.1 M_136.2.2.2 110 (o_gP 11 44) := ok_gP dX11_once_110 f_RX11_121 rfl
theorem k_136_113 : mOk M_136.1 M_136.2.1 M_136.2.2.1 M_136.2.2.2 113 (oS 1 (s_push (.int 0))) := ok_iconst dX11_once_113 (by decide)
theorem k_136_114 : mOk M_136.1 M_136.2.1 M_136.2.2.1 M_136.2.2.2 114 (o_iald) := ok_iald dX11_once_114
theorem k_136_115 : mOk M_136.1 M_136.2.1 M_136.2.2.1 M_136.2.2.2 115 (o_cne 148) := ok_cne dX11_once_115 (by decide)
theorem k_136_118 : mOk M_136.1 M_136.2.1 M_136.2.2.1 M_136.2.2.2 118 (o_al 0 1) := ok_aload_n dX11_once_118 rfl
theorem k_136_119 : mOk M_136.1 M_136.2.1 M_136.2.2.1 M_136.2.2.2 119 (o_gP 11 45) := ok_gP dX11_once_119 f_RX11_124 rfl
theorem k_136_122 : mOk M_136.1 M_136.2.1 M_136.2.2.1 M_136.2.2.2 122 (o_al 0 1) := ok_aload_n dX11_once_122 rfl
theorem k_136_123 : mOk M_136.1 M_136.2.1 M_136.2.2.1 M_136.2.2.2 123 (o_gI 11 47) := ok_gI dX11_once_123 f_RX11_197 (Or.inl rfl)
theorem k_136_126 : mOk M_136.1 M_136.2.1 M_136.2.2.1 M_136.2.2.2 126 (oS 1 (s_push (.int 1))) := ok_iconst dX11_once_126 (by decide)
theorem k_136_127 : mOk M_136.1 M_136.2.1 M_136.2.2.1 M_136.2.2.2 127 (oS 1 (s_ii (fun a b => a - b))) := ok_isub dX11_once_127
theorem k_136_128 : mOk M_136.1 M_136.2.1 M_136.2.2.1 M_136.2.2.2 128 (o_iald) := ok_iald dX11_once_128
theorem k_136_129 : mOk M_136.1 M_136.2.1 M_136.2.2.1 M_136.2.2.2 129 (o_al 0 1) := ok_aload_n dX11_once_129 rfl
theorem k_136_130 : mOk M_136.1 M_136.2.1 M_136.2.2.1 M_136.2.2.2 130 (o_gP 11 45) := ok_gP dX11_once_130 f_RX11_124 rfl
theorem k_136_133 : mOk M_136.1 M_136.2.1 M_136.2.2.1 M_136.2.2.2 133 (oS 1 (s_push (.int 0))) := ok_iconst dX11_once_133 (by decide)
theorem k_136_134 : mOk M_136.1 M_136.2.1 M_136.2.2.1 M_136.2.2.2 134 (o_iald) := ok_iald dX11_once_134
theorem k_136_135 : mOk M_136.1 M_136.2.1 M_136.2.2.1 M_136.2.2.2 135 (o_cne 148) := ok_cne dX11_once_135 (by decide)
theorem k_136_138 : mOk M_136.1 M_136.2.1 M_136.2.2.1 M_136.2.2.2 138 (o_al 0 1) := ok_aload_n dX11_once_138 rfl
theorem k_136_139 : mOk M_136.1 M_136.2.1 M_136.2.2.1 M_136.2.2.2 139 (oS 1 s_dup) := ok_dup dX11_once_139
theorem k_136_140 : mOk M_136.1 M_136.2.1 M_136.2.2.1 M_136.2.2.2 140 (o_gI 11 47) := ok_gI dX11_once_140 f_RX11_197 (Or.inl rfl)
theorem k_136_143 : mOk M_136.1 M_136.2.1 M_136.2.2.1 M_136.2.2.2 143 (oS 1 (s_push (.int 1))) := ok_iconst dX11_once_143 (by decide)
theorem k_136_144 : mOk M_136.1 M_136.2.1 M_136.2.2.1 M_136.2.2.2 144 (oS 1 (s_ii (fun a b => a - b))) := ok_isub dX11_once_144
theorem k_136_145 : mOk M_136.1 M_136.2.1 M_136.2.2.1 M_136.2.2.2 145 (o_pI 11 47) := ok_pI dX11_once_145 (mFw_of f_RX11_197_c (Or.inl rfl)) rfl
theorem k_136_148 : mOk M_136.1 M_136.2.1 M_136.2.2.1 M_136.2.2.2 148 (o_al 0 1) := ok_aload_n dX11_once_148 rfl
set_option maxRecDepth 20000 in
set_option maxHeartbeats 4000000 in
theorem tk_136 (l : Launch) (H9 : mThr l) (H10 : mSpl l) (pc : Nat) (q : mEnt) (h : tb_136 pc = some q) : EE l 136 pc q := nd h (fun h => nd h (fun h => nd h (fun h => nd h (fun h => nd h (fun h => nd h (fun h => lf (P := EE l 136) h k_136_0) (fun h => lf (P := EE l 136) h k_136_1)) (fun h => nd h (fun h => lf (P := EE l 136) h k_136_2) (fun h => nd h (fun h => lf (P := EE l 136) h k_136_5) (fun h => lf (P := EE l 136) h k_136_6)))) (fun h => nd h (fun h => nd h (fun h => lf (P := EE l 136) h k_136_7) (fun h => nd h (fun h => lf (P := EE l 136) h k_136_8) (fun h => lf (P := EE l 136) h k_136_9))) (fun h => nd h (fun h => lf (P := EE l 136) h k_136_12) (fun h => nd h (fun h => lf (P := EE l 136) h k_136_15) (fun h => lf (P := EE l 136) h k_136_16))))) (fun h => nd h (fun h => nd h (fun h => nd h (fun h => lf (P := EE l 136) h k_136_19) (fun h => lf (P := EE l 136) h k_136_20)) (fun h => nd h (fun h => lf (P := EE l 136) h k_136_21) (fun h => nd h (fun h => lf (P := EE l 136) h k_136_24) (fun h => lf (P := EE l 136) h k_136_25)))) (fun h => nd h (fun h => nd h (fun h => lf (P := EE l 136) h k_136_28) (fun h => nd h (fun h => lf (P := EE l 136) h k_136_29) (fun h => lf (P := EE l 136) h k_136_30))) (fun h => nd h (fun h => lf (P := EE l 136) h k_136_31) (fun h => nd h (fun h => lf (P := EE l 136) h k_136_34) (fun h => lf (P := EE l 136) h k_136_35)))))) (fun h => nd h (fun h => nd h (fun h => nd h (fun h => nd h (fun h => lf (P := EE l 136) h k_136_36) (fun h => lf (P := EE l 136) h k_136_37)) (fun h => nd h (fun h => lf (P := EE l 136) h k_136_38) (fun h => nd h (fun h => lf (P := EE l 136) h k_136_41) (fun h => lf (P := EE l 136) h k_136_42)))) (fun h => nd h (fun h => nd h (fun h => lf (P := EE l 136) h k_136_45) (fun h => nd h (fun h => lf (P := EE l 136) h k_136_46) (fun h => lf (P := EE l 136) h k_136_47))) (fun h => nd h (fun h => lf (P := EE l 136) h k_136_48) (fun h => nd h (fun h => lf (P := EE l 136) h k_136_51) (fun h => lf (P := EE l 136) h k_136_52))))) (fun h => nd h (fun h => nd h (fun h => nd h (fun h => lf (P := EE l 136) h k_136_53) (fun h => nd h (fun h => lf (P := EE l 136) h k_136_54) (fun h => lf (P := EE l 136) h k_136_55))) (fun h => nd h (fun h => lf (P := EE l 136) h k_136_58) (fun h => nd h (fun h => lf (P := EE l 136) h k_136_59) (fun h => lf (P := EE l 136) h k_136_60)))) (fun h => nd h (fun h => nd h (fun h => lf (P := EE l 136) h k_136_63) (fun h => nd h (fun h => lf (P := EE l 136) h k_136_64) (fun h => lf (P := EE l 136) h k_136_65))) (fun h => nd h (fun h => lf (P := EE l 136) h k_136_66) (fun h => nd h (fun h => lf (P := EE l 136) h k_136_69) (fun h => lf (P := EE l 136) h k_136_70))))))) (fun h => nd h (fun h => nd h (fun h => nd h (fun h => nd h (fun h => nd h (fun h => lf (P := EE l 136) h k_136_71) (fun h => lf (P := EE l 136) h k_136_72)) (fun h => nd h (fun h => lf (P := EE l 136) h k_136_75) (fun h => nd h (fun h => lf (P := EE l 136) h k_136_76) (fun h => lf (P := EE l 136) h (EE_ca (by decide) (⟨m_1305, m_81, ⟨by decide, by decide⟩, by decide +kernel, ⟨by decide, by decide⟩, 200, 3, by decide +kernel, Or.inr (Or.inr (Or.inl ⟨rfl, rfl, dX11_once_77, m_1302, m_1304, _, rfl, by decide, m_43⟩))⟩) rfl))))) (fun h => nd h (fun h => nd h (fun h => lf (P := EE l 136) h k_136_80) (fun h => nd h (fun h => lf (P := EE l 136) h k_136_83) (fun h => lf (P := EE l 136) h k_136_86))) (fun h => nd h (fun h => lf (P := EE l 136) h k_136_87) (fun h => nd h (fun h => lf (P := EE l 136) h k_136_90) (fun h => lf (P := EE l 136) h k_136_91))))) (fun h => nd h (fun h => nd h (fun h => nd h (fun h => lf (P := EE l 136) h k_136_94) (fun h => nd h (fun h => lf (P := EE l 136) h k_136_95) (fun h => lf (P := EE l 136) h k_136_98))) (fun h => nd h (fun h => lf (P := EE l 136) h k_136_99) (fun h => nd h (fun h => lf (P := EE l 136) h k_136_102) (fun h => lf (P := EE l 136) h k_136_103)))) (fun h => nd h (fun h => nd h (fun h => lf (P := EE l 136) h k_136_106) (fun h => nd h (fun h => lf (P := EE l 136) h k_136_107) (fun h => lf (P := EE l 136) h k_136_108))) (fun h => nd h (fun h => lf (P := EE l 136) h k_136_109) (fun h => nd h (fun h => lf (P := EE l 136) h k_136_110) (fun h => lf (P := EE l 136) h k_136_113)))))) (fun h => nd h (fun h => nd h (fun h => nd h (fun h => nd h (fun h => lf (P := EE l 136) h k_136_114) (fun h => lf (P := EE l 136) h k_136_115)) (fun h => nd h (fun h => lf (P := EE l 136) h k_136_118) (fun h => nd h (fun h => lf (P := EE l 136) h k_136_119) (fun h => lf (P := EE l 136) h k_136_122)))) (fun h => nd h (fun h => nd h (fun h => lf (P := EE l 136) h k_136_123) (fun h => nd h (fun h => lf (P := EE l 136) h k_136_126) (fun h => lf (P := EE l 136) h k_136_127))) (fun h => nd h (fun h => lf (P := EE l 136) h k_136_128) (fun h => nd h (fun h => lf (P := EE l 136) h k_136_129) (fun h => lf (P := EE l 136) h k_136_130))))) (fun h => nd h (fun h => nd h (fun h => nd h (fun h => lf (P := EE l 136) h k_136_133) (fun h => nd h (fun h => lf (P := EE l 136) h k_136_134) (fun h => lf (P := EE l 136) h k_136_135))) (fun h => nd h (fun h => lf (P := EE l 136) h k_136_138) (fun h => nd h (fun h => lf (P := EE l 136) h k_136_139) (fun h => lf (P := EE l 136) h k_136_140)))) (fun h => nd h (fun h => nd h (fun h => lf (P := EE l 136) h k_136_143) (fun h => nd h (fun h => lf (P := EE l 136) h k_136_144) (fun h => lf (P := EE l 136) h k_136_145))) (fun h => nd h (fun h => lf (P := EE l 136) h k_136_148) (fun h => nd h (fun h => lf (P := EE l 136) h (EE_ca (by decide) (⟨m_1309, m_81, ⟨by decide, by decide⟩, by decide +kernel, ⟨by decide, by decide⟩, 204, 0, by decide +kernel, Or.inr (Or.inr (Or.inl ⟨rfl, rfl, dX11_once_149, m_1306, m_1308, _, rfl, by decide, m_44⟩))⟩) rfl)) (fun h => lf (P := EE l 136) h (EE_re (Or.inr (Or.inr (Or.inr (Or.inr ⟨rfl, dX11_once_152, rfl⟩))))))))))))
theorem dX11_dropSingles_0 : decode cX11_dropSingles 0 = .ok (.aload_n 0, 1) := by decide +kernel
theorem dX11_dropSingles_1 : decode cX11_dropSingles 1 = .ok (.iconst 0, 1) := by decide +kernel
theorem dX11_dropSingles_2 : decode cX11_dropSingles 2 = .ok (.putfield 197, 3) := by decide +kernel
theorem dX11_dropSingles_5 : decode cX11_dropSingles 5 = .ok (.iconst 0, 1) := by decide +kernel
theorem dX11_dropSingles_6 : decode cX11_dropSingles 6 = .ok (.istore_n 1, 1) := by decide +kernel
theorem dX11_dropSingles_7 : decode cX11_dropSingles 7 = .ok (.iload_n 1, 1) := by decide +kernel
theorem dX11_dropSingles_8 : decode cX11_dropSingles 8 = .ok (.aload_n 0, 1) := by decide +kernel
theorem dX11_dropSingles_9 : decode cX11_dropSingles 9 = .ok (.getfield 191, 3) := by decide +kernel
theorem dX11_dropSingles_12 : decode cX11_dropSingles 12 = .ok (.if_icmp .ge 71, 3) := by decide +kernel
theorem dX11_dropSingles_15 : decode cX11_dropSingles 15 = .ok (.aload_n 0, 1) := by decide +kernel
theorem dX11_dropSingles_16 : decode cX11_dropSingles 16 = .ok (.getfield 118, 3) := by decide +kernel
theorem dX11_dropSingles_19 : decode cX11_dropSingles 19 = .ok (.iload_n 1, 1) := by decide +kernel
theorem dX11_dropSingles_20 : decode cX11_dropSingles 20 = .ok (.baload, 1) := by decide +kernel
theorem dX11_dropSingles_21 : decode cX11_dropSingles 21 = .ok (.ifCond .eq 28, 3) := by decide +kernel
theorem dX11_dropSingles_24 : decode cX11_dropSingles 24 = .ok (.iload_n 1, 1) := by decide +kernel
theorem dX11_dropSingles_25 : decode cX11_dropSingles 25 = .ok (.iconst 1, 1) := by decide +kernel
theorem dX11_dropSingles_26 : decode cX11_dropSingles 26 = .ok (.iadd, 1) := by decide +kernel
theorem dX11_dropSingles_27 : decode cX11_dropSingles 27 = .ok (.aload_n 0, 1) := by decide +kernel
theorem dX11_dropSingles_28 : decode cX11_dropSingles 28 = .ok (.getfield 191, 3) := by decide +kernel
theorem dX11_dropSingles_31 : decode cX11_dropSingles 31 = .ok (.if_icmp .eq 14, 3) := by decide +kernel
theorem dX11_dropSingles_34 : decode cX11_dropSingles 34 = .ok (.aload_n 0, 1) := by decide +kernel
theorem dX11_dropSingles_35 : decode cX11_dropSingles 35 = .ok (.getfield 118, 3) := by decide +kernel
theorem dX11_dropSingles_38 : decode cX11_dropSingles 38 = .ok (.iload_n 1, 1) := by decide +kernel
theorem dX11_dropSingles_39 : decode cX11_dropSingles 39 = .ok (.iconst 1, 1) := by decide +kernel
theorem dX11_dropSingles_40 : decode cX11_dropSingles 40 = .ok (.iadd, 1) := by decide +kernel
theorem dX11_dropSingles_41 : decode cX11_dropSingles 41 = .ok (.baload, 1) := by decide +kernel
theorem dX11_dropSingles_42 : decode cX11_dropSingles 42 = .ok (.ifCond .eq 7, 3) := by decide +kernel
theorem dX11_dropSingles_45 : decode cX11_dropSingles 45 = .ok (.iconst 1, 1) := by decide +kernel
theorem dX11_dropSingles_46 : decode cX11_dropSingles 46 = .ok (.goto 4, 3) := by decide +kernel
theorem dX11_dropSingles_49 : decode cX11_dropSingles 49 = .ok (.iconst 0, 1) := by decide +kernel
theorem dX11_dropSingles_50 : decode cX11_dropSingles 50 = .ok (.istore_n 2, 1) := by decide +kernel
theorem dX11_dropSingles_51 : decode cX11_dropSingles 51 = .ok (.iload_n 2, 1) := by decide +kernel
theorem dX11_dropSingles_52 : decode cX11_dropSingles 52 = .ok (.ifCond .ne 25, 3) := by decide +kernel
theorem dX11_dropSingles_55 : decode cX11_dropSingles 55 = .ok (.aload_n 0, 1) := by decide +kernel
theorem dX11_dropSingles_56 : decode cX11_dropSingles 56 = .ok (.aload_n 0, 1) := by decide +kernel
theorem dX11_dropSingles_57 : decode cX11_dropSingles 57 = .ok (.getfield 112, 3) := by decide +kernel
theorem dX11_dropSingles_60 : decode cX11_dropSingles 60 = .ok (.iload_n 1, 1) := by decide +kernel
theorem dX11_dropSingles_61 : decode cX11_dropSingles 61 = .ok (.iaload, 1) := by decide +kernel
theorem dX11_dropSingles_62 : decode cX11_dropSingles 62 = .ok (.aload_n 0, 1) := by decide +kernel
theorem dX11_dropSingles_63 : decode cX11_dropSingles 63 = .ok (.getfield 115, 3) := by decide +kernel
theorem dX11_dropSingles_66 : decode cX11_dropSingles 66 = .ok (.iload_n 1, 1) := by decide +kernel
theorem dX11_dropSingles_67 : decode cX11_dropSingles 67 = .ok (.iaload, 1) := by decide +kernel
theorem dX11_dropSingles_68 : decode cX11_dropSingles 68 = .ok (.aload_n 0, 1) := by decide +kernel
theorem dX11_dropSingles_69 : decode cX11_dropSingles 69 = .ok (.getfield 118, 3) := by decide +kernel
theorem dX11_dropSingles_72 : decode cX11_dropSingles 72 = .ok (.iload_n 1, 1) := by decide +kernel
theorem dX11_dropSingles_73 : decode cX11_dropSingles 73 = .ok (.baload, 1) := by decide +kernel
theorem dX11_dropSingles_74 : decode cX11_dropSingles 74 = .ok (.invokevirtual 200, 3) := by decide +kernel
theorem dX11_dropSingles_77 : decode cX11_dropSingles 77 = .ok (.iinc 1 1, 3) := by decide +kernel
theorem dX11_dropSingles_80 : decode cX11_dropSingles 80 = .ok (.goto (-73), 3) := by decide +kernel
theorem dX11_dropSingles_83 : decode cX11_dropSingles 83 = .ok (.aload_n 0, 1) := by decide +kernel
theorem dX11_dropSingles_84 : decode cX11_dropSingles 84 = .ok (.invokevirtual 204, 3) := by decide +kernel
theorem dX11_dropSingles_87 : decode cX11_dropSingles 87 = .ok (.return_, 1) := by decide +kernel
def tb_137 (pc : Nat) : Option mEnt := bif Nat.ble pc 41 then (bif Nat.ble pc 20 then (bif Nat.ble pc 7 then (bif Nat.ble pc 2 then (bif Nat.ble pc 0 then (bif Nat.beq pc 0 then some (.inl (o_al 0 1)) else none) else (bif Nat.ble pc 1 then (bif Nat.beq pc 1 then some (.inl (oS 1 (s_push (.int 0)))) else none) else (bif Nat.beq pc 2 then some (.inl (o_pI 11 47)) else none))) else (bif Nat.ble pc 5 then (bif Nat.beq pc 5 then some (.inl (oS 1 (s_push (.int 0)))) else none) else (bif Nat.ble pc 6 then (bif Nat.beq pc 6 then some (.inl (o_is 1 1)) else none) else (bif Nat.beq pc 7 then some (.inl (o_il 1 1)) else none)))) else (bif Nat.ble pc 12 then (bif Nat.ble pc 8 then (bif Nat.beq pc 8 then some (.inl (o_al 0 1)) else none) else (bif Nat.ble pc 9 then (bif Nat.beq pc 9 then some (.inl (o_gI 11 43)) else none) else (bif Nat.beq pc 12 then some (.inl (o_cge 83)) else none))) else (bif Nat.ble pc 16 then (bif Nat.ble pc 15 then (bif Nat.beq pc 15 then some (.inl (o_al 0 1)) else none) else (bif Nat.beq pc 16 then some (.inl (o_gP 11 42)) else none)) else (bif Nat.ble pc 19 then (bif Nat.beq pc 19 then some (.inl (o_il 1 1)) else none) else (bif Nat.beq pc 20 then some (.inl (o_bald)) else none))))) else (bif Nat.ble pc 28 then (bif Nat.ble pc 25 then (bif Nat.ble pc 21 then (bif Nat.beq pc 21 then some (.inl (o_zeq 49)) else none) else (bif Nat.ble pc 24 then (bif Nat.beq pc 24 then some (.inl (o_il 1 1)) else none) else (bif Nat.beq pc 25 then some (.inl (oS 1 (s_push (.int 1)))) else none))) else (bif Nat.ble pc 26 then (bif Nat.beq pc 26 then some (.inl (oS 1 (s_ii (fun a b => a + b)))) else none) else (bif Nat.ble pc 27 then (bif Nat.beq pc 27 then some (.inl (o_al 0 1)) else none) else (bif Nat.beq pc 28 then some (.inl (o_gI 11 43)) else none)))) else (bif Nat.ble pc 35 then (bif Nat.ble pc 31 then (bif Nat.beq pc 31 then some (.inl (o_ceq 45)) else none) else (bif Nat.ble pc 34 then (bif Nat.beq pc 34 then some (.inl (o_al 0 1)) else none) else (bif Nat.beq pc 35 then some (.inl (o_gP 11 42)) else none))) else (bif Nat.ble pc 39 then (bif Nat.ble pc 38 then (bif Nat.beq pc 38 then some (.inl (o_il 1 1)) else none) else (bif Nat.beq pc 39 then some (.inl (oS 1 (s_push (.int 1)))) else none)) else (bif Nat.ble pc 40 then (bif Nat.beq pc 40 then some (.inl (oS 1 (s_ii (fun a b => a + b)))) else none) else (bif Nat.beq pc 41 then some (.inl (o_bald)) else none)))))) else (bif Nat.ble pc 62 then (bif Nat.ble pc 51 then (bif Nat.ble pc 46 then (bif Nat.ble pc 42 then (bif Nat.beq pc 42 then some (.inl (o_zeq 49)) else none) else (bif Nat.ble pc 45 then (bif Nat.beq pc 45 then some (.inl (oS 1 (s_push (.int 1)))) else none) else (bif Nat.beq pc 46 then some (.inl (o_goto 50)) else none))) else (bif Nat.ble pc 49 then (bif Nat.beq pc 49 then some (.inl (oS 1 (s_push (.int 0)))) else none) else (bif Nat.ble pc 50 then (bif Nat.beq pc 50 then some (.inl (o_is 2 1)) else none) else (bif Nat.beq pc 51 then some (.inl (o_il 2 1)) else none)))) else (bif Nat.ble pc 56 then (bif Nat.ble pc 52 then (bif Nat.beq pc 52 then some (.inl (o_zne 77)) else none) else (bif Nat.ble pc 55 then (bif Nat.beq pc 55 then some (.inl (o_al 0 1)) else none) else (bif Nat.beq pc 56 then some (.inl (o_al 0 1)) else none))) else (bif Nat.ble pc 60 then (bif Nat.ble pc 57 then (bif Nat.beq pc 57 then some (.inl (o_gP 11 40)) else none) else (bif Nat.beq pc 60 then some (.inl (o_il 1 1)) else none)) else (bif Nat.ble pc 61 then (bif Nat.beq pc 61 then some (.inl (o_iald)) else none) else (bif Nat.beq pc 62 then some (.inl (o_al 0 1)) else none))))) else (bif Nat.ble pc 72 then (bif Nat.ble pc 67 then (bif Nat.ble pc 63 then (bif Nat.beq pc 63 then some (.inl (o_gP 11 41)) else none) else (bif Nat.ble pc 66 then (bif Nat.beq pc 66 then some (.inl (o_il 1 1)) else none) else (bif Nat.beq pc 67 then some (.inl (o_iald)) else none))) else (bif Nat.ble pc 68 then (bif Nat.beq pc 68 then some (.inl (o_al 0 1)) else none) else (bif Nat.ble pc 69 then (bif Nat.beq pc 69 then some (.inl (o_gP 11 42)) else none) else (bif Nat.beq pc 72 then some (.inl (o_il 1 1)) else none)))) else (bif Nat.ble pc 77 then (bif Nat.ble pc 73 then (bif Nat.beq pc 73 then some (.inl (o_bald)) else none) else (bif Nat.ble pc 74 then (bif Nat.beq pc 74 then some (.inr (3, 134, 4, 11)) else none) else (bif Nat.beq pc 77 then some (.inl (o_inc 1 1)) else none))) else (bif Nat.ble pc 83 then (bif Nat.ble pc 80 then (bif Nat.beq pc 80 then some (.inl (o_goto 7)) else none) else (bif Nat.beq pc 83 then some (.inl (o_al 0 1)) else none)) else (bif Nat.ble pc 84 then (bif Nat.beq pc 84 then some (.inr (3, 135, 1, 11)) else none) else (bif Nat.beq pc 87 then some (.inr (0, 0, 0, 3)) else none))))))
theorem k_137_0 : mOk M_137.1 M_137.2.1 M_137.2.2.1 M_137.2.2.2 0 (o_al 0 1) := ok_aload_n dX11_dropSingles_0 rfl
theorem k_137_1 : mOk M_137.1 M_137.2.1 M_137.2.2.1 M_137.2.2.2 1 (oS 1 (s_push (.int 0))) := ok_iconst dX11_dropSingles_1 (by decide)
theorem k_137_2 : mOk M_137.1 M_137.2.1 M_137.2.2.1 M_137.2.2.2 2 (o_pI 11 47) := ok_pI dX11_dropSingles_2 (mFw_of f_RX11_197_c (Or.inl rfl)) rfl
theorem k_137_5 : mOk M_137.1 M_137.2.1 M_137.2.2.1 M_137.2.2.2 5 (oS 1 (s_push (.int 0))) := ok_iconst dX11_dropSingles_5 (by decide)
theorem k_137_6 : mOk M_137.1 M_137.2.1 M_137.2.2.1 M_137.2.2.2 6 (o_is 1 1) := ok_istore_n dX11_dropSingles_6 rfl
theorem k_137_7 : mOk M_137.1 M_137.2.1 M_137.2.2.1 M_137.2.2.2 7 (o_il 1 1) := ok_iload_n dX11_dropSingles_7 rfl
theorem k_137_8 : mOk M_137.1 M_137.2.1 M_137.2.2.1 M_137.2.2.2 8 (o_al 0 1) := ok_aload_n dX11_dropSingles_8 rfl
theorem k_137_9 : mOk M_137.1 M_137.2.1 M_137.2.2.1 M_137.2.2.2 9 (o_gI 11 43) := ok_gI dX11_dropSingles_9 f_RX11_191 (Or.inl rfl)
theorem k_137_12 : mOk M_137.1 M_137.2.1 M_137.2.2.1 M_137.2.2.2 12 (o_cge 83) := ok_cge dX11_dropSingles_12 (by decide)
theorem k_137_15 : mOk M_137.1 M_137.2.1 M_137.2.2.1 M_137.2.2.2 15 (o_al 0 1) := ok_aload_n dX11_dropSingles_15 rfl
theorem k_137_16 : mOk M_137.1 M_137.2.1 M_137.2.2.1 M_137.2.2.2 16 (o_gP 11 42) := ok_gP dX11_dropSingles_16 f_RX11_118 rfl
theorem k_137_19 : mOk M_137.1 M_137.2.1 M_137.2.2.1 M_137.2.2.2 19 (o_il 1 1) := ok_iload_n dX11_dropSingles_19 rfl
theorem k_137_20 : mOk M_137.1 M_137.2.1 M_137.2.2.1 M_137.2.2.2 20 (o_bald) := ok_bald dX11_dropSingles_20
theorem k_137_21 : mOk M_137.1 M_137.2.1 M_137.2.2.1 M_137.2.2.2 21 (o_zeq 49) := ok_zeq dX11_dropSingles_21 (by decide)
theorem k_137_24 : mOk M_137.1 M_137.2.1 M_137.2.2.1 M_137.2.2.2 24 (o_il 1 1) := ok_iload_n dX11_dropSingles_24 rfl
theorem k_137_25 : mOk M_137.1 M_137.2.1 M_137.2.2.1 M_137.2.2.2 25 (oS 1 (s_push (.int 1))) := ok_iconst dX11_dropSingles_25 (by decide)
theorem k_137_26 : mOk M_137.1 M_137.2.1 M_137.2.2.1 M_137.2.2.2 26 (oS 1 (s_ii (fun a b => a + b))) := ok_iadd dX11_dropSingles_26
theorem k_137_27 : mOk M_137.1 M_137.2.1 M_137.2.2.1 M_137.2.2.2 27 (o_al 0 1) := ok_aload_n dX11_dropSingles_27 rfl
theorem k_137_28 : mOk M_137.1 M_137.2.1 M_137.2.2.1 M_137.2.2.2 28 (o_gI 11 43) := ok_gI dX11_dropSingles_28 f_RX11_191 (Or.inl rfl)
theorem k_137_31 : mOk M_137.1 M_137.2.1 M_137.2.2.1 M_137.2.2.2 31 (o_ceq 45) := ok_ceq dX11_dropSingles_31 (by decide)
theorem k_137_34 : mOk M_137.1 M_137.2.1 M_137.2.2.1 M_137.2.2.2 34 (o_al 0 1) := ok_aload_n dX11_dropSingles_34 rfl
theorem k_137_35 : mOk M_137.1 M_137.2.1 M_137.2.2.1 M_137.2.2.2 35 (o_gP 11 42) := ok_gP dX11_dropSingles_35 f_RX11_118 rfl
theorem k_137_38 : mOk M_137.1 M_137.2.1 M_137.2.2.1 M_137.2.2.2 38 (o_il 1 1) := ok_iload_n dX11_dropSingles_38 rfl
theorem k_137_39 : mOk M_137.1 M_137.2.1 M_137.2.2.1 M_137.2.2.2 39 (oS 1 (s_push (.int 1))) := ok_iconst dX11_dropSingles_39 (by decide)
theorem k_137_40 : mOk M_137.1 M_137.2.1 M_137.2.2.1 M_137.2.2.2 40 (oS 1 (s_ii (fun a b => a + b))) := ok_iadd dX11_dropSingles_40
theorem k_137_41 : mOk M_137.1 M_137.2.1 M_137.2.2.1 M_137.2.2.2 41 (o_bald) := ok_bald dX11_dropSingles_41
theorem k_137_42 : mOk M_137.1 M_137.2.1 M_137.2.2.1 M_137.2.2.2 42 (o_zeq 49) := ok_zeq dX11_dropSingles_42 (by decide)
theorem k_137_45 : mOk M_137.1 M_137.2.1 M_137.2.2.1 M_137.2.2.2 45 (oS 1 (s_push (.int 1))) := ok_iconst dX11_dropSingles_45 (by decide)
theorem k_137_46 : mOk M_137.1 M_137.2.1 M_137.2.2.1 M_137.2.2.2 46 (o_goto 50) := ok_goto dX11_dropSingles_46 (by decide)
theorem k_137_49 : mOk M_137.1 M_137.2.1 M_137.2.2.1 M_137.2.2.2 49 (oS 1 (s_push (.int 0))) := ok_iconst dX11_dropSingles_49 (by decide)
theorem k_137_50 : mOk M_137.1 M_137.2.1 M_137.2.2.1 M_137.2.2.2 50 (o_is 2 1) := ok_istore_n dX11_dropSingles_50 rfl
theorem k_137_51 : mOk M_137.1 M_137.2.1 M_137.2.2.1 M_137.2.2.2 51 (o_il 2 1) := ok_iload_n dX11_dropSingles_51 rfl
theorem k_137_52 : mOk M_137.1 M_137.2.1 M_137.2.2.1 M_137.2.2.2 52 (o_zne 77) := ok_zne dX11_dropSingles_52 (by decide)
theorem k_137_55 : mOk M_137.1 M_137.2.1 M_137.2.2.1 M_137.2.2.2 55 (o_al 0 1) := ok_aload_n dX11_dropSingles_55 rfl
theorem k_137_56 : mOk M_137.1 M_137.2.1 M_137.2.2.1 M_137.2.2.2 56 (o_al 0 1) := ok_aload_n dX11_dropSingles_56 rfl
theorem k_137_57 : mOk M_137.1 M_137.2.1 M_137.2.2.1 M_137.2.2.2 57 (o_gP 11 40) := ok_gP dX11_dropSingles_57 f_RX11_112 rfl
theorem k_137_60 : mOk M_137.1 M_137.2.1 M_137.2.2.1 M_137.2.2.2 60 (o_il 1 1) := ok_iload_n dX11_dropSingles_60 rfl
theorem k_137_61 : mOk M_137.1 M_137.2.1 M_137.2.2.1 M_137.2.2.2 61 (o_iald) := ok_iald dX11_dropSingles_61
theorem k_137_62 : mOk M_137.1 M_137.2.1 M_137.2.2.1 M_137.2.2.2 62 (o_al 0 1) := ok_aload_n dX11_dropSingles_62 rfl
theorem k_137_63 : mOk M_137.1 M_137.2.1 M_137.2.2.1 M_137.2.2.2 63 (o_gP 11 41) := ok_gP dX11_dropSingles_63 f_RX11_115 rfl
theorem k_137_66 : mOk M_137.1 M_137.2.1 M_137.2.2.1 M_137.2.2.2 66 (o_il 1 1) := ok_iload_n dX11_dropSingles_66 rfl
theorem k_137_67 : mOk M_137.1 M_137.2.1 M_137.2.2.1 M_137.2.2.2 67 (o_iald) := ok_iald dX11_dropSingles_67
theorem k_137_68 : mOk M_137.1 M_137.2.1 M_137.2.2.1 M_137.2.2.2 68 (o_al 0 1) := ok_aload_n dX11_dropSingles_68 rfl
theorem k_137_69 : mOk M_137.1 M_137.2.1 M_137.2.2.1 M_137.2.2.2 69 (o_gP 11 42) := ok_gP dX11_dropSingles_69 f_RX11_118 rfl
theorem k_137_72 : mOk M_137.1 M_137.2.1 M_137.2.2.1 M_137.2.2.2 72 (o_il 1 1) := ok_iload_n dX11_dropSingles_72 rfl
theorem k_137_73 : mOk M_137.1 M_137.2.1 M_137.2.2.1 M_137.2.2.2 73 (o_bald) := ok_bald dX11_dropSingles_73
theorem k_137_77 : mOk M_137.1 M_137.2.1 M_137.2.2.1 M_137.2.2.2 77 (o_inc 1 1) := ok_iinc dX11_dropSingles_77 (by decide)
theorem k_137_80 : mOk M_137.1 M_137.2.1 M_137.2.2.1 M_137.2.2.2 80 (o_goto 7) := ok_goto dX11_dropSingles_80 (by decide)
theorem k_137_83 : mOk M_137.1 M_137.2.1 M_137.2.2.1 M_137.2.2.2 83 (o_al 0 1) := ok_aload_n dX11_dropSingles_83 rfl
set_option maxRecDepth 20000 in
set_option maxHeartbeats 4000000 in
theorem tk_137 (l : Launch) (H9 : mThr l) (H10 : mSpl l) (pc : Nat) (q : mEnt) (h : tb_137 pc = some q) : EE l 137 pc q := nd h (fun h => nd h (fun h => nd h (fun h => nd h (fun h => nd h (fun h => lf (P := EE l 137) h k_137_0) (fun h => nd h (fun h => lf (P := EE l 137) h k_137_1) (fun h => lf (P := EE l 137) h k_137_2))) (fun h => nd h (fun h => lf (P := EE l 137) h k_137_5) (fun h => nd h (fun h => lf (P := EE l 137) h k_137_6) (fun h => lf (P := EE l 137) h k_137_7)))) (fun h => nd h (fun h => nd h (fun h => lf (P := EE l 137) h k_137_8) (fun h => nd h (fun h => lf (P := EE l 137) h k_137_9) (fun h => lf (P := EE l 137) h k_137_12))) (fun h => nd h (fun h => nd h (fun h => lf (P := EE l 137) h k_137_15) (fun h => lf (P := EE l 137) h k_137_16)) (fun h => nd h (fun h => lf (P := EE l 137) h k_137_19) (fun h => lf (P := EE l 137) h k_137_20))))) (fun h => nd h (fun h => nd h (fun h => nd h (fun h => lf (P := EE l 137) h k_137_21) (fun h => nd h (fun h => lf (P := EE l 137) h k_137_24) (fun h => lf (P := EE l 137) h k_137_25))) (fun h => nd h (fun h => lf (P := EE l 137) h k_137_26) (fun h => nd h (fun h => lf (P := EE l 137) h k_137_27) (fun h => lf (P := EE l 137) h k_137_28)))) (fun h => nd h (fun h => nd h (fun h => lf (P := EE l 137) h k_137_31) (fun h => nd h (fun h => lf (P := EE l 137) h k_137_34) (fun h => lf (P := EE l 137) h k_137_35))) (fun h => nd h (fun h => nd h (fun h => lf (P := EE l 137) h k_137_38) (fun h => lf (P := EE l 137) h k_137_39)) (fun h => nd h (fun h => lf (P := EE l 137) h k_137_40) (fun h => lf (P := EE l 137) h k_137_41)))))) (fun h => nd h (fun h => nd h (fun h => nd h (fun h => nd h (fun h => lf (P := EE l 137) h k_137_42) (fun h => nd h (fun h => lf (P := EE l 137) h k_137_45) (fun h => lf (P := EE l 137) h k_137_46))) (fun h => nd h (fun h => lf (P := EE l 137) h k_137_49) (fun h => nd h (fun h => lf (P := EE l 137) h k_137_50) (fun h => lf (P := EE l 137) h k_137_51)))) (fun h => nd h (fun h => nd h (fun h => lf (P := EE l 137) h k_137_52) (fun h => nd h (fun h => lf (P := EE l 137) h k_137_55) (fun h => lf (P := EE l 137) h k_137_56))) (fun h => nd h (fun h => nd h (fun h => lf (P := EE l 137) h k_137_57) (fun h => lf (P := EE l 137) h k_137_60)) (fun h => nd h (fun h => lf (P := EE l 137) h k_137_61) (fun h => lf (P := EE l 137) h k_137_62))))) (fun h => nd h (fun h => nd h (fun h => nd h (fun h => lf (P := EE l 137) h k_137_63) (fun h => nd h (fun h => lf (P := EE l 137) h k_137_66) (fun h => lf (P := EE l 137) h k_137_67))) (fun h => nd h (fun h => lf (P := EE l 137) h k_137_68) (fun h => nd h (fun h => lf (P := EE l 137) h k_137_69) (fun h => lf (P := EE l 137) h k_137_72)))) (fun h => nd h (fun h => nd h (fun h => lf (P := EE l 137) h k_137_73) (fun h => nd h (fun h => lf (P := EE l 137) h (EE_ca (by decide) (⟨m_1305, m_81, ⟨by decide, by decide⟩, by decide +kernel, ⟨by decide, by decide⟩, 200, 3, by decide +kernel, Or.inr (Or.inr (Or.inl ⟨rfl, rfl, dX11_dropSingles_74, m_1302, m_1304, _, rfl, by decide, m_43⟩))⟩) rfl)) (fun h => lf (P := EE l 137) h k_137_77))) (fun h => nd h (fun h => nd h (fun h => lf (P := EE l 137) h k_137_80) (fun h => lf (P := EE l 137) h k_137_83)) (fun h => nd h (fun h => lf (P := EE l 137) h (EE_ca (by decide) (⟨m_1309, m_81, ⟨by decide, by decide⟩, by decide +kernel, ⟨by decide, by decide⟩, 204, 0, by decide +kernel, Or.inr (Or.inr (Or.inl ⟨rfl, rfl, dX11_dropSingles_84, m_1306, m_1308, _, rfl, by decide, m_44⟩))⟩) rfl)) (fun h => lf (P := EE l 137) h (EE_re (Or.inr (Or.inr (Or.inr (Or.inr ⟨rfl, dX11_dropSingles_87, rfl⟩)))))))))))
theorem dX11_inside_0 : decode cX11_inside 0 = .ok (.iload_n 2, 1) := by decide +kernel
theorem dX11_inside_1 : decode cX11_inside 1 = .ok (.ifCond .ne 21, 3) := by decide +kernel
theorem dX11_inside_4 : decode cX11_inside 4 = .ok (.aload_n 0, 1) := by decide +kernel
theorem dX11_inside_5 : decode cX11_inside 5 = .ok (.getfield 112, 3) := by decide +kernel
theorem dX11_inside_8 : decode cX11_inside 8 = .ok (.iload_n 1, 1) := by decide +kernel
theorem dX11_inside_9 : decode cX11_inside 9 = .ok (.iaload, 1) := by decide +kernel
theorem dX11_inside_10 : decode cX11_inside 10 = .ok (.iload_n 3, 1) := by decide +kernel
theorem dX11_inside_11 : decode cX11_inside 11 = .ok (.if_icmp .lt 7, 3) := by decide +kernel
theorem dX11_inside_14 : decode cX11_inside 14 = .ok (.iconst 1, 1) := by decide +kernel
theorem dX11_inside_15 : decode cX11_inside 15 = .ok (.goto 68, 3) := by decide +kernel
theorem dX11_inside_18 : decode cX11_inside 18 = .ok (.iconst 0, 1) := by decide +kernel
theorem dX11_inside_19 : decode cX11_inside 19 = .ok (.goto 64, 3) := by decide +kernel
theorem dX11_inside_22 : decode cX11_inside 22 = .ok (.iload_n 2, 1) := by decide +kernel
theorem dX11_inside_23 : decode cX11_inside 23 = .ok (.iconst 1, 1) := by decide +kernel
theorem dX11_inside_24 : decode cX11_inside 24 = .ok (.if_icmp .ne 21, 3) := by decide +kernel
theorem dX11_inside_27 : decode cX11_inside 27 = .ok (.aload_n 0, 1) := by decide +kernel
theorem dX11_inside_28 : decode cX11_inside 28 = .ok (.getfield 112, 3) := by decide +kernel
theorem dX11_inside_31 : decode cX11_inside 31 = .ok (.iload_n 1, 1) := by decide +kernel
theorem dX11_inside_32 : decode cX11_inside 32 = .ok (.iaload, 1) := by decide +kernel
theorem dX11_inside_33 : decode cX11_inside 33 = .ok (.iload_n 3, 1) := by decide +kernel
theorem dX11_inside_34 : decode cX11_inside 34 = .ok (.if_icmp .gt 7, 3) := by decide +kernel
theorem dX11_inside_37 : decode cX11_inside 37 = .ok (.iconst 1, 1) := by decide +kernel
theorem dX11_inside_38 : decode cX11_inside 38 = .ok (.goto 45, 3) := by decide +kernel
theorem dX11_inside_41 : decode cX11_inside 41 = .ok (.iconst 0, 1) := by decide +kernel
theorem dX11_inside_42 : decode cX11_inside 42 = .ok (.goto 41, 3) := by decide +kernel
theorem dX11_inside_45 : decode cX11_inside 45 = .ok (.iload_n 2, 1) := by decide +kernel
theorem dX11_inside_46 : decode cX11_inside 46 = .ok (.iconst 2, 1) := by decide +kernel
theorem dX11_inside_47 : decode cX11_inside 47 = .ok (.if_icmp .ne 21, 3) := by decide +kernel
theorem dX11_inside_50 : decode cX11_inside 50 = .ok (.aload_n 0, 1) := by decide +kernel
theorem dX11_inside_51 : decode cX11_inside 51 = .ok (.getfield 115, 3) := by decide +kernel
theorem dX11_inside_54 : decode cX11_inside 54 = .ok (.iload_n 1, 1) := by decide +kernel
theorem dX11_inside_55 : decode cX11_inside 55 = .ok (.iaload, 1) := by decide +kernel
theorem dX11_inside_56 : decode cX11_inside 56 = .ok (.iload_n 3, 1) := by decide +kernel
theorem dX11_inside_57 : decode cX11_inside 57 = .ok (.if_icmp .lt 7, 3) := by decide +kernel
theorem dX11_inside_60 : decode cX11_inside 60 = .ok (.iconst 1, 1) := by decide +kernel
theorem dX11_inside_61 : decode cX11_inside 61 = .ok (.goto 22, 3) := by decide +kernel
theorem dX11_inside_64 : decode cX11_inside 64 = .ok (.iconst 0, 1) := by decide +kernel
theorem dX11_inside_65 : decode cX11_inside 65 = .ok (.goto 18, 3) := by decide +kernel
theorem dX11_inside_68 : decode cX11_inside 68 = .ok (.aload_n 0, 1) := by decide +kernel
theorem dX11_inside_69 : decode cX11_inside 69 = .ok (.getfield 115, 3) := by decide +kernel
theorem dX11_inside_72 : decode cX11_inside 72 = .ok (.iload_n 1, 1) := by decide +kernel
theorem dX11_inside_73 : decode cX11_inside 73 = .ok (.iaload, 1) := by decide +kernel
theorem dX11_inside_74 : decode cX11_inside 74 = .ok (.iload_n 3, 1) := by decide +kernel
theorem dX11_inside_75 : decode cX11_inside 75 = .ok (.if_icmp .gt 7, 3) := by decide +kernel
theorem dX11_inside_78 : decode cX11_inside 78 = .ok (.iconst 1, 1) := by decide +kernel
theorem dX11_inside_79 : decode cX11_inside 79 = .ok (.goto 4, 3) := by decide +kernel
theorem dX11_inside_82 : decode cX11_inside 82 = .ok (.iconst 0, 1) := by decide +kernel
theorem dX11_inside_83 : decode cX11_inside 83 = .ok (.ireturn, 1) := by decide +kernel
def tb_138 (pc : Nat) : Option mEnt := bif Nat.ble pc 41 then (bif Nat.ble pc 19 then (bif Nat.ble pc 9 then (bif Nat.ble pc 4 then (bif Nat.ble pc 0 then (bif Nat.beq pc 0 then some (.inl (o_il 2 1)) else none) else (bif Nat.ble pc 1 then (bif Nat.beq pc 1 then some (.inl (o_zne 22)) else none) else (bif Nat.beq pc 4 then some (.inl (o_al 0 1)) else none))) else (bif Nat.ble pc 5 then (bif Nat.beq pc 5 then some (.inl (o_gP 11 40)) else none) else (bif Nat.ble pc 8 then (bif Nat.beq pc 8 then some (.inl (o_il 1 1)) else none) else (bif Nat.beq pc 9 then some (.inl (o_iald)) else none)))) else (bif Nat.ble pc 14 then (bif Nat.ble pc 10 then (bif Nat.beq pc 10 then some (.inl (o_il 3 1)) else none) else (bif Nat.ble pc 11 then (bif Nat.beq pc 11 then some (.inl (o_clt 18)) else none) else (bif Nat.beq pc 14 then some (.inl (oS 1 (s_push (.int 1)))) else none))) else (bif Nat.ble pc 15 then (bif Nat.beq pc 15 then some (.inl (o_goto 83)) else none) else (bif Nat.ble pc 18 then (bif Nat.beq pc 18 then some (.inl (oS 1 (s_push (.int 0)))) else none) else (bif Nat.beq pc 19 then some (.inl (o_goto 83)) else none))))) else (bif Nat.ble pc 31 then (bif Nat.ble pc 24 then (bif Nat.ble pc 22 then (bif Nat.beq pc 22 then some (.inl (o_il 2 1)) else none) else (bif Nat.ble pc 23 then (bif Nat.beq pc 23 then some (.inl (oS 1 (s_push (.int 1)))) else none) else (bif Nat.beq pc 24 then some (.inl (o_cne 45)) else none))) else (bif Nat.ble pc 27 then (bif Nat.beq pc 27 then some (.inl (o_al 0 1)) else none) else (bif Nat.ble pc 28 then (bif Nat.beq pc 28 then some (.inl (o_gP 11 40)) else none) else (bif Nat.beq pc 31 then some (.inl (o_il 1 1)) else none)))) else (bif Nat.ble pc 34 then (bif Nat.ble pc 32 then (bif Nat.beq pc 32 then some (.inl (o_iald)) else none) else (bif Nat.ble pc 33 then (bif Nat.beq pc 33 then some (.inl (o_il 3 1)) else none) else (bif Nat.beq pc 34 then some (.inl (o_cgt 41)) else none))) else (bif Nat.ble pc 37 then (bif Nat.beq pc 37 then some (.inl (oS 1 (s_push (.int 1)))) else none) else (bif Nat.ble pc 38 then (bif Nat.beq pc 38 then some (.inl (o_goto 83)) else none) else (bif Nat.beq pc 41 then some (.inl (oS 1 (s_push (.int 0)))) else none)))))) else (bif Nat.ble pc 61 then (bif Nat.ble pc 51 then (bif Nat.ble pc 46 then (bif Nat.ble pc 42 then (bif Nat.beq pc 42 then some (.inl (o_goto 83)) else none) else (bif Nat.ble pc 45 then (bif Nat.beq pc 45 then some (.inl (o_il 2 1)) else none) else (bif Nat.beq pc 46 then some (.inl (oS 1 (s_push (.int 2)))) else none))) else (bif Nat.ble pc 47 then (bif Nat.beq pc 47 then some (.inl (o_cne 68)) else none) else (bif Nat.ble pc 50 then (bif Nat.beq pc 50 then some (.inl (o_al 0 1)) else none) else (bif Nat.beq pc 51 then some (.inl (o_gP 11 41)) else none)))) else (bif Nat.ble pc 56 then (bif Nat.ble pc 54 then (bif Nat.beq pc 54 then some (.inl (o_il 1 1)) else none) else (bif Nat.ble pc 55 then (bif Nat.beq pc 55 then some (.inl (o_iald)) else none) else (bif Nat.beq pc 56 then some (.inl (o_il 3 1)) else none))) else (bif Nat.ble pc 57 then (bif Nat.beq pc 57 then some (.inl (o_clt 64)) else none) else (bif Nat.ble pc 60 then (bif Nat.beq pc 60 then some (.inl (oS 1 (s_push (.int 1)))) else none) else (bif Nat.beq pc 61 then some (.inl (o_goto 83)) else none))))) else (bif Nat.ble pc 73 then (bif Nat.ble pc 68 then (bif Nat.ble pc 64 then (bif Nat.beq pc 64 then some (.inl (oS 1 (s_push (.int 0)))) else none) else (bif Nat.ble pc 65 then (bif Nat.beq pc 65 then some (.inl (o_goto 83)) else none) else (bif Nat.beq pc 68 then some (.inl (o_al 0 1)) else none))) else (bif Nat.ble pc 69 then (bif Nat.beq pc 69 then some (.inl (o_gP 11 41)) else none) else (bif Nat.ble pc 72 then (bif Nat.beq pc 72 then some (.inl (o_il 1 1)) else none) else (bif Nat.beq pc 73 then some (.inl (o_iald)) else none)))) else (bif Nat.ble pc 78 then (bif Nat.ble pc 74 then (bif Nat.beq pc 74 then some (.inl (o_il 3 1)) else none) else (bif Nat.ble pc 75 then (bif Nat.beq pc 75 then some (.inl (o_cgt 82)) else none) else (bif Nat.beq pc 78 then some (.inl (oS 1 (s_push (.int 1)))) else none))) else (bif Nat.ble pc 79 then (bif Nat.beq pc 79 then some (.inl (o_goto 83)) else none) else (bif Nat.ble pc 82 then (bif Nat.beq pc 82 then some (.inl (oS 1 (s_push (.int 0)))) else none) else (bif Nat.beq pc 83 then some (.inr (0, 0, 0, 4)) else none))))))
theorem k_138_0 : mOk M_138.1 M_138.2.1 M_138.2.2.1 M_138.2.2.2 0 (o_il 2 1) := ok_iload_n dX11_inside_0 rfl
theorem k_138_1 : mOk M_138.1 M_138.2.1 M_138.2.2.1 M_138.2.2.2 1 (o_zne 22) := ok_zne dX11_inside_1 (by decide)
theorem k_138_4 : mOk M_138.1 M_138.2.1 M_138.2.2.1 M_138.2.2.2 4 (o_al 0 1) := ok_aload_n dX11_inside_4 rfl
theorem k_138_5 : mOk M_138.1 M_138.2.1 M_138.2.2.1 M_138.2.2.2 5 (o_gP 11 40) := ok_gP dX11_inside_5 f_RX11_112 rfl
theorem k_138_8 : mOk M_138.1 M_138.2.1 M_138.2.2.1 M_138.2.2.2 8 (o_il 1 1) := ok_iload_n dX11_inside_8 rfl
theorem k_138_9 : mOk M_138.1 M_138.2.1 M_138.2.2.1 M_138.2.2.2 9 (o_iald) := ok_iald dX11_inside_9
theorem k_138_10 : mOk M_138.1 M_138.2.1 M_138.2.2.1 M_138.2.2.2 10 (o_il 3 1) := ok_iload_n dX11_inside_10 rfl
theorem k_138_11 : mOk M_138.1 M_138.2.1 M_138.2.2.1 M_138.2.2.2 11 (o_clt 18) := ok_clt dX11_inside_11 (by decide)
theorem k_138_14 : mOk M_138.1 M_138.2.1 M_138.2.2.1 M_138.2.2.2 14 (oS 1 (s_push (.int 1))) := ok_iconst dX11_inside_14 (by decide)
theorem k_138_15 : mOk M_138.1 M_138.2.1 M_138.2.2.1 M_138.2.2.2 15 (o_goto 83) := ok_goto dX11_inside_15 (by decide)
theorem k_138_18 : mOk M_138.1 M_138.2.1 M_138.2.2.1 M_138.2.2.2 18 (oS 1 (s_push (.int 0))) := ok_iconst dX11_inside_18 (by decide)
theorem k_138_19 : mOk M_138.1 M_138.2.1 M_138.2.2.1 M_138.2.2.2 19 (o_goto 83) := ok_goto dX11_inside_19 (by decide)
theorem k_138_22 : mOk M_138.1 M_138.2.1 M_138.2.2.1 M_138.2.2.2 22 (o_il 2 1) := ok_iload_n dX11_inside_22 rfl
theorem k_138_23 : mOk M_138.1 M_138.2.1 M_138.2.2.1 M_138.2.2.2 23 (oS 1 (s_push (.int 1))) := ok_iconst dX11_inside_23 (by decide)
theorem k_138_24 : mOk M_138.1 M_138.2.1 M_138.2.2.1 M_138.2.2.2 24 (o_cne 45) := ok_cne dX11_inside_24 (by decide)
theorem k_138_27 : mOk M_138.1 M_138.2.1 M_138.2.2.1 M_138.2.2.2 27 (o_al 0 1) := ok_aload_n dX11_inside_27 rfl
theorem k_138_28 : mOk M_138.1 M_138.2.1 M_138.2.2.1 M_138.2.2.2 28 (o_gP 11 40) := ok_gP dX11_inside_28 f_RX11_112 rfl
theorem k_138_31 : mOk M_138.1 M_138.2.1 M_138.2.2.1 M_138.2.2.2 31 (o_il 1 1) := ok_iload_n dX11_inside_31 rfl
theorem k_138_32 : mOk M_138.1 M_138.2.1 M_138.2.2.1 M_138.2.2.2 32 (o_iald) := ok_iald dX11_inside_32
theorem k_138_33 : mOk M_138.1 M_138.2.1 M_138.2.2.1 M_138.2.2.2 33 (o_il 3 1) := ok_iload_n dX11_inside_33 rfl
theorem k_138_34 : mOk M_138.1 M_138.2.1 M_138.2.2.1 M_138.2.2.2 34 (o_cgt 41) := ok_cgt dX11_inside_34 (by decide)
theorem k_138_37 : mOk M_138.1 M_138.2.1 M_138.2.2.1 M_138.2.2.2 37 (oS 1 (s_push (.int 1))) := ok_iconst dX11_inside_37 (by decide)
theorem k_138_38 : mOk M_138.1 M_138.2.1 M_138.2.2.1 M_138.2.2.2 38 (o_goto 83) := ok_goto dX11_inside_38 (by decide)
theorem k_138_41 : mOk M_138.1 M_138.2.1 M_138.2.2.1 M_138.2.2.2 41 (oS 1 (s_push (.int 0))) := ok_iconst dX11_inside_41 (by decide)
theorem k_138_42 : mOk M_138.1 M_138.2.1 M_138.2.2.1 M_138.2.2.2 42 (o_goto 83) := ok_goto dX11_inside_42 (by decide)
theorem k_138_45 : mOk M_138.1 M_138.2.1 M_138.2.2.1 M_138.2.2.2 45 (o_il 2 1) := ok_iload_n dX11_inside_45 rfl
theorem k_138_46 : mOk M_138.1 M_138.2.1 M_138.2.2.1 M_138.2.2.2 46 (oS 1 (s_push (.int 2))) := ok_iconst dX11_inside_46 (by decide)
theorem k_138_47 : mOk M_138.1 M_138.2.1 M_138.2.2.1 M_138.2.2.2 47 (o_cne 68) := ok_cne dX11_inside_47 (by decide)
theorem k_138_50 : mOk M_138.1 M_138.2.1 M_138.2.2.1 M_138.2.2.2 50 (o_al 0 1) := ok_aload_n dX11_inside_50 rfl
theorem k_138_51 : mOk M_138.1 M_138.2.1 M_138.2.2.1 M_138.2.2.2 51 (o_gP 11 41) := ok_gP dX11_inside_51 f_RX11_115 rfl
theorem k_138_54 : mOk M_138.1 M_138.2.1 M_138.2.2.1 M_138.2.2.2 54 (o_il 1 1) := ok_iload_n dX11_inside_54 rfl
theorem k_138_55 : mOk M_138.1 M_138.2.1 M_138.2.2.1 M_138.2.2.2 55 (o_iald) := ok_iald dX11_inside_55
theorem k_138_56 : mOk M_138.1 M_138.2.1 M_138.2.2.1 M_138.2.2.2 56 (o_il 3 1) := ok_iload_n dX11_inside_56 rfl
theorem k_138_57 : mOk M_138.1 M_138.2.1 M_138.2.2.1 M_138.2.2.2 57 (o_clt 64) := ok_clt dX11_inside_57 (by decide)
theorem k_138_60 : mOk M_138.1 M_138.2.1 M_138.2.2.1 M_138.2.2.2 60 (oS 1 (s_push (.int 1))) := ok_iconst dX11_inside_60 (by decide)
theorem k_138_61 : mOk M_138.1 M_138.2.1 M_138.2.2.1 M_138.2.2.2 61 (o_goto 83) := ok_goto dX11_inside_61 (by decide)
theorem k_138_64 : mOk M_138.1 M_138.2.1 M_138.2.2.1 M_138.2.2.2 64 (oS 1 (s_push (.int 0))) := ok_iconst dX11_inside_64 (by decide)
theorem k_138_65 : mOk M_138.1 M_138.2.1 M_138.2.2.1 M_138.2.2.2 65 (o_goto 83) := ok_goto dX11_inside_65 (by decide)
theorem k_138_68 : mOk M_138.1 M_138.2.1 M_138.2.2.1 M_138.2.2.2 68 (o_al 0 1) := ok_aload_n dX11_inside_68 rfl
theorem k_138_69 : mOk M_138.1 M_138.2.1 M_138.2.2.1 M_138.2.2.2 69 (o_gP 11 41) := ok_gP dX11_inside_69 f_RX11_115 rfl
theorem k_138_72 : mOk M_138.1 M_138.2.1 M_138.2.2.1 M_138.2.2.2 72 (o_il 1 1) := ok_iload_n dX11_inside_72 rfl
theorem k_138_73 : mOk M_138.1 M_138.2.1 M_138.2.2.1 M_138.2.2.2 73 (o_iald) := ok_iald dX11_inside_73
theorem k_138_74 : mOk M_138.1 M_138.2.1 M_138.2.2.1 M_138.2.2.2 74 (o_il 3 1) := ok_iload_n dX11_inside_74 rfl
theorem k_138_75 : mOk M_138.1 M_138.2.1 M_138.2.2.1 M_138.2.2.2 75 (o_cgt 82) := ok_cgt dX11_inside_75 (by decide)
theorem k_138_78 : mOk M_138.1 M_138.2.1 M_138.2.2.1 M_138.2.2.2 78 (oS 1 (s_push (.int 1))) := ok_iconst dX11_inside_78 (by decide)
theorem k_138_79 : mOk M_138.1 M_138.2.1 M_138.2.2.1 M_138.2.2.2 79 (o_goto 83) := ok_goto dX11_inside_79 (by decide)
theorem k_138_82 : mOk M_138.1 M_138.2.1 M_138.2.2.1 M_138.2.2.2 82 (oS 1 (s_push (.int 0))) := ok_iconst dX11_inside_82 (by decide)
set_option maxRecDepth 20000 in
set_option maxHeartbeats 4000000 in
theorem tk_138 (l : Launch) (H9 : mThr l) (H10 : mSpl l) (pc : Nat) (q : mEnt) (h : tb_138 pc = some q) : EE l 138 pc q := nd h (fun h => nd h (fun h => nd h (fun h => nd h (fun h => nd h (fun h => lf (P := EE l 138) h k_138_0) (fun h => nd h (fun h => lf (P := EE l 138) h k_138_1) (fun h => lf (P := EE l 138) h k_138_4))) (fun h => nd h (fun h => lf (P := EE l 138) h k_138_5) (fun h => nd h (fun h => lf (P := EE l 138) h k_138_8) (fun h => lf (P := EE l 138) h k_138_9)))) (fun h => nd h (fun h => nd h (fun h => lf (P := EE l 138) h k_138_10) (fun h => nd h (fun h => lf (P := EE l 138) h k_138_11) (fun h => lf (P := EE l 138) h k_138_14))) (fun h => nd h (fun h => lf (P := EE l 138) h k_138_15) (fun h => nd h (fun h => lf (P := EE l 138) h k_138_18) (fun h => lf (P := EE l 138) h k_138_19))))) (fun h => nd h (fun h => nd h (fun h => nd h (fun h => lf (P := EE l 138) h k_138_22) (fun h => nd h (fun h => lf (P := EE l 138) h k_138_23) (fun h => lf (P := EE l 138) h k_138_24))) (fun h => nd h (fun h => lf (P := EE l 138) h k_138_27) (fun h => nd h (fun h => lf (P := EE l 138) h k_138_28) (fun h => lf (P := EE l 138) h k_138_31)))) (fun h => nd h (fun h => nd h (fun h => lf (P := EE l 138) h k_138_32) (fun h => nd h (fun h => lf (P := EE l 138) h k_138_33) (fun h => lf (P := EE l 138) h k_138_34))) (fun h => nd h (fun h => lf (P := EE l 138) h k_138_37) (fun h => nd h (fun h => lf (P := EE l 138) h k_138_38) (fun h => lf (P := EE l 138) h k_138_41)))))) (fun h => nd h (fun h => nd h (fun h => nd h (fun h => nd h (fun h => lf (P := EE l 138) h k_138_42) (fun h => nd h (fun h => lf (P := EE l 138) h k_138_45) (fun h => lf (P := EE l 138) h k_138_46))) (fun h => nd h (fun h => lf (P := EE l 138) h k_138_47) (fun h => nd h (fun h => lf (P := EE l 138) h k_138_50) (fun h => lf (P := EE l 138) h k_138_51)))) (fun h => nd h (fun h => nd h (fun h => lf (P := EE l 138) h k_138_54) (fun h => nd h (fun h => lf (P := EE l 138) h k_138_55) (fun h => lf (P := EE l 138) h k_138_56))) (fun h => nd h (fun h => lf (P := EE l 138) h k_138_57) (fun h => nd h (fun h => lf (P := EE l 138) h k_138_60) (fun h => lf (P := EE l 138) h k_138_61))))) (fun h => nd h (fun h => nd h (fun h => nd h (fun h => lf (P := EE l 138) h k_138_64) (fun h => nd h (fun h => lf (P := EE l 138) h k_138_65) (fun h => lf (P := EE l 138) h k_138_68))) (fun h => nd h (fun h => lf (P := EE l 138) h k_138_69) (fun h => nd h (fun h => lf (P := EE l 138) h k_138_72) (fun h => lf (P := EE l 138) h k_138_73)))) (fun h => nd h (fun h => nd h (fun h => lf (P := EE l 138) h k_138_74) (fun h => nd h (fun h => lf (P := EE l 138) h k_138_75) (fun h => lf (P := EE l 138) h k_138_78))) (fun h => nd h (fun h => lf (P := EE l 138) h k_138_79) (fun h => nd h (fun h => lf (P := EE l 138) h k_138_82) (fun h => lf (P := EE l 138) h (EE_re (Or.inr (Or.inl ⟨rfl, dX11_inside_83, rfl⟩)))))))))
theorem dX11_floor_0 : decode cX11_floor 0 = .ok (.lload_n 0, 1) := by decide +kernel
theorem dX11_floor_1 : decode cX11_floor 1 = .ok (.lload_n 2, 1) := by decide +kernel
theorem dX11_floor_2 : decode cX11_floor 2 = .ok (.ldiv, 1) := by decide +kernel
theorem dX11_floor_3 : decode cX11_floor 3 = .ok (.lstore 4, 2) := by decide +kernel
theorem dX11_floor_5 : decode cX11_floor 5 = .ok (.lload_n 0, 1) := by decide +kernel
theorem dX11_floor_6 : decode cX11_floor 6 = .ok (.lload_n 2, 1) := by decide +kernel
theorem dX11_floor_7 : decode cX11_floor 7 = .ok (.lrem, 1) := by decide +kernel
theorem dX11_floor_8 : decode cX11_floor 8 = .ok (.lconst 0, 1) := by decide +kernel
theorem dX11_floor_9 : decode cX11_floor 9 = .ok (.lcmp, 1) := by decide +kernel
theorem dX11_floor_10 : decode cX11_floor 10 = .ok (.ifCond .eq 35, 3) := by decide +kernel
theorem dX11_floor_13 : decode cX11_floor 13 = .ok (.lload_n 0, 1) := by decide +kernel
theorem dX11_floor_14 : decode cX11_floor 14 = .ok (.lconst 0, 1) := by decide +kernel
theorem dX11_floor_15 : decode cX11_floor 15 = .ok (.lcmp, 1) := by decide +kernel
theorem dX11_floor_16 : decode cX11_floor 16 = .ok (.ifCond .ge 7, 3) := by decide +kernel
theorem dX11_floor_19 : decode cX11_floor 19 = .ok (.iconst 1, 1) := by decide +kernel
theorem dX11_floor_20 : decode cX11_floor 20 = .ok (.goto 4, 3) := by decide +kernel
theorem dX11_floor_23 : decode cX11_floor 23 = .ok (.iconst 0, 1) := by decide +kernel
theorem dX11_floor_24 : decode cX11_floor 24 = .ok (.lload_n 2, 1) := by decide +kernel
theorem dX11_floor_25 : decode cX11_floor 25 = .ok (.lconst 0, 1) := by decide +kernel
theorem dX11_floor_26 : decode cX11_floor 26 = .ok (.lcmp, 1) := by decide +kernel
theorem dX11_floor_27 : decode cX11_floor 27 = .ok (.ifCond .ge 7, 3) := by decide +kernel
theorem dX11_floor_30 : decode cX11_floor 30 = .ok (.iconst 1, 1) := by decide +kernel
theorem dX11_floor_31 : decode cX11_floor 31 = .ok (.goto 4, 3) := by decide +kernel
theorem dX11_floor_34 : decode cX11_floor 34 = .ok (.iconst 0, 1) := by decide +kernel
theorem dX11_floor_35 : decode cX11_floor 35 = .ok (.if_icmp .eq 10, 3) := by decide +kernel
theorem dX11_floor_38 : decode cX11_floor 38 = .ok (.lload 4, 2) := by decide +kernel
theorem dX11_floor_40 : decode cX11_floor 40 = .ok (.lconst 1, 1) := by decide +kernel
theorem dX11_floor_41 : decode cX11_floor 41 = .ok (.lsub, 1) := by decide +kernel
theorem dX11_floor_42 : decode cX11_floor 42 = .ok (.goto 5, 3) := by decide +kernel
theorem dX11_floor_45 : decode cX11_floor 45 = .ok (.lload 4, 2) := by decide +kernel
theorem dX11_floor_47 : decode cX11_floor 47 = .ok (.lreturn, 1) := by decide +kernel
def tb_139 (pc : Nat) : Option mEnt := bif Nat.ble pc 19 then (bif Nat.ble pc 7 then (bif Nat.ble pc 2 then (bif Nat.ble pc 0 then (bif Nat.beq pc 0 then some (.inl (o_ll 0 1)) else none) else (bif Nat.ble pc 1 then (bif Nat.beq pc 1 then some (.inl (o_ll 2 1)) else none) else (bif Nat.beq pc 2 then some (.inl (oS 1 (s_llz (fun a b => a / b)))) else none))) else (bif Nat.ble pc 5 then (bif Nat.ble pc 3 then (bif Nat.beq pc 3 then some (.inl (o_ls 4 2)) else none) else (bif Nat.beq pc 5 then some (.inl (o_ll 0 1)) else none)) else (bif Nat.ble pc 6 then (bif Nat.beq pc 6 then some (.inl (o_ll 2 1)) else none) else (bif Nat.beq pc 7 then some (.inl (oS 1 (s_llz (fun a b => a - a / b * b)))) else none)))) else (bif Nat.ble pc 13 then (bif Nat.ble pc 9 then (bif Nat.ble pc 8 then (bif Nat.beq pc 8 then some (.inl (oS 1 (s_push (.long 0)))) else none) else (bif Nat.beq pc 9 then some (.inl (oS 1 s_lcmp)) else none)) else (bif Nat.ble pc 10 then (bif Nat.beq pc 10 then some (.inl (o_zeq 45)) else none) else (bif Nat.beq pc 13 then some (.inl (o_ll 0 1)) else none))) else (bif Nat.ble pc 15 then (bif Nat.ble pc 14 then (bif Nat.beq pc 14 then some (.inl (oS 1 (s_push (.long 0)))) else none) else (bif Nat.beq pc 15 then some (.inl (oS 1 s_lcmp)) else none)) else (bif Nat.ble pc 16 then (bif Nat.beq pc 16 then some (.inl (o_zge 23)) else none) else (bif Nat.beq pc 19 then some (.inl (oS 1 (s_push (.int 1)))) else none))))) else (bif Nat.ble pc 31 then (bif Nat.ble pc 25 then (bif Nat.ble pc 23 then (bif Nat.ble pc 20 then (bif Nat.beq pc 20 then some (.inl (o_goto 24)) else none) else (bif Nat.beq pc 23 then some (.inl (oS 1 (s_push (.int 0)))) else none)) else (bif Nat.ble pc 24 then (bif Nat.beq pc 24 then some (.inl (o_ll 2 1)) else none) else (bif Nat.beq pc 25 then some (.inl (oS 1 (s_push (.long 0)))) else none))) else (bif Nat.ble pc 27 then (bif Nat.ble pc 26 then (bif Nat.beq pc 26 then some (.inl (oS 1 s_lcmp)) else none) else (bif Nat.beq pc 27 then some (.inl (o_zge 34)) else none)) else (bif Nat.ble pc 30 then (bif Nat.beq pc 30 then some (.inl (oS 1 (s_push (.int 1)))) else none) else (bif Nat.beq pc 31 then some (.inl (o_goto 35)) else none)))) else (bif Nat.ble pc 40 then (bif Nat.ble pc 35 then (bif Nat.ble pc 34 then (bif Nat.beq pc 34 then some (.inl (oS 1 (s_push (.int 0)))) else none) else (bif Nat.beq pc 35 then some (.inl (o_ceq 45)) else none)) else (bif Nat.ble pc 38 then (bif Nat.beq pc 38 then some (.inl (o_ll 4 2)) else none) else (bif Nat.beq pc 40 then some (.inl (oS 1 (s_push (.long 1)))) else none))) else (bif Nat.ble pc 42 then (bif Nat.ble pc 41 then (bif Nat.beq pc 41 then some (.inl (oS 1 (s_ll (fun a b => a - b)))) else none) else (bif Nat.beq pc 42 then some (.inl (o_goto 47)) else none)) else (bif Nat.ble pc 45 then (bif Nat.beq pc 45 then some (.inl (o_ll 4 2)) else none) else (bif Nat.beq pc 47 then some (.inr (0, 0, 0, 1)) else none)))))
theorem k_139_0 : mOk M_139.1 M_139.2.1 M_139.2.2.1 M_139.2.2.2 0 (o_ll 0 1) := ok_lload_n dX11_floor_0 rfl
theorem k_139_1 : mOk M_139.1 M_139.2.1 M_139.2.2.1 M_139.2.2.2 1 (o_ll 2 1) := ok_lload_n dX11_floor_1 rfl
theorem k_139_2 : mOk M_139.1 M_139.2.1 M_139.2.2.1 M_139.2.2.2 2 (oS 1 (s_llz (fun a b => a / b))) := ok_ldiv dX11_floor_2
theorem k_139_3 : mOk M_139.1 M_139.2.1 M_139.2.2.1 M_139.2.2.2 3 (o_ls 4 2) := ok_lstore dX11_floor_3
theorem k_139_5 : mOk M_139.1 M_139.2.1 M_139.2.2.1 M_139.2.2.2 5 (o_ll 0 1) := ok_lload_n dX11_floor_5 rfl
theorem k_139_6 : mOk M_139.1 M_139.2.1 M_139.2.2.1 M_139.2.2.2 6 (o_ll 2 1) := ok_lload_n dX11_floor_6 rfl
theorem k_139_7 : mOk M_139.1 M_139.2.1 M_139.2.2.1 M_139.2.2.2 7 (oS 1 (s_llz (fun a b => a - a / b * b))) := ok_lrem dX11_floor_7
theorem k_139_8 : mOk M_139.1 M_139.2.1 M_139.2.2.1 M_139.2.2.2 8 (oS 1 (s_push (.long 0))) := ok_lconst dX11_floor_8 (by decide)
theorem k_139_9 : mOk M_139.1 M_139.2.1 M_139.2.2.1 M_139.2.2.2 9 (oS 1 s_lcmp) := ok_lcmp dX11_floor_9
theorem k_139_10 : mOk M_139.1 M_139.2.1 M_139.2.2.1 M_139.2.2.2 10 (o_zeq 45) := ok_zeq dX11_floor_10 (by decide)
theorem k_139_13 : mOk M_139.1 M_139.2.1 M_139.2.2.1 M_139.2.2.2 13 (o_ll 0 1) := ok_lload_n dX11_floor_13 rfl
theorem k_139_14 : mOk M_139.1 M_139.2.1 M_139.2.2.1 M_139.2.2.2 14 (oS 1 (s_push (.long 0))) := ok_lconst dX11_floor_14 (by decide)
theorem k_139_15 : mOk M_139.1 M_139.2.1 M_139.2.2.1 M_139.2.2.2 15 (oS 1 s_lcmp) := ok_lcmp dX11_floor_15
theorem k_139_16 : mOk M_139.1 M_139.2.1 M_139.2.2.1 M_139.2.2.2 16 (o_zge 23) := ok_zge dX11_floor_16 (by decide)
theorem k_139_19 : mOk M_139.1 M_139.2.1 M_139.2.2.1 M_139.2.2.2 19 (oS 1 (s_push (.int 1))) := ok_iconst dX11_floor_19 (by decide)
theorem k_139_20 : mOk M_139.1 M_139.2.1 M_139.2.2.1 M_139.2.2.2 20 (o_goto 24) := ok_goto dX11_floor_20 (by decide)
theorem k_139_23 : mOk M_139.1 M_139.2.1 M_139.2.2.1 M_139.2.2.2 23 (oS 1 (s_push (.int 0))) := ok_iconst dX11_floor_23 (by decide)
theorem k_139_24 : mOk M_139.1 M_139.2.1 M_139.2.2.1 M_139.2.2.2 24 (o_ll 2 1) := ok_lload_n dX11_floor_24 rfl
theorem k_139_25 : mOk M_139.1 M_139.2.1 M_139.2.2.1 M_139.2.2.2 25 (oS 1 (s_push (.long 0))) := ok_lconst dX11_floor_25 (by decide)
theorem k_139_26 : mOk M_139.1 M_139.2.1 M_139.2.2.1 M_139.2.2.2 26 (oS 1 s_lcmp) := ok_lcmp dX11_floor_26
theorem k_139_27 : mOk M_139.1 M_139.2.1 M_139.2.2.1 M_139.2.2.2 27 (o_zge 34) := ok_zge dX11_floor_27 (by decide)
theorem k_139_30 : mOk M_139.1 M_139.2.1 M_139.2.2.1 M_139.2.2.2 30 (oS 1 (s_push (.int 1))) := ok_iconst dX11_floor_30 (by decide)
theorem k_139_31 : mOk M_139.1 M_139.2.1 M_139.2.2.1 M_139.2.2.2 31 (o_goto 35) := ok_goto dX11_floor_31 (by decide)
theorem k_139_34 : mOk M_139.1 M_139.2.1 M_139.2.2.1 M_139.2.2.2 34 (oS 1 (s_push (.int 0))) := ok_iconst dX11_floor_34 (by decide)
theorem k_139_35 : mOk M_139.1 M_139.2.1 M_139.2.2.1 M_139.2.2.2 35 (o_ceq 45) := ok_ceq dX11_floor_35 (by decide)
theorem k_139_38 : mOk M_139.1 M_139.2.1 M_139.2.2.1 M_139.2.2.2 38 (o_ll 4 2) := ok_lload dX11_floor_38
theorem k_139_40 : mOk M_139.1 M_139.2.1 M_139.2.2.1 M_139.2.2.2 40 (oS 1 (s_push (.long 1))) := ok_lconst dX11_floor_40 (by decide)
theorem k_139_41 : mOk M_139.1 M_139.2.1 M_139.2.2.1 M_139.2.2.2 41 (oS 1 (s_ll (fun a b => a - b))) := ok_lsub dX11_floor_41
theorem k_139_42 : mOk M_139.1 M_139.2.1 M_139.2.2.1 M_139.2.2.2 42 (o_goto 47) := ok_goto dX11_floor_42 (by decide)
theorem k_139_45 : mOk M_139.1 M_139.2.1 M_139.2.2.1 M_139.2.2.2 45 (o_ll 4 2) := ok_lload dX11_floor_45
set_option maxRecDepth 20000 in
set_option maxHeartbeats 4000000 in
theorem tk_139 (l : Launch) (H9 : mThr l) (H10 : mSpl l) (pc : Nat) (q : mEnt) (h : tb_139 pc = some q) : EE l 139 pc q := nd h (fun h => nd h (fun h => nd h (fun h => nd h (fun h => lf (P := EE l 139) h k_139_0) (fun h => nd h (fun h => lf (P := EE l 139) h k_139_1) (fun h => lf (P := EE l 139) h k_139_2))) (fun h => nd h (fun h => nd h (fun h => lf (P := EE l 139) h k_139_3) (fun h => lf (P := EE l 139) h k_139_5)) (fun h => nd h (fun h => lf (P := EE l 139) h k_139_6) (fun h => lf (P := EE l 139) h k_139_7)))) (fun h => nd h (fun h => nd h (fun h => nd h (fun h => lf (P := EE l 139) h k_139_8) (fun h => lf (P := EE l 139) h k_139_9)) (fun h => nd h (fun h => lf (P := EE l 139) h k_139_10) (fun h => lf (P := EE l 139) h k_139_13))) (fun h => nd h (fun h => nd h (fun h => lf (P := EE l 139) h k_139_14) (fun h => lf (P := EE l 139) h k_139_15)) (fun h => nd h (fun h => lf (P := EE l 139) h k_139_16) (fun h => lf (P := EE l 139) h k_139_19))))) (fun h => nd h (fun h => nd h (fun h => nd h (fun h => nd h (fun h => lf (P := EE l 139) h k_139_20) (fun h => lf (P := EE l 139) h k_139_23)) (fun h => nd h (fun h => lf (P := EE l 139) h k_139_24) (fun h => lf (P := EE l 139) h k_139_25))) (fun h => nd h (fun h => nd h (fun h => lf (P := EE l 139) h k_139_26) (fun h => lf (P := EE l 139) h k_139_27)) (fun h => nd h (fun h => lf (P := EE l 139) h k_139_30) (fun h => lf (P := EE l 139) h k_139_31)))) (fun h => nd h (fun h => nd h (fun h => nd h (fun h => lf (P := EE l 139) h k_139_34) (fun h => lf (P := EE l 139) h k_139_35)) (fun h => nd h (fun h => lf (P := EE l 139) h k_139_38) (fun h => lf (P := EE l 139) h k_139_40))) (fun h => nd h (fun h => nd h (fun h => lf (P := EE l 139) h k_139_41) (fun h => lf (P := EE l 139) h k_139_42)) (fun h => nd h (fun h => lf (P := EE l 139) h k_139_45) (fun h => lf (P := EE l 139) h (EE_re (Or.inr (Or.inr (Or.inl ⟨rfl, dX11_floor_47, rfl⟩)))))))))
theorem dX11_cutAt_0 : decode cX11_cutAt 0 = .ok (.iload_n 3, 1) := by decide +kernel
theorem dX11_cutAt_1 : decode cX11_cutAt 1 = .ok (.iload_n 2, 1) := by decide +kernel
theorem dX11_cutAt_2 : decode cX11_cutAt 2 = .ok (.isub, 1) := by decide +kernel
theorem dX11_cutAt_3 : decode cX11_cutAt 3 = .ok (.i2l, 1) := by decide +kernel
theorem dX11_cutAt_4 : decode cX11_cutAt 4 = .ok (.iload 4, 2) := by decide +kernel
theorem dX11_cutAt_6 : decode cX11_cutAt 6 = .ok (.iload_n 0, 1) := by decide +kernel
theorem dX11_cutAt_7 : decode cX11_cutAt 7 = .ok (.isub, 1) := by decide +kernel
theorem dX11_cutAt_8 : decode cX11_cutAt 8 = .ok (.i2l, 1) := by decide +kernel
theorem dX11_cutAt_9 : decode cX11_cutAt 9 = .ok (.lmul, 1) := by decide +kernel
theorem dX11_cutAt_10 : decode cX11_cutAt 10 = .ok (.lstore 5, 2) := by decide +kernel
theorem dX11_cutAt_12 : decode cX11_cutAt 12 = .ok (.iload_n 1, 1) := by decide +kernel
theorem dX11_cutAt_13 : decode cX11_cutAt 13 = .ok (.iload_n 0, 1) := by decide +kernel
theorem dX11_cutAt_14 : decode cX11_cutAt 14 = .ok (.isub, 1) := by decide +kernel
theorem dX11_cutAt_15 : decode cX11_cutAt 15 = .ok (.i2l, 1) := by decide +kernel
theorem dX11_cutAt_16 : decode cX11_cutAt 16 = .ok (.lstore 7, 2) := by decide +kernel
theorem dX11_cutAt_18 : decode cX11_cutAt 18 = .ok (.lload 7, 2) := by decide +kernel
theorem dX11_cutAt_20 : decode cX11_cutAt 20 = .ok (.lconst 0, 1) := by decide +kernel
theorem dX11_cutAt_21 : decode cX11_cutAt 21 = .ok (.lcmp, 1) := by decide +kernel
theorem dX11_cutAt_22 : decode cX11_cutAt 22 = .ok (.ifCond .ge 13, 3) := by decide +kernel
theorem dX11_cutAt_25 : decode cX11_cutAt 25 = .ok (.lload 5, 2) := by decide +kernel
theorem dX11_cutAt_27 : decode cX11_cutAt 27 = .ok (.lneg, 1) := by decide +kernel
theorem dX11_cutAt_28 : decode cX11_cutAt 28 = .ok (.lstore 5, 2) := by decide +kernel
theorem dX11_cutAt_30 : decode cX11_cutAt 30 = .ok (.lload 7, 2) := by decide +kernel
theorem dX11_cutAt_32 : decode cX11_cutAt 32 = .ok (.lneg, 1) := by decide +kernel
theorem dX11_cutAt_33 : decode cX11_cutAt 33 = .ok (.lstore 7, 2) := by decide +kernel
theorem dX11_cutAt_35 : decode cX11_cutAt 35 = .ok (.iload_n 2, 1) := by decide +kernel
theorem dX11_cutAt_36 : decode cX11_cutAt 36 = .ok (.i2l, 1) := by decide +kernel
theorem dX11_cutAt_37 : decode cX11_cutAt 37 = .ok (.ldc2_w 207, 3) := by decide +kernel
theorem dX11_cutAt_40 : decode cX11_cutAt 40 = .ok (.lload 5, 2) := by decide +kernel
theorem dX11_cutAt_42 : decode cX11_cutAt 42 = .ok (.lmul, 1) := by decide +kernel
theorem dX11_cutAt_43 : decode cX11_cutAt 43 = .ok (.lload 7, 2) := by decide +kernel
theorem dX11_cutAt_45 : decode cX11_cutAt 45 = .ok (.ladd, 1) := by decide +kernel
theorem dX11_cutAt_46 : decode cX11_cutAt 46 = .ok (.ldc2_w 207, 3) := by decide +kernel
theorem dX11_cutAt_49 : decode cX11_cutAt 49 = .ok (.lload 7, 2) := by decide +kernel
theorem dX11_cutAt_51 : decode cX11_cutAt 51 = .ok (.lmul, 1) := by decide +kernel
theorem dX11_cutAt_52 : decode cX11_cutAt 52 = .ok (.invokestatic 209, 3) := by decide +kernel
theorem dX11_cutAt_55 : decode cX11_cutAt 55 = .ok (.ladd, 1) := by decide +kernel
theorem dX11_cutAt_56 : decode cX11_cutAt 56 = .ok (.l2i, 1) := by decide +kernel
theorem dX11_cutAt_57 : decode cX11_cutAt 57 = .ok (.ireturn, 1) := by decide +kernel
def tb_140 (pc : Nat) : Option mEnt := bif Nat.ble pc 22 then (bif Nat.ble pc 9 then (bif Nat.ble pc 3 then (bif Nat.ble pc 1 then (bif Nat.ble pc 0 then (bif Nat.beq pc 0 then some (.inl (o_il 3 1)) else none) else (bif Nat.beq pc 1 then some (.inl (o_il 2 1)) else none)) else (bif Nat.ble pc 2 then (bif Nat.beq pc 2 then some (.inl (oS 1 (s_ii (fun a b => a - b)))) else none) else (bif Nat.beq pc 3 then some (.inl (oS 1 s_i2l)) else none))) else (bif Nat.ble pc 6 then (bif Nat.ble pc 4 then (bif Nat.beq pc 4 then some (.inl (o_il 4 2)) else none) else (bif Nat.beq pc 6 then some (.inl (o_il 0 1)) else none)) else (bif Nat.ble pc 7 then (bif Nat.beq pc 7 then some (.inl (oS 1 (s_ii (fun a b => a - b)))) else none) else (bif Nat.ble pc 8 then (bif Nat.beq pc 8 then some (.inl (oS 1 s_i2l)) else none) else (bif Nat.beq pc 9 then some (.inl (oS 1 (s_ll (fun a b => a * b)))) else none))))) else (bif Nat.ble pc 15 then (bif Nat.ble pc 12 then (bif Nat.ble pc 10 then (bif Nat.beq pc 10 then some (.inl (o_ls 5 2)) else none) else (bif Nat.beq pc 12 then some (.inl (o_il 1 1)) else none)) else (bif Nat.ble pc 13 then (bif Nat.beq pc 13 then some (.inl (o_il 0 1)) else none) else (bif Nat.ble pc 14 then (bif Nat.beq pc 14 then some (.inl (oS 1 (s_ii (fun a b => a - b)))) else none) else (bif Nat.beq pc 15 then some (.inl (oS 1 s_i2l)) else none)))) else (bif Nat.ble pc 18 then (bif Nat.ble pc 16 then (bif Nat.beq pc 16 then some (.inl (o_ls 7 2)) else none) else (bif Nat.beq pc 18 then some (.inl (o_ll 7 2)) else none)) else (bif Nat.ble pc 20 then (bif Nat.beq pc 20 then some (.inl (oS 1 (s_push (.long 0)))) else none) else (bif Nat.ble pc 21 then (bif Nat.beq pc 21 then some (.inl (oS 1 s_lcmp)) else none) else (bif Nat.beq pc 22 then some (.inl (o_zge 35)) else none)))))) else (bif Nat.ble pc 40 then (bif Nat.ble pc 32 then (bif Nat.ble pc 27 then (bif Nat.ble pc 25 then (bif Nat.beq pc 25 then some (.inl (o_ll 5 2)) else none) else (bif Nat.beq pc 27 then some (.inl (oS 1 (s_l1 (fun a => -a)))) else none)) else (bif Nat.ble pc 28 then (bif Nat.beq pc 28 then some (.inl (o_ls 5 2)) else none) else (bif Nat.ble pc 30 then (bif Nat.beq pc 30 then some (.inl (o_ll 7 2)) else none) else (bif Nat.beq pc 32 then some (.inl (oS 1 (s_l1 (fun a => -a)))) else none)))) else (bif Nat.ble pc 35 then (bif Nat.ble pc 33 then (bif Nat.beq pc 33 then some (.inl (o_ls 7 2)) else none) else (bif Nat.beq pc 35 then some (.inl (o_il 2 1)) else none)) else (bif Nat.ble pc 36 then (bif Nat.beq pc 36 then some (.inl (oS 1 s_i2l)) else none) else (bif Nat.ble pc 37 then (bif Nat.beq pc 37 then some (.inl (oS 3 (s_push (.long 2)))) else none) else (bif Nat.beq pc 40 then some (.inl (o_ll 5 2)) else none))))) else (bif Nat.ble pc 49 then (bif Nat.ble pc 43 then (bif Nat.ble pc 42 then (bif Nat.beq pc 42 then some (.inl (oS 1 (s_ll (fun a b => a * b)))) else none) else (bif Nat.beq pc 43 then some (.inl (o_ll 7 2)) else none)) else (bif Nat.ble pc 45 then (bif Nat.beq pc 45 then some (.inl (oS 1 (s_ll (fun a b => a + b)))) else none) else (bif Nat.ble pc 46 then (bif Nat.beq pc 46 then some (.inl (oS 3 (s_push (.long 2)))) else none) else (bif Nat.beq pc 49 then some (.inl (o_ll 7 2)) else none)))) else (bif Nat.ble pc 52 then (bif Nat.ble pc 51 then (bif Nat.beq pc 51 then some (.inl (oS 1 (s_ll (fun a b => a * b)))) else none) else (bif Nat.beq pc 52 then some (.inr (2, 139, 2, 0)) else none)) else (bif Nat.ble pc 55 then (bif Nat.beq pc 55 then some (.inl (oS 1 (s_ll (fun a b => a + b)))) else none) else (bif Nat.ble pc 56 then (bif Nat.beq pc 56 then some (.inl (oS 1 s_l2i)) else none) else (bif Nat.beq pc 57 then some (.inr (0, 0, 0, 0)) else none))))))
theorem k_140_0 : mOk M_140.1 M_140.2.1 M_140.2.2.1 M_140.2.2.2 0 (o_il 3 1) := ok_iload_n dX11_cutAt_0 rfl
theorem k_140_1 : mOk M_140.1 M_140.2.1 M_140.2.2.1 M_140.2.2.2 1 (o_il 2 1) := ok_iload_n dX11_cutAt_1 rfl
theorem k_140_2 : mOk M_140.1 M_140.2.1 M_140.2.2.1 M_140.2.2.2 2 (oS 1 (s_ii (fun a b => a - b))) := ok_isub dX11_cutAt_2
theorem k_140_3 : mOk M_140.1 M_140.2.1 M_140.2.2.1 M_140.2.2.2 3 (oS 1 s_i2l) := ok_i2l dX11_cutAt_3
theorem k_140_4 : mOk M_140.1 M_140.2.1 M_140.2.2.1 M_140.2.2.2 4 (o_il 4 2) := ok_iload dX11_cutAt_4
theorem k_140_6 : mOk M_140.1 M_140.2.1 M_140.2.2.1 M_140.2.2.2 6 (o_il 0 1) := ok_iload_n dX11_cutAt_6 rfl
theorem k_140_7 : mOk M_140.1 M_140.2.1 M_140.2.2.1 M_140.2.2.2 7 (oS 1 (s_ii (fun a b => a - b))) := ok_isub dX11_cutAt_7
theorem k_140_8 : mOk M_140.1 M_140.2.1 M_140.2.2.1 M_140.2.2.2 8 (oS 1 s_i2l) := ok_i2l dX11_cutAt_8
theorem k_140_9 : mOk M_140.1 M_140.2.1 M_140.2.2.1 M_140.2.2.2 9 (oS 1 (s_ll (fun a b => a * b))) := ok_lmul dX11_cutAt_9
theorem k_140_10 : mOk M_140.1 M_140.2.1 M_140.2.2.1 M_140.2.2.2 10 (o_ls 5 2) := ok_lstore dX11_cutAt_10
theorem k_140_12 : mOk M_140.1 M_140.2.1 M_140.2.2.1 M_140.2.2.2 12 (o_il 1 1) := ok_iload_n dX11_cutAt_12 rfl
theorem k_140_13 : mOk M_140.1 M_140.2.1 M_140.2.2.1 M_140.2.2.2 13 (o_il 0 1) := ok_iload_n dX11_cutAt_13 rfl
theorem k_140_14 : mOk M_140.1 M_140.2.1 M_140.2.2.1 M_140.2.2.2 14 (oS 1 (s_ii (fun a b => a - b))) := ok_isub dX11_cutAt_14
theorem k_140_15 : mOk M_140.1 M_140.2.1 M_140.2.2.1 M_140.2.2.2 15 (oS 1 s_i2l) := ok_i2l dX11_cutAt_15
theorem k_140_16 : mOk M_140.1 M_140.2.1 M_140.2.2.1 M_140.2.2.2 16 (o_ls 7 2) := ok_lstore dX11_cutAt_16
theorem k_140_18 : mOk M_140.1 M_140.2.1 M_140.2.2.1 M_140.2.2.2 18 (o_ll 7 2) := ok_lload dX11_cutAt_18
theorem k_140_20 : mOk M_140.1 M_140.2.1 M_140.2.2.1 M_140.2.2.2 20 (oS 1 (s_push (.long 0))) := ok_lconst dX11_cutAt_20 (by decide)
theorem k_140_21 : mOk M_140.1 M_140.2.1 M_140.2.2.1 M_140.2.2.2 21 (oS 1 s_lcmp) := ok_lcmp dX11_cutAt_21
theorem k_140_22 : mOk M_140.1 M_140.2.1 M_140.2.2.1 M_140.2.2.2 22 (o_zge 35) := ok_zge dX11_cutAt_22 (by decide)
theorem k_140_25 : mOk M_140.1 M_140.2.1 M_140.2.2.1 M_140.2.2.2 25 (o_ll 5 2) := ok_lload dX11_cutAt_25
theorem k_140_27 : mOk M_140.1 M_140.2.1 M_140.2.2.1 M_140.2.2.2 27 (oS 1 (s_l1 (fun a => -a))) := ok_lneg dX11_cutAt_27
theorem k_140_28 : mOk M_140.1 M_140.2.1 M_140.2.2.1 M_140.2.2.2 28 (o_ls 5 2) := ok_lstore dX11_cutAt_28
theorem k_140_30 : mOk M_140.1 M_140.2.1 M_140.2.2.1 M_140.2.2.2 30 (o_ll 7 2) := ok_lload dX11_cutAt_30
theorem k_140_32 : mOk M_140.1 M_140.2.1 M_140.2.2.1 M_140.2.2.2 32 (oS 1 (s_l1 (fun a => -a))) := ok_lneg dX11_cutAt_32
theorem k_140_33 : mOk M_140.1 M_140.2.1 M_140.2.2.1 M_140.2.2.2 33 (o_ls 7 2) := ok_lstore dX11_cutAt_33
theorem k_140_35 : mOk M_140.1 M_140.2.1 M_140.2.2.1 M_140.2.2.2 35 (o_il 2 1) := ok_iload_n dX11_cutAt_35 rfl
theorem k_140_36 : mOk M_140.1 M_140.2.1 M_140.2.2.1 M_140.2.2.2 36 (oS 1 s_i2l) := ok_i2l dX11_cutAt_36
theorem k_140_37 : mOk M_140.1 M_140.2.1 M_140.2.2.1 M_140.2.2.2 37 (oS 3 (s_push (.long 2))) := ok_ldc2 dX11_cutAt_37 m_1325
theorem k_140_40 : mOk M_140.1 M_140.2.1 M_140.2.2.1 M_140.2.2.2 40 (o_ll 5 2) := ok_lload dX11_cutAt_40
theorem k_140_42 : mOk M_140.1 M_140.2.1 M_140.2.2.1 M_140.2.2.2 42 (oS 1 (s_ll (fun a b => a * b))) := ok_lmul dX11_cutAt_42
theorem k_140_43 : mOk M_140.1 M_140.2.1 M_140.2.2.1 M_140.2.2.2 43 (o_ll 7 2) := ok_lload dX11_cutAt_43
theorem k_140_45 : mOk M_140.1 M_140.2.1 M_140.2.2.1 M_140.2.2.2 45 (oS 1 (s_ll (fun a b => a + b))) := ok_ladd dX11_cutAt_45
theorem k_140_46 : mOk M_140.1 M_140.2.1 M_140.2.2.1 M_140.2.2.2 46 (oS 3 (s_push (.long 2))) := ok_ldc2 dX11_cutAt_46 m_1325
theorem k_140_49 : mOk M_140.1 M_140.2.1 M_140.2.2.1 M_140.2.2.2 49 (o_ll 7 2) := ok_lload dX11_cutAt_49
theorem k_140_51 : mOk M_140.1 M_140.2.1 M_140.2.2.1 M_140.2.2.2 51 (oS 1 (s_ll (fun a b => a * b))) := ok_lmul dX11_cutAt_51
theorem k_140_55 : mOk M_140.1 M_140.2.1 M_140.2.2.1 M_140.2.2.2 55 (oS 1 (s_ll (fun a b => a + b))) := ok_ladd dX11_cutAt_55
theorem k_140_56 : mOk M_140.1 M_140.2.1 M_140.2.2.1 M_140.2.2.2 56 (oS 1 s_l2i) := ok_l2i dX11_cutAt_56
set_option maxRecDepth 20000 in
set_option maxHeartbeats 4000000 in
theorem tk_140 (l : Launch) (H9 : mThr l) (H10 : mSpl l) (pc : Nat) (q : mEnt) (h : tb_140 pc = some q) : EE l 140 pc q := nd h (fun h => nd h (fun h => nd h (fun h => nd h (fun h => nd h (fun h => lf (P := EE l 140) h k_140_0) (fun h => lf (P := EE l 140) h k_140_1)) (fun h => nd h (fun h => lf (P := EE l 140) h k_140_2) (fun h => lf (P := EE l 140) h k_140_3))) (fun h => nd h (fun h => nd h (fun h => lf (P := EE l 140) h k_140_4) (fun h => lf (P := EE l 140) h k_140_6)) (fun h => nd h (fun h => lf (P := EE l 140) h k_140_7) (fun h => nd h (fun h => lf (P := EE l 140) h k_140_8) (fun h => lf (P := EE l 140) h k_140_9))))) (fun h => nd h (fun h => nd h (fun h => nd h (fun h => lf (P := EE l 140) h k_140_10) (fun h => lf (P := EE l 140) h k_140_12)) (fun h => nd h (fun h => lf (P := EE l 140) h k_140_13) (fun h => nd h (fun h => lf (P := EE l 140) h k_140_14) (fun h => lf (P := EE l 140) h k_140_15)))) (fun h => nd h (fun h => nd h (fun h => lf (P := EE l 140) h k_140_16) (fun h => lf (P := EE l 140) h k_140_18)) (fun h => nd h (fun h => lf (P := EE l 140) h k_140_20) (fun h => nd h (fun h => lf (P := EE l 140) h k_140_21) (fun h => lf (P := EE l 140) h k_140_22)))))) (fun h => nd h (fun h => nd h (fun h => nd h (fun h => nd h (fun h => lf (P := EE l 140) h k_140_25) (fun h => lf (P := EE l 140) h k_140_27)) (fun h => nd h (fun h => lf (P := EE l 140) h k_140_28) (fun h => nd h (fun h => lf (P := EE l 140) h k_140_30) (fun h => lf (P := EE l 140) h k_140_32)))) (fun h => nd h (fun h => nd h (fun h => lf (P := EE l 140) h k_140_33) (fun h => lf (P := EE l 140) h k_140_35)) (fun h => nd h (fun h => lf (P := EE l 140) h k_140_36) (fun h => nd h (fun h => lf (P := EE l 140) h k_140_37) (fun h => lf (P := EE l 140) h k_140_40))))) (fun h => nd h (fun h => nd h (fun h => nd h (fun h => lf (P := EE l 140) h k_140_42) (fun h => lf (P := EE l 140) h k_140_43)) (fun h => nd h (fun h => lf (P := EE l 140) h k_140_45) (fun h => nd h (fun h => lf (P := EE l 140) h k_140_46) (fun h => lf (P := EE l 140) h k_140_49)))) (fun h => nd h (fun h => nd h (fun h => lf (P := EE l 140) h k_140_51) (fun h => lf (P := EE l 140) h (EE_ca (by decide) (⟨m_1328, m_81, ⟨by decide, by decide⟩, by decide +kernel, ⟨by decide, by decide⟩, 209, 2, by decide +kernel, Or.inl ⟨rfl, rfl, dX11_cutAt_52, m_1326, m_1327⟩⟩) rfl))) (fun h => nd h (fun h => lf (P := EE l 140) h k_140_55) (fun h => nd h (fun h => lf (P := EE l 140) h k_140_56) (fun h => lf (P := EE l 140) h (EE_re (Or.inl ⟨rfl, dX11_cutAt_57, rfl⟩))))))))
theorem dX11_putBorder_0 : decode cX11_putBorder 0 = .ok (.iload_n 3, 1) := by decide +kernel
theorem dX11_putBorder_1 : decode cX11_putBorder 1 = .ok (.iconst 2, 1) := by decide +kernel
theorem dX11_putBorder_2 : decode cX11_putBorder 2 = .ok (.if_icmp .ge 43, 3) := by decide +kernel
theorem dX11_putBorder_5 : decode cX11_putBorder 5 = .ok (.aload_n 0, 1) := by decide +kernel
theorem dX11_putBorder_6 : decode cX11_putBorder 6 = .ok (.iload 4, 2) := by decide +kernel
theorem dX11_putBorder_8 : decode cX11_putBorder 8 = .ok (.aload_n 0, 1) := by decide +kernel
theorem dX11_putBorder_9 : decode cX11_putBorder 9 = .ok (.getfield 112, 3) := by decide +kernel
theorem dX11_putBorder_12 : decode cX11_putBorder 12 = .ok (.iload_n 1, 1) := by decide +kernel
theorem dX11_putBorder_13 : decode cX11_putBorder 13 = .ok (.iaload, 1) := by decide +kernel
theorem dX11_putBorder_14 : decode cX11_putBorder 14 = .ok (.aload_n 0, 1) := by decide +kernel
theorem dX11_putBorder_15 : decode cX11_putBorder 15 = .ok (.getfield 112, 3) := by decide +kernel
theorem dX11_putBorder_18 : decode cX11_putBorder 18 = .ok (.iload_n 2, 1) := by decide +kernel
theorem dX11_putBorder_19 : decode cX11_putBorder 19 = .ok (.iaload, 1) := by decide +kernel
theorem dX11_putBorder_20 : decode cX11_putBorder 20 = .ok (.aload_n 0, 1) := by decide +kernel
theorem dX11_putBorder_21 : decode cX11_putBorder 21 = .ok (.getfield 115, 3) := by decide +kernel
theorem dX11_putBorder_24 : decode cX11_putBorder 24 = .ok (.iload_n 1, 1) := by decide +kernel
theorem dX11_putBorder_25 : decode cX11_putBorder 25 = .ok (.iaload, 1) := by decide +kernel
theorem dX11_putBorder_26 : decode cX11_putBorder 26 = .ok (.aload_n 0, 1) := by decide +kernel
theorem dX11_putBorder_27 : decode cX11_putBorder 27 = .ok (.getfield 115, 3) := by decide +kernel
theorem dX11_putBorder_30 : decode cX11_putBorder 30 = .ok (.iload_n 2, 1) := by decide +kernel
theorem dX11_putBorder_31 : decode cX11_putBorder 31 = .ok (.iaload, 1) := by decide +kernel
theorem dX11_putBorder_32 : decode cX11_putBorder 32 = .ok (.iload 4, 2) := by decide +kernel
theorem dX11_putBorder_34 : decode cX11_putBorder 34 = .ok (.invokestatic 213, 3) := by decide +kernel
theorem dX11_putBorder_37 : decode cX11_putBorder 37 = .ok (.iload 5, 2) := by decide +kernel
theorem dX11_putBorder_39 : decode cX11_putBorder 39 = .ok (.invokevirtual 200, 3) := by decide +kernel
theorem dX11_putBorder_42 : decode cX11_putBorder 42 = .ok (.goto 40, 3) := by decide +kernel
theorem dX11_putBorder_45 : decode cX11_putBorder 45 = .ok (.aload_n 0, 1) := by decide +kernel
theorem dX11_putBorder_46 : decode cX11_putBorder 46 = .ok (.aload_n 0, 1) := by decide +kernel
theorem dX11_putBorder_47 : decode cX11_putBorder 47 = .ok (.getfield 115, 3) := by decide +kernel
theorem dX11_putBorder_50 : decode cX11_putBorder 50 = .ok (.iload_n 1, 1) := by decide +kernel
theorem dX11_putBorder_51 : decode cX11_putBorder 51 = .ok (.iaload, 1) := by decide +kernel
theorem dX11_putBorder_52 : decode cX11_putBorder 52 = .ok (.aload_n 0, 1) := by decide +kernel
theorem dX11_putBorder_53 : decode cX11_putBorder 53 = .ok (.getfield 115, 3) := by decide +kernel
theorem dX11_putBorder_56 : decode cX11_putBorder 56 = .ok (.iload_n 2, 1) := by decide +kernel
theorem dX11_putBorder_57 : decode cX11_putBorder 57 = .ok (.iaload, 1) := by decide +kernel
theorem dX11_putBorder_58 : decode cX11_putBorder 58 = .ok (.aload_n 0, 1) := by decide +kernel
theorem dX11_putBorder_59 : decode cX11_putBorder 59 = .ok (.getfield 112, 3) := by decide +kernel
theorem dX11_putBorder_62 : decode cX11_putBorder 62 = .ok (.iload_n 1, 1) := by decide +kernel
theorem dX11_putBorder_63 : decode cX11_putBorder 63 = .ok (.iaload, 1) := by decide +kernel
theorem dX11_putBorder_64 : decode cX11_putBorder 64 = .ok (.aload_n 0, 1) := by decide +kernel
theorem dX11_putBorder_65 : decode cX11_putBorder 65 = .ok (.getfield 112, 3) := by decide +kernel
theorem dX11_putBorder_68 : decode cX11_putBorder 68 = .ok (.iload_n 2, 1) := by decide +kernel
theorem dX11_putBorder_69 : decode cX11_putBorder 69 = .ok (.iaload, 1) := by decide +kernel
theorem dX11_putBorder_70 : decode cX11_putBorder 70 = .ok (.iload 4, 2) := by decide +kernel
theorem dX11_putBorder_72 : decode cX11_putBorder 72 = .ok (.invokestatic 213, 3) := by decide +kernel
theorem dX11_putBorder_75 : decode cX11_putBorder 75 = .ok (.iload 4, 2) := by decide +kernel
theorem dX11_putBorder_77 : decode cX11_putBorder 77 = .ok (.iload 5, 2) := by decide +kernel
theorem dX11_putBorder_79 : decode cX11_putBorder 79 = .ok (.invokevirtual 200, 3) := by decide +kernel
theorem dX11_putBorder_82 : decode cX11_putBorder 82 = .ok (.return_, 1) := by decide +kernel
def tb_141 (pc : Nat) : Option mEnt := bif Nat.ble pc 37 then (bif Nat.ble pc 18 then (bif Nat.ble pc 8 then (bif Nat.ble pc 2 then (bif Nat.ble pc 0 then (bif Nat.beq pc 0 then some (.inl (o_il 3 1)) else none) else (bif Nat.ble pc 1 then (bif Nat.beq pc 1 then some (.inl (oS 1 (s_push (.int 2)))) else none) else (bif Nat.beq pc 2 then some (.inl (o_cge 45)) else none))) else (bif Nat.ble pc 5 then (bif Nat.beq pc 5 then some (.inl (o_al 0 1)) else none) else (bif Nat.ble pc 6 then (bif Nat.beq pc 6 then some (.inl (o_il 4 2)) else none) else (bif Nat.beq pc 8 then some (.inl (o_al 0 1)) else none)))) else (bif Nat.ble pc 13 then (bif Nat.ble pc 9 then (bif Nat.beq pc 9 then some (.inl (o_gP 11 40)) else none) else (bif Nat.ble pc 12 then (bif Nat.beq pc 12 then some (.inl (o_il 1 1)) else none) else (bif Nat.beq pc 13 then some (.inl (o_iald)) else none))) else (bif Nat.ble pc 14 then (bif Nat.beq pc 14 then some (.inl (o_al 0 1)) else none) else (bif Nat.ble pc 15 then (bif Nat.beq pc 15 then some (.inl (o_gP 11 40)) else none) else (bif Nat.beq pc 18 then some (.inl (o_il 2 1)) else none))))) else (bif Nat.ble pc 26 then (bif Nat.ble pc 21 then (bif Nat.ble pc 19 then (bif Nat.beq pc 19 then some (.inl (o_iald)) else none) else (bif Nat.ble pc 20 then (bif Nat.beq pc 20 then some (.inl (o_al 0 1)) else none) else (bif Nat.beq pc 21 then some (.inl (o_gP 11 41)) else none))) else (bif Nat.ble pc 24 then (bif Nat.beq pc 24 then some (.inl (o_il 1 1)) else none) else (bif Nat.ble pc 25 then (bif Nat.beq pc 25 then some (.inl (o_iald)) else none) else (bif Nat.beq pc 26 then some (.inl (o_al 0 1)) else none)))) else (bif Nat.ble pc 31 then (bif Nat.ble pc 27 then (bif Nat.beq pc 27 then some (.inl (o_gP 11 41)) else none) else (bif Nat.ble pc 30 then (bif Nat.beq pc 30 then some (.inl (o_il 2 1)) else none) else (bif Nat.beq pc 31 then some (.inl (o_iald)) else none))) else (bif Nat.ble pc 32 then (bif Nat.beq pc 32 then some (.inl (o_il 4 2)) else none) else (bif Nat.ble pc 34 then (bif Nat.beq pc 34 then some (.inr (2, 140, 5, 0)) else none) else (bif Nat.beq pc 37 then some (.inl (o_il 5 2)) else none)))))) else (bif Nat.ble pc 58 then (bif Nat.ble pc 50 then (bif Nat.ble pc 45 then (bif Nat.ble pc 39 then (bif Nat.beq pc 39 then some (.inr (3, 134, 4, 11)) else none) else (bif Nat.ble pc 42 then (bif Nat.beq pc 42 then some (.inl (o_goto 82)) else none) else (bif Nat.beq pc 45 then some (.inl (o_al 0 1)) else none))) else (bif Nat.ble pc 46 then (bif Nat.beq pc 46 then some (.inl (o_al 0 1)) else none) else (bif Nat.ble pc 47 then (bif Nat.beq pc 47 then some (.inl (o_gP 11 41)) else none) else (bif Nat.beq pc 50 then some (.inl (o_il 1 1)) else none)))) else (bif Nat.ble pc 53 then (bif Nat.ble pc 51 then (bif Nat.beq pc 51 then some (.inl (o_iald)) else none) else (bif Nat.ble pc 52 then (bif Nat.beq pc 52 then some (.inl (o_al 0 1)) else none) else (bif Nat.beq pc 53 then some (.inl (o_gP 11 41)) else none))) else (bif Nat.ble pc 56 then (bif Nat.beq pc 56 then some (.inl (o_il 2 1)) else none) else (bif Nat.ble pc 57 then (bif Nat.beq pc 57 then some (.inl (o_iald)) else none) else (bif Nat.beq pc 58 then some (.inl (o_al 0 1)) else none))))) else (bif Nat.ble pc 68 then (bif Nat.ble pc 63 then (bif Nat.ble pc 59 then (bif Nat.beq pc 59 then some (.inl (o_gP 11 40)) else none) else (bif Nat.ble pc 62 then (bif Nat.beq pc 62 then some (.inl (o_il 1 1)) else none) else (bif Nat.beq pc 63 then some (.inl (o_iald)) else none))) else (bif Nat.ble pc 64 then (bif Nat.beq pc 64 then some (.inl (o_al 0 1)) else none) else (bif Nat.ble pc 65 then (bif Nat.beq pc 65 then some (.inl (o_gP 11 40)) else none) else (bif Nat.beq pc 68 then some (.inl (o_il 2 1)) else none)))) else (bif Nat.ble pc 72 then (bif Nat.ble pc 69 then (bif Nat.beq pc 69 then some (.inl (o_iald)) else none) else (bif Nat.ble pc 70 then (bif Nat.beq pc 70 then some (.inl (o_il 4 2)) else none) else (bif Nat.beq pc 72 then some (.inr (2, 140, 5, 0)) else none))) else (bif Nat.ble pc 77 then (bif Nat.ble pc 75 then (bif Nat.beq pc 75 then some (.inl (o_il 4 2)) else none) else (bif Nat.beq pc 77 then some (.inl (o_il 5 2)) else none)) else (bif Nat.ble pc 79 then (bif Nat.beq pc 79 then some (.inr (3, 134, 4, 11)) else none) else (bif Nat.beq pc 82 then some (.inr (0, 0, 0, 3)) else none))))))
theorem k_141_0 : mOk M_141.1 M_141.2.1 M_141.2.2.1 M_141.2.2.2 0 (o_il 3 1) := ok_iload_n dX11_putBorder_0 rfl
theorem k_141_1 : mOk M_141.1 M_141.2.1 M_141.2.2.1 M_141.2.2.2 1 (oS 1 (s_push (.int 2))) := ok_iconst dX11_putBorder_1 (by decide)
theorem k_141_2 : mOk M_141.1 M_141.2.1 M_141.2.2.1 M_141.2.2.2 2 (o_cge 45) := ok_cge dX11_putBorder_2 (by decide)
theorem k_141_5 : mOk M_141.1 M_141.2.1 M_141.2.2.1 M_141.2.2.2 5 (o_al 0 1) := ok_aload_n dX11_putBorder_5 rfl
theorem k_141_6 : mOk M_141.1 M_141.2.1 M_141.2.2.1 M_141.2.2.2 6 (o_il 4 2) := ok_iload dX11_putBorder_6
theorem k_141_8 : mOk M_141.1 M_141.2.1 M_141.2.2.1 M_141.2.2.2 8 (o_al 0 1) := ok_aload_n dX11_putBorder_8 rfl
theorem k_141_9 : mOk M_141.1 M_141.2.1 M_141.2.2.1 M_141.2.2.2 9 (o_gP 11 40) := ok_gP dX11_putBorder_9 f_RX11_112 rfl
theorem k_141_12 : mOk M_141.1 M_141.2.1 M_141.2.2.1 M_141.2.2.2 12 (o_il 1 1) := ok_iload_n dX11_putBorder_12 rfl
theorem k_141_13 : mOk M_141.1 M_141.2.1 M_141.2.2.1 M_141.2.2.2 13 (o_iald) := ok_iald dX11_putBorder_13
theorem k_141_14 : mOk M_141.1 M_141.2.1 M_141.2.2.1 M_141.2.2.2 14 (o_al 0 1) := ok_aload_n dX11_putBorder_14 rfl
theorem k_141_15 : mOk M_141.1 M_141.2.1 M_141.2.2.1 M_141.2.2.2 15 (o_gP 11 40) := ok_gP dX11_putBorder_15 f_RX11_112 rfl
theorem k_141_18 : mOk M_141.1 M_141.2.1 M_141.2.2.1 M_141.2.2.2 18 (o_il 2 1) := ok_iload_n dX11_putBorder_18 rfl
theorem k_141_19 : mOk M_141.1 M_141.2.1 M_141.2.2.1 M_141.2.2.2 19 (o_iald) := ok_iald dX11_putBorder_19
theorem k_141_20 : mOk M_141.1 M_141.2.1 M_141.2.2.1 M_141.2.2.2 20 (o_al 0 1) := ok_aload_n dX11_putBorder_20 rfl
theorem k_141_21 : mOk M_141.1 M_141.2.1 M_141.2.2.1 M_141.2.2.2 21 (o_gP 11 41) := ok_gP dX11_putBorder_21 f_RX11_115 rfl
theorem k_141_24 : mOk M_141.1 M_141.2.1 M_141.2.2.1 M_141.2.2.2 24 (o_il 1 1) := ok_iload_n dX11_putBorder_24 rfl
theorem k_141_25 : mOk M_141.1 M_141.2.1 M_141.2.2.1 M_141.2.2.2 25 (o_iald) := ok_iald dX11_putBorder_25
theorem k_141_26 : mOk M_141.1 M_141.2.1 M_141.2.2.1 M_141.2.2.2 26 (o_al 0 1) := ok_aload_n dX11_putBorder_26 rfl
theorem k_141_27 : mOk M_141.1 M_141.2.1 M_141.2.2.1 M_141.2.2.2 27 (o_gP 11 41) := ok_gP dX11_putBorder_27 f_RX11_115 rfl
theorem k_141_30 : mOk M_141.1 M_141.2.1 M_141.2.2.1 M_141.2.2.2 30 (o_il 2 1) := ok_iload_n dX11_putBorder_30 rfl
theorem k_141_31 : mOk M_141.1 M_141.2.1 M_141.2.2.1 M_141.2.2.2 31 (o_iald) := ok_iald dX11_putBorder_31
theorem k_141_32 : mOk M_141.1 M_141.2.1 M_141.2.2.1 M_141.2.2.2 32 (o_il 4 2) := ok_iload dX11_putBorder_32
theorem k_141_37 : mOk M_141.1 M_141.2.1 M_141.2.2.1 M_141.2.2.2 37 (o_il 5 2) := ok_iload dX11_putBorder_37
theorem k_141_42 : mOk M_141.1 M_141.2.1 M_141.2.2.1 M_141.2.2.2 42 (o_goto 82) := ok_goto dX11_putBorder_42 (by decide)
theorem k_141_45 : mOk M_141.1 M_141.2.1 M_141.2.2.1 M_141.2.2.2 45 (o_al 0 1) := ok_aload_n dX11_putBorder_45 rfl
theorem k_141_46 : mOk M_141.1 M_141.2.1 M_141.2.2.1 M_141.2.2.2 46 (o_al 0 1) := ok_aload_n dX11_putBorder_46 rfl
theorem k_141_47 : mOk M_141.1 M_141.2.1 M_141.2.2.1 M_141.2.2.2 47 (o_gP 11 41) := ok_gP dX11_putBorder_47 f_RX11_115 rfl
theorem k_141_50 : mOk M_141.1 M_141.2.1 M_141.2.2.1 M_141.2.2.2 50 (o_il 1 1) := ok_iload_n dX11_putBorder_50 rfl
theorem k_141_51 : mOk M_141.1 M_141.2.1 M_141.2.2.1 M_141.2.2.2 51 (o_iald) := ok_iald dX11_putBorder_51
theorem k_141_52 : mOk M_141.1 M_141.2.1 M_141.2.2.1 M_141.2.2.2 52 (o_al 0 1) := ok_aload_n dX11_putBorder_52 rfl
theorem k_141_53 : mOk M_141.1 M_141.2.1 M_141.2.2.1 M_141.2.2.2 53 (o_gP 11 41) := ok_gP dX11_putBorder_53 f_RX11_115 rfl
theorem k_141_56 : mOk M_141.1 M_141.2.1 M_141.2.2.1 M_141.2.2.2 56 (o_il 2 1) := ok_iload_n dX11_putBorder_56 rfl
theorem k_141_57 : mOk M_141.1 M_141.2.1 M_141.2.2.1 M_141.2.2.2 57 (o_iald) := ok_iald dX11_putBorder_57
theorem k_141_58 : mOk M_141.1 M_141.2.1 M_141.2.2.1 M_141.2.2.2 58 (o_al 0 1) := ok_aload_n dX11_putBorder_58 rfl
theorem k_141_59 : mOk M_141.1 M_141.2.1 M_141.2.2.1 M_141.2.2.2 59 (o_gP 11 40) := ok_gP dX11_putBorder_59 f_RX11_112 rfl
theorem k_141_62 : mOk M_141.1 M_141.2.1 M_141.2.2.1 M_141.2.2.2 62 (o_il 1 1) := ok_iload_n dX11_putBorder_62 rfl
theorem k_141_63 : mOk M_141.1 M_141.2.1 M_141.2.2.1 M_141.2.2.2 63 (o_iald) := ok_iald dX11_putBorder_63
theorem k_141_64 : mOk M_141.1 M_141.2.1 M_141.2.2.1 M_141.2.2.2 64 (o_al 0 1) := ok_aload_n dX11_putBorder_64 rfl
theorem k_141_65 : mOk M_141.1 M_141.2.1 M_141.2.2.1 M_141.2.2.2 65 (o_gP 11 40) := ok_gP dX11_putBorder_65 f_RX11_112 rfl
theorem k_141_68 : mOk M_141.1 M_141.2.1 M_141.2.2.1 M_141.2.2.2 68 (o_il 2 1) := ok_iload_n dX11_putBorder_68 rfl
theorem k_141_69 : mOk M_141.1 M_141.2.1 M_141.2.2.1 M_141.2.2.2 69 (o_iald) := ok_iald dX11_putBorder_69
theorem k_141_70 : mOk M_141.1 M_141.2.1 M_141.2.2.1 M_141.2.2.2 70 (o_il 4 2) := ok_iload dX11_putBorder_70
theorem k_141_75 : mOk M_141.1 M_141.2.1 M_141.2.2.1 M_141.2.2.2 75 (o_il 4 2) := ok_iload dX11_putBorder_75
theorem k_141_77 : mOk M_141.1 M_141.2.1 M_141.2.2.1 M_141.2.2.2 77 (o_il 5 2) := ok_iload dX11_putBorder_77
set_option maxRecDepth 20000 in
set_option maxHeartbeats 4000000 in
theorem tk_141 (l : Launch) (H9 : mThr l) (H10 : mSpl l) (pc : Nat) (q : mEnt) (h : tb_141 pc = some q) : EE l 141 pc q := nd h (fun h => nd h (fun h => nd h (fun h => nd h (fun h => nd h (fun h => lf (P := EE l 141) h k_141_0) (fun h => nd h (fun h => lf (P := EE l 141) h k_141_1) (fun h => lf (P := EE l 141) h k_141_2))) (fun h => nd h (fun h => lf (P := EE l 141) h k_141_5) (fun h => nd h (fun h => lf (P := EE l 141) h k_141_6) (fun h => lf (P := EE l 141) h k_141_8)))) (fun h => nd h (fun h => nd h (fun h => lf (P := EE l 141) h k_141_9) (fun h => nd h (fun h => lf (P := EE l 141) h k_141_12) (fun h => lf (P := EE l 141) h k_141_13))) (fun h => nd h (fun h => lf (P := EE l 141) h k_141_14) (fun h => nd h (fun h => lf (P := EE l 141) h k_141_15) (fun h => lf (P := EE l 141) h k_141_18))))) (fun h => nd h (fun h => nd h (fun h => nd h (fun h => lf (P := EE l 141) h k_141_19) (fun h => nd h (fun h => lf (P := EE l 141) h k_141_20) (fun h => lf (P := EE l 141) h k_141_21))) (fun h => nd h (fun h => lf (P := EE l 141) h k_141_24) (fun h => nd h (fun h => lf (P := EE l 141) h k_141_25) (fun h => lf (P := EE l 141) h k_141_26)))) (fun h => nd h (fun h => nd h (fun h => lf (P := EE l 141) h k_141_27) (fun h => nd h (fun h => lf (P := EE l 141) h k_141_30) (fun h => lf (P := EE l 141) h k_141_31))) (fun h => nd h (fun h => lf (P := EE l 141) h k_141_32) (fun h => nd h (fun h => lf (P := EE l 141) h (EE_ca (by decide) (⟨m_1324, m_81, ⟨by decide, by decide⟩, by decide +kernel, ⟨by decide, by decide⟩, 213, 5, by decide +kernel, Or.inl ⟨rfl, rfl, dX11_putBorder_34, m_1322, m_1323⟩⟩) rfl)) (fun h => lf (P := EE l 141) h k_141_37)))))) (fun h => nd h (fun h => nd h (fun h => nd h (fun h => nd h (fun h => lf (P := EE l 141) h (EE_ca (by decide) (⟨m_1305, m_81, ⟨by decide, by decide⟩, by decide +kernel, ⟨by decide, by decide⟩, 200, 3, by decide +kernel, Or.inr (Or.inr (Or.inl ⟨rfl, rfl, dX11_putBorder_39, m_1302, m_1304, _, rfl, by decide, m_43⟩))⟩) rfl)) (fun h => nd h (fun h => lf (P := EE l 141) h k_141_42) (fun h => lf (P := EE l 141) h k_141_45))) (fun h => nd h (fun h => lf (P := EE l 141) h k_141_46) (fun h => nd h (fun h => lf (P := EE l 141) h k_141_47) (fun h => lf (P := EE l 141) h k_141_50)))) (fun h => nd h (fun h => nd h (fun h => lf (P := EE l 141) h k_141_51) (fun h => nd h (fun h => lf (P := EE l 141) h k_141_52) (fun h => lf (P := EE l 141) h k_141_53))) (fun h => nd h (fun h => lf (P := EE l 141) h k_141_56) (fun h => nd h (fun h => lf (P := EE l 141) h k_141_57) (fun h => lf (P := EE l 141) h k_141_58))))) (fun h => nd h (fun h => nd h (fun h => nd h (fun h => lf (P := EE l 141) h k_141_59) (fun h => nd h (fun h => lf (P := EE l 141) h k_141_62) (fun h => lf (P := EE l 141) h k_141_63))) (fun h => nd h (fun h => lf (P := EE l 141) h k_141_64) (fun h => nd h (fun h => lf (P := EE l 141) h k_141_65) (fun h => lf (P := EE l 141) h k_141_68)))) (fun h => nd h (fun h => nd h (fun h => lf (P := EE l 141) h k_141_69) (fun h => nd h (fun h => lf (P := EE l 141) h k_141_70) (fun h => lf (P := EE l 141) h (EE_ca (by decide) (⟨m_1324, m_81, ⟨by decide, by decide⟩, by decide +kernel, ⟨by decide, by decide⟩, 213, 5, by decide +kernel, Or.inl ⟨rfl, rfl, dX11_putBorder_72, m_1322, m_1323⟩⟩) rfl)))) (fun h => nd h (fun h => nd h (fun h => lf (P := EE l 141) h k_141_75) (fun h => lf (P := EE l 141) h k_141_77)) (fun h => nd h (fun h => lf (P := EE l 141) h (EE_ca (by decide) (⟨m_1305, m_81, ⟨by decide, by decide⟩, by decide +kernel, ⟨by decide, by decide⟩, 200, 3, by decide +kernel, Or.inr (Or.inr (Or.inl ⟨rfl, rfl, dX11_putBorder_79, m_1302, m_1304, _, rfl, by decide, m_43⟩))⟩) rfl)) (fun h => lf (P := EE l 141) h (EE_re (Or.inr (Or.inr (Or.inr (Or.inr ⟨rfl, dX11_putBorder_82, rfl⟩)))))))))))
theorem dX11_cutLine_0 : decode cX11_cutLine 0 = .ok (.aload_n 0, 1) := by decide +kernel
theorem dX11_cutLine_1 : decode cX11_cutLine 1 = .ok (.iconst 0, 1) := by decide +kernel
theorem dX11_cutLine_2 : decode cX11_cutLine 2 = .ok (.putfield 197, 3) := by decide +kernel
theorem dX11_cutLine_5 : decode cX11_cutLine 5 = .ok (.iconst 0, 1) := by decide +kernel
theorem dX11_cutLine_6 : decode cX11_cutLine 6 = .ok (.istore_n 3, 1) := by decide +kernel
theorem dX11_cutLine_7 : decode cX11_cutLine 7 = .ok (.iconst 0, 1) := by decide +kernel
theorem dX11_cutLine_8 : decode cX11_cutLine 8 = .ok (.istore 4, 2) := by decide +kernel
theorem dX11_cutLine_10 : decode cX11_cutLine 10 = .ok (.iload 4, 2) := by decide +kernel
theorem dX11_cutLine_12 : decode cX11_cutLine 12 = .ok (.aload_n 0, 1) := by decide +kernel
theorem dX11_cutLine_13 : decode cX11_cutLine 13 = .ok (.getfield 191, 3) := by decide +kernel
theorem dX11_cutLine_16 : decode cX11_cutLine 16 = .ok (.if_icmp .ge 135, 3) := by decide +kernel
theorem dX11_cutLine_19 : decode cX11_cutLine 19 = .ok (.aload_n 0, 1) := by decide +kernel
theorem dX11_cutLine_20 : decode cX11_cutLine 20 = .ok (.iload 4, 2) := by decide +kernel
theorem dX11_cutLine_22 : decode cX11_cutLine 22 = .ok (.iload_n 1, 1) := by decide +kernel
theorem dX11_cutLine_23 : decode cX11_cutLine 23 = .ok (.iload_n 2, 1) := by decide +kernel
theorem dX11_cutLine_24 : decode cX11_cutLine 24 = .ok (.invokevirtual 217, 3) := by decide +kernel
theorem dX11_cutLine_27 : decode cX11_cutLine 27 = .ok (.istore 5, 2) := by decide +kernel
theorem dX11_cutLine_29 : decode cX11_cutLine 29 = .ok (.aload_n 0, 1) := by decide +kernel
theorem dX11_cutLine_30 : decode cX11_cutLine 30 = .ok (.getfield 118, 3) := by decide +kernel
theorem dX11_cutLine_33 : decode cX11_cutLine 33 = .ok (.iload 4, 2) := by decide +kernel
theorem dX11_cutLine_35 : decode cX11_cutLine 35 = .ok (.baload, 1) := by decide +kernel
theorem dX11_cutLine_36 : decode cX11_cutLine 36 = .ok (.ifCond .eq 5, 3) := by decide +kernel
theorem dX11_cutLine_39 : decode cX11_cutLine 39 = .ok (.iconst 0, 1) := by decide +kernel
theorem dX11_cutLine_40 : decode cX11_cutLine 40 = .ok (.istore_n 3, 1) := by decide +kernel
theorem dX11_cutLine_41 : decode cX11_cutLine 41 = .ok (.iload 5, 2) := by decide +kernel
theorem dX11_cutLine_43 : decode cX11_cutLine 43 = .ok (.ifCond .eq 32, 3) := by decide +kernel
theorem dX11_cutLine_46 : decode cX11_cutLine 46 = .ok (.aload_n 0, 1) := by decide +kernel
theorem dX11_cutLine_47 : decode cX11_cutLine 47 = .ok (.aload_n 0, 1) := by decide +kernel
theorem dX11_cutLine_48 : decode cX11_cutLine 48 = .ok (.getfield 112, 3) := by decide +kernel
theorem dX11_cutLine_51 : decode cX11_cutLine 51 = .ok (.iload 4, 2) := by decide +kernel
theorem dX11_cutLine_53 : decode cX11_cutLine 53 = .ok (.iaload, 1) := by decide +kernel
theorem dX11_cutLine_54 : decode cX11_cutLine 54 = .ok (.aload_n 0, 1) := by decide +kernel
theorem dX11_cutLine_55 : decode cX11_cutLine 55 = .ok (.getfield 115, 3) := by decide +kernel
theorem dX11_cutLine_58 : decode cX11_cutLine 58 = .ok (.iload 4, 2) := by decide +kernel
theorem dX11_cutLine_60 : decode cX11_cutLine 60 = .ok (.iaload, 1) := by decide +kernel
theorem dX11_cutLine_61 : decode cX11_cutLine 61 = .ok (.iload_n 3, 1) := by decide +kernel
theorem dX11_cutLine_62 : decode cX11_cutLine 62 = .ok (.ifCond .ne 7, 3) := by decide +kernel
theorem dX11_cutLine_65 : decode cX11_cutLine 65 = .ok (.iconst 1, 1) := by decide +kernel
theorem dX11_cutLine_66 : decode cX11_cutLine 66 = .ok (.goto 4, 3) := by decide +kernel
theorem dX11_cutLine_69 : decode cX11_cutLine 69 = .ok (.iconst 0, 1) := by decide +kernel
theorem dX11_cutLine_70 : decode cX11_cutLine 70 = .ok (.invokevirtual 200, 3) := by decide +kernel
theorem dX11_cutLine_73 : decode cX11_cutLine 73 = .ok (.iconst 1, 1) := by decide +kernel
theorem dX11_cutLine_74 : decode cX11_cutLine 74 = .ok (.istore_n 3, 1) := by decide +kernel
theorem dX11_cutLine_75 : decode cX11_cutLine 75 = .ok (.iload 4, 2) := by decide +kernel
theorem dX11_cutLine_77 : decode cX11_cutLine 77 = .ok (.iconst 1, 1) := by decide +kernel
theorem dX11_cutLine_78 : decode cX11_cutLine 78 = .ok (.iadd, 1) := by decide +kernel
theorem dX11_cutLine_79 : decode cX11_cutLine 79 = .ok (.aload_n 0, 1) := by decide +kernel
theorem dX11_cutLine_80 : decode cX11_cutLine 80 = .ok (.getfield 191, 3) := by decide +kernel
theorem dX11_cutLine_83 : decode cX11_cutLine 83 = .ok (.if_icmp .ge 62, 3) := by decide +kernel
theorem dX11_cutLine_86 : decode cX11_cutLine 86 = .ok (.aload_n 0, 1) := by decide +kernel
theorem dX11_cutLine_87 : decode cX11_cutLine 87 = .ok (.getfield 118, 3) := by decide +kernel
theorem dX11_cutLine_90 : decode cX11_cutLine 90 = .ok (.iload 4, 2) := by decide +kernel
theorem dX11_cutLine_92 : decode cX11_cutLine 92 = .ok (.iconst 1, 1) := by decide +kernel
theorem dX11_cutLine_93 : decode cX11_cutLine 93 = .ok (.iadd, 1) := by decide +kernel
theorem dX11_cutLine_94 : decode cX11_cutLine 94 = .ok (.baload, 1) := by decide +kernel
theorem dX11_cutLine_95 : decode cX11_cutLine 95 = .ok (.ifCond .ne 50, 3) := by decide +kernel
theorem dX11_cutLine_98 : decode cX11_cutLine 98 = .ok (.iload 5, 2) := by decide +kernel
theorem dX11_cutLine_100 : decode cX11_cutLine 100 = .ok (.aload_n 0, 1) := by decide +kernel
theorem dX11_cutLine_101 : decode cX11_cutLine 101 = .ok (.iload 4, 2) := by decide +kernel
theorem dX11_cutLine_103 : decode cX11_cutLine 103 = .ok (.iconst 1, 1) := by decide +kernel
theorem dX11_cutLine_104 : decode cX11_cutLine 104 = .ok (.iadd, 1) := by decide +kernel
theorem dX11_cutLine_105 : decode cX11_cutLine 105 = .ok (.iload_n 1, 1) := by decide +kernel
theorem dX11_cutLine_106 : decode cX11_cutLine 106 = .ok (.iload_n 2, 1) := by decide +kernel
theorem dX11_cutLine_107 : decode cX11_cutLine 107 = .ok (.invokevirtual 217, 3) := by decide +kernel
theorem dX11_cutLine_110 : decode cX11_cutLine 110 = .ok (.if_icmp .eq 35, 3) := by decide +kernel
theorem dX11_cutLine_113 : decode cX11_cutLine 113 = .ok (.aload_n 0, 1) := by decide +kernel
theorem dX11_cutLine_114 : decode cX11_cutLine 114 = .ok (.iload 4, 2) := by decide +kernel
theorem dX11_cutLine_116 : decode cX11_cutLine 116 = .ok (.iload 4, 2) := by decide +kernel
theorem dX11_cutLine_118 : decode cX11_cutLine 118 = .ok (.iconst 1, 1) := by decide +kernel
theorem dX11_cutLine_119 : decode cX11_cutLine 119 = .ok (.iadd, 1) := by decide +kernel
theorem dX11_cutLine_120 : decode cX11_cutLine 120 = .ok (.iload_n 1, 1) := by decide +kernel
theorem dX11_cutLine_121 : decode cX11_cutLine 121 = .ok (.iload_n 2, 1) := by decide +kernel
theorem dX11_cutLine_122 : decode cX11_cutLine 122 = .ok (.iload_n 3, 1) := by decide +kernel
theorem dX11_cutLine_123 : decode cX11_cutLine 123 = .ok (.ifCond .ne 7, 3) := by decide +kernel
theorem dX11_cutLine_126 : decode cX11_cutLine 126 = .ok (.iconst 1, 1) := by decide +kernel
theorem dX11_cutLine_127 : decode cX11_cutLine 127 = .ok (.goto 4, 3) := by decide +kernel
theorem dX11_cutLine_130 : decode cX11_cutLine 130 = .ok (.iconst 0, 1) := by decide +kernel
theorem dX11_cutLine_131 : decode cX11_cutLine 131 = .ok (.invokevirtual 220, 3) := by decide +kernel
theorem dX11_cutLine_134 : decode cX11_cutLine 134 = .ok (.iload 5, 2) := by decide +kernel
theorem dX11_cutLine_136 : decode cX11_cutLine 136 = .ok (.ifCond .ne 7, 3) := by decide +kernel
theorem dX11_cutLine_139 : decode cX11_cutLine 139 = .ok (.iconst 1, 1) := by decide +kernel
theorem dX11_cutLine_140 : decode cX11_cutLine 140 = .ok (.goto 4, 3) := by decide +kernel
theorem dX11_cutLine_143 : decode cX11_cutLine 143 = .ok (.iconst 0, 1) := by decide +kernel
theorem dX11_cutLine_144 : decode cX11_cutLine 144 = .ok (.istore_n 3, 1) := by decide +kernel
theorem dX11_cutLine_145 : decode cX11_cutLine 145 = .ok (.iinc 4 1, 3) := by decide +kernel
theorem dX11_cutLine_148 : decode cX11_cutLine 148 = .ok (.goto (-138), 3) := by decide +kernel
theorem dX11_cutLine_151 : decode cX11_cutLine 151 = .ok (.aload_n 0, 1) := by decide +kernel
theorem dX11_cutLine_152 : decode cX11_cutLine 152 = .ok (.invokevirtual 204, 3) := by decide +kernel
theorem dX11_cutLine_155 : decode cX11_cutLine 155 = .ok (.aload_n 0, 1) := by decide +kernel
theorem dX11_cutLine_156 : decode cX11_cutLine 156 = .ok (.invokevirtual 224, 3) := by decide +kernel
theorem dX11_cutLine_159 : decode cX11_cutLine 159 = .ok (.return_, 1) := by decide +kernel
def tb_142 (pc : Nat) : Option mEnt := bif Nat.ble pc 77 then (bif Nat.ble pc 36 then (bif Nat.ble pc 16 then (bif Nat.ble pc 6 then (bif Nat.ble pc 1 then (bif Nat.ble pc 0 then (bif Nat.beq pc 0 then some (.inl (o_al 0 1)) else none) else (bif Nat.beq pc 1 then some (.inl (oS 1 (s_push (.int 0)))) else none)) else (bif Nat.ble pc 2 then (bif Nat.beq pc 2 then some (.inl (o_pI 11 47)) else none) else (bif Nat.ble pc 5 then (bif Nat.beq pc 5 then some (.inl (oS 1 (s_push (.int 0)))) else none) else (bif Nat.beq pc 6 then some (.inl (o_is 3 1)) else none)))) else (bif Nat.ble pc 10 then (bif Nat.ble pc 7 then (bif Nat.beq pc 7 then some (.inl (oS 1 (s_push (.int 0)))) else none) else (bif Nat.ble pc 8 then (bif Nat.beq pc 8 then some (.inl (o_is 4 2)) else none) else (bif Nat.beq pc 10 then some (.inl (o_il 4 2)) else none))) else (bif Nat.ble pc 12 then (bif Nat.beq pc 12 then some (.inl (o_al 0 1)) else none) else (bif Nat.ble pc 13 then (bif Nat.beq pc 13 then some (.inl (o_gI 11 43)) else none) else (bif Nat.beq pc 16 then some (.inl (o_cge 151)) else none))))) else (bif Nat.ble pc 24 then (bif Nat.ble pc 20 then (bif Nat.ble pc 19 then (bif Nat.beq pc 19 then some (.inl (o_al 0 1)) else none) else (bif Nat.beq pc 20 then some (.inl (o_il 4 2)) else none)) else (bif Nat.ble pc 22 then (bif Nat.beq pc 22 then some (.inl (o_il 1 1)) else none) else (bif Nat.ble pc 23 then (bif Nat.beq pc 23 then some (.inl (o_il 2 1)) else none) else (bif Nat.beq pc 24 then some (.inr (3, 138, 4, 11)) else none)))) else (bif Nat.ble pc 30 then (bif Nat.ble pc 27 then (bif Nat.beq pc 27 then some (.inl (o_is 5 2)) else none) else (bif Nat.ble pc 29 then (bif Nat.beq pc 29 then some (.inl (o_al 0 1)) else none) else (bif Nat.beq pc 30 then some (.inl (o_gP 11 42)) else none))) else (bif Nat.ble pc 33 then (bif Nat.beq pc 33 then some (.inl (o_il 4 2)) else none) else (bif Nat.ble pc 35 then (bif Nat.beq pc 35 then some (.inl (o_bald)) else none) else (bif Nat.beq pc 36 then some (.inl (o_zeq 41)) else none)))))) else (bif Nat.ble pc 55 then (bif Nat.ble pc 46 then (bif Nat.ble pc 40 then (bif Nat.ble pc 39 then (bif Nat.beq pc 39 then some (.inl (oS 1 (s_push (.int 0)))) else none) else (bif Nat.beq pc 40 then some (.inl (o_is 3 1)) else none)) else (bif Nat.ble pc 41 then (bif Nat.beq pc 41 then some (.inl (o_il 5 2)) else none) else (bif Nat.ble pc 43 then (bif Nat.beq pc 43 then some (.inl (o_zeq 75)) else none) else (bif Nat.beq pc 46 then some (.inl (o_al 0 1)) else none)))) else (bif Nat.ble pc 51 then (bif Nat.ble pc 47 then (bif Nat.beq pc 47 then some (.inl (o_al 0 1)) else none) else (bif Nat.ble pc 48 then (bif Nat.beq pc 48 then some (.inl (o_gP 11 40)) else none) else (bif Nat.beq pc 51 then some (.inl (o_il 4 2)) else none))) else (bif Nat.ble pc 53 then (bif Nat.beq pc 53 then some (.inl (o_iald)) else none) else (bif Nat.ble pc 54 then (bif Nat.beq pc 54 then some (.inl (o_al 0 1)) else none) else (bif Nat.beq pc 55 then some (.inl (o_gP 11 41)) else none))))) else (bif Nat.ble pc 66 then (bif Nat.ble pc 61 then (bif Nat.ble pc 58 then (bif Nat.beq pc 58 then some (.inl (o_il 4 2)) else none) else (bif Nat.ble pc 60 then (bif Nat.beq pc 60 then some (.inl (o_iald)) else none) else (bif Nat.beq pc 61 then some (.inl (o_il 3 1)) else none))) else (bif Nat.ble pc 62 then (bif Nat.beq pc 62 then some (.inl (o_zne 69)) else none) else (bif Nat.ble pc 65 then (bif Nat.beq pc 65 then some (.inl (oS 1 (s_push (.int 1)))) else none) else (bif Nat.beq pc 66 then some (.inl (o_goto 70)) else none)))) else (bif Nat.ble pc 73 then (bif Nat.ble pc 69 then (bif Nat.beq pc 69 then some (.inl (oS 1 (s_push (.int 0)))) else none) else (bif Nat.ble pc 70 then (bif Nat.beq pc 70 then some (.inr (3, 134, 4, 11)) else none) else (bif Nat.beq pc 73 then some (.inl (oS 1 (s_push (.int 1)))) else none))) else (bif Nat.ble pc 74 then (bif Nat.beq pc 74 then some (.inl (o_is 3 1)) else none) else (bif Nat.ble pc 75 then (bif Nat.beq pc 75 then some (.inl (o_il 4 2)) else none) else (bif Nat.beq pc 77 then some (.inl (oS 1 (s_push (.int 1)))) else none))))))) else (bif Nat.ble pc 116 then (bif Nat.ble pc 95 then (bif Nat.ble pc 86 then (bif Nat.ble pc 79 then (bif Nat.ble pc 78 then (bif Nat.beq pc 78 then some (.inl (oS 1 (s_ii (fun a b => a + b)))) else none) else (bif Nat.beq pc 79 then some (.inl (o_al 0 1)) else none)) else (bif Nat.ble pc 80 then (bif Nat.beq pc 80 then some (.inl (o_gI 11 43)) else none) else (bif Nat.ble pc 83 then (bif Nat.beq pc 83 then some (.inl (o_cge 145)) else none) else (bif Nat.beq pc 86 then some (.inl (o_al 0 1)) else none)))) else (bif Nat.ble pc 92 then (bif Nat.ble pc 87 then (bif Nat.beq pc 87 then some (.inl (o_gP 11 42)) else none) else (bif Nat.ble pc 90 then (bif Nat.beq pc 90 then some (.inl (o_il 4 2)) else none) else (bif Nat.beq pc 92 then some (.inl (oS 1 (s_push (.int 1)))) else none))) else (bif Nat.ble pc 93 then (bif Nat.beq pc 93 then some (.inl (oS 1 (s_ii (fun a b => a + b)))) else none) else (bif Nat.ble pc 94 then (bif Nat.beq pc 94 then some (.inl (o_bald)) else none) else (bif Nat.beq pc 95 then some (.inl (o_zne 145)) else none))))) else (bif Nat.ble pc 105 then (bif Nat.ble pc 101 then (bif Nat.ble pc 98 then (bif Nat.beq pc 98 then some (.inl (o_il 5 2)) else none) else (bif Nat.ble pc 100 then (bif Nat.beq pc 100 then some (.inl (o_al 0 1)) else none) else (bif Nat.beq pc 101 then some (.inl (o_il 4 2)) else none))) else (bif Nat.ble pc 103 then (bif Nat.beq pc 103 then some (.inl (oS 1 (s_push (.int 1)))) else none) else (bif Nat.ble pc 104 then (bif Nat.beq pc 104 then some (.inl (oS 1 (s_ii (fun a b => a + b)))) else none) else (bif Nat.beq pc 105 then some (.inl (o_il 1 1)) else none)))) else (bif Nat.ble pc 110 then (bif Nat.ble pc 106 then (bif Nat.beq pc 106 then some (.inl (o_il 2 1)) else none) else (bif Nat.ble pc 107 then (bif Nat.beq pc 107 then some (.inr (3, 138, 4, 11)) else none) else (bif Nat.beq pc 110 then some (.inl (o_ceq 145)) else none))) else (bif Nat.ble pc 113 then (bif Nat.beq pc 113 then some (.inl (o_al 0 1)) else none) else (bif Nat.ble pc 114 then (bif Nat.beq pc 114 then some (.inl (o_il 4 2)) else none) else (bif Nat.beq pc 116 then some (.inl (o_il 4 2)) else none)))))) else (bif Nat.ble pc 134 then (bif Nat.ble pc 122 then (bif Nat.ble pc 119 then (bif Nat.ble pc 118 then (bif Nat.beq pc 118 then some (.inl (oS 1 (s_push (.int 1)))) else none) else (bif Nat.beq pc 119 then some (.inl (oS 1 (s_ii (fun a b => a + b)))) else none)) else (bif Nat.ble pc 120 then (bif Nat.beq pc 120 then some (.inl (o_il 1 1)) else none) else (bif Nat.ble pc 121 then (bif Nat.beq pc 121 then some (.inl (o_il 2 1)) else none) else (bif Nat.beq pc 122 then some (.inl (o_il 3 1)) else none)))) else (bif Nat.ble pc 127 then (bif Nat.ble pc 123 then (bif Nat.beq pc 123 then some (.inl (o_zne 130)) else none) else (bif Nat.ble pc 126 then (bif Nat.beq pc 126 then some (.inl (oS 1 (s_push (.int 1)))) else none) else (bif Nat.beq pc 127 then some (.inl (o_goto 131)) else none))) else (bif Nat.ble pc 130 then (bif Nat.beq pc 130 then some (.inl (oS 1 (s_push (.int 0)))) else none) else (bif Nat.ble pc 131 then (bif Nat.beq pc 131 then some (.inr (3, 141, 6, 11)) else none) else (bif Nat.beq pc 134 then some (.inl (o_il 5 2)) else none))))) else (bif Nat.ble pc 145 then (bif Nat.ble pc 140 then (bif Nat.ble pc 136 then (bif Nat.beq pc 136 then some (.inl (o_zne 143)) else none) else (bif Nat.ble pc 139 then (bif Nat.beq pc 139 then some (.inl (oS 1 (s_push (.int 1)))) else none) else (bif Nat.beq pc 140 then some (.inl (o_goto 144)) else none))) else (bif Nat.ble pc 143 then (bif Nat.beq pc 143 then some (.inl (oS 1 (s_push (.int 0)))) else none) else (bif Nat.ble pc 144 then (bif Nat.beq pc 144 then some (.inl (o_is 3 1)) else none) else (bif Nat.beq pc 145 then some (.inl (o_inc 4 1)) else none)))) else (bif Nat.ble pc 152 then (bif Nat.ble pc 148 then (bif Nat.beq pc 148 then some (.inl (o_goto 10)) else none) else (bif Nat.ble pc 151 then (bif Nat.beq pc 151 then some (.inl (o_al 0 1)) else none) else (bif Nat.beq pc 152 then some (.inr (3, 135, 1, 11)) else none))) else (bif Nat.ble pc 155 then (bif Nat.beq pc 155 then some (.inl (o_al 0 1)) else none) else (bif Nat.ble pc 156 then (bif Nat.beq pc 156 then some (.inr (3, 137, 1, 11)) else none) else (bif Nat.beq pc 159 then some (.inr (0, 0, 0, 3)) else none)))))))
theorem k_142_0 : mOk M_142.1 M_142.2.1 M_142.2.2.1 M_142.2.2.2 0 (o_al 0 1) := ok_aload_n dX11_cutLine_0 rfl
theorem k_142_1 : mOk M_142.1 M_142.2.1 M_142.2.2.1 M_142.2.2.2 1 (oS 1 (s_push (.int 0))) := ok_iconst dX11_cutLine_1 (by decide)
theorem k_142_2 : mOk M_142.1 M_142.2.1 M_142.2.2.1 M_142.2.2.2 2 (o_pI 11 47) := ok_pI dX11_cutLine_2 (mFw_of f_RX11_197_c (Or.inl rfl)) rfl
theorem k_142_5 : mOk M_142.1 M_142.2.1 M_142.2.2.1 M_142.2.2.2 5 (oS 1 (s_push (.int 0))) := ok_iconst dX11_cutLine_5 (by decide)
theorem k_142_6 : mOk M_142.1 M_142.2.1 M_142.2.2.1 M_142.2.2.2 6 (o_is 3 1) := ok_istore_n dX11_cutLine_6 rfl
theorem k_142_7 : mOk M_142.1 M_142.2.1 M_142.2.2.1 M_142.2.2.2 7 (oS 1 (s_push (.int 0))) := ok_iconst dX11_cutLine_7 (by decide)
theorem k_142_8 : mOk M_142.1 M_142.2.1 M_142.2.2.1 M_142.2.2.2 8 (o_is 4 2) := ok_istore dX11_cutLine_8
theorem k_142_10 : mOk M_142.1 M_142.2.1 M_142.2.2.1 M_142.2.2.2 10 (o_il 4 2) := ok_iload dX11_cutLine_10
theorem k_142_12 : mOk M_142.1 M_142.2.1 M_142.2.2.1 M_142.2.2.2 12 (o_al 0 1) := ok_aload_n dX11_cutLine_12 rfl
theorem k_142_13 : mOk M_142.1 M_142.2.1 M_142.2.2.1 M_142.2.2.2 13 (o_gI 11 43) := ok_gI dX11_cutLine_13 f_RX11_191 (Or.inl rfl)
theorem k_142_16 : mOk M_142.1 M_142.2.1 M_142.2.2.1 M_142.2.2.2 16 (o_cge 151) := ok_cge dX11_cutLine_16 (by decide)
theorem k_142_19 : mOk M_142.1 M_142.2.1 M_142.2.2.1 M_142.2.2.2 19 (o_al 0 1) := ok_aload_n dX11_cutLine_19 rfl
theorem k_142_20 : mOk M_142.1 M_142.2.1 M_142.2.2.1 M_142.2.2.2 20 (o_il 4 2) := ok_iload dX11_cutLine_20
theorem k_142_22 : mOk M_142.1 M_142.2.1 M_142.2.2.1 M_142.2.2.2 22 (o_il 1 1) := ok_iload_n dX11_cutLine_22 rfl
theorem k_142_23 : mOk M_142.1 M_142.2.1 M_142.2.2.1 M_142.2.2.2 23 (o_il 2 1) := ok_iload_n dX11_cutLine_23 rfl
theorem k_142_27 : mOk M_142.1 M_142.2.1 M_142.2.2.1 M_142.2.2.2 27 (o_is 5 2) := ok_istore dX11_cutLine_27
theorem k_142_29 : mOk M_142.1 M_142.2.1 M_142.2.2.1 M_142.2.2.2 29 (o_al 0 1) := ok_aload_n dX11_cutLine_29 rfl
theorem k_142_30 : mOk M_142.1 M_142.2.1 M_142.2.2.1 M_142.2.2.2 30 (o_gP 11 42) := ok_gP dX11_cutLine_30 f_RX11_118 rfl
theorem k_142_33 : mOk M_142.1 M_142.2.1 M_142.2.2.1 M_142.2.2.2 33 (o_il 4 2) := ok_iload dX11_cutLine_33
theorem k_142_35 : mOk M_142.1 M_142.2.1 M_142.2.2.1 M_142.2.2.2 35 (o_bald) := ok_bald dX11_cutLine_35
theorem k_142_36 : mOk M_142.1 M_142.2.1 M_142.2.2.1 M_142.2.2.2 36 (o_zeq 41) := ok_zeq dX11_cutLine_36 (by decide)
theorem k_142_39 : mOk M_142.1 M_142.2.1 M_142.2.2.1 M_142.2.2.2 39 (oS 1 (s_push (.int 0))) := ok_iconst dX11_cutLine_39 (by decide)
theorem k_142_40 : mOk M_142.1 M_142.2.1 M_142.2.2.1 M_142.2.2.2 40 (o_is 3 1) := ok_istore_n dX11_cutLine_40 rfl
theorem k_142_41 : mOk M_142.1 M_142.2.1 M_142.2.2.1 M_142.2.2.2 41 (o_il 5 2) := ok_iload dX11_cutLine_41
theorem k_142_43 : mOk M_142.1 M_142.2.1 M_142.2.2.1 M_142.2.2.2 43 (o_zeq 75) := ok_zeq dX11_cutLine_43 (by decide)
theorem k_142_46 : mOk M_142.1 M_142.2.1 M_142.2.2.1 M_142.2.2.2 46 (o_al 0 1) := ok_aload_n dX11_cutLine_46 rfl
theorem k_142_47 : mOk M_142.1 M_142.2.1 M_142.2.2.1 M_142.2.2.2 47 (o_al 0 1) := ok_aload_n dX11_cutLine_47 rfl
theorem k_142_48 : mOk M_142.1 M_142.2.1 M_142.2.2.1 M_142.2.2.2 48 (o_gP 11 40) := ok_gP dX11_cutLine_48 f_RX11_112 rfl
theorem k_142_51 : mOk M_142.1 M_142.2.1 M_142.2.2.1 M_142.2.2.2 51 (o_il 4 2) := ok_iload dX11_cutLine_51
theorem k_142_53 : mOk M_142.1 M_142.2.1 M_142.2.2.1 M_142.2.2.2 53 (o_iald) := ok_iald dX11_cutLine_53
theorem k_142_54 : mOk M_142.1 M_142.2.1 M_142.2.2.1 M_142.2.2.2 54 (o_al 0 1) := ok_aload_n dX11_cutLine_54 rfl
theorem k_142_55 : mOk M_142.1 M_142.2.1 M_142.2.2.1 M_142.2.2.2 55 (o_gP 11 41) := ok_gP dX11_cutLine_55 f_RX11_115 rfl
theorem k_142_58 : mOk M_142.1 M_142.2.1 M_142.2.2.1 M_142.2.2.2 58 (o_il 4 2) := ok_iload dX11_cutLine_58
theorem k_142_60 : mOk M_142.1 M_142.2.1 M_142.2.2.1 M_142.2.2.2 60 (o_iald) := ok_iald dX11_cutLine_60
theorem k_142_61 : mOk M_142.1 M_142.2.1 M_142.2.2.1 M_142.2.2.2 61 (o_il 3 1) := ok_iload_n dX11_cutLine_61 rfl
theorem k_142_62 : mOk M_142.1 M_142.2.1 M_142.2.2.1 M_142.2.2.2 62 (o_zne 69) := ok_zne dX11_cutLine_62 (by decide)
theorem k_142_65 : mOk M_142.1 M_142.2.1 M_142.2.2.1 M_142.2.2.2 65 (oS 1 (s_push (.int 1))) := ok_iconst dX11_cutLine_65 (by decide)
theorem k_142_66 : mOk M_142.1 M_142.2.1 M_142.2.2.1 M_142.2.2.2 66 (o_goto 70) := ok_goto dX11_cutLine_66 (by decide)
theorem k_142_69 : mOk M_142.1 M_142.2.1 M_142.2.2.1 M_142.2.2.2 69 (oS 1 (s_push (.int 0))) := ok_iconst dX11_cutLine_69 (by decide)
theorem k_142_73 : mOk M_142.1 M_142.2.1 M_142.2.2.1 M_142.2.2.2 73 (oS 1 (s_push (.int 1))) := ok_iconst dX11_cutLine_73 (by decide)
theorem k_142_74 : mOk M_142.1 M_142.2.1 M_142.2.2.1 M_142.2.2.2 74 (o_is 3 1) := ok_istore_n dX11_cutLine_74 rfl
theorem k_142_75 : mOk M_142.1 M_142.2.1 M_142.2.2.1 M_142.2.2.2 75 (o_il 4 2) := ok_iload dX11_cutLine_75
theorem k_142_77 : mOk M_142.1 M_142.2.1 M_142.2.2.1 M_142.2.2.2 77 (oS 1 (s_push (.int 1))) := ok_iconst dX11_cutLine_77 (by decide)
theorem k_142_78 : mOk M_142.1 M_142.2.1 M_142.2.2.1 M_142.2.2.2 78 (oS 1 (s_ii (fun a b => a + b))) := ok_iadd dX11_cutLine_78
theorem k_142_79 : mOk M_142.1 M_142.2.1 M_142.2.2.1 M_142.2.2.2 79 (o_al 0 1) := ok_aload_n dX11_cutLine_79 rfl
theorem k_142_80 : mOk M_142.1 M_142.2.1 M_142.2.2.1 M_142.2.2.2 80 (o_gI 11 43) := ok_gI dX11_cutLine_80 f_RX11_191 (Or.inl rfl)
theorem k_142_83 : mOk M_142.1 M_142.2.1 M_142.2.2.1 M_142.2.2.2 83 (o_cge 145) := ok_cge dX11_cutLine_83 (by decide)
theorem k_142_86 : mOk M_142.1 M_142.2.1 M_142.2.2.1 M_142.2.2.2 86 (o_al 0 1) := ok_aload_n dX11_cutLine_86 rfl
theorem k_142_87 : mOk M_142.1 M_142.2.1 M_142.2.2.1 M_142.2.2.2 87 (o_gP 11 42) := ok_gP dX11_cutLine_87 f_RX11_118 rfl
theorem k_142_90 : mOk M_142.1 M_142.2.1 M_142.2.2.1 M_142.2.2.2 90 (o_il 4 2) := ok_iload dX11_cutLine_90
theorem k_142_92 : mOk M_142.1 M_142.2.1 M_142.2.2.1 M_142.2.2.2 92 (oS 1 (s_push (.int 1))) := ok_iconst dX11_cutLine_92 (by decide)
theorem k_142_93 : mOk M_142.1 M_142.2.1 M_142.2.2.1 M_142.2.2.2 93 (oS 1 (s_ii (fun a b => a + b))) := ok_iadd dX11_cutLine_93
theorem k_142_94 : mOk M_142.1 M_142.2.1 M_142.2.2.1 M_142.2.2.2 94 (o_bald) := ok_bald dX11_cutLine_94
theorem k_142_95 : mOk M_142.1 M_142.2.1 M_142.2.2.1 M_142.2.2.2 95 (o_zne 145) := ok_zne dX11_cutLine_95 (by decide)
theorem k_142_98 : mOk M_142.1 M_142.2.1 M_142.2.2.1 M_142.2.2.2 98 (o_il 5 2) := ok_iload dX11_cutLine_98
theorem k_142_100 : mOk M_142.1 M_142.2.1 M_142.2.2.1 M_142.2.2.2 100 (o_al 0 1) := ok_aload_n dX11_cutLine_100 rfl
theorem k_142_101 : mOk M_142.1 M_142.2.1 M_142.2.2.1 M_142.2.2.2 101 (o_il 4 2) := ok_iload dX11_cutLine_101
theorem k_142_103 : mOk M_142.1 M_142.2.1 M_142.2.2.1 M_142.2.2.2 103 (oS 1 (s_push (.int 1))) := ok_iconst dX11_cutLine_103 (by decide)
theorem k_142_104 : mOk M_142.1 M_142.2.1 M_142.2.2.1 M_142.2.2.2 104 (oS 1 (s_ii (fun a b => a + b))) := ok_iadd dX11_cutLine_104
theorem k_142_105 : mOk M_142.1 M_142.2.1 M_142.2.2.1 M_142.2.2.2 105 (o_il 1 1) := ok_iload_n dX11_cutLine_105 rfl
theorem k_142_106 : mOk M_142.1 M_142.2.1 M_142.2.2.1 M_142.2.2.2 106 (o_il 2 1) := ok_iload_n dX11_cutLine_106 rfl
theorem k_142_110 : mOk M_142.1 M_142.2.1 M_142.2.2.1 M_142.2.2.2 110 (o_ceq 145) := ok_ceq dX11_cutLine_110 (by decide)
theorem k_142_113 : mOk M_142.1 M_142.2.1 M_142.2.2.1 M_142.2.2.2 113 (o_al 0 1) := ok_aload_n dX11_cutLine_113 rfl
theorem k_142_114 : mOk M_142.1 M_142.2.1 M_142.2.2.1 M_142.2.2.2 114 (o_il 4 2) := ok_iload dX11_cutLine_114
theorem k_142_116 : mOk M_142.1 M_142.2.1 M_142.2.2.1 M_142.2.2.2 116 (o_il 4 2) := ok_iload dX11_cutLine_116
theorem k_142_118 : mOk M_142.1 M_142.2.1 M_142.2.2.1 M_142.2.2.2 118 (oS 1 (s_push (.int 1))) := ok_iconst dX11_cutLine_118 (by decide)
theorem k_142_119 : mOk M_142.1 M_142.2.1 M_142.2.2.1 M_142.2.2.2 119 (oS 1 (s_ii (fun a b => a + b))) := ok_iadd dX11_cutLine_119
theorem k_142_120 : mOk M_142.1 M_142.2.1 M_142.2.2.1 M_142.2.2.2 120 (o_il 1 1) := ok_iload_n dX11_cutLine_120 rfl
theorem k_142_121 : mOk M_142.1 M_142.2.1 M_142.2.2.1 M_142.2.2.2 121 (o_il 2 1) := ok_iload_n dX11_cutLine_121 rfl
theorem k_142_122 : mOk M_142.1 M_142.2.1 M_142.2.2.1 M_142.2.2.2 122 (o_il 3 1) := ok_iload_n dX11_cutLine_122 rfl
theorem k_142_123 : mOk M_142.1 M_142.2.1 M_142.2.2.1 M_142.2.2.2 123 (o_zne 130) := ok_zne dX11_cutLine_123 (by decide)
theorem k_142_126 : mOk M_142.1 M_142.2.1 M_142.2.2.1 M_142.2.2.2 126 (oS 1 (s_push (.int 1))) := ok_iconst dX11_cutLine_126 (by decide)
theorem k_142_127 : mOk M_142.1 M_142.2.1 M_142.2.2.1 M_142.2.2.2 127 (o_goto 131) := ok_goto dX11_cutLine_127 (by decide)
theorem k_142_130 : mOk M_142.1 M_142.2.1 M_142.2.2.1 M_142.2.2.2 130 (oS 1 (s_push (.int 0))) := ok_iconst dX11_cutLine_130 (by decide)
theorem k_142_134 : mOk M_142.1 M_142.2.1 M_142.2.2.1 M_142.2.2.2 134 (o_il 5 2) := ok_iload dX11_cutLine_134
theorem k_142_136 : mOk M_142.1 M_142.2.1 M_142.2.2.1 M_142.2.2.2 136 (o_zne 143) := ok_zne dX11_cutLine_136 (by decide)
theorem k_142_139 : mOk M_142.1 M_142.2.1 M_142.2.2.1 M_142.2.2.2 139 (oS 1 (s_push (.int 1))) := ok_iconst dX11_cutLine_139 (by decide)
theorem k_142_140 : mOk M_142.1 M_142.2.1 M_142.2.2.1 M_142.2.2.2 140 (o_goto 144) := ok_goto dX11_cutLine_140 (by decide)
theorem k_142_143 : mOk M_142.1 M_142.2.1 M_142.2.2.1 M_142.2.2.2 143 (oS 1 (s_push (.int 0))) := ok_iconst dX11_cutLine_143 (by decide)
theorem k_142_144 : mOk M_142.1 M_142.2.1 M_142.2.2.1 M_142.2.2.2 144 (o_is 3 1) := ok_istore_n dX11_cutLine_144 rfl
theorem k_142_145 : mOk M_142.1 M_142.2.1 M_142.2.2.1 M_142.2.2.2 145 (o_inc 4 1) := ok_iinc dX11_cutLine_145 (by decide)
theorem k_142_148 : mOk M_142.1 M_142.2.1 M_142.2.2.1 M_142.2.2.2 148 (o_goto 10) := ok_goto dX11_cutLine_148 (by decide)
theorem k_142_151 : mOk M_142.1 M_142.2.1 M_142.2.2.1 M_142.2.2.2 151 (o_al 0 1) := ok_aload_n dX11_cutLine_151 rfl
theorem k_142_155 : mOk M_142.1 M_142.2.1 M_142.2.2.1 M_142.2.2.2 155 (o_al 0 1) := ok_aload_n dX11_cutLine_155 rfl
set_option maxRecDepth 20000 in
set_option maxHeartbeats 4000000 in
theorem tk_142 (l : Launch) (H9 : mThr l) (H10 : mSpl l) (pc : Nat) (q : mEnt) (h : tb_142 pc = some q) : EE l 142 pc q := nd h (fun h => nd h (fun h => nd h (fun h => nd h (fun h => nd h (fun h => nd h (fun h => lf (P := EE l 142) h k_142_0) (fun h => lf (P := EE l 142) h k_142_1)) (fun h => nd h (fun h => lf (P := EE l 142) h k_142_2) (fun h => nd h (fun h => lf (P := EE l 142) h k_142_5) (fun h => lf (P := EE l 142) h k_142_6)))) (fun h => nd h (fun h => nd h (fun h => lf (P := EE l 142) h k_142_7) (fun h => nd h (fun h => lf (P := EE l 142) h k_142_8) (fun h => lf (P := EE l 142) h k_142_10))) (fun h => nd h (fun h => lf (P := EE l 142) h k_142_12) (fun h => nd h (fun h => lf (P := EE l 142) h k_142_13) (fun h => lf (P := EE l 142) h k_142_16))))) (fun h => nd h (fun h => nd h (fun h => nd h (fun h => lf (P := EE l 142) h k_142_19) (fun h => lf (P := EE l 142) h k_142_20)) (fun h => nd h (fun h => lf (P := EE l 142) h k_142_22) (fun h => nd h (fun h => lf (P := EE l 142) h k_142_23) (fun h => lf (P := EE l 142) h (EE_ca (by decide) (⟨m_1313, m_81, ⟨by decide, by decide⟩, by decide +kernel, ⟨by decide, by decide⟩, 217, 3, by decide +kernel, Or.inr (Or.inr (Or.inl ⟨rfl, rfl, dX11_cutLine_24, m_1310, m_1312, _, rfl, by decide, m_45⟩))⟩) rfl))))) (fun h => nd h (fun h => nd h (fun h => lf (P := EE l 142) h k_142_27) (fun h => nd h (fun h => lf (P := EE l 142) h k_142_29) (fun h => lf (P := EE l 142) h k_142_30))) (fun h => nd h (fun h => lf (P := EE l 142) h k_142_33) (fun h => nd h (fun h => lf (P := EE l 142) h k_142_35) (fun h => lf (P := EE l 142) h k_142_36)))))) (fun h => nd h (fun h => nd h (fun h => nd h (fun h => nd h (fun h => lf (P := EE l 142) h k_142_39) (fun h => lf (P := EE l 142) h k_142_40)) (fun h => nd h (fun h => lf (P := EE l 142) h k_142_41) (fun h => nd h (fun h => lf (P := EE l 142) h k_142_43) (fun h => lf (P := EE l 142) h k_142_46)))) (fun h => nd h (fun h => nd h (fun h => lf (P := EE l 142) h k_142_47) (fun h => nd h (fun h => lf (P := EE l 142) h k_142_48) (fun h => lf (P := EE l 142) h k_142_51))) (fun h => nd h (fun h => lf (P := EE l 142) h k_142_53) (fun h => nd h (fun h => lf (P := EE l 142) h k_142_54) (fun h => lf (P := EE l 142) h k_142_55))))) (fun h => nd h (fun h => nd h (fun h => nd h (fun h => lf (P := EE l 142) h k_142_58) (fun h => nd h (fun h => lf (P := EE l 142) h k_142_60) (fun h => lf (P := EE l 142) h k_142_61))) (fun h => nd h (fun h => lf (P := EE l 142) h k_142_62) (fun h => nd h (fun h => lf (P := EE l 142) h k_142_65) (fun h => lf (P := EE l 142) h k_142_66)))) (fun h => nd h (fun h => nd h (fun h => lf (P := EE l 142) h k_142_69) (fun h => nd h (fun h => lf (P := EE l 142) h (EE_ca (by decide) (⟨m_1305, m_81, ⟨by decide, by decide⟩, by decide +kernel, ⟨by decide, by decide⟩, 200, 3, by decide +kernel, Or.inr (Or.inr (Or.inl ⟨rfl, rfl, dX11_cutLine_70, m_1302, m_1304, _, rfl, by decide, m_43⟩))⟩) rfl)) (fun h => lf (P := EE l 142) h k_142_73))) (fun h => nd h (fun h => lf (P := EE l 142) h k_142_74) (fun h => nd h (fun h => lf (P := EE l 142) h k_142_75) (fun h => lf (P := EE l 142) h k_142_77))))))) (fun h => nd h (fun h => nd h (fun h => nd h (fun h => nd h (fun h => nd h (fun h => lf (P := EE l 142) h k_142_78) (fun h => lf (P := EE l 142) h k_142_79)) (fun h => nd h (fun h => lf (P := EE l 142) h k_142_80) (fun h => nd h (fun h => lf (P := EE l 142) h k_142_83) (fun h => lf (P := EE l 142) h k_142_86)))) (fun h => nd h (fun h => nd h (fun h => lf (P := EE l 142) h k_142_87) (fun h => nd h (fun h => lf (P := EE l 142) h k_142_90) (fun h => lf (P := EE l 142) h k_142_92))) (fun h => nd h (fun h => lf (P := EE l 142) h k_142_93) (fun h => nd h (fun h => lf (P := EE l 142) h k_142_94) (fun h => lf (P := EE l 142) h k_142_95))))) (fun h => nd h (fun h => nd h (fun h => nd h (fun h => lf (P := EE l 142) h k_142_98) (fun h => nd h (fun h => lf (P := EE l 142) h k_142_100) (fun h => lf (P := EE l 142) h k_142_101))) (fun h => nd h (fun h => lf (P := EE l 142) h k_142_103) (fun h => nd h (fun h => lf (P := EE l 142) h k_142_104) (fun h => lf (P := EE l 142) h k_142_105)))) (fun h => nd h (fun h => nd h (fun h => lf (P := EE l 142) h k_142_106) (fun h => nd h (fun h => lf (P := EE l 142) h (EE_ca (by decide) (⟨m_1313, m_81, ⟨by decide, by decide⟩, by decide +kernel, ⟨by decide, by decide⟩, 217, 3, by decide +kernel, Or.inr (Or.inr (Or.inl ⟨rfl, rfl, dX11_cutLine_107, m_1310, m_1312, _, rfl, by decide, m_45⟩))⟩) rfl)) (fun h => lf (P := EE l 142) h k_142_110))) (fun h => nd h (fun h => lf (P := EE l 142) h k_142_113) (fun h => nd h (fun h => lf (P := EE l 142) h k_142_114) (fun h => lf (P := EE l 142) h k_142_116)))))) (fun h => nd h (fun h => nd h (fun h => nd h (fun h => nd h (fun h => lf (P := EE l 142) h k_142_118) (fun h => lf (P := EE l 142) h k_142_119)) (fun h => nd h (fun h => lf (P := EE l 142) h k_142_120) (fun h => nd h (fun h => lf (P := EE l 142) h k_142_121) (fun h => lf (P := EE l 142) h k_142_122)))) (fun h => nd h (fun h => nd h (fun h => lf (P := EE l 142) h k_142_123) (fun h => nd h (fun h => lf (P := EE l 142) h k_142_126) (fun h => lf (P := EE l 142) h k_142_127))) (fun h => nd h (fun h => lf (P := EE l 142) h k_142_130) (fun h => nd h (fun h => lf (P := EE l 142) h (EE_ca (by decide) (⟨m_1321, m_81, ⟨by decide, by decide⟩, by decide +kernel, ⟨by decide, by decide⟩, 220, 5, by decide +kernel, Or.inr (Or.inr (Or.inl ⟨rfl, rfl, dX11_cutLine_131, m_1318, m_1320, _, rfl, by decide, m_47⟩))⟩) rfl)) (fun h => lf (P := EE l 142) h k_142_134))))) (fun h => nd h (fun h => nd h (fun h => nd h (fun h => lf (P := EE l 142) h k_142_136) (fun h => nd h (fun h => lf (P := EE l 142) h k_142_139) (fun h => lf (P := EE l 142) h k_142_140))) (fun h => nd h (fun h => lf (P := EE l 142) h k_142_143) (fun h => nd h (fun h => lf (P := EE l 142) h k_142_144) (fun h => lf (P := EE l 142) h k_142_145)))) (fun h => nd h (fun h => nd h (fun h => lf (P := EE l 142) h k_142_148) (fun h => nd h (fun h => lf (P := EE l 142) h k_142_151) (fun h => lf (P := EE l 142) h (EE_ca (by decide) (⟨m_1309, m_81, ⟨by decide, by decide⟩, by decide +kernel, ⟨by decide, by decide⟩, 204, 0, by decide +kernel, Or.inr (Or.inr (Or.inl ⟨rfl, rfl, dX11_cutLine_152, m_1306, m_1308, _, rfl, by decide, m_44⟩))⟩) rfl)))) (fun h => nd h (fun h => lf (P := EE l 142) h k_142_155) (fun h => nd h (fun h => lf (P := EE l 142) h (EE_ca (by decide) (⟨m_1336, m_81, ⟨by decide, by decide⟩, by decide +kernel, ⟨by decide, by decide⟩, 224, 0, by decide +kernel, Or.inr (Or.inr (Or.inl ⟨rfl, rfl, dX11_cutLine_156, m_1333, m_1335, _, rfl, by decide, m_49⟩))⟩) rfl)) (fun h => lf (P := EE l 142) h (EE_re (Or.inr (Or.inr (Or.inr (Or.inr ⟨rfl, dX11_cutLine_159, rfl⟩))))))))))))
theorem dX11_cutRing_0 : decode cX11_cutRing 0 = .ok (.aload_n 0, 1) := by decide +kernel
theorem dX11_cutRing_1 : decode cX11_cutRing 1 = .ok (.iconst 0, 1) := by decide +kernel
theorem dX11_cutRing_2 : decode cX11_cutRing 2 = .ok (.putfield 197, 3) := by decide +kernel
theorem dX11_cutRing_5 : decode cX11_cutRing 5 = .ok (.iconst 0, 1) := by decide +kernel
theorem dX11_cutRing_6 : decode cX11_cutRing 6 = .ok (.istore_n 3, 1) := by decide +kernel
theorem dX11_cutRing_7 : decode cX11_cutRing 7 = .ok (.iload_n 3, 1) := by decide +kernel
theorem dX11_cutRing_8 : decode cX11_cutRing 8 = .ok (.aload_n 0, 1) := by decide +kernel
theorem dX11_cutRing_9 : decode cX11_cutRing 9 = .ok (.getfield 191, 3) := by decide +kernel
theorem dX11_cutRing_12 : decode cX11_cutRing 12 = .ok (.if_icmp .ge 95, 3) := by decide +kernel
theorem dX11_cutRing_15 : decode cX11_cutRing 15 = .ok (.iload_n 3, 1) := by decide +kernel
theorem dX11_cutRing_16 : decode cX11_cutRing 16 = .ok (.iconst 1, 1) := by decide +kernel
theorem dX11_cutRing_17 : decode cX11_cutRing 17 = .ok (.iadd, 1) := by decide +kernel
theorem dX11_cutRing_18 : decode cX11_cutRing 18 = .ok (.aload_n 0, 1) := by decide +kernel
theorem dX11_cutRing_19 : decode cX11_cutRing 19 = .ok (.getfield 191, 3) := by decide +kernel
theorem dX11_cutRing_22 : decode cX11_cutRing 22 = .ok (.irem, 1) := by decide +kernel
theorem dX11_cutRing_23 : decode cX11_cutRing 23 = .ok (.istore 4, 2) := by decide +kernel
theorem dX11_cutRing_25 : decode cX11_cutRing 25 = .ok (.aload_n 0, 1) := by decide +kernel
theorem dX11_cutRing_26 : decode cX11_cutRing 26 = .ok (.iload_n 3, 1) := by decide +kernel
theorem dX11_cutRing_27 : decode cX11_cutRing 27 = .ok (.iload_n 1, 1) := by decide +kernel
theorem dX11_cutRing_28 : decode cX11_cutRing 28 = .ok (.iload_n 2, 1) := by decide +kernel
theorem dX11_cutRing_29 : decode cX11_cutRing 29 = .ok (.invokevirtual 217, 3) := by decide +kernel
theorem dX11_cutRing_32 : decode cX11_cutRing 32 = .ok (.istore 5, 2) := by decide +kernel
theorem dX11_cutRing_34 : decode cX11_cutRing 34 = .ok (.iload 5, 2) := by decide +kernel
theorem dX11_cutRing_36 : decode cX11_cutRing 36 = .ok (.ifCond .eq 31, 3) := by decide +kernel
theorem dX11_cutRing_39 : decode cX11_cutRing 39 = .ok (.aload_n 0, 1) := by decide +kernel
theorem dX11_cutRing_40 : decode cX11_cutRing 40 = .ok (.aload_n 0, 1) := by decide +kernel
theorem dX11_cutRing_41 : decode cX11_cutRing 41 = .ok (.getfield 112, 3) := by decide +kernel
theorem dX11_cutRing_44 : decode cX11_cutRing 44 = .ok (.iload_n 3, 1) := by decide +kernel
theorem dX11_cutRing_45 : decode cX11_cutRing 45 = .ok (.iaload, 1) := by decide +kernel
theorem dX11_cutRing_46 : decode cX11_cutRing 46 = .ok (.aload_n 0, 1) := by decide +kernel
theorem dX11_cutRing_47 : decode cX11_cutRing 47 = .ok (.getfield 115, 3) := by decide +kernel
theorem dX11_cutRing_50 : decode cX11_cutRing 50 = .ok (.iload_n 3, 1) := by decide +kernel
theorem dX11_cutRing_51 : decode cX11_cutRing 51 = .ok (.iaload, 1) := by decide +kernel
theorem dX11_cutRing_52 : decode cX11_cutRing 52 = .ok (.aload_n 0, 1) := by decide +kernel
theorem dX11_cutRing_53 : decode cX11_cutRing 53 = .ok (.getfield 197, 3) := by decide +kernel
theorem dX11_cutRing_56 : decode cX11_cutRing 56 = .ok (.ifCond .ne 7, 3) := by decide +kernel
theorem dX11_cutRing_59 : decode cX11_cutRing 59 = .ok (.iconst 1, 1) := by decide +kernel
theorem dX11_cutRing_60 : decode cX11_cutRing 60 = .ok (.goto 4, 3) := by decide +kernel
theorem dX11_cutRing_63 : decode cX11_cutRing 63 = .ok (.iconst 0, 1) := by decide +kernel
theorem dX11_cutRing_64 : decode cX11_cutRing 64 = .ok (.invokevirtual 200, 3) := by decide +kernel
theorem dX11_cutRing_67 : decode cX11_cutRing 67 = .ok (.iload 5, 2) := by decide +kernel
theorem dX11_cutRing_69 : decode cX11_cutRing 69 = .ok (.aload_n 0, 1) := by decide +kernel
theorem dX11_cutRing_70 : decode cX11_cutRing 70 = .ok (.iload 4, 2) := by decide +kernel
theorem dX11_cutRing_72 : decode cX11_cutRing 72 = .ok (.iload_n 1, 1) := by decide +kernel
theorem dX11_cutRing_73 : decode cX11_cutRing 73 = .ok (.iload_n 2, 1) := by decide +kernel
theorem dX11_cutRing_74 : decode cX11_cutRing 74 = .ok (.invokevirtual 217, 3) := by decide +kernel
theorem dX11_cutRing_77 : decode cX11_cutRing 77 = .ok (.if_icmp .eq 24, 3) := by decide +kernel
theorem dX11_cutRing_80 : decode cX11_cutRing 80 = .ok (.aload_n 0, 1) := by decide +kernel
theorem dX11_cutRing_81 : decode cX11_cutRing 81 = .ok (.iload_n 3, 1) := by decide +kernel
theorem dX11_cutRing_82 : decode cX11_cutRing 82 = .ok (.iload 4, 2) := by decide +kernel
theorem dX11_cutRing_84 : decode cX11_cutRing 84 = .ok (.iload_n 1, 1) := by decide +kernel
theorem dX11_cutRing_85 : decode cX11_cutRing 85 = .ok (.iload_n 2, 1) := by decide +kernel
theorem dX11_cutRing_86 : decode cX11_cutRing 86 = .ok (.aload_n 0, 1) := by decide +kernel
theorem dX11_cutRing_87 : decode cX11_cutRing 87 = .ok (.getfield 197, 3) := by decide +kernel
theorem dX11_cutRing_90 : decode cX11_cutRing 90 = .ok (.ifCond .ne 7, 3) := by decide +kernel
theorem dX11_cutRing_93 : decode cX11_cutRing 93 = .ok (.iconst 1, 1) := by decide +kernel
theorem dX11_cutRing_94 : decode cX11_cutRing 94 = .ok (.goto 4, 3) := by decide +kernel
theorem dX11_cutRing_97 : decode cX11_cutRing 97 = .ok (.iconst 0, 1) := by decide +kernel
theorem dX11_cutRing_98 : decode cX11_cutRing 98 = .ok (.invokevirtual 220, 3) := by decide +kernel
theorem dX11_cutRing_101 : decode cX11_cutRing 101 = .ok (.iinc 3 1, 3) := by decide +kernel
theorem dX11_cutRing_104 : decode cX11_cutRing 104 = .ok (.goto (-97), 3) := by decide +kernel
theorem dX11_cutRing_107 : decode cX11_cutRing 107 = .ok (.aload_n 0, 1) := by decide +kernel
theorem dX11_cutRing_108 : decode cX11_cutRing 108 = .ok (.invokevirtual 204, 3) := by decide +kernel
theorem dX11_cutRing_111 : decode cX11_cutRing 111 = .ok (.return_, 1) := by decide +kernel
def tb_143 (pc : Nat) : Option mEnt := bif Nat.ble pc 50 then (bif Nat.ble pc 23 then (bif Nat.ble pc 9 then (bif Nat.ble pc 5 then (bif Nat.ble pc 1 then (bif Nat.ble pc 0 then (bif Nat.beq pc 0 then some (.inl (o_al 0 1)) else none) else (bif Nat.beq pc 1 then some (.inl (oS 1 (s_push (.int 0)))) else none)) else (bif Nat.ble pc 2 then (bif Nat.beq pc 2 then some (.inl (o_pI 11 47)) else none) else (bif Nat.beq pc 5 then some (.inl (oS 1 (s_push (.int 0)))) else none))) else (bif Nat.ble pc 7 then (bif Nat.ble pc 6 then (bif Nat.beq pc 6 then some (.inl (o_is 3 1)) else none) else (bif Nat.beq pc 7 then some (.inl (o_il 3 1)) else none)) else (bif Nat.ble pc 8 then (bif Nat.beq pc 8 then some (.inl (o_al 0 1)) else none) else (bif Nat.beq pc 9 then some (.inl (o_gI 11 43)) else none)))) else (bif Nat.ble pc 17 then (bif Nat.ble pc 15 then (bif Nat.ble pc 12 then (bif Nat.beq pc 12 then some (.inl (o_cge 107)) else none) else (bif Nat.beq pc 15 then some (.inl (o_il 3 1)) else none)) else (bif Nat.ble pc 16 then (bif Nat.beq pc 16 then some (.inl (oS 1 (s_push (.int 1)))) else none) else (bif Nat.beq pc 17 then some (.inl (oS 1 (s_ii (fun a b => a + b)))) else none))) else (bif Nat.ble pc 19 then (bif Nat.ble pc 18 then (bif Nat.beq pc 18 then some (.inl (o_al 0 1)) else none) else (bif Nat.beq pc 19 then some (.inl (o_gI 11 43)) else none)) else (bif Nat.ble pc 22 then (bif Nat.beq pc 22 then some (.inl (oS 1 (s_iiz (fun a b => a - a / b * b)))) else none) else (bif Nat.beq pc 23 then some (.inl (o_is 4 2)) else none))))) else (bif Nat.ble pc 36 then (bif Nat.ble pc 28 then (bif Nat.ble pc 26 then (bif Nat.ble pc 25 then (bif Nat.beq pc 25 then some (.inl (o_al 0 1)) else none) else (bif Nat.beq pc 26 then some (.inl (o_il 3 1)) else none)) else (bif Nat.ble pc 27 then (bif Nat.beq pc 27 then some (.inl (o_il 1 1)) else none) else (bif Nat.beq pc 28 then some (.inl (o_il 2 1)) else none))) else (bif Nat.ble pc 32 then (bif Nat.ble pc 29 then (bif Nat.beq pc 29 then some (.inr (3, 138, 4, 11)) else none) else (bif Nat.beq pc 32 then some (.inl (o_is 5 2)) else none)) else (bif Nat.ble pc 34 then (bif Nat.beq pc 34 then some (.inl (o_il 5 2)) else none) else (bif Nat.beq pc 36 then some (.inl (o_zeq 67)) else none)))) else (bif Nat.ble pc 44 then (bif Nat.ble pc 40 then (bif Nat.ble pc 39 then (bif Nat.beq pc 39 then some (.inl (o_al 0 1)) else none) else (bif Nat.beq pc 40 then some (.inl (o_al 0 1)) else none)) else (bif Nat.ble pc 41 then (bif Nat.beq pc 41 then some (.inl (o_gP 11 40)) else none) else (bif Nat.beq pc 44 then some (.inl (o_il 3 1)) else none))) else (bif Nat.ble pc 46 then (bif Nat.ble pc 45 then (bif Nat.beq pc 45 then some (.inl (o_iald)) else none) else (bif Nat.beq pc 46 then some (.inl (o_al 0 1)) else none)) else (bif Nat.ble pc 47 then (bif Nat.beq pc 47 then some (.inl (o_gP 11 41)) else none) else (bif Nat.beq pc 50 then some (.inl (o_il 3 1)) else none)))))) else (bif Nat.ble pc 80 then (bif Nat.ble pc 64 then (bif Nat.ble pc 56 then (bif Nat.ble pc 52 then (bif Nat.ble pc 51 then (bif Nat.beq pc 51 then some (.inl (o_iald)) else none) else (bif Nat.beq pc 52 then some (.inl (o_al 0 1)) else none)) else (bif Nat.ble pc 53 then (bif Nat.beq pc 53 then some (.inl (o_gI 11 47)) else none) else (bif Nat.beq pc 56 then some (.inl (o_zne 63)) else none))) else (bif Nat.ble pc 60 then (bif Nat.ble pc 59 then (bif Nat.beq pc 59 then some (.inl (oS 1 (s_push (.int 1)))) else none) else (bif Nat.beq pc 60 then some (.inl (o_goto 64)) else none)) else (bif Nat.ble pc 63 then (bif Nat.beq pc 63 then some (.inl (oS 1 (s_push (.int 0)))) else none) else (bif Nat.beq pc 64 then some (.inr (3, 134, 4, 11)) else none)))) else (bif Nat.ble pc 72 then (bif Nat.ble pc 69 then (bif Nat.ble pc 67 then (bif Nat.beq pc 67 then some (.inl (o_il 5 2)) else none) else (bif Nat.beq pc 69 then some (.inl (o_al 0 1)) else none)) else (bif Nat.ble pc 70 then (bif Nat.beq pc 70 then some (.inl (o_il 4 2)) else none) else (bif Nat.beq pc 72 then some (.inl (o_il 1 1)) else none))) else (bif Nat.ble pc 74 then (bif Nat.ble pc 73 then (bif Nat.beq pc 73 then some (.inl (o_il 2 1)) else none) else (bif Nat.beq pc 74 then some (.inr (3, 138, 4, 11)) else none)) else (bif Nat.ble pc 77 then (bif Nat.beq pc 77 then some (.inl (o_ceq 101)) else none) else (bif Nat.beq pc 80 then some (.inl (o_al 0 1)) else none))))) else (bif Nat.ble pc 93 then (bif Nat.ble pc 85 then (bif Nat.ble pc 82 then (bif Nat.ble pc 81 then (bif Nat.beq pc 81 then some (.inl (o_il 3 1)) else none) else (bif Nat.beq pc 82 then some (.inl (o_il 4 2)) else none)) else (bif Nat.ble pc 84 then (bif Nat.beq pc 84 then some (.inl (o_il 1 1)) else none) else (bif Nat.beq pc 85 then some (.inl (o_il 2 1)) else none))) else (bif Nat.ble pc 87 then (bif Nat.ble pc 86 then (bif Nat.beq pc 86 then some (.inl (o_al 0 1)) else none) else (bif Nat.beq pc 87 then some (.inl (o_gI 11 47)) else none)) else (bif Nat.ble pc 90 then (bif Nat.beq pc 90 then some (.inl (o_zne 97)) else none) else (bif Nat.beq pc 93 then some (.inl (oS 1 (s_push (.int 1)))) else none)))) else (bif Nat.ble pc 101 then (bif Nat.ble pc 97 then (bif Nat.ble pc 94 then (bif Nat.beq pc 94 then some (.inl (o_goto 98)) else none) else (bif Nat.beq pc 97 then some (.inl (oS 1 (s_push (.int 0)))) else none)) else (bif Nat.ble pc 98 then (bif Nat.beq pc 98 then some (.inr (3, 141, 6, 11)) else none) else (bif Nat.beq pc 101 then some (.inl (o_inc 3 1)) else none))) else (bif Nat.ble pc 107 then (bif Nat.ble pc 104 then (bif Nat.beq pc 104 then some (.inl (o_goto 7)) else none) else (bif Nat.beq pc 107 then some (.inl (o_al 0 1)) else none)) else (bif Nat.ble pc 108 then (bif Nat.beq pc 108 then some (.inr (3, 135, 1, 11)) else none) else (bif Nat.beq pc 111 then some (.inr (0, 0, 0, 3)) else none))))))
theorem k_143_0 : mOk M_143.1 M_143.2.1 M_143.2.2.1 M_143.2.2.2 0 (o_al 0 1) := ok_aload_n dX11_cutRing_0 rfl
theorem k_143_1 : mOk M_143.1 M_143.2.1 M_143.2.2.1 M_143.2.2.2 1 (oS 1 (s_push (.int 0))) := ok_iconst dX11_cutRing_1 (by decide)
theorem k_143_2 : mOk M_143.1 M_143.2.1 M_143.2.2.1 M_143.2.2.2 2 (o_pI 11 47) := ok_pI dX11_cutRing_2 (mFw_of f_RX11_197_c (Or.inl rfl)) rfl
theorem k_143_5 : mOk M_143.1 M_143.2.1 M_143.2.2.1 M_143.2.2.2 5 (oS 1 (s_push (.int 0))) := ok_iconst dX11_cutRing_5 (by decide)
theorem k_143_6 : mOk M_143.1 M_143.2.1 M_143.2.2.1 M_143.2.2.2 6 (o_is 3 1) := ok_istore_n dX11_cutRing_6 rfl
theorem k_143_7 : mOk M_143.1 M_143.2.1 M_143.2.2.1 M_143.2.2.2 7 (o_il 3 1) := ok_iload_n dX11_cutRing_7 rfl
theorem k_143_8 : mOk M_143.1 M_143.2.1 M_143.2.2.1 M_143.2.2.2 8 (o_al 0 1) := ok_aload_n dX11_cutRing_8 rfl
theorem k_143_9 : mOk M_143.1 M_143.2.1 M_143.2.2.1 M_143.2.2.2 9 (o_gI 11 43) := ok_gI dX11_cutRing_9 f_RX11_191 (Or.inl rfl)
theorem k_143_12 : mOk M_143.1 M_143.2.1 M_143.2.2.1 M_143.2.2.2 12 (o_cge 107) := ok_cge dX11_cutRing_12 (by decide)
theorem k_143_15 : mOk M_143.1 M_143.2.1 M_143.2.2.1 M_143.2.2.2 15 (o_il 3 1) := ok_iload_n dX11_cutRing_15 rfl
theorem k_143_16 : mOk M_143.1 M_143.2.1 M_143.2.2.1 M_143.2.2.2 16 (oS 1 (s_push (.int 1))) := ok_iconst dX11_cutRing_16 (by decide)
theorem k_143_17 : mOk M_143.1 M_143.2.1 M_143.2.2.1 M_143.2.2.2 17 (oS 1 (s_ii (fun a b => a + b))) := ok_iadd dX11_cutRing_17
theorem k_143_18 : mOk M_143.1 M_143.2.1 M_143.2.2.1 M_143.2.2.2 18 (o_al 0 1) := ok_aload_n dX11_cutRing_18 rfl
theorem k_143_19 : mOk M_143.1 M_143.2.1 M_143.2.2.1 M_143.2.2.2 19 (o_gI 11 43) := ok_gI dX11_cutRing_19 f_RX11_191 (Or.inl rfl)
theorem k_143_22 : mOk M_143.1 M_143.2.1 M_143.2.2.1 M_143.2.2.2 22 (oS 1 (s_iiz (fun a b => a - a / b * b))) := ok_irem dX11_cutRing_22
theorem k_143_23 : mOk M_143.1 M_143.2.1 M_143.2.2.1 M_143.2.2.2 23 (o_is 4 2) := ok_istore dX11_cutRing_23
theorem k_143_25 : mOk M_143.1 M_143.2.1 M_143.2.2.1 M_143.2.2.2 25 (o_al 0 1) := ok_aload_n dX11_cutRing_25 rfl
theorem k_143_26 : mOk M_143.1 M_143.2.1 M_143.2.2.1 M_143.2.2.2 26 (o_il 3 1) := ok_iload_n dX11_cutRing_26 rfl
theorem k_143_27 : mOk M_143.1 M_143.2.1 M_143.2.2.1 M_143.2.2.2 27 (o_il 1 1) := ok_iload_n dX11_cutRing_27 rfl
theorem k_143_28 : mOk M_143.1 M_143.2.1 M_143.2.2.1 M_143.2.2.2 28 (o_il 2 1) := ok_iload_n dX11_cutRing_28 rfl
theorem k_143_32 : mOk M_143.1 M_143.2.1 M_143.2.2.1 M_143.2.2.2 32 (o_is 5 2) := ok_istore dX11_cutRing_32
theorem k_143_34 : mOk M_143.1 M_143.2.1 M_143.2.2.1 M_143.2.2.2 34 (o_il 5 2) := ok_iload dX11_cutRing_34
theorem k_143_36 : mOk M_143.1 M_143.2.1 M_143.2.2.1 M_143.2.2.2 36 (o_zeq 67) := ok_zeq dX11_cutRing_36 (by decide)
theorem k_143_39 : mOk M_143.1 M_143.2.1 M_143.2.2.1 M_143.2.2.2 39 (o_al 0 1) := ok_aload_n dX11_cutRing_39 rfl
theorem k_143_40 : mOk M_143.1 M_143.2.1 M_143.2.2.1 M_143.2.2.2 40 (o_al 0 1) := ok_aload_n dX11_cutRing_40 rfl
theorem k_143_41 : mOk M_143.1 M_143.2.1 M_143.2.2.1 M_143.2.2.2 41 (o_gP 11 40) := ok_gP dX11_cutRing_41 f_RX11_112 rfl
theorem k_143_44 : mOk M_143.1 M_143.2.1 M_143.2.2.1 M_143.2.2.2 44 (o_il 3 1) := ok_iload_n dX11_cutRing_44 rfl
theorem k_143_45 : mOk M_143.1 M_143.2.1 M_143.2.2.1 M_143.2.2.2 45 (o_iald) := ok_iald dX11_cutRing_45
theorem k_143_46 : mOk M_143.1 M_143.2.1 M_143.2.2.1 M_143.2.2.2 46 (o_al 0 1) := ok_aload_n dX11_cutRing_46 rfl
theorem k_143_47 : mOk M_143.1 M_143.2.1 M_143.2.2.1 M_143.2.2.2 47 (o_gP 11 41) := ok_gP dX11_cutRing_47 f_RX11_115 rfl
theorem k_143_50 : mOk M_143.1 M_143.2.1 M_143.2.2.1 M_143.2.2.2 50 (o_il 3 1) := ok_iload_n dX11_cutRing_50 rfl
theorem k_143_51 : mOk M_143.1 M_143.2.1 M_143.2.2.1 M_143.2.2.2 51 (o_iald) := ok_iald dX11_cutRing_51
theorem k_143_52 : mOk M_143.1 M_143.2.1 M_143.2.2.1 M_143.2.2.2 52 (o_al 0 1) := ok_aload_n dX11_cutRing_52 rfl
theorem k_143_53 : mOk M_143.1 M_143.2.1 M_143.2.2.1 M_143.2.2.2 53 (o_gI 11 47) := ok_gI dX11_cutRing_53 f_RX11_197 (Or.inl rfl)
theorem k_143_56 : mOk M_143.1 M_143.2.1 M_143.2.2.1 M_143.2.2.2 56 (o_zne 63) := ok_zne dX11_cutRing_56 (by decide)
theorem k_143_59 : mOk M_143.1 M_143.2.1 M_143.2.2.1 M_143.2.2.2 59 (oS 1 (s_push (.int 1))) := ok_iconst dX11_cutRing_59 (by decide)
theorem k_143_60 : mOk M_143.1 M_143.2.1 M_143.2.2.1 M_143.2.2.2 60 (o_goto 64) := ok_goto dX11_cutRing_60 (by decide)
theorem k_143_63 : mOk M_143.1 M_143.2.1 M_143.2.2.1 M_143.2.2.2 63 (oS 1 (s_push (.int 0))) := ok_iconst dX11_cutRing_63 (by decide)
theorem k_143_67 : mOk M_143.1 M_143.2.1 M_143.2.2.1 M_143.2.2.2 67 (o_il 5 2) := ok_iload dX11_cutRing_67
theorem k_143_69 : mOk M_143.1 M_143.2.1 M_143.2.2.1 M_143.2.2.2 69 (o_al 0 1) := ok_aload_n dX11_cutRing_69 rfl
theorem k_143_70 : mOk M_143.1 M_143.2.1 M_143.2.2.1 M_143.2.2.2 70 (o_il 4 2) := ok_iload dX11_cutRing_70
theorem k_143_72 : mOk M_143.1 M_143.2.1 M_143.2.2.1 M_143.2.2.2 72 (o_il 1 1) := ok_iload_n dX11_cutRing_72 rfl
theorem k_143_73 : mOk M_143.1 M_143.2.1 M_143.2.2.1 M_143.2.2.2 73 (o_il 2 1) := ok_iload_n dX11_cutRing_73 rfl
theorem k_143_77 : mOk M_143.1 M_143.2.1 M_143.2.2.1 M_143.2.2.2 77 (o_ceq 101) := ok_ceq dX11_cutRing_77 (by decide)
theorem k_143_80 : mOk M_143.1 M_143.2.1 M_143.2.2.1 M_143.2.2.2 80 (o_al 0 1) := ok_aload_n dX11_cutRing_80 rfl
theorem k_143_81 : mOk M_143.1 M_143.2.1 M_143.2.2.1 M_143.2.2.2 81 (o_il 3 1) := ok_iload_n dX11_cutRing_81 rfl
theorem k_143_82 : mOk M_143.1 M_143.2.1 M_143.2.2.1 M_143.2.2.2 82 (o_il 4 2) := ok_iload dX11_cutRing_82
theorem k_143_84 : mOk M_143.1 M_143.2.1 M_143.2.2.1 M_143.2.2.2 84 (o_il 1 1) := ok_iload_n dX11_cutRing_84 rfl
theorem k_143_85 : mOk M_143.1 M_143.2.1 M_143.2.2.1 M_143.2.2.2 85 (o_il 2 1) := ok_iload_n dX11_cutRing_85 rfl
theorem k_143_86 : mOk M_143.1 M_143.2.1 M_143.2.2.1 M_143.2.2.2 86 (o_al 0 1) := ok_aload_n dX11_cutRing_86 rfl
theorem k_143_87 : mOk M_143.1 M_143.2.1 M_143.2.2.1 M_143.2.2.2 87 (o_gI 11 47) := ok_gI dX11_cutRing_87 f_RX11_197 (Or.inl rfl)
theorem k_143_90 : mOk M_143.1 M_143.2.1 M_143.2.2.1 M_143.2.2.2 90 (o_zne 97) := ok_zne dX11_cutRing_90 (by decide)
theorem k_143_93 : mOk M_143.1 M_143.2.1 M_143.2.2.1 M_143.2.2.2 93 (oS 1 (s_push (.int 1))) := ok_iconst dX11_cutRing_93 (by decide)
theorem k_143_94 : mOk M_143.1 M_143.2.1 M_143.2.2.1 M_143.2.2.2 94 (o_goto 98) := ok_goto dX11_cutRing_94 (by decide)
theorem k_143_97 : mOk M_143.1 M_143.2.1 M_143.2.2.1 M_143.2.2.2 97 (oS 1 (s_push (.int 0))) := ok_iconst dX11_cutRing_97 (by decide)
theorem k_143_101 : mOk M_143.1 M_143.2.1 M_143.2.2.1 M_143.2.2.2 101 (o_inc 3 1) := ok_iinc dX11_cutRing_101 (by decide)
theorem k_143_104 : mOk M_143.1 M_143.2.1 M_143.2.2.1 M_143.2.2.2 104 (o_goto 7) := ok_goto dX11_cutRing_104 (by decide)
theorem k_143_107 : mOk M_143.1 M_143.2.1 M_143.2.2.1 M_143.2.2.2 107 (o_al 0 1) := ok_aload_n dX11_cutRing_107 rfl
set_option maxRecDepth 20000 in
set_option maxHeartbeats 4000000 in
theorem tk_143 (l : Launch) (H9 : mThr l) (H10 : mSpl l) (pc : Nat) (q : mEnt) (h : tb_143 pc = some q) : EE l 143 pc q := nd h (fun h => nd h (fun h => nd h (fun h => nd h (fun h => nd h (fun h => nd h (fun h => lf (P := EE l 143) h k_143_0) (fun h => lf (P := EE l 143) h k_143_1)) (fun h => nd h (fun h => lf (P := EE l 143) h k_143_2) (fun h => lf (P := EE l 143) h k_143_5))) (fun h => nd h (fun h => nd h (fun h => lf (P := EE l 143) h k_143_6) (fun h => lf (P := EE l 143) h k_143_7)) (fun h => nd h (fun h => lf (P := EE l 143) h k_143_8) (fun h => lf (P := EE l 143) h k_143_9)))) (fun h => nd h (fun h => nd h (fun h => nd h (fun h => lf (P := EE l 143) h k_143_12) (fun h => lf (P := EE l 143) h k_143_15)) (fun h => nd h (fun h => lf (P := EE l 143) h k_143_16) (fun h => lf (P := EE l 143) h k_143_17))) (fun h => nd h (fun h => nd h (fun h => lf (P := EE l 143) h k_143_18) (fun h => lf (P := EE l 143) h k_143_19)) (fun h => nd h (fun h => lf (P := EE l 143) h k_143_22) (fun h => lf (P := EE l 143) h k_143_23))))) (fun h => nd h (fun h => nd h (fun h => nd h (fun h => nd h (fun h => lf (P := EE l 143) h k_143_25) (fun h => lf (P := EE l 143) h k_143_26)) (fun h => nd h (fun h => lf (P := EE l 143) h k_143_27) (fun h => lf (P := EE l 143) h k_143_28))) (fun h => nd h (fun h => nd h (fun h => lf (P := EE l 143) h (EE_ca (by decide) (⟨m_1313, m_81, ⟨by decide, by decide⟩, by decide +kernel, ⟨by decide, by decide⟩, 217, 3, by decide +kernel, Or.inr (Or.inr (Or.inl ⟨rfl, rfl, dX11_cutRing_29, m_1310, m_1312, _, rfl, by decide, m_45⟩))⟩) rfl)) (fun h => lf (P := EE l 143) h k_143_32)) (fun h => nd h (fun h => lf (P := EE l 143) h k_143_34) (fun h => lf (P := EE l 143) h k_143_36)))) (fun h => nd h (fun h => nd h (fun h => nd h (fun h => lf (P := EE l 143) h k_143_39) (fun h => lf (P := EE l 143) h k_143_40)) (fun h => nd h (fun h => lf (P := EE l 143) h k_143_41) (fun h => lf (P := EE l 143) h k_143_44))) (fun h => nd h (fun h => nd h (fun h => lf (P := EE l 143) h k_143_45) (fun h => lf (P := EE l 143) h k_143_46)) (fun h => nd h (fun h => lf (P := EE l 143) h k_143_47) (fun h => lf (P := EE l 143) h k_143_50)))))) (fun h => nd h (fun h => nd h (fun h => nd h (fun h => nd h (fun h => nd h (fun h => lf (P := EE l 143) h k_143_51) (fun h => lf (P := EE l 143) h k_143_52)) (fun h => nd h (fun h => lf (P := EE l 143) h k_143_53) (fun h => lf (P := EE l 143) h k_143_56))) (fun h => nd h (fun h => nd h (fun h => lf (P := EE l 143) h k_143_59) (fun h => lf (P := EE l 143) h k_143_60)) (fun h => nd h (fun h => lf (P := EE l 143) h k_143_63) (fun h => lf (P := EE l 143) h (EE_ca (by decide) (⟨m_1305, m_81, ⟨by decide, by decide⟩, by decide +kernel, ⟨by decide, by decide⟩, 200, 3, by decide +kernel, Or.inr (Or.inr (Or.inl ⟨rfl, rfl, dX11_cutRing_64, m_1302, m_1304, _, rfl, by decide, m_43⟩))⟩) rfl))))) (fun h => nd h (fun h => nd h (fun h => nd h (fun h => lf (P := EE l 143) h k_143_67) (fun h => lf (P := EE l 143) h k_143_69)) (fun h => nd h (fun h => lf (P := EE l 143) h k_143_70) (fun h => lf (P := EE l 143) h k_143_72))) (fun h => nd h (fun h => nd h (fun h => lf (P := EE l 143) h k_143_73) (fun h => lf (P := EE l 143) h (EE_ca (by decide) (⟨m_1313, m_81, ⟨by decide, by decide⟩, by decide +kernel, ⟨by decide, by decide⟩, 217, 3, by decide +kernel, Or.inr (Or.inr (Or.inl ⟨rfl, rfl, dX11_cutRing_74, m_1310, m_1312, _, rfl, by decide, m_45⟩))⟩) rfl))) (fun h => nd h (fun h => lf (P := EE l 143) h k_143_77) (fun h => lf (P := EE l 143) h k_143_80))))) (fun h => nd h (fun h => nd h (fun h => nd h (fun h => nd h (fun h => lf (P := EE l 143) h k_143_81) (fun h => lf (P := EE l 143) h k_143_82)) (fun h => nd h (fun h => lf (P := EE l 143) h k_143_84) (fun h => lf (P := EE l 143) h k_143_85))) (fun h => nd h (fun h => nd h (fun h => lf (P := EE l 143) h k_143_86) (fun h => lf (P := EE l 143) h k_143_87)) (fun h => nd h (fun h => lf (P := EE l 143) h k_143_90) (fun h => lf (P := EE l 143) h k_143_93)))) (fun h => nd h (fun h => nd h (fun h => nd h (fun h => lf (P := EE l 143) h k_143_94) (fun h => lf (P := EE l 143) h k_143_97)) (fun h => nd h (fun h => lf (P := EE l 143) h (EE_ca (by decide) (⟨m_1321, m_81, ⟨by decide, by decide⟩, by decide +kernel, ⟨by decide, by decide⟩, 220, 5, by decide +kernel, Or.inr (Or.inr (Or.inl ⟨rfl, rfl, dX11_cutRing_98, m_1318, m_1320, _, rfl, by decide, m_47⟩))⟩) rfl)) (fun h => lf (P := EE l 143) h k_143_101))) (fun h => nd h (fun h => nd h (fun h => lf (P := EE l 143) h k_143_104) (fun h => lf (P := EE l 143) h k_143_107)) (fun h => nd h (fun h => lf (P := EE l 143) h (EE_ca (by decide) (⟨m_1309, m_81, ⟨by decide, by decide⟩, by decide +kernel, ⟨by decide, by decide⟩, 204, 0, by decide +kernel, Or.inr (Or.inr (Or.inl ⟨rfl, rfl, dX11_cutRing_108, m_1306, m_1308, _, rfl, by decide, m_44⟩))⟩) rfl)) (fun h => lf (P := EE l 143) h (EE_re (Or.inr (Or.inr (Or.inr (Or.inr ⟨rfl, dX11_cutRing_111, rfl⟩)))))))))))
