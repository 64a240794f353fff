/-! steps of X3 (written by a program) -/
-- 39: yX3_init
theorem e_39_0 {x : Nat} {st : List Value} {T : mT} {Q : mOut → mT → Prop} : XW 39 0 [some (.ref x)] st T Q = XW 39 1 [some (.ref x)] (.ref x :: st) T Q := q_al (n := 1) rfl rfl
theorem e_39_0_n  {st : List Value} {T : mT} {Q : mOut → mT → Prop} : XW 39 0 [some .null] st T Q = XW 39 1 [some .null] (.null :: st) T Q := q_alN (n := 1) rfl rfl
theorem e_39_1 {lv : mLv} {a : Nat} {st : List Value} {T : mT} {Q : mOut → mT → Prop} (hc : mCat st ≤ 8) : XW 39 1 lv (.ref a :: st) T Q = XW 39 4 lv st T Q := AW_ob rfl (by simp [mObj, hc])
theorem e_39_4 {x : Nat} {st : List Value} {T : mT} {Q : mOut → mT → Prop} : XW 39 4 [some (.ref x)] st T Q = XW 39 5 [some (.ref x)] (.ref x :: st) T Q := q_al (n := 1) rfl rfl
theorem e_39_4_n  {st : List Value} {T : mT} {Q : mOut → mT → Prop} : XW 39 4 [some .null] st T Q = XW 39 5 [some .null] (.null :: st) T Q := q_alN (n := 1) rfl rfl
theorem e_39_5 {lv : mLv}  {st : List Value} {T : mT} {Q : mOut → mT → Prop} : XW 39 5 lv (st) T Q = XW 39 8 lv ((.int 5880) :: st) T Q := q_s (n := 3) rfl rfl
theorem e_39_8 {lv : mLv} {x : Int32} {st : List Value} {T : mT} {Q : mOut → mT → Prop} (hx : ¬ x < 0 ∧ x.toNatClampNeg ≤ 65536) : XW 39 8 lv (.int x :: st) T Q = XW 39 10 lv (.ref T.2.2.2.2.1 :: st) (mNw T 20 x.toNatClampNeg x.toNatClampNeg) Q := q_newa (t := 0) rfl hx
theorem e_39_10 {lv : mLv} {a : Nat} {x : Nat} {st : List Value} {T : mT} {Q : mOut → mT → Prop} (ha : (T.1 a).1 = 4) : XW 39 10 lv (.ref x :: .ref a :: st) T Q = XW 39 13 lv st (mSP T a 0 (some x)) Q := q_pP rfl ha
theorem e_39_13 {lv : mLv}  {T : mT} {Q : mOut → mT → Prop} : XW 39 13 lv [] T Q = Q (.inl (none)) T := AW_ret rfl rfl
-- 40: yX3_add
theorem e_40_0 {l1 : Option Value} {x : Nat} {st : List Value} {T : mT} {Q : mOut → mT → Prop} : XW 40 0 [some (.ref x), l1] st T Q = XW 40 1 [some (.ref x), l1] (.ref x :: st) T Q := q_al (n := 1) rfl rfl
theorem e_40_0_n {l1 : Option Value}  {st : List Value} {T : mT} {Q : mOut → mT → Prop} : XW 40 0 [some .null, l1] st T Q = XW 40 1 [some .null, l1] (.null :: st) T Q := q_alN (n := 1) rfl rfl
theorem e_40_1 {lv : mLv} {a : Nat} {st : List Value} {T : mT} {Q : mOut → mT → Prop} (ha : (T.1 a).1 = 4) : XW 40 1 lv (.ref a :: st) T Q = XW 40 4 lv (.int (T.2.1 a 1) :: st) T Q := q_gI rfl ha
theorem e_40_4 {l1 : Option Value} {x : Nat} {st : List Value} {T : mT} {Q : mOut → mT → Prop} : XW 40 4 [some (.ref x), l1] st T Q = XW 40 5 [some (.ref x), l1] (.ref x :: st) T Q := q_al (n := 1) rfl rfl
theorem e_40_4_n {l1 : Option Value}  {st : List Value} {T : mT} {Q : mOut → mT → Prop} : XW 40 4 [some .null, l1] st T Q = XW 40 5 [some .null, l1] (.null :: st) T Q := q_alN (n := 1) rfl rfl
theorem e_40_5 {lv : mLv} {a : Nat} {st : List Value} {T : mT} {Q : mOut → mT → Prop} (ha : (T.1 a).1 = 4) : XW 40 5 lv (.ref a :: st) T Q = XW 40 8 lv (va_rf (T.2.2.2.1 a 0) :: st) T Q := q_gP rfl ha
theorem e_40_8 {lv : mLv} {a : Nat} {st : List Value} {T : mT} {Q : mOut → mT → Prop} (ha : 20 ≤ (T.1 a).1 ∧ (T.1 a).1 < 27) : XW 40 8 lv (.ref a :: st) T Q = XW 40 9 lv (.int (nI (T.1 a).2) :: st) T Q := q_alen rfl ha
theorem e_40_9 {lv : mLv} {a b : Int32} {st : List Value} {T : mT} {Q : mOut → mT → Prop} : XW 40 9 lv (.int b :: .int a :: st) T Q = if b ≤ a then XW 40 33 lv st T Q else XW 40 12 lv st T Q := q_cge rfl
theorem e_40_12 {l1 : Option Value} {x : Nat} {st : List Value} {T : mT} {Q : mOut → mT → Prop} : XW 40 12 [some (.ref x), l1] st T Q = XW 40 13 [some (.ref x), l1] (.ref x :: st) T Q := q_al (n := 1) rfl rfl
theorem e_40_12_n {l1 : Option Value}  {st : List Value} {T : mT} {Q : mOut → mT → Prop} : XW 40 12 [some .null, l1] st T Q = XW 40 13 [some .null, l1] (.null :: st) T Q := q_alN (n := 1) rfl rfl
theorem e_40_13 {lv : mLv} {a : Nat} {st : List Value} {T : mT} {Q : mOut → mT → Prop} (ha : (T.1 a).1 = 4) : XW 40 13 lv (.ref a :: st) T Q = XW 40 16 lv (va_rf (T.2.2.2.1 a 0) :: st) T Q := q_gP rfl ha
theorem e_40_16 {l1 : Option Value} {x : Nat} {st : List Value} {T : mT} {Q : mOut → mT → Prop} : XW 40 16 [some (.ref x), l1] st T Q = XW 40 17 [some (.ref x), l1] (.ref x :: st) T Q := q_al (n := 1) rfl rfl
theorem e_40_16_n {l1 : Option Value}  {st : List Value} {T : mT} {Q : mOut → mT → Prop} : XW 40 16 [some .null, l1] st T Q = XW 40 17 [some .null, l1] (.null :: st) T Q := q_alN (n := 1) rfl rfl
theorem e_40_17 {lv : mLv} {a : Nat} {st : List Value} {T : mT} {Q : mOut → mT → Prop} (ha : (T.1 a).1 = 4) : XW 40 17 lv (.ref a :: st) T Q = XW 40 20 lv (.int (T.2.1 a 1) :: st) T Q := q_gI rfl ha
theorem e_40_20 {l0 : Option Value} {x : Int32} {st : List Value} {T : mT} {Q : mOut → mT → Prop} : XW 40 20 [l0, some (.int x)] st T Q = XW 40 21 [l0, some (.int x)] (.int x :: st) T Q := q_il (n := 1) rfl rfl
theorem e_40_21 {lv : mLv} {a : Int32} {st : List Value} {T : mT} {Q : mOut → mT → Prop} : XW 40 21 lv (.int a :: st) T Q = XW 40 22 lv (.int (a.toInt8.toInt32) :: st) T Q := q_s (n := 1) rfl rfl
theorem e_40_22 {lv : mLv} {a : Nat} {j x : Int32} {st : List Value} {T : mT} {Q : mOut → mT → Prop} (ha : (T.1 a).1 = 20) (hj : mInB j (T.1 a).2 = true) : XW 40 22 lv (.int x :: .int j :: .ref a :: st) T Q = XW 40 23 lv st (mSI T a j.toNatClampNeg x.toInt8.toInt32) Q := q_bast rfl ha hj
theorem e_40_22_z {lv : mLv} {a : Nat} {j x : Int32} {st : List Value} {T : mT} {Q : mOut → mT → Prop} (ha : (T.1 a).1 = 23) (hj : mInB j (T.1 a).2 = true) (hx : x = 0 ∨ x = 1) : XW 40 22 lv (.int x :: .int j :: .ref a :: st) T Q = XW 40 23 lv st (mSI T a j.toNatClampNeg x) Q := q_zast rfl ha hj hx
theorem e_40_23 {l1 : Option Value} {x : Nat} {st : List Value} {T : mT} {Q : mOut → mT → Prop} : XW 40 23 [some (.ref x), l1] st T Q = XW 40 24 [some (.ref x), l1] (.ref x :: st) T Q := q_al (n := 1) rfl rfl
theorem e_40_23_n {l1 : Option Value}  {st : List Value} {T : mT} {Q : mOut → mT → Prop} : XW 40 23 [some .null, l1] st T Q = XW 40 24 [some .null, l1] (.null :: st) T Q := q_alN (n := 1) rfl rfl
theorem e_40_24 {lv : mLv} {a : Nat} {st : List Value} {T : mT} {Q : mOut → mT → Prop} : XW 40 24 lv (.ref a :: st) T Q = XW 40 25 lv (.ref a :: .ref a :: st) T Q := q_dup (n := 1) rfl rfl
theorem e_40_24_i {lv : mLv} {a : Int32} {st : List Value} {T : mT} {Q : mOut → mT → Prop} : XW 40 24 lv (.int a :: st) T Q = XW 40 25 lv (.int a :: .int a :: st) T Q := q_dup (n := 1) rfl rfl
theorem e_40_25 {lv : mLv} {a : Nat} {st : List Value} {T : mT} {Q : mOut → mT → Prop} (ha : (T.1 a).1 = 4) : XW 40 25 lv (.ref a :: st) T Q = XW 40 28 lv (.int (T.2.1 a 1) :: st) T Q := q_gI rfl ha
theorem e_40_28 {lv : mLv}  {st : List Value} {T : mT} {Q : mOut → mT → Prop} : XW 40 28 lv (st) T Q = XW 40 29 lv ((.int 1) :: st) T Q := q_s (n := 1) rfl rfl
theorem e_40_29 {lv : mLv} {a b : Int32} {st : List Value} {T : mT} {Q : mOut → mT → Prop} : XW 40 29 lv (.int b :: .int a :: st) T Q = XW 40 30 lv (.int (a + b) :: st) T Q := q_s (n := 1) rfl rfl
theorem e_40_30 {lv : mLv} {a : Nat} {x : Int32} {st : List Value} {T : mT} {Q : mOut → mT → Prop} (ha : (T.1 a).1 = 4) : XW 40 30 lv (.int x :: .ref a :: st) T Q = XW 40 33 lv st (mSI T a 1 x) Q := q_pI rfl ha
theorem e_40_33 {lv : mLv}  {T : mT} {Q : mOut → mT → Prop} : XW 40 33 lv [] T Q = Q (.inl (none)) T := AW_ret rfl rfl
-- 41: yX3_addCount
theorem e_41_0 {l0 l2 l3 : Option Value} {x : Int32} {st : List Value} {T : mT} {Q : mOut → mT → Prop} : XW 41 0 [l0, some (.int x), l2, l3] st T Q = XW 41 1 [l0, some (.int x), l2, l3] (.int x :: st) T Q := q_il (n := 1) rfl rfl
theorem e_41_1 {l0 l1 l2 l3 : Option Value} {x : Int32} (hp : mNL l1 = true) {st : List Value} {T : mT} {Q : mOut → mT → Prop} : XW 41 1 [l0, l1, l2, l3] (.int x :: st) T Q = XW 41 2 [l0, l1, some (.int x), l3] st T Q := q_is (n := 1) rfl (Nat.le_of_ble_eq_true rfl) (mPl_of rfl hp) rfl
theorem e_41_2 {lv : mLv}  {st : List Value} {T : mT} {Q : mOut → mT → Prop} : XW 41 2 lv (st) T Q = XW 41 3 lv ((.int 0) :: st) T Q := q_s (n := 1) rfl rfl
theorem e_41_3 {l0 l1 l2 l3 : Option Value} {x : Int32} (hp : mNL l2 = true) {st : List Value} {T : mT} {Q : mOut → mT → Prop} : XW 41 3 [l0, l1, l2, l3] (.int x :: st) T Q = XW 41 4 [l0, l1, l2, some (.int x)] st T Q := q_is (n := 1) rfl (Nat.le_of_ble_eq_true rfl) (mPl_of rfl hp) rfl
theorem e_41_4 {l0 l1 l2 : Option Value} {x : Int32} {st : List Value} {T : mT} {Q : mOut → mT → Prop} : XW 41 4 [l0, l1, l2, some (.int x)] st T Q = XW 41 5 [l0, l1, l2, some (.int x)] (.int x :: st) T Q := q_il (n := 1) rfl rfl
theorem e_41_5 {lv : mLv}  {st : List Value} {T : mT} {Q : mOut → mT → Prop} : XW 41 5 lv (st) T Q = XW 41 6 lv ((.int 4) :: st) T Q := q_s (n := 1) rfl rfl
theorem e_41_6 {lv : mLv} {a b : Int32} {st : List Value} {T : mT} {Q : mOut → mT → Prop} : XW 41 6 lv (.int b :: .int a :: st) T Q = if b ≤ a then XW 41 38 lv st T Q else XW 41 9 lv st T Q := q_cge rfl
theorem e_41_9 {l0 l1 l3 : Option Value} {x : Int32} {st : List Value} {T : mT} {Q : mOut → mT → Prop} : XW 41 9 [l0, l1, some (.int x), l3] st T Q = XW 41 10 [l0, l1, some (.int x), l3] (.int x :: st) T Q := q_il (n := 1) rfl rfl
theorem e_41_10 {lv : mLv}  {st : List Value} {T : mT} {Q : mOut → mT → Prop} : XW 41 10 lv (st) T Q = XW 41 12 lv ((.int 127) :: st) T Q := q_s (n := 2) rfl rfl
theorem e_41_12 {lv : mLv} {a b : Int32} {st : List Value} {T : mT} {Q : mOut → mT → Prop} : XW 41 12 lv (.int b :: .int a :: st) T Q = if a ≤ b then XW 41 38 lv st T Q else XW 41 15 lv st T Q := q_cle rfl
theorem e_41_15 {l1 l2 l3 : Option Value} {x : Nat} {st : List Value} {T : mT} {Q : mOut → mT → Prop} : XW 41 15 [some (.ref x), l1, l2, l3] st T Q = XW 41 16 [some (.ref x), l1, l2, l3] (.ref x :: st) T Q := q_al (n := 1) rfl rfl
theorem e_41_15_n {l1 l2 l3 : Option Value}  {st : List Value} {T : mT} {Q : mOut → mT → Prop} : XW 41 15 [some .null, l1, l2, l3] st T Q = XW 41 16 [some .null, l1, l2, l3] (.null :: st) T Q := q_alN (n := 1) rfl rfl
theorem e_41_16 {l0 l1 l3 : Option Value} {x : Int32} {st : List Value} {T : mT} {Q : mOut → mT → Prop} : XW 41 16 [l0, l1, some (.int x), l3] st T Q = XW 41 17 [l0, l1, some (.int x), l3] (.int x :: st) T Q := q_il (n := 1) rfl rfl
theorem e_41_17 {lv : mLv}  {st : List Value} {T : mT} {Q : mOut → mT → Prop} : XW 41 17 lv (st) T Q = XW 41 19 lv ((.int 127) :: st) T Q := q_s (n := 2) rfl rfl
theorem e_41_19 {lv : mLv} {a b : Int32} {st : List Value} {T : mT} {Q : mOut → mT → Prop} : XW 41 19 lv (.int b :: .int a :: st) T Q = XW 41 20 lv (.int (a &&& b) :: st) T Q := q_s (n := 1) rfl rfl
theorem e_41_20 {lv : mLv}  {st : List Value} {T : mT} {Q : mOut → mT → Prop} : XW 41 20 lv (st) T Q = XW 41 23 lv ((.int 128) :: st) T Q := q_s (n := 3) rfl rfl
theorem e_41_23 {lv : mLv} {a b : Int32} {st : List Value} {T : mT} {Q : mOut → mT → Prop} : XW 41 23 lv (.int b :: .int a :: st) T Q = XW 41 24 lv (.int (a + b) :: st) T Q := q_s (n := 1) rfl rfl
theorem c_41_24 {lv : mLv} {x0 : Nat} {x1 : Int32} {st : List Value} {T : mT} {Q : mOut → mT → Prop} (hc : mCat st ≤ 8) (hr : (T.1 x0).1 = 4) (h : XW 40 0 [some (.ref x0), some (.int x1)] [] T (XB 41 24 lv st Q)) : XW 41 24 lv (.int x1 :: .ref x0 :: st) T Q := AW_call rfl (by decide) rfl ⟨Nat.le_of_ble_eq_true rfl, hc, (by simp [mRcv, hr])⟩ h
theorem e_41_27 {l0 l1 l3 : Option Value} {x : Int32} {st : List Value} {T : mT} {Q : mOut → mT → Prop} : XW 41 27 [l0, l1, some (.int x), l3] st T Q = XW 41 28 [l0, l1, some (.int x), l3] (.int x :: st) T Q := q_il (n := 1) rfl rfl
theorem e_41_28 {lv : mLv}  {st : List Value} {T : mT} {Q : mOut → mT → Prop} : XW 41 28 lv (st) T Q = XW 41 30 lv ((.int 7) :: st) T Q := q_s (n := 2) rfl rfl
theorem e_41_30 {lv : mLv} {a b : Int32} {st : List Value} {T : mT} {Q : mOut → mT → Prop} : XW 41 30 lv (.int b :: .int a :: st) T Q = XW 41 31 lv (.int ((a.toUInt32 >>> (b.toUInt32 &&& Int32.toUInt32 31)).toInt32) :: st) T Q := q_s (n := 1) rfl rfl
theorem e_41_31 {l0 l1 l2 l3 : Option Value} {x : Int32} (hp : mNL l1 = true) {st : List Value} {T : mT} {Q : mOut → mT → Prop} : XW 41 31 [l0, l1, l2, l3] (.int x :: st) T Q = XW 41 32 [l0, l1, some (.int x), l3] st T Q := q_is (n := 1) rfl (Nat.le_of_ble_eq_true rfl) (mPl_of rfl hp) rfl
theorem e_41_32 {l0 l1 l2 : Option Value} {x : Int32} (hp : mNL l2 = true) {st : List Value} {T : mT} {Q : mOut → mT → Prop} : XW 41 32 [l0, l1, l2, some (.int x)] st T Q = XW 41 35 [l0, l1, l2, some (.int (x + 1))] st T Q := q_inc rfl rfl (mPl_of rfl hp) rfl
theorem e_41_35 {lv : mLv} {st : List Value} {T : mT} {Q : mOut → mT → Prop} : XW 41 35 lv st T Q = XW 41 4 lv st T Q := q_goto rfl
theorem e_41_38 {l1 l2 l3 : Option Value} {x : Nat} {st : List Value} {T : mT} {Q : mOut → mT → Prop} : XW 41 38 [some (.ref x), l1, l2, l3] st T Q = XW 41 39 [some (.ref x), l1, l2, l3] (.ref x :: st) T Q := q_al (n := 1) rfl rfl
theorem e_41_38_n {l1 l2 l3 : Option Value}  {st : List Value} {T : mT} {Q : mOut → mT → Prop} : XW 41 38 [some .null, l1, l2, l3] st T Q = XW 41 39 [some .null, l1, l2, l3] (.null :: st) T Q := q_alN (n := 1) rfl rfl
theorem e_41_39 {l0 l1 l3 : Option Value} {x : Int32} {st : List Value} {T : mT} {Q : mOut → mT → Prop} : XW 41 39 [l0, l1, some (.int x), l3] st T Q = XW 41 40 [l0, l1, some (.int x), l3] (.int x :: st) T Q := q_il (n := 1) rfl rfl
theorem c_41_40 {lv : mLv} {x0 : Nat} {x1 : Int32} {st : List Value} {T : mT} {Q : mOut → mT → Prop} (hc : mCat st ≤ 8) (hr : (T.1 x0).1 = 4) (h : XW 40 0 [some (.ref x0), some (.int x1)] [] T (XB 41 40 lv st Q)) : XW 41 40 lv (.int x1 :: .ref x0 :: st) T Q := AW_call rfl (by decide) rfl ⟨Nat.le_of_ble_eq_true rfl, hc, (by simp [mRcv, hr])⟩ h
theorem e_41_43 {lv : mLv}  {T : mT} {Q : mOut → mT → Prop} : XW 41 43 lv [] T Q = Q (.inl (none)) T := AW_ret rfl rfl
-- 42: yX3_addStep
theorem e_42_0 {l1 : Option Value} {x : Nat} {st : List Value} {T : mT} {Q : mOut → mT → Prop} : XW 42 0 [some (.ref x), l1] st T Q = XW 42 1 [some (.ref x), l1] (.ref x :: st) T Q := q_al (n := 1) rfl rfl
theorem e_42_0_n {l1 : Option Value}  {st : List Value} {T : mT} {Q : mOut → mT → Prop} : XW 42 0 [some .null, l1] st T Q = XW 42 1 [some .null, l1] (.null :: st) T Q := q_alN (n := 1) rfl rfl
theorem e_42_1 {l0 : Option Value} {x : Int32} {st : List Value} {T : mT} {Q : mOut → mT → Prop} : XW 42 1 [l0, some (.int x)] st T Q = XW 42 2 [l0, some (.int x)] (.int x :: st) T Q := q_il (n := 1) rfl rfl
theorem e_42_2 {lv : mLv} {x : Int32} {st : List Value} {T : mT} {Q : mOut → mT → Prop} : XW 42 2 lv (.int x :: st) T Q = if 0 ≤ x then XW 42 14 lv st T Q else XW 42 5 lv st T Q := q_zge rfl
theorem e_42_5 {lv : mLv}  {st : List Value} {T : mT} {Q : mOut → mT → Prop} : XW 42 5 lv (st) T Q = XW 42 7 lv ((.int (-2)) :: st) T Q := q_s (n := 2) rfl rfl
theorem e_42_7 {l0 : Option Value} {x : Int32} {st : List Value} {T : mT} {Q : mOut → mT → Prop} : XW 42 7 [l0, some (.int x)] st T Q = XW 42 8 [l0, some (.int x)] (.int x :: st) T Q := q_il (n := 1) rfl rfl
theorem e_42_8 {lv : mLv} {a b : Int32} {st : List Value} {T : mT} {Q : mOut → mT → Prop} : XW 42 8 lv (.int b :: .int a :: st) T Q = XW 42 9 lv (.int (a * b) :: st) T Q := q_s (n := 1) rfl rfl
theorem e_42_9 {lv : mLv}  {st : List Value} {T : mT} {Q : mOut → mT → Prop} : XW 42 9 lv (st) T Q = XW 42 10 lv ((.int 1) :: st) T Q := q_s (n := 1) rfl rfl
theorem e_42_10 {lv : mLv} {a b : Int32} {st : List Value} {T : mT} {Q : mOut → mT → Prop} : XW 42 10 lv (.int b :: .int a :: st) T Q = XW 42 11 lv (.int (a - b) :: st) T Q := q_s (n := 1) rfl rfl
theorem e_42_11 {lv : mLv} {st : List Value} {T : mT} {Q : mOut → mT → Prop} : XW 42 11 lv st T Q = XW 42 17 lv st T Q := q_goto rfl
theorem e_42_14 {lv : mLv}  {st : List Value} {T : mT} {Q : mOut → mT → Prop} : XW 42 14 lv (st) T Q = XW 42 15 lv ((.int 2) :: st) T Q := q_s (n := 1) rfl rfl
theorem e_42_15 {l0 : Option Value} {x : Int32} {st : List Value} {T : mT} {Q : mOut → mT → Prop} : XW 42 15 [l0, some (.int x)] st T Q = XW 42 16 [l0, some (.int x)] (.int x :: st) T Q := q_il (n := 1) rfl rfl
theorem e_42_16 {lv : mLv} {a b : Int32} {st : List Value} {T : mT} {Q : mOut → mT → Prop} : XW 42 16 lv (.int b :: .int a :: st) T Q = XW 42 17 lv (.int (a * b) :: st) T Q := q_s (n := 1) rfl rfl
theorem c_42_17 {lv : mLv} {x0 : Nat} {x1 : Int32} {st : List Value} {T : mT} {Q : mOut → mT → Prop} (hc : mCat st ≤ 8) (hr : (T.1 x0).1 = 4) (h : XW 41 0 [some (.ref x0), some (.int x1), none, none] [] T (XB 42 17 lv st Q)) : XW 42 17 lv (.int x1 :: .ref x0 :: st) T Q := AW_call rfl (by decide) rfl ⟨Nat.le_of_ble_eq_true rfl, hc, (by simp [mRcv, hr])⟩ h
theorem e_42_20 {lv : mLv}  {T : mT} {Q : mOut → mT → Prop} : XW 42 20 lv [] T Q = Q (.inl (none)) T := AW_ret rfl rfl
