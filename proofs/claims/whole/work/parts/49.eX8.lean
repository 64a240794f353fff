/-! steps of X8 (written by a program) -/
-- 77: yX8_init
theorem e_77_0 {x : Nat} {st : List Value} {T : mT} {Q : mOut → mT → Prop} : XW 77 0 [some (.ref x)] st T Q = XW 77 1 [some (.ref x)] (.ref x :: st) T Q := q_al (n := 1) rfl rfl
theorem e_77_0_n  {st : List Value} {T : mT} {Q : mOut → mT → Prop} : XW 77 0 [some .null] st T Q = XW 77 1 [some .null] (.null :: st) T Q := q_alN (n := 1) rfl rfl
theorem e_77_1 {lv : mLv} {a : Nat} {st : List Value} {T : mT} {Q : mOut → mT → Prop} (hc : mCat st ≤ 8) : XW 77 1 lv (.ref a :: st) T Q = XW 77 4 lv st T Q := AW_ob rfl (by simp [mObj, hc])
theorem e_77_4 {lv : mLv}  {T : mT} {Q : mOut → mT → Prop} : XW 77 4 lv [] T Q = Q (.inl (none)) T := AW_ret rfl rfl
-- 78: yX8_set
theorem e_78_0 {l1 l2 l3 l4 : Option Value} {x : Nat} {st : List Value} {T : mT} {Q : mOut → mT → Prop} : XW 78 0 [some (.ref x), l1, l2, l3, l4] st T Q = XW 78 1 [some (.ref x), l1, l2, l3, l4] (.ref x :: st) T Q := q_al (n := 1) rfl rfl
theorem e_78_0_n {l1 l2 l3 l4 : Option Value}  {st : List Value} {T : mT} {Q : mOut → mT → Prop} : XW 78 0 [some .null, l1, l2, l3, l4] st T Q = XW 78 1 [some .null, l1, l2, l3, l4] (.null :: st) T Q := q_alN (n := 1) rfl rfl
theorem e_78_1 {l0 l2 l3 l4 : Option Value} {x : Int32} {st : List Value} {T : mT} {Q : mOut → mT → Prop} : XW 78 1 [l0, some (.int x), l2, l3, l4] st T Q = XW 78 2 [l0, some (.int x), l2, l3, l4] (.int x :: st) T Q := q_il (n := 1) rfl rfl
theorem e_78_2 {lv : mLv}  {st : List Value} {T : mT} {Q : mOut → mT → Prop} : XW 78 2 lv (st) T Q = XW 78 3 lv ((.int 2) :: st) T Q := q_s (n := 1) rfl rfl
theorem e_78_3 {lv : mLv} {a b : Int32} {st : List Value} {T : mT} {Q : mOut → mT → Prop} : XW 78 3 lv (.int b :: .int a :: st) T Q = if b ≤ a then XW 78 10 lv st T Q else XW 78 6 lv st T Q := q_cge rfl
theorem e_78_6 {lv : mLv}  {st : List Value} {T : mT} {Q : mOut → mT → Prop} : XW 78 6 lv (st) T Q = XW 78 7 lv ((.int 1) :: st) T Q := q_s (n := 1) rfl rfl
theorem e_78_7 {lv : mLv} {st : List Value} {T : mT} {Q : mOut → mT → Prop} : XW 78 7 lv st T Q = XW 78 11 lv st T Q := q_goto rfl
theorem e_78_10 {lv : mLv}  {st : List Value} {T : mT} {Q : mOut → mT → Prop} : XW 78 10 lv (st) T Q = XW 78 11 lv ((.int 0) :: st) T Q := q_s (n := 1) rfl rfl
theorem e_78_11 {lv : mLv} {a : Nat} {x : Int32} {st : List Value} {T : mT} {Q : mOut → mT → Prop} (ha : (T.1 a).1 = 9) (hx : x = 0 ∨ x = 1) : XW 78 11 lv (.int x :: .ref a :: st) T Q = XW 78 14 lv st (mSI T a 0 x) Q := q_pZ rfl ha hx
theorem e_78_14 {l1 l2 l3 l4 : Option Value} {x : Nat} {st : List Value} {T : mT} {Q : mOut → mT → Prop} : XW 78 14 [some (.ref x), l1, l2, l3, l4] st T Q = XW 78 15 [some (.ref x), l1, l2, l3, l4] (.ref x :: st) T Q := q_al (n := 1) rfl rfl
theorem e_78_14_n {l1 l2 l3 l4 : Option Value}  {st : List Value} {T : mT} {Q : mOut → mT → Prop} : XW 78 14 [some .null, l1, l2, l3, l4] st T Q = XW 78 15 [some .null, l1, l2, l3, l4] (.null :: st) T Q := q_alN (n := 1) rfl rfl
theorem e_78_15 {l0 l2 l3 l4 : Option Value} {x : Int32} {st : List Value} {T : mT} {Q : mOut → mT → Prop} : XW 78 15 [l0, some (.int x), l2, l3, l4] st T Q = XW 78 16 [l0, some (.int x), l2, l3, l4] (.int x :: st) T Q := q_il (n := 1) rfl rfl
theorem e_78_16 {lv : mLv}  {st : List Value} {T : mT} {Q : mOut → mT → Prop} : XW 78 16 lv (st) T Q = XW 78 17 lv ((.int 2) :: st) T Q := q_s (n := 1) rfl rfl
theorem e_78_17 {lv : mLv} {a b : Int32} (hb : ¬ b = 0) {st : List Value} {T : mT} {Q : mOut → mT → Prop} : XW 78 17 lv (.int b :: .int a :: st) T Q = XW 78 18 lv (.int (a - a / b * b) :: st) T Q := q_iiz (n := 1) (f := fun a b => a - a / b * b) rfl hb
theorem e_78_18 {lv : mLv} {x : Int32} {st : List Value} {T : mT} {Q : mOut → mT → Prop} : XW 78 18 lv (.int x :: st) T Q = if x = 0 then XW 78 21 lv st T Q else XW 78 25 lv st T Q := q_zne rfl
theorem e_78_21 {lv : mLv}  {st : List Value} {T : mT} {Q : mOut → mT → Prop} : XW 78 21 lv (st) T Q = XW 78 22 lv ((.int 1) :: st) T Q := q_s (n := 1) rfl rfl
theorem e_78_22 {lv : mLv} {st : List Value} {T : mT} {Q : mOut → mT → Prop} : XW 78 22 lv st T Q = XW 78 26 lv st T Q := q_goto rfl
theorem e_78_25 {lv : mLv}  {st : List Value} {T : mT} {Q : mOut → mT → Prop} : XW 78 25 lv (st) T Q = XW 78 26 lv ((.int 0) :: st) T Q := q_s (n := 1) rfl rfl
theorem e_78_26 {lv : mLv} {a : Nat} {x : Int32} {st : List Value} {T : mT} {Q : mOut → mT → Prop} (ha : (T.1 a).1 = 9) (hx : x = 0 ∨ x = 1) : XW 78 26 lv (.int x :: .ref a :: st) T Q = XW 78 29 lv st (mSI T a 1 x) Q := q_pZ rfl ha hx
theorem e_78_29 {l1 l2 l3 l4 : Option Value} {x : Nat} {st : List Value} {T : mT} {Q : mOut → mT → Prop} : XW 78 29 [some (.ref x), l1, l2, l3, l4] st T Q = XW 78 30 [some (.ref x), l1, l2, l3, l4] (.ref x :: st) T Q := q_al (n := 1) rfl rfl
theorem e_78_29_n {l1 l2 l3 l4 : Option Value}  {st : List Value} {T : mT} {Q : mOut → mT → Prop} : XW 78 29 [some .null, l1, l2, l3, l4] st T Q = XW 78 30 [some .null, l1, l2, l3, l4] (.null :: st) T Q := q_alN (n := 1) rfl rfl
theorem e_78_30 {lv : mLv} {a : Nat} {st : List Value} {T : mT} {Q : mOut → mT → Prop} (ha : (T.1 a).1 = 9) : XW 78 30 lv (.ref a :: st) T Q = XW 78 33 lv (.int (T.2.1 a 0) :: st) T Q := q_gI rfl ha
theorem e_78_33 {lv : mLv} {x : Int32} {st : List Value} {T : mT} {Q : mOut → mT → Prop} : XW 78 33 lv (.int x :: st) T Q = if x = 0 then XW 78 40 lv st T Q else XW 78 36 lv st T Q := q_zeq rfl
theorem e_78_36 {l0 l1 l3 l4 : Option Value} {x : Int32} {st : List Value} {T : mT} {Q : mOut → mT → Prop} : XW 78 36 [l0, l1, some (.int x), l3, l4] st T Q = XW 78 37 [l0, l1, some (.int x), l3, l4] (.int x :: st) T Q := q_il (n := 1) rfl rfl
theorem e_78_37 {lv : mLv} {st : List Value} {T : mT} {Q : mOut → mT → Prop} : XW 78 37 lv st T Q = XW 78 41 lv st T Q := q_goto rfl
theorem e_78_40 {l0 l1 l2 l4 : Option Value} {x : Int32} {st : List Value} {T : mT} {Q : mOut → mT → Prop} : XW 78 40 [l0, l1, l2, some (.int x), l4] st T Q = XW 78 41 [l0, l1, l2, some (.int x), l4] (.int x :: st) T Q := q_il (n := 1) rfl rfl
theorem e_78_41 {l0 l1 l2 l3 l4 : Option Value} {x : Int32} (hp : mNL l3 = true) {st : List Value} {T : mT} {Q : mOut → mT → Prop} : XW 78 41 [l0, l1, l2, l3, l4] (.int x :: st) T Q = XW 78 43 [l0, l1, l2, l3, some (.int x)] st T Q := q_is (n := 2) rfl (Nat.le_of_ble_eq_true rfl) (mPl_of rfl hp) rfl
theorem e_78_43 {l1 l2 l3 l4 : Option Value} {x : Nat} {st : List Value} {T : mT} {Q : mOut → mT → Prop} : XW 78 43 [some (.ref x), l1, l2, l3, l4] st T Q = XW 78 44 [some (.ref x), l1, l2, l3, l4] (.ref x :: st) T Q := q_al (n := 1) rfl rfl
theorem e_78_43_n {l1 l2 l3 l4 : Option Value}  {st : List Value} {T : mT} {Q : mOut → mT → Prop} : XW 78 43 [some .null, l1, l2, l3, l4] st T Q = XW 78 44 [some .null, l1, l2, l3, l4] (.null :: st) T Q := q_alN (n := 1) rfl rfl
theorem e_78_44 {l1 l2 l3 l4 : Option Value} {x : Nat} {st : List Value} {T : mT} {Q : mOut → mT → Prop} : XW 78 44 [some (.ref x), l1, l2, l3, l4] st T Q = XW 78 45 [some (.ref x), l1, l2, l3, l4] (.ref x :: st) T Q := q_al (n := 1) rfl rfl
theorem e_78_44_n {l1 l2 l3 l4 : Option Value}  {st : List Value} {T : mT} {Q : mOut → mT → Prop} : XW 78 44 [some .null, l1, l2, l3, l4] st T Q = XW 78 45 [some .null, l1, l2, l3, l4] (.null :: st) T Q := q_alN (n := 1) rfl rfl
theorem e_78_45 {lv : mLv} {a : Nat} {st : List Value} {T : mT} {Q : mOut → mT → Prop} (ha : (T.1 a).1 = 9) : XW 78 45 lv (.ref a :: st) T Q = XW 78 48 lv (.int (T.2.1 a 1) :: st) T Q := q_gI rfl ha
theorem e_78_48 {lv : mLv} {x : Int32} {st : List Value} {T : mT} {Q : mOut → mT → Prop} : XW 78 48 lv (.int x :: st) T Q = if x = 0 then XW 78 59 lv st T Q else XW 78 51 lv st T Q := q_zeq rfl
theorem e_78_51 {l0 l1 l2 l3 : Option Value} {x : Int32} {st : List Value} {T : mT} {Q : mOut → mT → Prop} : XW 78 51 [l0, l1, l2, l3, some (.int x)] st T Q = XW 78 53 [l0, l1, l2, l3, some (.int x)] (.int x :: st) T Q := q_il (n := 2) rfl rfl
theorem e_78_53 {lv : mLv}  {st : List Value} {T : mT} {Q : mOut → mT → Prop} : XW 78 53 lv (st) T Q = XW 78 55 lv ((.int 8) :: st) T Q := q_s (n := 2) rfl rfl
theorem e_78_55 {lv : mLv} {a b : Int32} {st : List Value} {T : mT} {Q : mOut → mT → Prop} : XW 78 55 lv (.int b :: .int a :: st) T Q = XW 78 56 lv (.int (a - b) :: st) T Q := q_s (n := 1) rfl rfl
theorem e_78_56 {lv : mLv} {st : List Value} {T : mT} {Q : mOut → mT → Prop} : XW 78 56 lv st T Q = XW 78 68 lv st T Q := q_goto rfl
theorem e_78_59 {l0 l1 l2 l3 : Option Value} {x : Int32} {st : List Value} {T : mT} {Q : mOut → mT → Prop} : XW 78 59 [l0, l1, l2, l3, some (.int x)] st T Q = XW 78 61 [l0, l1, l2, l3, some (.int x)] (.int x :: st) T Q := q_il (n := 2) rfl rfl
theorem e_78_61 {lv : mLv}  {st : List Value} {T : mT} {Q : mOut → mT → Prop} : XW 78 61 lv (st) T Q = XW 78 64 lv ((.int 256) :: st) T Q := q_s (n := 3) rfl rfl
theorem e_78_64 {lv : mLv} {a b : Int32} {st : List Value} {T : mT} {Q : mOut → mT → Prop} : XW 78 64 lv (.int b :: .int a :: st) T Q = XW 78 65 lv (.int (a + b) :: st) T Q := q_s (n := 1) rfl rfl
theorem e_78_65 {lv : mLv}  {st : List Value} {T : mT} {Q : mOut → mT → Prop} : XW 78 65 lv (st) T Q = XW 78 67 lv ((.int 8) :: st) T Q := q_s (n := 2) rfl rfl
theorem e_78_67 {lv : mLv} {a b : Int32} {st : List Value} {T : mT} {Q : mOut → mT → Prop} : XW 78 67 lv (.int b :: .int a :: st) T Q = XW 78 68 lv (.int (a + b) :: st) T Q := q_s (n := 1) rfl rfl
theorem e_78_68 {lv : mLv} {a : Nat} {x : Int32} {st : List Value} {T : mT} {Q : mOut → mT → Prop} (ha : (T.1 a).1 = 9) : XW 78 68 lv (.int x :: .ref a :: st) T Q = XW 78 71 lv st (mSI T a 2 x) Q := q_pI rfl ha
theorem e_78_71 {lv : mLv}  {T : mT} {Q : mOut → mT → Prop} : XW 78 71 lv [] T Q = Q (.inl (none)) T := AW_ret rfl rfl
-- 79: yX8_holds
theorem e_79_0 {l1 l2 l3 : Option Value} {x : Nat} {st : List Value} {T : mT} {Q : mOut → mT → Prop} : XW 79 0 [some (.ref x), l1, l2, l3] st T Q = XW 79 1 [some (.ref x), l1, l2, l3] (.ref x :: st) T Q := q_al (n := 1) rfl rfl
theorem e_79_0_n {l1 l2 l3 : Option Value}  {st : List Value} {T : mT} {Q : mOut → mT → Prop} : XW 79 0 [some .null, l1, l2, l3] st T Q = XW 79 1 [some .null, l1, l2, l3] (.null :: st) T Q := q_alN (n := 1) rfl rfl
theorem e_79_1 {lv : mLv} {a : Nat} {st : List Value} {T : mT} {Q : mOut → mT → Prop} (ha : (T.1 a).1 = 9) : XW 79 1 lv (.ref a :: st) T Q = XW 79 4 lv (.int (T.2.1 a 0) :: st) T Q := q_gI rfl ha
theorem e_79_4 {lv : mLv} {x : Int32} {st : List Value} {T : mT} {Q : mOut → mT → Prop} : XW 79 4 lv (.int x :: st) T Q = if x = 0 then XW 79 11 lv st T Q else XW 79 7 lv st T Q := q_zeq rfl
theorem e_79_7 {l0 l2 l3 : Option Value} {x : Int32} {st : List Value} {T : mT} {Q : mOut → mT → Prop} : XW 79 7 [l0, some (.int x), l2, l3] st T Q = XW 79 8 [l0, some (.int x), l2, l3] (.int x :: st) T Q := q_il (n := 1) rfl rfl
theorem e_79_8 {lv : mLv} {st : List Value} {T : mT} {Q : mOut → mT → Prop} : XW 79 8 lv st T Q = XW 79 12 lv st T Q := q_goto rfl
theorem e_79_11 {l0 l1 l3 : Option Value} {x : Int32} {st : List Value} {T : mT} {Q : mOut → mT → Prop} : XW 79 11 [l0, l1, some (.int x), l3] st T Q = XW 79 12 [l0, l1, some (.int x), l3] (.int x :: st) T Q := q_il (n := 1) rfl rfl
theorem e_79_12 {l0 l1 l2 l3 : Option Value} {x : Int32} (hp : mNL l2 = true) {st : List Value} {T : mT} {Q : mOut → mT → Prop} : XW 79 12 [l0, l1, l2, l3] (.int x :: st) T Q = XW 79 13 [l0, l1, l2, some (.int x)] st T Q := q_is (n := 1) rfl (Nat.le_of_ble_eq_true rfl) (mPl_of rfl hp) rfl
theorem e_79_13 {l1 l2 l3 : Option Value} {x : Nat} {st : List Value} {T : mT} {Q : mOut → mT → Prop} : XW 79 13 [some (.ref x), l1, l2, l3] st T Q = XW 79 14 [some (.ref x), l1, l2, l3] (.ref x :: st) T Q := q_al (n := 1) rfl rfl
theorem e_79_13_n {l1 l2 l3 : Option Value}  {st : List Value} {T : mT} {Q : mOut → mT → Prop} : XW 79 13 [some .null, l1, l2, l3] st T Q = XW 79 14 [some .null, l1, l2, l3] (.null :: st) T Q := q_alN (n := 1) rfl rfl
theorem e_79_14 {lv : mLv} {a : Nat} {st : List Value} {T : mT} {Q : mOut → mT → Prop} (ha : (T.1 a).1 = 9) : XW 79 14 lv (.ref a :: st) T Q = XW 79 17 lv (.int (T.2.1 a 1) :: st) T Q := q_gI rfl ha
theorem e_79_17 {lv : mLv} {x : Int32} {st : List Value} {T : mT} {Q : mOut → mT → Prop} : XW 79 17 lv (.int x :: st) T Q = if x = 0 then XW 79 36 lv st T Q else XW 79 20 lv st T Q := q_zeq rfl
theorem e_79_20 {l0 l1 l2 : Option Value} {x : Int32} {st : List Value} {T : mT} {Q : mOut → mT → Prop} : XW 79 20 [l0, l1, l2, some (.int x)] st T Q = XW 79 21 [l0, l1, l2, some (.int x)] (.int x :: st) T Q := q_il (n := 1) rfl rfl
theorem e_79_21 {l1 l2 l3 : Option Value} {x : Nat} {st : List Value} {T : mT} {Q : mOut → mT → Prop} : XW 79 21 [some (.ref x), l1, l2, l3] st T Q = XW 79 22 [some (.ref x), l1, l2, l3] (.ref x :: st) T Q := q_al (n := 1) rfl rfl
theorem e_79_21_n {l1 l2 l3 : Option Value}  {st : List Value} {T : mT} {Q : mOut → mT → Prop} : XW 79 21 [some .null, l1, l2, l3] st T Q = XW 79 22 [some .null, l1, l2, l3] (.null :: st) T Q := q_alN (n := 1) rfl rfl
theorem e_79_22 {lv : mLv} {a : Nat} {st : List Value} {T : mT} {Q : mOut → mT → Prop} (ha : (T.1 a).1 = 9) : XW 79 22 lv (.ref a :: st) T Q = XW 79 25 lv (.int (T.2.1 a 2) :: st) T Q := q_gI rfl ha
theorem e_79_25 {lv : mLv} {a b : Int32} {st : List Value} {T : mT} {Q : mOut → mT → Prop} : XW 79 25 lv (.int b :: .int a :: st) T Q = if a < b then XW 79 32 lv st T Q else XW 79 28 lv st T Q := q_clt rfl
theorem e_79_28 {lv : mLv}  {st : List Value} {T : mT} {Q : mOut → mT → Prop} : XW 79 28 lv (st) T Q = XW 79 29 lv ((.int 1) :: st) T Q := q_s (n := 1) rfl rfl
theorem e_79_29 {lv : mLv} {st : List Value} {T : mT} {Q : mOut → mT → Prop} : XW 79 29 lv st T Q = XW 79 49 lv st T Q := q_goto rfl
theorem e_79_32 {lv : mLv}  {st : List Value} {T : mT} {Q : mOut → mT → Prop} : XW 79 32 lv (st) T Q = XW 79 33 lv ((.int 0) :: st) T Q := q_s (n := 1) rfl rfl
theorem e_79_33 {lv : mLv} {st : List Value} {T : mT} {Q : mOut → mT → Prop} : XW 79 33 lv st T Q = XW 79 49 lv st T Q := q_goto rfl
theorem e_79_36 {l0 l1 l2 : Option Value} {x : Int32} {st : List Value} {T : mT} {Q : mOut → mT → Prop} : XW 79 36 [l0, l1, l2, some (.int x)] st T Q = XW 79 37 [l0, l1, l2, some (.int x)] (.int x :: st) T Q := q_il (n := 1) rfl rfl
theorem e_79_37 {l1 l2 l3 : Option Value} {x : Nat} {st : List Value} {T : mT} {Q : mOut → mT → Prop} : XW 79 37 [some (.ref x), l1, l2, l3] st T Q = XW 79 38 [some (.ref x), l1, l2, l3] (.ref x :: st) T Q := q_al (n := 1) rfl rfl
theorem e_79_37_n {l1 l2 l3 : Option Value}  {st : List Value} {T : mT} {Q : mOut → mT → Prop} : XW 79 37 [some .null, l1, l2, l3] st T Q = XW 79 38 [some .null, l1, l2, l3] (.null :: st) T Q := q_alN (n := 1) rfl rfl
theorem e_79_38 {lv : mLv} {a : Nat} {st : List Value} {T : mT} {Q : mOut → mT → Prop} (ha : (T.1 a).1 = 9) : XW 79 38 lv (.ref a :: st) T Q = XW 79 41 lv (.int (T.2.1 a 2) :: st) T Q := q_gI rfl ha
theorem e_79_41 {lv : mLv} {a b : Int32} {st : List Value} {T : mT} {Q : mOut → mT → Prop} : XW 79 41 lv (.int b :: .int a :: st) T Q = if b < a then XW 79 48 lv st T Q else XW 79 44 lv st T Q := q_cgt rfl
theorem e_79_44 {lv : mLv}  {st : List Value} {T : mT} {Q : mOut → mT → Prop} : XW 79 44 lv (st) T Q = XW 79 45 lv ((.int 1) :: st) T Q := q_s (n := 1) rfl rfl
theorem e_79_45 {lv : mLv} {st : List Value} {T : mT} {Q : mOut → mT → Prop} : XW 79 45 lv st T Q = XW 79 49 lv st T Q := q_goto rfl
theorem e_79_48 {lv : mLv}  {st : List Value} {T : mT} {Q : mOut → mT → Prop} : XW 79 48 lv (st) T Q = XW 79 49 lv ((.int 0) :: st) T Q := q_s (n := 1) rfl rfl
theorem e_79_49 {lv : mLv} {x : Int32} {T : mT} {Q : mOut → mT → Prop} (hx : x = 0 ∨ x = 1) : XW 79 49 lv [.int x] T Q = Q (.inl (some (.int x))) T := AW_ret rfl (by simp [mRet, hx])
-- 80: yX8_cross
theorem e_80_0 {l0 l1 l2 l4 l5 : Option Value} {x : Int32} {st : List Value} {T : mT} {Q : mOut → mT → Prop} : XW 80 0 [l0, l1, l2, some (.int x), l4, l5] st T Q = XW 80 1 [l0, l1, l2, some (.int x), l4, l5] (.int x :: st) T Q := q_il (n := 1) rfl rfl
theorem e_80_1 {l0 l2 l3 l4 l5 : Option Value} {x : Int32} {st : List Value} {T : mT} {Q : mOut → mT → Prop} : XW 80 1 [l0, some (.int x), l2, l3, l4, l5] st T Q = XW 80 2 [l0, some (.int x), l2, l3, l4, l5] (.int x :: st) T Q := q_il (n := 1) rfl rfl
theorem e_80_2 {lv : mLv} {a b : Int32} {st : List Value} {T : mT} {Q : mOut → mT → Prop} : XW 80 2 lv (.int b :: .int a :: st) T Q = XW 80 3 lv (.int (a - b) :: st) T Q := q_s (n := 1) rfl rfl
theorem e_80_3 {l0 l1 l2 l3 l4 l5 : Option Value} {x : Int32} (hp : mNL l4 = true) {st : List Value} {T : mT} {Q : mOut → mT → Prop} : XW 80 3 [l0, l1, l2, l3, l4, l5] (.int x :: st) T Q = XW 80 5 [l0, l1, l2, l3, l4, some (.int x)] st T Q := q_is (n := 2) rfl (Nat.le_of_ble_eq_true rfl) (mPl_of rfl hp) rfl
theorem e_80_5 {l0 l1 l2 l3 l4 : Option Value} {x : Int32} {st : List Value} {T : mT} {Q : mOut → mT → Prop} : XW 80 5 [l0, l1, l2, l3, l4, some (.int x)] st T Q = XW 80 7 [l0, l1, l2, l3, l4, some (.int x)] (.int x :: st) T Q := q_il (n := 2) rfl rfl
theorem e_80_7 {lv : mLv} {x : Int32} {st : List Value} {T : mT} {Q : mOut → mT → Prop} : XW 80 7 lv (.int x :: st) T Q = if x = 0 then XW 80 10 lv st T Q else XW 80 12 lv st T Q := q_zne rfl
theorem e_80_10 {l0 l1 l3 l4 l5 : Option Value} {x : Int32} {st : List Value} {T : mT} {Q : mOut → mT → Prop} : XW 80 10 [l0, l1, some (.int x), l3, l4, l5] st T Q = XW 80 11 [l0, l1, some (.int x), l3, l4, l5] (.int x :: st) T Q := q_il (n := 1) rfl rfl
theorem e_80_11 {lv : mLv} {x : Int32} {T : mT} {Q : mOut → mT → Prop} : XW 80 11 lv [.int x] T Q = Q (.inl (some (.int x))) T := AW_ret rfl rfl
theorem e_80_12 {l0 l1 l3 l4 l5 : Option Value} {x : Int32} {st : List Value} {T : mT} {Q : mOut → mT → Prop} : XW 80 12 [l0, l1, some (.int x), l3, l4, l5] st T Q = XW 80 13 [l0, l1, some (.int x), l3, l4, l5] (.int x :: st) T Q := q_il (n := 1) rfl rfl
theorem e_80_13 {lv : mLv}  {st : List Value} {T : mT} {Q : mOut → mT → Prop} : XW 80 13 lv (st) T Q = XW 80 14 lv ((.int 2) :: st) T Q := q_s (n := 1) rfl rfl
theorem e_80_14 {l0 l1 l2 l3 l5 : Option Value} {x : Int32} {st : List Value} {T : mT} {Q : mOut → mT → Prop} : XW 80 14 [l0, l1, l2, l3, some (.int x), l5] st T Q = XW 80 16 [l0, l1, l2, l3, some (.int x), l5] (.int x :: st) T Q := q_il (n := 2) rfl rfl
theorem e_80_16 {l0 l1 l3 l4 l5 : Option Value} {x : Int32} {st : List Value} {T : mT} {Q : mOut → mT → Prop} : XW 80 16 [l0, l1, some (.int x), l3, l4, l5] st T Q = XW 80 17 [l0, l1, some (.int x), l3, l4, l5] (.int x :: st) T Q := q_il (n := 1) rfl rfl
theorem e_80_17 {lv : mLv} {a b : Int32} {st : List Value} {T : mT} {Q : mOut → mT → Prop} : XW 80 17 lv (.int b :: .int a :: st) T Q = XW 80 18 lv (.int (a - b) :: st) T Q := q_s (n := 1) rfl rfl
theorem e_80_18 {lv : mLv} {a b : Int32} {st : List Value} {T : mT} {Q : mOut → mT → Prop} : XW 80 18 lv (.int b :: .int a :: st) T Q = XW 80 19 lv (.int (a * b) :: st) T Q := q_s (n := 1) rfl rfl
theorem e_80_19 {l1 l2 l3 l4 l5 : Option Value} {x : Nat} {st : List Value} {T : mT} {Q : mOut → mT → Prop} : XW 80 19 [some (.ref x), l1, l2, l3, l4, l5] st T Q = XW 80 20 [some (.ref x), l1, l2, l3, l4, l5] (.ref x :: st) T Q := q_al (n := 1) rfl rfl
theorem e_80_19_n {l1 l2 l3 l4 l5 : Option Value}  {st : List Value} {T : mT} {Q : mOut → mT → Prop} : XW 80 19 [some .null, l1, l2, l3, l4, l5] st T Q = XW 80 20 [some .null, l1, l2, l3, l4, l5] (.null :: st) T Q := q_alN (n := 1) rfl rfl
theorem e_80_20 {lv : mLv} {a : Nat} {st : List Value} {T : mT} {Q : mOut → mT → Prop} (ha : (T.1 a).1 = 9) : XW 80 20 lv (.ref a :: st) T Q = XW 80 23 lv (.int (T.2.1 a 2) :: st) T Q := q_gI rfl ha
theorem e_80_23 {l0 l2 l3 l4 l5 : Option Value} {x : Int32} {st : List Value} {T : mT} {Q : mOut → mT → Prop} : XW 80 23 [l0, some (.int x), l2, l3, l4, l5] st T Q = XW 80 24 [l0, some (.int x), l2, l3, l4, l5] (.int x :: st) T Q := q_il (n := 1) rfl rfl
theorem e_80_24 {lv : mLv} {a b : Int32} {st : List Value} {T : mT} {Q : mOut → mT → Prop} : XW 80 24 lv (.int b :: .int a :: st) T Q = XW 80 25 lv (.int (a - b) :: st) T Q := q_s (n := 1) rfl rfl
theorem e_80_25 {lv : mLv} {a b : Int32} {st : List Value} {T : mT} {Q : mOut → mT → Prop} : XW 80 25 lv (.int b :: .int a :: st) T Q = XW 80 26 lv (.int (a * b) :: st) T Q := q_s (n := 1) rfl rfl
theorem e_80_26 {l0 l1 l2 l3 l4 : Option Value} {x : Int32} {st : List Value} {T : mT} {Q : mOut → mT → Prop} : XW 80 26 [l0, l1, l2, l3, l4, some (.int x)] st T Q = XW 80 28 [l0, l1, l2, l3, l4, some (.int x)] (.int x :: st) T Q := q_il (n := 2) rfl rfl
theorem e_80_28 {lv : mLv} {a b : Int32} {st : List Value} {T : mT} {Q : mOut → mT → Prop} : XW 80 28 lv (.int b :: .int a :: st) T Q = XW 80 29 lv (.int (a + b) :: st) T Q := q_s (n := 1) rfl rfl
theorem e_80_29 {lv : mLv}  {st : List Value} {T : mT} {Q : mOut → mT → Prop} : XW 80 29 lv (st) T Q = XW 80 30 lv ((.int 2) :: st) T Q := q_s (n := 1) rfl rfl
theorem e_80_30 {l0 l1 l2 l3 l4 : Option Value} {x : Int32} {st : List Value} {T : mT} {Q : mOut → mT → Prop} : XW 80 30 [l0, l1, l2, l3, l4, some (.int x)] st T Q = XW 80 32 [l0, l1, l2, l3, l4, some (.int x)] (.int x :: st) T Q := q_il (n := 2) rfl rfl
theorem e_80_32 {lv : mLv} {a b : Int32} {st : List Value} {T : mT} {Q : mOut → mT → Prop} : XW 80 32 lv (.int b :: .int a :: st) T Q = XW 80 33 lv (.int (a * b) :: st) T Q := q_s (n := 1) rfl rfl
theorem c_80_33 {lv : mLv} {x0 : Int32} {x1 : Int32} {st : List Value} {T : mT} {Q : mOut → mT → Prop} (hc : mCat st ≤ 8) (h : XW 181 0 [some (.int x0), some (.int x1), none] [] T (XB 80 33 lv st Q)) : XW 80 33 lv (.int x1 :: .int x0 :: st) T Q := AW_call rfl (by decide) rfl ⟨Nat.le_of_ble_eq_true rfl, hc, rfl⟩ h
theorem e_80_36 {lv : mLv} {a b : Int32} {st : List Value} {T : mT} {Q : mOut → mT → Prop} : XW 80 36 lv (.int b :: .int a :: st) T Q = XW 80 37 lv (.int (a + b) :: st) T Q := q_s (n := 1) rfl rfl
theorem e_80_37 {lv : mLv} {x : Int32} {T : mT} {Q : mOut → mT → Prop} : XW 80 37 lv [.int x] T Q = Q (.inl (some (.int x))) T := AW_ret rfl rfl
