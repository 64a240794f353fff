/-! steps of J9 (written by a program) -/
-- 181: yJ9_floorDiv_7cf53
theorem e_181_0 {l1 l2 : Option Value} {x : Int32} {st : List Value} {T : mT} {Q : mOut → mT → Prop} : XW 181 0 [some (.int x), l1, l2] st T Q = XW 181 1 [some (.int x), l1, l2] (.int x :: st) T Q := q_il (n := 1) rfl rfl
theorem e_181_1 {l0 l2 : Option Value} {x : Int32} {st : List Value} {T : mT} {Q : mOut → mT → Prop} : XW 181 1 [l0, some (.int x), l2] st T Q = XW 181 2 [l0, some (.int x), l2] (.int x :: st) T Q := q_il (n := 1) rfl rfl
theorem e_181_2 {lv : mLv} {a b : Int32} (hb : ¬ b = 0) {st : List Value} {T : mT} {Q : mOut → mT → Prop} : XW 181 2 lv (.int b :: .int a :: st) T Q = XW 181 3 lv (.int (a / b) :: st) T Q := q_iiz (n := 1) (f := fun a b => a / b) rfl hb
theorem e_181_3 {l0 l1 l2 : Option Value} {x : Int32} (hp : mNL l1 = true) {st : List Value} {T : mT} {Q : mOut → mT → Prop} : XW 181 3 [l0, l1, l2] (.int x :: st) T Q = XW 181 4 [l0, l1, some (.int x)] st T Q := q_is (n := 1) rfl (Nat.le_of_ble_eq_true rfl) (mPl_of rfl hp) rfl
theorem e_181_4 {l1 l2 : Option Value} {x : Int32} {st : List Value} {T : mT} {Q : mOut → mT → Prop} : XW 181 4 [some (.int x), l1, l2] st T Q = XW 181 5 [some (.int x), l1, l2] (.int x :: st) T Q := q_il (n := 1) rfl rfl
theorem e_181_5 {l0 l2 : Option Value} {x : Int32} {st : List Value} {T : mT} {Q : mOut → mT → Prop} : XW 181 5 [l0, some (.int x), l2] st T Q = XW 181 6 [l0, some (.int x), l2] (.int x :: st) T Q := q_il (n := 1) rfl rfl
theorem e_181_6 {lv : mLv} {a b : Int32} {st : List Value} {T : mT} {Q : mOut → mT → Prop} : XW 181 6 lv (.int b :: .int a :: st) T Q = XW 181 7 lv (.int (a ^^^ b) :: st) T Q := q_s (n := 1) rfl rfl
theorem e_181_7 {lv : mLv} {x : Int32} {st : List Value} {T : mT} {Q : mOut → mT → Prop} : XW 181 7 lv (.int x :: st) T Q = if 0 ≤ x then XW 181 21 lv st T Q else XW 181 10 lv st T Q := q_zge rfl
theorem e_181_10 {l0 l1 : Option Value} {x : Int32} {st : List Value} {T : mT} {Q : mOut → mT → Prop} : XW 181 10 [l0, l1, some (.int x)] st T Q = XW 181 11 [l0, l1, some (.int x)] (.int x :: st) T Q := q_il (n := 1) rfl rfl
theorem e_181_11 {l0 l2 : Option Value} {x : Int32} {st : List Value} {T : mT} {Q : mOut → mT → Prop} : XW 181 11 [l0, some (.int x), l2] st T Q = XW 181 12 [l0, some (.int x), l2] (.int x :: st) T Q := q_il (n := 1) rfl rfl
theorem e_181_12 {lv : mLv} {a b : Int32} {st : List Value} {T : mT} {Q : mOut → mT → Prop} : XW 181 12 lv (.int b :: .int a :: st) T Q = XW 181 13 lv (.int (a * b) :: st) T Q := q_s (n := 1) rfl rfl
theorem e_181_13 {l1 l2 : Option Value} {x : Int32} {st : List Value} {T : mT} {Q : mOut → mT → Prop} : XW 181 13 [some (.int x), l1, l2] st T Q = XW 181 14 [some (.int x), l1, l2] (.int x :: st) T Q := q_il (n := 1) rfl rfl
theorem e_181_14 {lv : mLv} {a b : Int32} {st : List Value} {T : mT} {Q : mOut → mT → Prop} : XW 181 14 lv (.int b :: .int a :: st) T Q = if a = b then XW 181 21 lv st T Q else XW 181 17 lv st T Q := q_ceq rfl
theorem e_181_17 {l0 l1 : Option Value} {x : Int32} {st : List Value} {T : mT} {Q : mOut → mT → Prop} : XW 181 17 [l0, l1, some (.int x)] st T Q = XW 181 18 [l0, l1, some (.int x)] (.int x :: st) T Q := q_il (n := 1) rfl rfl
theorem e_181_18 {lv : mLv}  {st : List Value} {T : mT} {Q : mOut → mT → Prop} : XW 181 18 lv (st) T Q = XW 181 19 lv ((.int 1) :: st) T Q := q_s (n := 1) rfl rfl
theorem e_181_19 {lv : mLv} {a b : Int32} {st : List Value} {T : mT} {Q : mOut → mT → Prop} : XW 181 19 lv (.int b :: .int a :: st) T Q = XW 181 20 lv (.int (a - b) :: st) T Q := q_s (n := 1) rfl rfl
theorem e_181_20 {lv : mLv} {x : Int32} {T : mT} {Q : mOut → mT → Prop} : XW 181 20 lv [.int x] T Q = Q (.inl (some (.int x))) T := AW_ret rfl rfl
theorem e_181_21 {l0 l1 : Option Value} {x : Int32} {st : List Value} {T : mT} {Q : mOut → mT → Prop} : XW 181 21 [l0, l1, some (.int x)] st T Q = XW 181 22 [l0, l1, some (.int x)] (.int x :: st) T Q := q_il (n := 1) rfl rfl
theorem e_181_22 {lv : mLv} {x : Int32} {T : mT} {Q : mOut → mT → Prop} : XW 181 22 lv [.int x] T Q = Q (.inl (some (.int x))) T := AW_ret rfl rfl
-- 182: yJ9_abs_0f7a4
theorem e_182_0 {x : Int32} {st : List Value} {T : mT} {Q : mOut → mT → Prop} : XW 182 0 [some (.int x)] st T Q = XW 182 1 [some (.int x)] (.int x :: st) T Q := q_il (n := 1) rfl rfl
theorem e_182_1 {lv : mLv} {x : Int32} {st : List Value} {T : mT} {Q : mOut → mT → Prop} : XW 182 1 lv (.int x :: st) T Q = if 0 ≤ x then XW 182 9 lv st T Q else XW 182 4 lv st T Q := q_zge rfl
theorem e_182_4 {x : Int32} {st : List Value} {T : mT} {Q : mOut → mT → Prop} : XW 182 4 [some (.int x)] st T Q = XW 182 5 [some (.int x)] (.int x :: st) T Q := q_il (n := 1) rfl rfl
theorem e_182_5 {lv : mLv} {a : Int32} {st : List Value} {T : mT} {Q : mOut → mT → Prop} : XW 182 5 lv (.int a :: st) T Q = XW 182 6 lv (.int (-a) :: st) T Q := q_s (n := 1) rfl rfl
theorem e_182_6 {lv : mLv} {st : List Value} {T : mT} {Q : mOut → mT → Prop} : XW 182 6 lv st T Q = XW 182 10 lv st T Q := q_goto rfl
theorem e_182_9 {x : Int32} {st : List Value} {T : mT} {Q : mOut → mT → Prop} : XW 182 9 [some (.int x)] st T Q = XW 182 10 [some (.int x)] (.int x :: st) T Q := q_il (n := 1) rfl rfl
theorem e_182_10 {lv : mLv} {x : Int32} {T : mT} {Q : mOut → mT → Prop} : XW 182 10 lv [.int x] T Q = Q (.inl (some (.int x))) T := AW_ret rfl rfl
-- 183: yJ9_max_7cf53
theorem e_183_0 {l1 : Option Value} {x : Int32} {st : List Value} {T : mT} {Q : mOut → mT → Prop} : XW 183 0 [some (.int x), l1] st T Q = XW 183 1 [some (.int x), l1] (.int x :: st) T Q := q_il (n := 1) rfl rfl
theorem e_183_1 {l0 : Option Value} {x : Int32} {st : List Value} {T : mT} {Q : mOut → mT → Prop} : XW 183 1 [l0, some (.int x)] st T Q = XW 183 2 [l0, some (.int x)] (.int x :: st) T Q := q_il (n := 1) rfl rfl
theorem e_183_2 {lv : mLv} {a b : Int32} {st : List Value} {T : mT} {Q : mOut → mT → Prop} : XW 183 2 lv (.int b :: .int a :: st) T Q = if a < b then XW 183 9 lv st T Q else XW 183 5 lv st T Q := q_clt rfl
theorem e_183_5 {l1 : Option Value} {x : Int32} {st : List Value} {T : mT} {Q : mOut → mT → Prop} : XW 183 5 [some (.int x), l1] st T Q = XW 183 6 [some (.int x), l1] (.int x :: st) T Q := q_il (n := 1) rfl rfl
theorem e_183_6 {lv : mLv} {st : List Value} {T : mT} {Q : mOut → mT → Prop} : XW 183 6 lv st T Q = XW 183 10 lv st T Q := q_goto rfl
theorem e_183_9 {l0 : Option Value} {x : Int32} {st : List Value} {T : mT} {Q : mOut → mT → Prop} : XW 183 9 [l0, some (.int x)] st T Q = XW 183 10 [l0, some (.int x)] (.int x :: st) T Q := q_il (n := 1) rfl rfl
theorem e_183_10 {lv : mLv} {x : Int32} {T : mT} {Q : mOut → mT → Prop} : XW 183 10 lv [.int x] T Q = Q (.inl (some (.int x))) T := AW_ret rfl rfl
-- 184: yJ9_min_7cf53
theorem e_184_0 {l1 : Option Value} {x : Int32} {st : List Value} {T : mT} {Q : mOut → mT → Prop} : XW 184 0 [some (.int x), l1] st T Q = XW 184 1 [some (.int x), l1] (.int x :: st) T Q := q_il (n := 1) rfl rfl
theorem e_184_1 {l0 : Option Value} {x : Int32} {st : List Value} {T : mT} {Q : mOut → mT → Prop} : XW 184 1 [l0, some (.int x)] st T Q = XW 184 2 [l0, some (.int x)] (.int x :: st) T Q := q_il (n := 1) rfl rfl
theorem e_184_2 {lv : mLv} {a b : Int32} {st : List Value} {T : mT} {Q : mOut → mT → Prop} : XW 184 2 lv (.int b :: .int a :: st) T Q = if b < a then XW 184 9 lv st T Q else XW 184 5 lv st T Q := q_cgt rfl
theorem e_184_5 {l1 : Option Value} {x : Int32} {st : List Value} {T : mT} {Q : mOut → mT → Prop} : XW 184 5 [some (.int x), l1] st T Q = XW 184 6 [some (.int x), l1] (.int x :: st) T Q := q_il (n := 1) rfl rfl
theorem e_184_6 {lv : mLv} {st : List Value} {T : mT} {Q : mOut → mT → Prop} : XW 184 6 lv st T Q = XW 184 10 lv st T Q := q_goto rfl
theorem e_184_9 {l0 : Option Value} {x : Int32} {st : List Value} {T : mT} {Q : mOut → mT → Prop} : XW 184 9 [l0, some (.int x)] st T Q = XW 184 10 [l0, some (.int x)] (.int x :: st) T Q := q_il (n := 1) rfl rfl
theorem e_184_10 {lv : mLv} {x : Int32} {T : mT} {Q : mOut → mT → Prop} : XW 184 10 lv [.int x] T Q = Q (.inl (some (.int x))) T := AW_ret rfl rfl
