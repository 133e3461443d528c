theorem ec800 : x_code 800 = cX8_init := rfl
theorem e800_0 {ls st : List Value} {h : x_H} : x_run 800 0 ls st h = q_gr ls 0 (fun v => x_run 800 1 ls (.ref v :: st) h) := xe_aload_n ec800 dX8_init_0
theorem e800_1 {ls st : List Value} {h : x_H} {a : Nat}: x_run 800 1 ls (.ref a :: st) h = if x_wt st ≤ 8 then x_run 800 4 ls st h else none := xe_obj ec800 dX8_init_1 ek8_1
theorem e800_4 {ls st : List Value} {h : x_H} : x_run 800 4 ls st h = q_gr ls 0 (fun v => x_run 800 5 ls (.ref v :: st) h) := xe_aload_n ec800 dX8_init_4
theorem e800_5 {ls st : List Value} {h : x_H} : x_run 800 5 ls st h = x_run 800 8 ls (.int (q_i 199) :: st) h := xe_sipush ec800 dX8_init_5 (by decide)
theorem e800_8 {ls st : List Value} {h : x_H} {x : Int32}: x_run 800 8 ls (.int x :: st) h = q_na h x (fun n => .inl (0, List.replicate n 0)) (fun a h' => x_run 800 10 ls (.ref a :: st) h') := xe_newarray_int ec800 dX8_init_8
theorem e800_10 {ls st : List Value} {h : x_H} {v : Value} {a : Nat}: x_run 800 10 ls (v :: .ref a :: st) h = if x_fit (x_ty 10 0) v = true then q_pf h a 10 0 v (fun h' => x_run 800 13 ls st h') else none := xe_putfield ec800 dX8_init_10 ef8_7 (by decide +kernel)
theorem e800_13 {ls st : List Value} {h : x_H} : x_run 800 13 ls st h = q_gr ls 0 (fun v => x_run 800 14 ls (.ref v :: st) h) := xe_aload_n ec800 dX8_init_13
theorem e800_14 {ls st : List Value} {h : x_H} : x_run 800 14 ls st h = x_run 800 17 ls (.int (q_i 1592) :: st) h := xe_sipush ec800 dX8_init_14 (by decide)
theorem e800_17 {ls st : List Value} {h : x_H} {x : Int32}: x_run 800 17 ls (.int x :: st) h = q_na h x (fun n => .inl (0, List.replicate n 0)) (fun a h' => x_run 800 19 ls (.ref a :: st) h') := xe_newarray_int ec800 dX8_init_17
theorem e800_19 {ls st : List Value} {h : x_H} {v : Value} {a : Nat}: x_run 800 19 ls (v :: .ref a :: st) h = if x_fit (x_ty 10 1) v = true then q_pf h a 10 1 v (fun h' => x_run 800 22 ls st h') else none := xe_putfield ec800 dX8_init_19 ef8_13 (by decide +kernel)
theorem e800_22 {ls st : List Value} {h : x_H} : x_run 800 22 ls st h = q_gr ls 0 (fun v => x_run 800 23 ls (.ref v :: st) h) := xe_aload_n ec800 dX8_init_22
theorem e800_23 {ls st : List Value} {h : x_H} : x_run 800 23 ls st h = x_run 800 26 ls (.int (q_i 199) :: st) h := xe_sipush ec800 dX8_init_23 (by decide)
theorem e800_26 {ls st : List Value} {h : x_H} {x : Int32}: x_run 800 26 ls (.int x :: st) h = q_na h x (fun n => .inl (0, List.replicate n 0)) (fun a h' => x_run 800 28 ls (.ref a :: st) h') := xe_newarray_int ec800 dX8_init_26
theorem e800_28 {ls st : List Value} {h : x_H} {v : Value} {a : Nat}: x_run 800 28 ls (v :: .ref a :: st) h = if x_fit (x_ty 10 2) v = true then q_pf h a 10 2 v (fun h' => x_run 800 31 ls st h') else none := xe_putfield ec800 dX8_init_28 ef8_16 (by decide +kernel)
theorem e800_31 {ls st : List Value} {h : x_H} : x_run 800 31 ls st h = q_gr ls 0 (fun v => x_run 800 32 ls (.ref v :: st) h) := xe_aload_n ec800 dX8_init_31
theorem e800_32 {ls st : List Value} {h : x_H} : x_run 800 32 ls st h = x_run 800 35 ls (.int (q_i 199) :: st) h := xe_sipush ec800 dX8_init_32 (by decide)
theorem e800_35 {ls st : List Value} {h : x_H} {x : Int32}: x_run 800 35 ls (.int x :: st) h = q_na h x (fun n => .inl (0, List.replicate n 0)) (fun a h' => x_run 800 37 ls (.ref a :: st) h') := xe_newarray_int ec800 dX8_init_35
theorem e800_37 {ls st : List Value} {h : x_H} {v : Value} {a : Nat}: x_run 800 37 ls (v :: .ref a :: st) h = if x_fit (x_ty 10 3) v = true then q_pf h a 10 3 v (fun h' => x_run 800 40 ls st h') else none := xe_putfield ec800 dX8_init_37 ef8_19 (by decide +kernel)
theorem e800_40 {ls st : List Value} {h : x_H} : x_run 800 40 ls st h = q_gr ls 0 (fun v => x_run 800 41 ls (.ref v :: st) h) := xe_aload_n ec800 dX8_init_40
theorem e800_41 {ls st : List Value} {h : x_H} : x_run 800 41 ls st h = x_run 800 43 ls (.int (q_i 60) :: st) h := xe_bipush ec800 dX8_init_41 (by decide)
theorem e800_43 {ls st : List Value} {h : x_H} {x : Int32}: x_run 800 43 ls (.int x :: st) h = q_na h x (fun n => .inl (0, List.replicate n 0)) (fun a h' => x_run 800 45 ls (.ref a :: st) h') := xe_newarray_int ec800 dX8_init_43
theorem e800_45 {ls st : List Value} {h : x_H} {v : Value} {a : Nat}: x_run 800 45 ls (v :: .ref a :: st) h = if x_fit (x_ty 10 11) v = true then q_pf h a 10 11 v (fun h' => x_run 800 48 ls st h') else none := xe_putfield ec800 dX8_init_45 ef8_22 (by decide +kernel)
theorem e800_48 {ls st : List Value} {h : x_H} : x_run 800 48 ls st h = q_gr ls 0 (fun v => x_run 800 49 ls (.ref v :: st) h) := xe_aload_n ec800 dX8_init_48
theorem e800_49 {ls st : List Value} {h : x_H} : x_run 800 49 ls st h = x_run 800 50 ls (.int (q_i (-1)) :: st) h := xe_iconst ec800 dX8_init_49
theorem e800_50 {ls st : List Value} {h : x_H} {v : Value} {a : Nat}: x_run 800 50 ls (v :: .ref a :: st) h = if x_fit (x_ty 10 13) v = true then q_pf h a 10 13 v (fun h' => x_run 800 53 ls st h') else none := xe_putfield ec800 dX8_init_50 ef8_25 (by decide +kernel)
theorem e800_53 {ls st : List Value} {h : x_H} : x_run 800 53 ls st h = q_gr ls 0 (fun v => x_run 800 54 ls (.ref v :: st) h) := xe_aload_n ec800 dX8_init_53
theorem e800_54 {ls st : List Value} {h : x_H} : x_run 800 54 ls st h = x_run 800 56 ls (.int (q_i 20) :: st) h := xe_bipush ec800 dX8_init_54 (by decide)
theorem e800_56 {ls st : List Value} {h : x_H} {x : Int32}: x_run 800 56 ls (.int x :: st) h = q_na h x (fun n => .inl (2, List.replicate n 0)) (fun a h' => x_run 800 58 ls (.ref a :: st) h') := xe_newarray_char ec800 dX8_init_56
theorem e800_58 {ls st : List Value} {h : x_H} {v : Value} {a : Nat}: x_run 800 58 ls (v :: .ref a :: st) h = if x_fit (x_ty 10 14) v = true then q_pf h a 10 14 v (fun h' => x_run 800 61 ls st h') else none := xe_putfield ec800 dX8_init_58 ef8_29 (by decide +kernel)
theorem e800_61 {ls st : List Value} {h : x_H} : x_run 800 61 ls st h = q_gr ls 0 (fun v => x_run 800 62 ls (.ref v :: st) h) := xe_aload_n ec800 dX8_init_61
theorem e800_62 {ls st : List Value} {h : x_H} : x_run 800 62 ls st h = x_run 800 64 ls (.int (q_i 96) :: st) h := xe_bipush ec800 dX8_init_62 (by decide)
theorem e800_64 {ls st : List Value} {h : x_H} {x : Int32}: x_run 800 64 ls (.int x :: st) h = q_na h x (fun n => .inl (0, List.replicate n 0)) (fun a h' => x_run 800 66 ls (.ref a :: st) h') := xe_newarray_int ec800 dX8_init_64
theorem e800_66 {ls st : List Value} {h : x_H} {v : Value} {a : Nat}: x_run 800 66 ls (v :: .ref a :: st) h = if x_fit (x_ty 10 16) v = true then q_pf h a 10 16 v (fun h' => x_run 800 69 ls st h') else none := xe_putfield ec800 dX8_init_66 ef8_33 (by decide +kernel)
theorem e800_69 {ls st : List Value} {h : x_H} : x_run 800 69 ls st h = q_gr ls 0 (fun v => x_run 800 70 ls (.ref v :: st) h) := xe_aload_n ec800 dX8_init_69
theorem e800_70 {ls st : List Value} {h : x_H} : x_run 800 70 ls st h = x_run 800 72 ls (.int (q_i 96) :: st) h := xe_bipush ec800 dX8_init_70 (by decide)
theorem e800_72 {ls st : List Value} {h : x_H} {x : Int32}: x_run 800 72 ls (.int x :: st) h = q_na h x (fun n => .inl (0, List.replicate n 0)) (fun a h' => x_run 800 74 ls (.ref a :: st) h') := xe_newarray_int ec800 dX8_init_72
theorem e800_74 {ls st : List Value} {h : x_H} {v : Value} {a : Nat}: x_run 800 74 ls (v :: .ref a :: st) h = if x_fit (x_ty 10 17) v = true then q_pf h a 10 17 v (fun h' => x_run 800 77 ls st h') else none := xe_putfield ec800 dX8_init_74 ef8_36 (by decide +kernel)
theorem e800_77 {ls st : List Value} {h : x_H} : x_run 800 77 ls st h = q_gr ls 0 (fun v => x_run 800 78 ls (.ref v :: st) h) := xe_aload_n ec800 dX8_init_77
theorem e800_78 {ls st : List Value} {h : x_H} : x_run 800 78 ls st h = x_run 800 80 ls (.int (q_i 48) :: st) h := xe_bipush ec800 dX8_init_78 (by decide)
theorem e800_80 {ls st : List Value} {h : x_H} {x : Int32}: x_run 800 80 ls (.int x :: st) h = q_na h x (fun n => .inl (0, List.replicate n 0)) (fun a h' => x_run 800 82 ls (.ref a :: st) h') := xe_newarray_int ec800 dX8_init_80
theorem e800_82 {ls st : List Value} {h : x_H} {v : Value} {a : Nat}: x_run 800 82 ls (v :: .ref a :: st) h = if x_fit (x_ty 10 18) v = true then q_pf h a 10 18 v (fun h' => x_run 800 85 ls st h') else none := xe_putfield ec800 dX8_init_82 ef8_39 (by decide +kernel)
theorem e800_85 {ls st : List Value} {h : x_H} : x_run 800 85 ls st h = q_gr ls 0 (fun v => x_run 800 86 ls (.ref v :: st) h) := xe_aload_n ec800 dX8_init_85
theorem e800_86 {ls st : List Value} {h : x_H} : x_run 800 86 ls st h = x_run 800 89 ls (.int (q_i 128) :: st) h := xe_sipush ec800 dX8_init_86 (by decide)
theorem e800_89 {ls st : List Value} {h : x_H} {x : Int32}: x_run 800 89 ls (.int x :: st) h = q_na h x (fun n => .inl (0, List.replicate n 0)) (fun a h' => x_run 800 91 ls (.ref a :: st) h') := xe_newarray_int ec800 dX8_init_89
theorem e800_91 {ls st : List Value} {h : x_H} {v : Value} {a : Nat}: x_run 800 91 ls (v :: .ref a :: st) h = if x_fit (x_ty 10 21) v = true then q_pf h a 10 21 v (fun h' => x_run 800 94 ls st h') else none := xe_putfield ec800 dX8_init_91 ef8_42 (by decide +kernel)
theorem e800_94 {ls : List Value} {h : x_H} : x_run 800 94 ls [] h = some (.inl (none), h) := xe_return ec800 dX8_init_94 rfl
theorem ec801 : x_code 801 = cX8_thrown := rfl
theorem e801_0 {ls st : List Value} {h : x_H} : x_run 801 0 ls st h = q_gr ls 0 (fun v => x_run 801 1 ls (.ref v :: st) h) := xe_aload_n ec801 dX8_thrown_0
theorem e801_1 {ls st : List Value} {h : x_H} {a : Nat}: x_run 801 1 ls (.ref a :: st) h = q_gf h a 10 7 (fun v => x_run 801 4 ls (v :: st) h) := xe_getfield ec801 dX8_thrown_1 ef8_45
theorem e801_4 {ls : List Value} {h : x_H} {x : Int32} : x_run 801 4 ls [.int x] h = if narrow .int (.int x) = .int x then some (.inl (some (.int x)), h) else none := xe_ireturn ec801 dX8_thrown_4 rfl
theorem ec802 : x_code 802 = cX8_fails := rfl
theorem e802_0 {ls st : List Value} {h : x_H} : x_run 802 0 ls st h = q_gr ls 0 (fun v => x_run 802 1 ls (.ref v :: st) h) := xe_aload_n ec802 dX8_fails_0
theorem e802_1 {ls st : List Value} {h : x_H} : x_run 802 1 ls st h = q_gi ls 1 (fun v => x_run 802 2 ls (.int v :: st) h) := xe_iload_n ec802 dX8_fails_1
theorem e802_2 {ls st : List Value} {h : x_H} {v : Value} {a : Nat}: x_run 802 2 ls (v :: .ref a :: st) h = if x_fit (x_ty 10 7) v = true then q_pf h a 10 7 v (fun h' => x_run 802 5 ls st h') else none := xe_putfield ec802 dX8_fails_2 ef8_45 (by decide +kernel)
theorem e802_5 {ls st : List Value} {h : x_H} : x_run 802 5 ls st h = q_gi ls 1 (fun v => x_run 802 6 ls (.int v :: st) h) := xe_iload_n ec802 dX8_fails_5
theorem e802_6 {ls st : List Value} {h : x_H} {x : Int32}: x_run 802 6 ls (.int x :: st) h = if x ≤ 0 then x_run 802 13 ls st h else x_run 802 9 ls st h := xe_if_le ec802 dX8_fails_6 rfl
theorem e802_9 {ls st : List Value} {h : x_H} : x_run 802 9 ls st h = x_run 802 10 ls (.int (q_i 1) :: st) h := xe_iconst ec802 dX8_fails_9
theorem e802_10 {ls st : List Value} {h : x_H} : x_run 802 10 ls st h = x_run 802 14 ls st h := xe_goto ec802 dX8_fails_10 rfl
theorem e802_13 {ls st : List Value} {h : x_H} : x_run 802 13 ls st h = x_run 802 14 ls (.int (q_i 0) :: st) h := xe_iconst ec802 dX8_fails_13
theorem e802_14 {ls : List Value} {h : x_H} {x : Int32} : x_run 802 14 ls [.int x] h = if narrow .boolean (.int x) = .int x then some (.inl (some (.int x)), h) else none := xe_ireturn ec802 dX8_fails_14 rfl
theorem ec803 : x_code 803 = cX8_refuses := rfl
theorem e803_0 {ls st : List Value} {h : x_H} : x_run 803 0 ls st h = q_gr ls 0 (fun v => x_run 803 1 ls (.ref v :: st) h) := xe_aload_n ec803 dX8_refuses_0
theorem e803_1 {ls st : List Value} {h : x_H} : x_run 803 1 ls st h = x_run 803 2 ls (.int (q_i 1) :: st) h := xe_iconst ec803 dX8_refuses_1
theorem e803_2 {ls st : List Value} {h : x_H} {v : Value} {a : Nat}: x_run 803 2 ls (v :: .ref a :: st) h = if x_fit (x_ty 10 7) v = true then q_pf h a 10 7 v (fun h' => x_run 803 5 ls st h') else none := xe_putfield ec803 dX8_refuses_2 ef8_45 (by decide +kernel)
theorem e803_5 {ls st : List Value} {h : x_H} : x_run 803 5 ls st h = q_gr ls 0 (fun v => x_run 803 6 ls (.ref v :: st) h) := xe_aload_n ec803 dX8_refuses_5
theorem e803_6 {ls st : List Value} {h : x_H} : x_run 803 6 ls st h = q_gi ls 1 (fun v => x_run 803 7 ls (.int v :: st) h) := xe_iload_n ec803 dX8_refuses_6
theorem e803_7 {ls st : List Value} {h : x_H} {v : Value} {a : Nat}: x_run 803 7 ls (v :: .ref a :: st) h = if x_fit (x_ty 10 8) v = true then q_pf h a 10 8 v (fun h' => x_run 803 10 ls st h') else none := xe_putfield ec803 dX8_refuses_7 ef8_48 (by decide +kernel)
theorem e803_10 {ls st : List Value} {h : x_H} : x_run 803 10 ls st h = q_gr ls 0 (fun v => x_run 803 11 ls (.ref v :: st) h) := xe_aload_n ec803 dX8_refuses_10
theorem e803_11 {ls st : List Value} {h : x_H} : x_run 803 11 ls st h = q_gi ls 2 (fun v => x_run 803 12 ls (.int v :: st) h) := xe_iload_n ec803 dX8_refuses_11
theorem e803_12 {ls st : List Value} {h : x_H} {v : Value} {a : Nat}: x_run 803 12 ls (v :: .ref a :: st) h = if x_fit (x_ty 10 9) v = true then q_pf h a 10 9 v (fun h' => x_run 803 15 ls st h') else none := xe_putfield ec803 dX8_refuses_12 ef8_51 (by decide +kernel)
theorem e803_15 {ls st : List Value} {h : x_H} : x_run 803 15 ls st h = q_gr ls 0 (fun v => x_run 803 16 ls (.ref v :: st) h) := xe_aload_n ec803 dX8_refuses_15
theorem e803_16 {ls st : List Value} {h : x_H} : x_run 803 16 ls st h = x_run 803 17 ls (.int (q_i 0) :: st) h := xe_iconst ec803 dX8_refuses_16
theorem e803_17 {ls st : List Value} {h : x_H} {v : Value} {a : Nat}: x_run 803 17 ls (v :: .ref a :: st) h = if x_fit (x_ty 10 10) v = true then q_pf h a 10 10 v (fun h' => x_run 803 20 ls st h') else none := xe_putfield ec803 dX8_refuses_17 ef8_54 (by decide +kernel)
theorem e803_20 {ls st : List Value} {h : x_H} : x_run 803 20 ls st h = x_run 803 21 ls (.int (q_i 0) :: st) h := xe_iconst ec803 dX8_refuses_20
theorem e803_21 {ls : List Value} {h : x_H} {x : Int32} : x_run 803 21 ls [.int x] h = if narrow .int (.int x) = .int x then some (.inl (some (.int x)), h) else none := xe_ireturn ec803 dX8_refuses_21 rfl
theorem ec804 : x_code 804 = cX8_in := rfl
theorem e804_0 {ls st : List Value} {h : x_H} : x_run 804 0 ls st h = q_gi ls 0 (fun v => x_run 804 1 ls (.int v :: st) h) := xe_iload_n ec804 dX8_in_0
theorem e804_1 {ls st : List Value} {h : x_H} : x_run 804 1 ls st h = q_gi ls 1 (fun v => x_run 804 2 ls (.int v :: st) h) := xe_iload_n ec804 dX8_in_1
theorem e804_2 {ls st : List Value} {h : x_H} {x y : Int32}: x_run 804 2 ls (.int y :: .int x :: st) h = if x < y then x_run 804 14 ls st h else x_run 804 5 ls st h := xe_ic_lt ec804 dX8_in_2 rfl
theorem e804_5 {ls st : List Value} {h : x_H} : x_run 804 5 ls st h = q_gi ls 0 (fun v => x_run 804 6 ls (.int v :: st) h) := xe_iload_n ec804 dX8_in_5
theorem e804_6 {ls st : List Value} {h : x_H} : x_run 804 6 ls st h = q_gi ls 2 (fun v => x_run 804 7 ls (.int v :: st) h) := xe_iload_n ec804 dX8_in_6
theorem e804_7 {ls st : List Value} {h : x_H} {x y : Int32}: x_run 804 7 ls (.int y :: .int x :: st) h = if y < x then x_run 804 14 ls st h else x_run 804 10 ls st h := xe_ic_gt ec804 dX8_in_7 rfl
theorem e804_10 {ls st : List Value} {h : x_H} : x_run 804 10 ls st h = x_run 804 11 ls (.int (q_i 1) :: st) h := xe_iconst ec804 dX8_in_10
theorem e804_11 {ls st : List Value} {h : x_H} : x_run 804 11 ls st h = x_run 804 15 ls st h := xe_goto ec804 dX8_in_11 rfl
theorem e804_14 {ls st : List Value} {h : x_H} : x_run 804 14 ls st h = x_run 804 15 ls (.int (q_i 0) :: st) h := xe_iconst ec804 dX8_in_14
theorem e804_15 {ls : List Value} {h : x_H} {x : Int32} : x_run 804 15 ls [.int x] h = if narrow .boolean (.int x) = .int x then some (.inl (some (.int x)), h) else none := xe_ireturn ec804 dX8_in_15 rfl
theorem ec805 : x_code 805 = cX8_copies := rfl
theorem e805_0 {ls st : List Value} {h : x_H} : x_run 805 0 ls st h = x_run 805 1 ls (.int (q_i 0) :: st) h := xe_iconst ec805 dX8_copies_0
theorem e805_1 {ls st : List Value} {h : x_H} {x : Int32}: x_run 805 1 ls (.int x :: st) h = q_ls ls 4 (.int x) (fun ls' => x_run 805 3 ls' st h) := xe_istore ec805 dX8_copies_1
theorem e805_3 {ls st : List Value} {h : x_H} : x_run 805 3 ls st h = q_gi ls 4 (fun v => x_run 805 5 ls (.int v :: st) h) := xe_iload ec805 dX8_copies_3
theorem e805_5 {ls st : List Value} {h : x_H} : x_run 805 5 ls st h = x_run 805 8 ls (.int (q_i 199) :: st) h := xe_sipush ec805 dX8_copies_5 (by decide)
theorem e805_8 {ls st : List Value} {h : x_H} {x y : Int32}: x_run 805 8 ls (.int y :: .int x :: st) h = if y ≤ x then x_run 805 29 ls st h else x_run 805 11 ls st h := xe_ic_ge ec805 dX8_copies_8 rfl
theorem e805_11 {ls st : List Value} {h : x_H} : x_run 805 11 ls st h = q_gr ls 2 (fun v => x_run 805 12 ls (.ref v :: st) h) := xe_aload_n ec805 dX8_copies_11
theorem e805_12 {ls st : List Value} {h : x_H} : x_run 805 12 ls st h = q_gi ls 3 (fun v => x_run 805 13 ls (.int v :: st) h) := xe_iload_n ec805 dX8_copies_12
theorem e805_13 {ls st : List Value} {h : x_H} : x_run 805 13 ls st h = q_gi ls 4 (fun v => x_run 805 15 ls (.int v :: st) h) := xe_iload ec805 dX8_copies_13
theorem e805_15 {ls st : List Value} {h : x_H} {x y : Int32}: x_run 805 15 ls (.int y :: .int x :: st) h = x_run 805 16 ls (.int (x + y) :: st) h := xe_iadd ec805 dX8_copies_15
theorem e805_16 {ls st : List Value} {h : x_H} : x_run 805 16 ls st h = q_gr ls 0 (fun v => x_run 805 17 ls (.ref v :: st) h) := xe_aload_n ec805 dX8_copies_16
theorem e805_17 {ls st : List Value} {h : x_H} : x_run 805 17 ls st h = q_gi ls 1 (fun v => x_run 805 18 ls (.int v :: st) h) := xe_iload_n ec805 dX8_copies_17
theorem e805_18 {ls st : List Value} {h : x_H} : x_run 805 18 ls st h = q_gi ls 4 (fun v => x_run 805 20 ls (.int v :: st) h) := xe_iload ec805 dX8_copies_18
theorem e805_20 {ls st : List Value} {h : x_H} {x y : Int32}: x_run 805 20 ls (.int y :: .int x :: st) h = x_run 805 21 ls (.int (x + y) :: st) h := xe_iadd ec805 dX8_copies_20
theorem e805_21 {ls st : List Value} {h : x_H} {x : Int32} {a : Nat}: x_run 805 21 ls (.int x :: .ref a :: st) h = q_ra h a 0 x (fun v => x_run 805 22 ls (.int v :: st) h) := xe_iaload ec805 dX8_copies_21
theorem e805_22 {ls st : List Value} {h : x_H} {x y : Int32} {a : Nat}: x_run 805 22 ls (.int y :: .int x :: .ref a :: st) h = q_wa h a 0 x y (fun h' => x_run 805 23 ls st h') := xe_iastore ec805 dX8_copies_22
theorem e805_23 {ls st : List Value} {h : x_H} : x_run 805 23 ls st h = q_gi ls 4 (fun v => if x_nd ls 4 = true then x_run 805 26 (ls.set 4 (.int (v + q_i 1))) st h else none) := xe_iinc ec805 dX8_copies_23
theorem e805_26 {ls st : List Value} {h : x_H} : x_run 805 26 ls st h = x_run 805 3 ls st h := xe_goto ec805 dX8_copies_26 rfl
theorem e805_29 {ls : List Value} {h : x_H} : x_run 805 29 ls [] h = some (.inl (none), h) := xe_return ec805 dX8_copies_29 rfl
theorem ec806 : x_code 806 = cX8_keeps := rfl
theorem e806_0 {ls st : List Value} {h : x_H} : x_run 806 0 ls st h = q_gr ls 0 (fun v => x_run 806 1 ls (.ref v :: st) h) := xe_aload_n ec806 dX8_keeps_0
theorem e806_1 {ls st : List Value} {h : x_H} : x_run 806 1 ls st h = x_run 806 2 ls (.int (q_i 0) :: st) h := xe_iconst ec806 dX8_keeps_1
theorem e806_2 {ls st : List Value} {h : x_H} {v : Value} {a : Nat}: x_run 806 2 ls (v :: .ref a :: st) h = if x_fit (x_ty 10 7) v = true then q_pf h a 10 7 v (fun h' => x_run 806 5 ls st h') else none := xe_putfield ec806 dX8_keeps_2 ef8_45 (by decide +kernel)
theorem e806_5 {ls st : List Value} {h : x_H} : x_run 806 5 ls st h = q_gr ls 0 (fun v => x_run 806 6 ls (.ref v :: st) h) := xe_aload_n ec806 dX8_keeps_5
theorem e806_6 {ls st : List Value} {h : x_H} {a : Nat}: x_run 806 6 ls (.ref a :: st) h = q_gf h a 10 6 (fun v => x_run 806 9 ls (v :: st) h) := xe_getfield ec806 dX8_keeps_6 ef8_57
theorem e806_9 {ls st : List Value} {h : x_H} {x : Int32}: x_run 806 9 ls (.int x :: st) h = if x = 0 then x_run 806 13 ls st h else x_run 806 12 ls st h := xe_if_eq ec806 dX8_keeps_9 rfl
theorem e806_12 {ls : List Value} {h : x_H} : x_run 806 12 ls [] h = some (.inl (none), h) := xe_return ec806 dX8_keeps_12 rfl
theorem e806_13 {ls st : List Value} {h : x_H} : x_run 806 13 ls st h = q_gr ls 0 (fun v => x_run 806 14 ls (.ref v :: st) h) := xe_aload_n ec806 dX8_keeps_13
theorem e806_14 {ls st : List Value} {h : x_H} {a : Nat}: x_run 806 14 ls (.ref a :: st) h = q_gf h a 10 5 (fun v => x_run 806 17 ls (v :: st) h) := xe_getfield ec806 dX8_keeps_14 ef8_61
theorem e806_17 {ls st : List Value} {h : x_H} : x_run 806 17 ls st h = x_run 806 19 ls (.int (q_i 8) :: st) h := xe_bipush ec806 dX8_keeps_17 (by decide)
theorem e806_19 {ls st : List Value} {h : x_H} {x y : Int32}: x_run 806 19 ls (.int y :: .int x :: st) h = if ¬ x = y then x_run 806 63 ls st h else x_run 806 22 ls st h := xe_ic_ne ec806 dX8_keeps_19 rfl
theorem e806_22 {ls st : List Value} {h : x_H} : x_run 806 22 ls st h = x_run 806 23 ls (.int (q_i 0) :: st) h := xe_iconst ec806 dX8_keeps_22
theorem e806_23 {ls st : List Value} {h : x_H} {x : Int32}: x_run 806 23 ls (.int x :: st) h = q_ls ls 2 (.int x) (fun ls' => x_run 806 24 ls' st h) := xe_istore_n ec806 dX8_keeps_23
theorem e806_24 {ls st : List Value} {h : x_H} : x_run 806 24 ls st h = q_gi ls 2 (fun v => x_run 806 25 ls (.int v :: st) h) := xe_iload_n ec806 dX8_keeps_24
theorem e806_25 {ls st : List Value} {h : x_H} : x_run 806 25 ls st h = x_run 806 28 ls (.int (q_i 1393) :: st) h := xe_sipush ec806 dX8_keeps_25 (by decide)
theorem e806_28 {ls st : List Value} {h : x_H} {x y : Int32}: x_run 806 28 ls (.int y :: .int x :: st) h = if y ≤ x then x_run 806 53 ls st h else x_run 806 31 ls st h := xe_ic_ge ec806 dX8_keeps_28 rfl
theorem e806_31 {ls st : List Value} {h : x_H} : x_run 806 31 ls st h = q_gr ls 0 (fun v => x_run 806 32 ls (.ref v :: st) h) := xe_aload_n ec806 dX8_keeps_31
theorem e806_32 {ls st : List Value} {h : x_H} {a : Nat}: x_run 806 32 ls (.ref a :: st) h = q_gf h a 10 1 (fun v => x_run 806 35 ls (v :: st) h) := xe_getfield ec806 dX8_keeps_32 ef8_13
theorem e806_35 {ls st : List Value} {h : x_H} : x_run 806 35 ls st h = q_gi ls 2 (fun v => x_run 806 36 ls (.int v :: st) h) := xe_iload_n ec806 dX8_keeps_35
theorem e806_36 {ls st : List Value} {h : x_H} : x_run 806 36 ls st h = q_gr ls 0 (fun v => x_run 806 37 ls (.ref v :: st) h) := xe_aload_n ec806 dX8_keeps_36
theorem e806_37 {ls st : List Value} {h : x_H} {a : Nat}: x_run 806 37 ls (.ref a :: st) h = q_gf h a 10 1 (fun v => x_run 806 40 ls (v :: st) h) := xe_getfield ec806 dX8_keeps_37 ef8_13
theorem e806_40 {ls st : List Value} {h : x_H} : x_run 806 40 ls st h = q_gi ls 2 (fun v => x_run 806 41 ls (.int v :: st) h) := xe_iload_n ec806 dX8_keeps_40
theorem e806_41 {ls st : List Value} {h : x_H} : x_run 806 41 ls st h = x_run 806 44 ls (.int (q_i 199) :: st) h := xe_sipush ec806 dX8_keeps_41 (by decide)
theorem e806_44 {ls st : List Value} {h : x_H} {x y : Int32}: x_run 806 44 ls (.int y :: .int x :: st) h = x_run 806 45 ls (.int (x + y) :: st) h := xe_iadd ec806 dX8_keeps_44
theorem e806_45 {ls st : List Value} {h : x_H} {x : Int32} {a : Nat}: x_run 806 45 ls (.int x :: .ref a :: st) h = q_ra h a 0 x (fun v => x_run 806 46 ls (.int v :: st) h) := xe_iaload ec806 dX8_keeps_45
theorem e806_46 {ls st : List Value} {h : x_H} {x y : Int32} {a : Nat}: x_run 806 46 ls (.int y :: .int x :: .ref a :: st) h = q_wa h a 0 x y (fun h' => x_run 806 47 ls st h') := xe_iastore ec806 dX8_keeps_46
theorem e806_47 {ls st : List Value} {h : x_H} : x_run 806 47 ls st h = q_gi ls 2 (fun v => if x_nd ls 2 = true then x_run 806 50 (ls.set 2 (.int (v + q_i 1))) st h else none) := xe_iinc ec806 dX8_keeps_47
theorem e806_50 {ls st : List Value} {h : x_H} : x_run 806 50 ls st h = x_run 806 24 ls st h := xe_goto ec806 dX8_keeps_50 rfl
theorem e806_53 {ls st : List Value} {h : x_H} : x_run 806 53 ls st h = q_gr ls 0 (fun v => x_run 806 54 ls (.ref v :: st) h) := xe_aload_n ec806 dX8_keeps_53
theorem e806_54 {ls st : List Value} {h : x_H} {v : Value} (hv : v.category = 1): x_run 806 54 ls (v :: st) h = x_run 806 55 ls (v :: v :: st) h := xe_dup ec806 dX8_keeps_54 hv
theorem e806_55 {ls st : List Value} {h : x_H} {a : Nat}: x_run 806 55 ls (.ref a :: st) h = q_gf h a 10 5 (fun v => x_run 806 58 ls (v :: st) h) := xe_getfield ec806 dX8_keeps_55 ef8_61
theorem e806_58 {ls st : List Value} {h : x_H} : x_run 806 58 ls st h = x_run 806 59 ls (.int (q_i 1) :: st) h := xe_iconst ec806 dX8_keeps_58
theorem e806_59 {ls st : List Value} {h : x_H} {x y : Int32}: x_run 806 59 ls (.int y :: .int x :: st) h = x_run 806 60 ls (.int (x - y) :: st) h := xe_isub ec806 dX8_keeps_59
theorem e806_60 {ls st : List Value} {h : x_H} {v : Value} {a : Nat}: x_run 806 60 ls (v :: .ref a :: st) h = if x_fit (x_ty 10 5) v = true then q_pf h a 10 5 v (fun h' => x_run 806 63 ls st h') else none := xe_putfield ec806 dX8_keeps_60 ef8_61 (by decide +kernel)
theorem e806_63 {ls st : List Value} {h : x_H} : x_run 806 63 ls st h = q_gr ls 1 (fun v => x_run 806 64 ls (.ref v :: st) h) := xe_aload_n ec806 dX8_keeps_63
theorem e806_64 {ls st : List Value} {h : x_H} : x_run 806 64 ls st h = x_run 806 65 ls (.int (q_i 0) :: st) h := xe_iconst ec806 dX8_keeps_64
theorem e806_65 {ls st : List Value} {h : x_H} : x_run 806 65 ls st h = q_gr ls 0 (fun v => x_run 806 66 ls (.ref v :: st) h) := xe_aload_n ec806 dX8_keeps_65
theorem e806_66 {ls st : List Value} {h : x_H} {a : Nat}: x_run 806 66 ls (.ref a :: st) h = q_gf h a 10 1 (fun v => x_run 806 69 ls (v :: st) h) := xe_getfield ec806 dX8_keeps_66 ef8_13
theorem e806_69 {ls st : List Value} {h : x_H} : x_run 806 69 ls st h = x_run 806 72 ls (.int (q_i 199) :: st) h := xe_sipush ec806 dX8_keeps_69 (by decide)
theorem e806_72 {ls st : List Value} {h : x_H} : x_run 806 72 ls st h = q_gr ls 0 (fun v => x_run 806 73 ls (.ref v :: st) h) := xe_aload_n ec806 dX8_keeps_72
theorem e806_73 {ls st : List Value} {h : x_H} {a : Nat}: x_run 806 73 ls (.ref a :: st) h = q_gf h a 10 5 (fun v => x_run 806 76 ls (v :: st) h) := xe_getfield ec806 dX8_keeps_73 ef8_61
theorem e806_76 {ls st : List Value} {h : x_H} {x y : Int32}: x_run 806 76 ls (.int y :: .int x :: st) h = x_run 806 77 ls (.int (x * y) :: st) h := xe_imul ec806 dX8_keeps_76
theorem e806_77 {ls st : List Value} {h : x_H} {a1 a2 a3 a4 : Value}: x_run 806 77 ls (a4 :: a3 :: a2 :: a1 :: st) h = if x_wt st ≤ 8 ∧ x_wt [a1, a2, a3, a4] = 4 then q_cl (x_m 805 [a1, a2, a3, a4] h) (fun v h' => x_run 806 80 ls (v.toList ++ st) h') else none := xe_stat (args := [a1, a2, a3, a4]) ec806 dX8_keeps_77 ek8_64 (by decide) rfl (by decide +kernel) (by decide +kernel)
theorem e806_80 {ls st : List Value} {h : x_H} : x_run 806 80 ls st h = q_gr ls 0 (fun v => x_run 806 81 ls (.ref v :: st) h) := xe_aload_n ec806 dX8_keeps_80
theorem e806_81 {ls st : List Value} {h : x_H} {v : Value} (hv : v.category = 1): x_run 806 81 ls (v :: st) h = x_run 806 82 ls (v :: v :: st) h := xe_dup ec806 dX8_keeps_81 hv
theorem e806_82 {ls st : List Value} {h : x_H} {a : Nat}: x_run 806 82 ls (.ref a :: st) h = q_gf h a 10 5 (fun v => x_run 806 85 ls (v :: st) h) := xe_getfield ec806 dX8_keeps_82 ef8_61
theorem e806_85 {ls st : List Value} {h : x_H} : x_run 806 85 ls st h = x_run 806 86 ls (.int (q_i 1) :: st) h := xe_iconst ec806 dX8_keeps_85
theorem e806_86 {ls st : List Value} {h : x_H} {x y : Int32}: x_run 806 86 ls (.int y :: .int x :: st) h = x_run 806 87 ls (.int (x + y) :: st) h := xe_iadd ec806 dX8_keeps_86
theorem e806_87 {ls st : List Value} {h : x_H} {v : Value} {a : Nat}: x_run 806 87 ls (v :: .ref a :: st) h = if x_fit (x_ty 10 5) v = true then q_pf h a 10 5 v (fun h' => x_run 806 90 ls st h') else none := xe_putfield ec806 dX8_keeps_87 ef8_61 (by decide +kernel)
theorem e806_90 {ls : List Value} {h : x_H} : x_run 806 90 ls [] h = some (.inl (none), h) := xe_return ec806 dX8_keeps_90 rfl
theorem ec807 : x_code 807 = cX8_isPlace := rfl
theorem e807_0 {ls st : List Value} {h : x_H} : x_run 807 0 ls st h = q_gi ls 0 (fun v => x_run 807 1 ls (.int v :: st) h) := xe_iload_n ec807 dX8_isPlace_0
theorem e807_1 {ls st : List Value} {h : x_H} : x_run 807 1 ls st h = x_run 807 2 ls (.int (q_i 0) :: st) h := xe_iconst ec807 dX8_isPlace_1
theorem e807_2 {ls st : List Value} {h : x_H} : x_run 807 2 ls st h = x_run 807 3 ls (.int (q_i 5) :: st) h := xe_iconst ec807 dX8_isPlace_2
theorem e807_3 {ls st : List Value} {h : x_H} {a1 a2 a3 : Value}: x_run 807 3 ls (a3 :: a2 :: a1 :: st) h = if x_wt st ≤ 8 ∧ x_wt [a1, a2, a3] = 3 then q_cl (x_m 804 [a1, a2, a3] h) (fun v h' => x_run 807 6 ls (v.toList ++ st) h') else none := xe_stat (args := [a1, a2, a3]) ec807 dX8_isPlace_3 ek8_68 (by decide) rfl (by decide +kernel) (by decide +kernel)
theorem e807_6 {ls st : List Value} {h : x_H} {x : Int32}: x_run 807 6 ls (.int x :: st) h = if x = 0 then x_run 807 23 ls st h else x_run 807 9 ls st h := xe_if_eq ec807 dX8_isPlace_6 rfl
theorem e807_9 {ls st : List Value} {h : x_H} : x_run 807 9 ls st h = q_gi ls 1 (fun v => x_run 807 10 ls (.int v :: st) h) := xe_iload_n ec807 dX8_isPlace_9
theorem e807_10 {ls st : List Value} {h : x_H} : x_run 807 10 ls st h = x_run 807 11 ls (.int (q_i 0) :: st) h := xe_iconst ec807 dX8_isPlace_10
theorem e807_11 {ls st : List Value} {h : x_H} : x_run 807 11 ls st h = x_run 807 13 ls (.int (q_i 7) :: st) h := xe_bipush ec807 dX8_isPlace_11 (by decide)
theorem e807_13 {ls st : List Value} {h : x_H} {a1 a2 a3 : Value}: x_run 807 13 ls (a3 :: a2 :: a1 :: st) h = if x_wt st ≤ 8 ∧ x_wt [a1, a2, a3] = 3 then q_cl (x_m 804 [a1, a2, a3] h) (fun v h' => x_run 807 16 ls (v.toList ++ st) h') else none := xe_stat (args := [a1, a2, a3]) ec807 dX8_isPlace_13 ek8_68 (by decide) rfl (by decide +kernel) (by decide +kernel)
theorem e807_16 {ls st : List Value} {h : x_H} {x : Int32}: x_run 807 16 ls (.int x :: st) h = if x = 0 then x_run 807 23 ls st h else x_run 807 19 ls st h := xe_if_eq ec807 dX8_isPlace_16 rfl
theorem e807_19 {ls st : List Value} {h : x_H} : x_run 807 19 ls st h = x_run 807 20 ls (.int (q_i 1) :: st) h := xe_iconst ec807 dX8_isPlace_19
theorem e807_20 {ls st : List Value} {h : x_H} : x_run 807 20 ls st h = x_run 807 24 ls st h := xe_goto ec807 dX8_isPlace_20 rfl
theorem e807_23 {ls st : List Value} {h : x_H} : x_run 807 23 ls st h = x_run 807 24 ls (.int (q_i 0) :: st) h := xe_iconst ec807 dX8_isPlace_23
theorem e807_24 {ls : List Value} {h : x_H} {x : Int32} : x_run 807 24 ls [.int x] h = if narrow .boolean (.int x) = .int x then some (.inl (some (.int x)), h) else none := xe_ireturn ec807 dX8_isPlace_24 rfl
theorem ec808 : x_code 808 = cX8_isCell := rfl
theorem e808_0 {ls st : List Value} {h : x_H} : x_run 808 0 ls st h = q_gi ls 0 (fun v => x_run 808 1 ls (.int v :: st) h) := xe_iload_n ec808 dX8_isCell_0
theorem e808_1 {ls st : List Value} {h : x_H} : x_run 808 1 ls st h = q_gi ls 1 (fun v => x_run 808 2 ls (.int v :: st) h) := xe_iload_n ec808 dX8_isCell_1
theorem e808_2 {ls st : List Value} {h : x_H} {a1 a2 : Value}: x_run 808 2 ls (a2 :: a1 :: st) h = if x_wt st ≤ 8 ∧ x_wt [a1, a2] = 2 then q_cl (x_m 807 [a1, a2] h) (fun v h' => x_run 808 5 ls (v.toList ++ st) h') else none := xe_stat (args := [a1, a2]) ec808 dX8_isCell_2 ek8_72 (by decide) rfl (by decide +kernel) (by decide +kernel)
theorem e808_5 {ls st : List Value} {h : x_H} {x : Int32}: x_run 808 5 ls (.int x :: st) h = if x = 0 then x_run 808 21 ls st h else x_run 808 8 ls st h := xe_if_eq ec808 dX8_isCell_5 rfl
theorem e808_8 {ls st : List Value} {h : x_H} : x_run 808 8 ls st h = q_gi ls 2 (fun v => x_run 808 9 ls (.int v :: st) h) := xe_iload_n ec808 dX8_isCell_8
theorem e808_9 {ls st : List Value} {h : x_H} : x_run 808 9 ls st h = x_run 808 10 ls (.int (q_i 0) :: st) h := xe_iconst ec808 dX8_isCell_9
theorem e808_10 {ls st : List Value} {h : x_H} : x_run 808 10 ls st h = x_run 808 11 ls (.int (q_i 1) :: st) h := xe_iconst ec808 dX8_isCell_10
theorem e808_11 {ls st : List Value} {h : x_H} {a1 a2 a3 : Value}: x_run 808 11 ls (a3 :: a2 :: a1 :: st) h = if x_wt st ≤ 8 ∧ x_wt [a1, a2, a3] = 3 then q_cl (x_m 804 [a1, a2, a3] h) (fun v h' => x_run 808 14 ls (v.toList ++ st) h') else none := xe_stat (args := [a1, a2, a3]) ec808 dX8_isCell_11 ek8_68 (by decide) rfl (by decide +kernel) (by decide +kernel)
theorem e808_14 {ls st : List Value} {h : x_H} {x : Int32}: x_run 808 14 ls (.int x :: st) h = if x = 0 then x_run 808 21 ls st h else x_run 808 17 ls st h := xe_if_eq ec808 dX8_isCell_14 rfl
theorem e808_17 {ls st : List Value} {h : x_H} : x_run 808 17 ls st h = x_run 808 18 ls (.int (q_i 1) :: st) h := xe_iconst ec808 dX8_isCell_17
theorem e808_18 {ls st : List Value} {h : x_H} : x_run 808 18 ls st h = x_run 808 22 ls st h := xe_goto ec808 dX8_isCell_18 rfl
theorem e808_21 {ls st : List Value} {h : x_H} : x_run 808 21 ls st h = x_run 808 22 ls (.int (q_i 0) :: st) h := xe_iconst ec808 dX8_isCell_21
theorem e808_22 {ls : List Value} {h : x_H} {x : Int32} : x_run 808 22 ls [.int x] h = if narrow .boolean (.int x) = .int x then some (.inl (some (.int x)), h) else none := xe_ireturn ec808 dX8_isCell_22 rfl
theorem ec809 : x_code 809 = cX8_cellOf := rfl
theorem e809_0 {ls st : List Value} {h : x_H} : x_run 809 0 ls st h = x_run 809 2 ls (.int (q_i 48) :: st) h := xe_bipush ec809 dX8_cellOf_0 (by decide)
theorem e809_2 {ls st : List Value} {h : x_H} : x_run 809 2 ls st h = q_gi ls 2 (fun v => x_run 809 3 ls (.int v :: st) h) := xe_iload_n ec809 dX8_cellOf_2
theorem e809_3 {ls st : List Value} {h : x_H} {x y : Int32}: x_run 809 3 ls (.int y :: .int x :: st) h = x_run 809 4 ls (.int (x * y) :: st) h := xe_imul ec809 dX8_cellOf_3
theorem e809_4 {ls st : List Value} {h : x_H} : x_run 809 4 ls st h = x_run 809 6 ls (.int (q_i 8) :: st) h := xe_bipush ec809 dX8_cellOf_4 (by decide)
theorem e809_6 {ls st : List Value} {h : x_H} : x_run 809 6 ls st h = q_gi ls 0 (fun v => x_run 809 7 ls (.int v :: st) h) := xe_iload_n ec809 dX8_cellOf_6
theorem e809_7 {ls st : List Value} {h : x_H} {x y : Int32}: x_run 809 7 ls (.int y :: .int x :: st) h = x_run 809 8 ls (.int (x * y) :: st) h := xe_imul ec809 dX8_cellOf_7
theorem e809_8 {ls st : List Value} {h : x_H} {x y : Int32}: x_run 809 8 ls (.int y :: .int x :: st) h = x_run 809 9 ls (.int (x + y) :: st) h := xe_iadd ec809 dX8_cellOf_8
theorem e809_9 {ls st : List Value} {h : x_H} : x_run 809 9 ls st h = q_gi ls 1 (fun v => x_run 809 10 ls (.int v :: st) h) := xe_iload_n ec809 dX8_cellOf_9
theorem e809_10 {ls st : List Value} {h : x_H} {x y : Int32}: x_run 809 10 ls (.int y :: .int x :: st) h = x_run 809 11 ls (.int (x + y) :: st) h := xe_iadd ec809 dX8_cellOf_10
theorem e809_11 {ls : List Value} {h : x_H} {x : Int32} : x_run 809 11 ls [.int x] h = if narrow .int (.int x) = .int x then some (.inl (some (.int x)), h) else none := xe_ireturn ec809 dX8_cellOf_11 rfl
theorem ec810 : x_code 810 = cX8_isNet := rfl
theorem e810_0 {ls st : List Value} {h : x_H} : x_run 810 0 ls st h = q_gi ls 1 (fun v => x_run 810 1 ls (.int v :: st) h) := xe_iload_n ec810 dX8_isNet_0
theorem e810_1 {ls st : List Value} {h : x_H} : x_run 810 1 ls st h = x_run 810 2 ls (.int (q_i 0) :: st) h := xe_iconst ec810 dX8_isNet_1
theorem e810_2 {ls st : List Value} {h : x_H} : x_run 810 2 ls st h = q_gr ls 0 (fun v => x_run 810 3 ls (.ref v :: st) h) := xe_aload_n ec810 dX8_isNet_2
theorem e810_3 {ls st : List Value} {h : x_H} {a : Nat}: x_run 810 3 ls (.ref a :: st) h = q_gf h a 10 0 (fun v => x_run 810 6 ls (v :: st) h) := xe_getfield ec810 dX8_isNet_3 ef8_7
theorem e810_6 {ls st : List Value} {h : x_H} : x_run 810 6 ls st h = x_run 810 7 ls (.int (q_i 0) :: st) h := xe_iconst ec810 dX8_isNet_6
theorem e810_7 {ls st : List Value} {h : x_H} {x : Int32} {a : Nat}: x_run 810 7 ls (.int x :: .ref a :: st) h = q_ra h a 0 x (fun v => x_run 810 8 ls (.int v :: st) h) := xe_iaload ec810 dX8_isNet_7
theorem e810_8 {ls st : List Value} {h : x_H} : x_run 810 8 ls st h = x_run 810 9 ls (.int (q_i 1) :: st) h := xe_iconst ec810 dX8_isNet_8
theorem e810_9 {ls st : List Value} {h : x_H} {x y : Int32}: x_run 810 9 ls (.int y :: .int x :: st) h = x_run 810 10 ls (.int (x - y) :: st) h := xe_isub ec810 dX8_isNet_9
theorem e810_10 {ls st : List Value} {h : x_H} {a1 a2 a3 : Value}: x_run 810 10 ls (a3 :: a2 :: a1 :: st) h = if x_wt st ≤ 8 ∧ x_wt [a1, a2, a3] = 3 then q_cl (x_m 804 [a1, a2, a3] h) (fun v h' => x_run 810 13 ls (v.toList ++ st) h') else none := xe_stat (args := [a1, a2, a3]) ec810 dX8_isNet_10 ek8_68 (by decide) rfl (by decide +kernel) (by decide +kernel)
theorem e810_13 {ls : List Value} {h : x_H} {x : Int32} : x_run 810 13 ls [.int x] h = if narrow .boolean (.int x) = .int x then some (.inl (some (.int x)), h) else none := xe_ireturn ec810 dX8_isNet_13 rfl
theorem ec811 : x_code 811 = cX8_of := rfl
theorem e811_0 {ls st : List Value} {h : x_H} : x_run 811 0 ls st h = q_gr ls 0 (fun v => x_run 811 1 ls (.ref v :: st) h) := xe_aload_n ec811 dX8_of_0
theorem e811_1 {ls st : List Value} {h : x_H} {a : Nat}: x_run 811 1 ls (.ref a :: st) h = q_gf h a 10 0 (fun v => x_run 811 4 ls (v :: st) h) := xe_getfield ec811 dX8_of_1 ef8_7
theorem e811_4 {ls st : List Value} {h : x_H} : x_run 811 4 ls st h = x_run 811 5 ls (.int (q_i 1) :: st) h := xe_iconst ec811 dX8_of_4
theorem e811_5 {ls st : List Value} {h : x_H} : x_run 811 5 ls st h = x_run 811 7 ls (.int (q_i 9) :: st) h := xe_bipush ec811 dX8_of_5 (by decide)
theorem e811_7 {ls st : List Value} {h : x_H} : x_run 811 7 ls st h = q_gi ls 1 (fun v => x_run 811 8 ls (.int v :: st) h) := xe_iload_n ec811 dX8_of_7
theorem e811_8 {ls st : List Value} {h : x_H} {x y : Int32}: x_run 811 8 ls (.int y :: .int x :: st) h = x_run 811 9 ls (.int (x * y) :: st) h := xe_imul ec811 dX8_of_8
theorem e811_9 {ls st : List Value} {h : x_H} {x y : Int32}: x_run 811 9 ls (.int y :: .int x :: st) h = x_run 811 10 ls (.int (x + y) :: st) h := xe_iadd ec811 dX8_of_9
theorem e811_10 {ls st : List Value} {h : x_H} : x_run 811 10 ls st h = q_gi ls 2 (fun v => x_run 811 11 ls (.int v :: st) h) := xe_iload_n ec811 dX8_of_10
theorem e811_11 {ls st : List Value} {h : x_H} {x y : Int32}: x_run 811 11 ls (.int y :: .int x :: st) h = x_run 811 12 ls (.int (x + y) :: st) h := xe_iadd ec811 dX8_of_11
theorem e811_12 {ls st : List Value} {h : x_H} {x : Int32} {a : Nat}: x_run 811 12 ls (.int x :: .ref a :: st) h = q_ra h a 0 x (fun v => x_run 811 13 ls (.int v :: st) h) := xe_iaload ec811 dX8_of_12
theorem e811_13 {ls : List Value} {h : x_H} {x : Int32} : x_run 811 13 ls [.int x] h = if narrow .int (.int x) = .int x then some (.inl (some (.int x)), h) else none := xe_ireturn ec811 dX8_of_13 rfl
theorem ec812 : x_code 812 = cX8_lays := rfl
theorem e812_0 {ls st : List Value} {h : x_H} : x_run 812 0 ls st h = q_gr ls 0 (fun v => x_run 812 1 ls (.ref v :: st) h) := xe_aload_n ec812 dX8_lays_0
theorem e812_1 {ls st : List Value} {h : x_H} {a : Nat}: x_run 812 1 ls (.ref a :: st) h = q_gf h a 10 0 (fun v => x_run 812 4 ls (v :: st) h) := xe_getfield ec812 dX8_lays_1 ef8_7
theorem e812_4 {ls st : List Value} {h : x_H} : x_run 812 4 ls st h = x_run 812 5 ls (.int (q_i 1) :: st) h := xe_iconst ec812 dX8_lays_4
theorem e812_5 {ls st : List Value} {h : x_H} : x_run 812 5 ls st h = x_run 812 7 ls (.int (q_i 9) :: st) h := xe_bipush ec812 dX8_lays_5 (by decide)
theorem e812_7 {ls st : List Value} {h : x_H} : x_run 812 7 ls st h = q_gi ls 1 (fun v => x_run 812 8 ls (.int v :: st) h) := xe_iload_n ec812 dX8_lays_7
theorem e812_8 {ls st : List Value} {h : x_H} {x y : Int32}: x_run 812 8 ls (.int y :: .int x :: st) h = x_run 812 9 ls (.int (x * y) :: st) h := xe_imul ec812 dX8_lays_8
theorem e812_9 {ls st : List Value} {h : x_H} {x y : Int32}: x_run 812 9 ls (.int y :: .int x :: st) h = x_run 812 10 ls (.int (x + y) :: st) h := xe_iadd ec812 dX8_lays_9
theorem e812_10 {ls st : List Value} {h : x_H} : x_run 812 10 ls st h = q_gi ls 2 (fun v => x_run 812 11 ls (.int v :: st) h) := xe_iload_n ec812 dX8_lays_10
theorem e812_11 {ls st : List Value} {h : x_H} {x y : Int32}: x_run 812 11 ls (.int y :: .int x :: st) h = x_run 812 12 ls (.int (x + y) :: st) h := xe_iadd ec812 dX8_lays_11
theorem e812_12 {ls st : List Value} {h : x_H} : x_run 812 12 ls st h = q_gi ls 3 (fun v => x_run 812 13 ls (.int v :: st) h) := xe_iload_n ec812 dX8_lays_12
theorem e812_13 {ls st : List Value} {h : x_H} {x y : Int32} {a : Nat}: x_run 812 13 ls (.int y :: .int x :: .ref a :: st) h = q_wa h a 0 x y (fun h' => x_run 812 14 ls st h') := xe_iastore ec812 dX8_lays_13
theorem e812_14 {ls : List Value} {h : x_H} : x_run 812 14 ls [] h = some (.inl (none), h) := xe_return ec812 dX8_lays_14 rfl
theorem ec813 : x_code 813 = cX8_is := rfl
theorem e813_0 {ls st : List Value} {h : x_H} : x_run 813 0 ls st h = q_gr ls 0 (fun v => x_run 813 1 ls (.ref v :: st) h) := xe_aload_n ec813 dX8_is_0
theorem e813_1 {ls st : List Value} {h : x_H} {a : Nat}: x_run 813 1 ls (.ref a :: st) h = q_gf h a 10 0 (fun v => x_run 813 4 ls (v :: st) h) := xe_getfield ec813 dX8_is_1 ef8_7
theorem e813_4 {ls st : List Value} {h : x_H} : x_run 813 4 ls st h = x_run 813 6 ls (.int (q_i 55) :: st) h := xe_bipush ec813 dX8_is_4 (by decide)
theorem e813_6 {ls st : List Value} {h : x_H} : x_run 813 6 ls st h = q_gi ls 1 (fun v => x_run 813 7 ls (.int v :: st) h) := xe_iload_n ec813 dX8_is_6
theorem e813_7 {ls st : List Value} {h : x_H} {x y : Int32}: x_run 813 7 ls (.int y :: .int x :: st) h = x_run 813 8 ls (.int (x + y) :: st) h := xe_iadd ec813 dX8_is_7
theorem e813_8 {ls st : List Value} {h : x_H} {x : Int32} {a : Nat}: x_run 813 8 ls (.int x :: .ref a :: st) h = q_ra h a 0 x (fun v => x_run 813 9 ls (.int v :: st) h) := xe_iaload ec813 dX8_is_8
theorem e813_9 {ls : List Value} {h : x_H} {x : Int32} : x_run 813 9 ls [.int x] h = if narrow .int (.int x) = .int x then some (.inl (some (.int x)), h) else none := xe_ireturn ec813 dX8_is_9 rfl
theorem ec814 : x_code 814 = cX8_netIn := rfl
theorem e814_0 {ls st : List Value} {h : x_H} : x_run 814 0 ls st h = q_gr ls 0 (fun v => x_run 814 1 ls (.ref v :: st) h) := xe_aload_n ec814 dX8_netIn_0
theorem e814_1 {ls st : List Value} {h : x_H} : x_run 814 1 ls st h = q_gi ls 1 (fun v => x_run 814 2 ls (.int v :: st) h) := xe_iload_n ec814 dX8_netIn_1
theorem e814_2 {ls st : List Value} {h : x_H} {b : Nat} {a1 : Value}: x_run 814 2 ls (a1 :: .ref b :: st) h = if q_rcv h b 10 = true then (if x_wt st ≤ 8 ∧ x_wt [.ref b, a1] = 2 then q_cl (x_m 813 [.ref b, a1] h) (fun v h' => x_run 814 5 ls (v.toList ++ st) h') else none) else none := xe_virt (r := [a1]) ec814 dX8_netIn_2 ek8_76 rfl (by decide +kernel) (by decide +kernel)
theorem e814_5 {ls st : List Value} {h : x_H} : x_run 814 5 ls st h = x_run 814 6 ls (.int (q_i 2) :: st) h := xe_iconst ec814 dX8_netIn_5
theorem e814_6 {ls st : List Value} {h : x_H} {x y : Int32}: x_run 814 6 ls (.int y :: .int x :: st) h = if y ≤ x then x_run 814 13 ls st h else x_run 814 9 ls st h := xe_ic_ge ec814 dX8_netIn_6 rfl
theorem e814_9 {ls st : List Value} {h : x_H} : x_run 814 9 ls st h = x_run 814 10 ls (.int (q_i (-1)) :: st) h := xe_iconst ec814 dX8_netIn_9
theorem e814_10 {ls st : List Value} {h : x_H} : x_run 814 10 ls st h = x_run 814 22 ls st h := xe_goto ec814 dX8_netIn_10 rfl
theorem e814_13 {ls st : List Value} {h : x_H} : x_run 814 13 ls st h = q_gr ls 0 (fun v => x_run 814 14 ls (.ref v :: st) h) := xe_aload_n ec814 dX8_netIn_13
theorem e814_14 {ls st : List Value} {h : x_H} : x_run 814 14 ls st h = q_gi ls 1 (fun v => x_run 814 15 ls (.int v :: st) h) := xe_iload_n ec814 dX8_netIn_14
theorem e814_15 {ls st : List Value} {h : x_H} {b : Nat} {a1 : Value}: x_run 814 15 ls (a1 :: .ref b :: st) h = if q_rcv h b 10 = true then (if x_wt st ≤ 8 ∧ x_wt [.ref b, a1] = 2 then q_cl (x_m 813 [.ref b, a1] h) (fun v h' => x_run 814 18 ls (v.toList ++ st) h') else none) else none := xe_virt (r := [a1]) ec814 dX8_netIn_15 ek8_76 rfl (by decide +kernel) (by decide +kernel)
theorem e814_18 {ls st : List Value} {h : x_H} : x_run 814 18 ls st h = x_run 814 19 ls (.int (q_i 2) :: st) h := xe_iconst ec814 dX8_netIn_18
theorem e814_19 {ls st : List Value} {h : x_H} {x y : Int32}: x_run 814 19 ls (.int y :: .int x :: st) h = if y = 0 then none else x_run 814 20 ls (.int (x / y) :: st) h := xe_idiv ec814 dX8_netIn_19
theorem e814_20 {ls st : List Value} {h : x_H} : x_run 814 20 ls st h = x_run 814 21 ls (.int (q_i 1) :: st) h := xe_iconst ec814 dX8_netIn_20
theorem e814_21 {ls st : List Value} {h : x_H} {x y : Int32}: x_run 814 21 ls (.int y :: .int x :: st) h = x_run 814 22 ls (.int (x - y) :: st) h := xe_isub ec814 dX8_netIn_21
theorem e814_22 {ls : List Value} {h : x_H} {x : Int32} : x_run 814 22 ls [.int x] h = if narrow .int (.int x) = .int x then some (.inl (some (.int x)), h) else none := xe_ireturn ec814 dX8_netIn_22 rfl
theorem ec815 : x_code 815 = cX8_isPin := rfl
theorem e815_0 {ls st : List Value} {h : x_H} : x_run 815 0 ls st h = q_gr ls 0 (fun v => x_run 815 1 ls (.ref v :: st) h) := xe_aload_n ec815 dX8_isPin_0
theorem e815_1 {ls st : List Value} {h : x_H} : x_run 815 1 ls st h = q_gi ls 1 (fun v => x_run 815 2 ls (.int v :: st) h) := xe_iload_n ec815 dX8_isPin_1
theorem e815_2 {ls st : List Value} {h : x_H} {b : Nat} {a1 : Value}: x_run 815 2 ls (a1 :: .ref b :: st) h = if q_rcv h b 10 = true then (if x_wt st ≤ 8 ∧ x_wt [.ref b, a1] = 2 then q_cl (x_m 813 [.ref b, a1] h) (fun v h' => x_run 815 5 ls (v.toList ++ st) h') else none) else none := xe_virt (r := [a1]) ec815 dX8_isPin_2 ek8_76 rfl (by decide +kernel) (by decide +kernel)
theorem e815_5 {ls st : List Value} {h : x_H} : x_run 815 5 ls st h = x_run 815 6 ls (.int (q_i 2) :: st) h := xe_iconst ec815 dX8_isPin_5
theorem e815_6 {ls st : List Value} {h : x_H} {x y : Int32}: x_run 815 6 ls (.int y :: .int x :: st) h = if x < y then x_run 815 23 ls st h else x_run 815 9 ls st h := xe_ic_lt ec815 dX8_isPin_6 rfl
theorem e815_9 {ls st : List Value} {h : x_H} : x_run 815 9 ls st h = q_gr ls 0 (fun v => x_run 815 10 ls (.ref v :: st) h) := xe_aload_n ec815 dX8_isPin_9
theorem e815_10 {ls st : List Value} {h : x_H} : x_run 815 10 ls st h = q_gi ls 1 (fun v => x_run 815 11 ls (.int v :: st) h) := xe_iload_n ec815 dX8_isPin_10
theorem e815_11 {ls st : List Value} {h : x_H} {b : Nat} {a1 : Value}: x_run 815 11 ls (a1 :: .ref b :: st) h = if q_rcv h b 10 = true then (if x_wt st ≤ 8 ∧ x_wt [.ref b, a1] = 2 then q_cl (x_m 813 [.ref b, a1] h) (fun v h' => x_run 815 14 ls (v.toList ++ st) h') else none) else none := xe_virt (r := [a1]) ec815 dX8_isPin_11 ek8_76 rfl (by decide +kernel) (by decide +kernel)
theorem e815_14 {ls st : List Value} {h : x_H} : x_run 815 14 ls st h = x_run 815 15 ls (.int (q_i 2) :: st) h := xe_iconst ec815 dX8_isPin_14
theorem e815_15 {ls st : List Value} {h : x_H} {x y : Int32}: x_run 815 15 ls (.int y :: .int x :: st) h = if y = 0 then none else x_run 815 16 ls (.int (x - (x / y) * y) :: st) h := xe_irem ec815 dX8_isPin_15
theorem e815_16 {ls st : List Value} {h : x_H} {x : Int32}: x_run 815 16 ls (.int x :: st) h = if ¬ x = 0 then x_run 815 23 ls st h else x_run 815 19 ls st h := xe_if_ne ec815 dX8_isPin_16 rfl
theorem e815_19 {ls st : List Value} {h : x_H} : x_run 815 19 ls st h = x_run 815 20 ls (.int (q_i 1) :: st) h := xe_iconst ec815 dX8_isPin_19
theorem e815_20 {ls st : List Value} {h : x_H} : x_run 815 20 ls st h = x_run 815 24 ls st h := xe_goto ec815 dX8_isPin_20 rfl
theorem e815_23 {ls st : List Value} {h : x_H} : x_run 815 23 ls st h = x_run 815 24 ls (.int (q_i 0) :: st) h := xe_iconst ec815 dX8_isPin_23
theorem e815_24 {ls : List Value} {h : x_H} {x : Int32} : x_run 815 24 ls [.int x] h = if narrow .boolean (.int x) = .int x then some (.inl (some (.int x)), h) else none := xe_ireturn ec815 dX8_isPin_24 rfl
theorem ec816 : x_code 816 = cX8_beside := rfl
theorem e816_0 {ls st : List Value} {h : x_H} : x_run 816 0 ls st h = q_gi ls 0 (fun v => x_run 816 1 ls (.int v :: st) h) := xe_iload_n ec816 dX8_beside_0
theorem e816_1 {ls st : List Value} {h : x_H} : x_run 816 1 ls st h = x_run 816 3 ls (.int (q_i 48) :: st) h := xe_bipush ec816 dX8_beside_1 (by decide)
theorem e816_3 {ls st : List Value} {h : x_H} {x y : Int32}: x_run 816 3 ls (.int y :: .int x :: st) h = if y = 0 then none else x_run 816 4 ls (.int (x - (x / y) * y) :: st) h := xe_irem ec816 dX8_beside_3
theorem e816_4 {ls st : List Value} {h : x_H} {x : Int32}: x_run 816 4 ls (.int x :: st) h = q_ls ls 2 (.int x) (fun ls' => x_run 816 5 ls' st h) := xe_istore_n ec816 dX8_beside_4
theorem e816_5 {ls st : List Value} {h : x_H} : x_run 816 5 ls st h = q_gi ls 1 (fun v => x_run 816 6 ls (.int v :: st) h) := xe_iload_n ec816 dX8_beside_5
theorem e816_6 {ls st : List Value} {h : x_H} {x : Int32}: x_run 816 6 ls (.int x :: st) h = q_so 6 (x_tsw 95 0 3 #[30, 46, 63, 78] x) (fun t => x_run 816 t ls st h) := xe_tsw ec816 dX8_beside_6
theorem e816_36 {ls st : List Value} {h : x_H} : x_run 816 36 ls st h = q_gi ls 2 (fun v => x_run 816 37 ls (.int v :: st) h) := xe_iload_n ec816 dX8_beside_36
theorem e816_37 {ls st : List Value} {h : x_H} : x_run 816 37 ls st h = x_run 816 39 ls (.int (q_i 8) :: st) h := xe_bipush ec816 dX8_beside_37 (by decide)
theorem e816_39 {ls st : List Value} {h : x_H} {x y : Int32}: x_run 816 39 ls (.int y :: .int x :: st) h = if y = 0 then none else x_run 816 40 ls (.int (x / y) :: st) h := xe_idiv ec816 dX8_beside_39
theorem e816_40 {ls st : List Value} {h : x_H} {x : Int32}: x_run 816 40 ls (.int x :: st) h = if ¬ x = 0 then x_run 816 47 ls st h else x_run 816 43 ls st h := xe_if_ne ec816 dX8_beside_40 rfl
theorem e816_43 {ls st : List Value} {h : x_H} : x_run 816 43 ls st h = x_run 816 44 ls (.int (q_i (-1)) :: st) h := xe_iconst ec816 dX8_beside_43
theorem e816_44 {ls st : List Value} {h : x_H} : x_run 816 44 ls st h = x_run 816 51 ls st h := xe_goto ec816 dX8_beside_44 rfl
theorem e816_47 {ls st : List Value} {h : x_H} : x_run 816 47 ls st h = q_gi ls 0 (fun v => x_run 816 48 ls (.int v :: st) h) := xe_iload_n ec816 dX8_beside_47
theorem e816_48 {ls st : List Value} {h : x_H} : x_run 816 48 ls st h = x_run 816 50 ls (.int (q_i 8) :: st) h := xe_bipush ec816 dX8_beside_48 (by decide)
theorem e816_50 {ls st : List Value} {h : x_H} {x y : Int32}: x_run 816 50 ls (.int y :: .int x :: st) h = x_run 816 51 ls (.int (x - y) :: st) h := xe_isub ec816 dX8_beside_50
theorem e816_51 {ls : List Value} {h : x_H} {x : Int32} : x_run 816 51 ls [.int x] h = if narrow .int (.int x) = .int x then some (.inl (some (.int x)), h) else none := xe_ireturn ec816 dX8_beside_51 rfl
theorem e816_52 {ls st : List Value} {h : x_H} : x_run 816 52 ls st h = q_gi ls 2 (fun v => x_run 816 53 ls (.int v :: st) h) := xe_iload_n ec816 dX8_beside_52
theorem e816_53 {ls st : List Value} {h : x_H} : x_run 816 53 ls st h = x_run 816 55 ls (.int (q_i 8) :: st) h := xe_bipush ec816 dX8_beside_53 (by decide)
theorem e816_55 {ls st : List Value} {h : x_H} {x y : Int32}: x_run 816 55 ls (.int y :: .int x :: st) h = if y = 0 then none else x_run 816 56 ls (.int (x / y) :: st) h := xe_idiv ec816 dX8_beside_55
theorem e816_56 {ls st : List Value} {h : x_H} : x_run 816 56 ls st h = x_run 816 57 ls (.int (q_i 5) :: st) h := xe_iconst ec816 dX8_beside_56
theorem e816_57 {ls st : List Value} {h : x_H} {x y : Int32}: x_run 816 57 ls (.int y :: .int x :: st) h = if ¬ x = y then x_run 816 64 ls st h else x_run 816 60 ls st h := xe_ic_ne ec816 dX8_beside_57 rfl
theorem e816_60 {ls st : List Value} {h : x_H} : x_run 816 60 ls st h = x_run 816 61 ls (.int (q_i (-1)) :: st) h := xe_iconst ec816 dX8_beside_60
theorem e816_61 {ls st : List Value} {h : x_H} : x_run 816 61 ls st h = x_run 816 68 ls st h := xe_goto ec816 dX8_beside_61 rfl
theorem e816_64 {ls st : List Value} {h : x_H} : x_run 816 64 ls st h = q_gi ls 0 (fun v => x_run 816 65 ls (.int v :: st) h) := xe_iload_n ec816 dX8_beside_64
theorem e816_65 {ls st : List Value} {h : x_H} : x_run 816 65 ls st h = x_run 816 67 ls (.int (q_i 8) :: st) h := xe_bipush ec816 dX8_beside_65 (by decide)
theorem e816_67 {ls st : List Value} {h : x_H} {x y : Int32}: x_run 816 67 ls (.int y :: .int x :: st) h = x_run 816 68 ls (.int (x + y) :: st) h := xe_iadd ec816 dX8_beside_67
theorem e816_68 {ls : List Value} {h : x_H} {x : Int32} : x_run 816 68 ls [.int x] h = if narrow .int (.int x) = .int x then some (.inl (some (.int x)), h) else none := xe_ireturn ec816 dX8_beside_68 rfl
theorem e816_69 {ls st : List Value} {h : x_H} : x_run 816 69 ls st h = q_gi ls 2 (fun v => x_run 816 70 ls (.int v :: st) h) := xe_iload_n ec816 dX8_beside_69
theorem e816_70 {ls st : List Value} {h : x_H} : x_run 816 70 ls st h = x_run 816 72 ls (.int (q_i 8) :: st) h := xe_bipush ec816 dX8_beside_70 (by decide)
theorem e816_72 {ls st : List Value} {h : x_H} {x y : Int32}: x_run 816 72 ls (.int y :: .int x :: st) h = if y = 0 then none else x_run 816 73 ls (.int (x - (x / y) * y) :: st) h := xe_irem ec816 dX8_beside_72
theorem e816_73 {ls st : List Value} {h : x_H} {x : Int32}: x_run 816 73 ls (.int x :: st) h = if ¬ x = 0 then x_run 816 80 ls st h else x_run 816 76 ls st h := xe_if_ne ec816 dX8_beside_73 rfl
theorem e816_76 {ls st : List Value} {h : x_H} : x_run 816 76 ls st h = x_run 816 77 ls (.int (q_i (-1)) :: st) h := xe_iconst ec816 dX8_beside_76
theorem e816_77 {ls st : List Value} {h : x_H} : x_run 816 77 ls st h = x_run 816 83 ls st h := xe_goto ec816 dX8_beside_77 rfl
theorem e816_80 {ls st : List Value} {h : x_H} : x_run 816 80 ls st h = q_gi ls 0 (fun v => x_run 816 81 ls (.int v :: st) h) := xe_iload_n ec816 dX8_beside_80
theorem e816_81 {ls st : List Value} {h : x_H} : x_run 816 81 ls st h = x_run 816 82 ls (.int (q_i 1) :: st) h := xe_iconst ec816 dX8_beside_81
theorem e816_82 {ls st : List Value} {h : x_H} {x y : Int32}: x_run 816 82 ls (.int y :: .int x :: st) h = x_run 816 83 ls (.int (x - y) :: st) h := xe_isub ec816 dX8_beside_82
theorem e816_83 {ls : List Value} {h : x_H} {x : Int32} : x_run 816 83 ls [.int x] h = if narrow .int (.int x) = .int x then some (.inl (some (.int x)), h) else none := xe_ireturn ec816 dX8_beside_83 rfl
theorem e816_84 {ls st : List Value} {h : x_H} : x_run 816 84 ls st h = q_gi ls 2 (fun v => x_run 816 85 ls (.int v :: st) h) := xe_iload_n ec816 dX8_beside_84
theorem e816_85 {ls st : List Value} {h : x_H} : x_run 816 85 ls st h = x_run 816 87 ls (.int (q_i 8) :: st) h := xe_bipush ec816 dX8_beside_85 (by decide)
theorem e816_87 {ls st : List Value} {h : x_H} {x y : Int32}: x_run 816 87 ls (.int y :: .int x :: st) h = if y = 0 then none else x_run 816 88 ls (.int (x - (x / y) * y) :: st) h := xe_irem ec816 dX8_beside_87
theorem e816_88 {ls st : List Value} {h : x_H} : x_run 816 88 ls st h = x_run 816 90 ls (.int (q_i 7) :: st) h := xe_bipush ec816 dX8_beside_88 (by decide)
theorem e816_90 {ls st : List Value} {h : x_H} {x y : Int32}: x_run 816 90 ls (.int y :: .int x :: st) h = if ¬ x = y then x_run 816 97 ls st h else x_run 816 93 ls st h := xe_ic_ne ec816 dX8_beside_90 rfl
theorem e816_93 {ls st : List Value} {h : x_H} : x_run 816 93 ls st h = x_run 816 94 ls (.int (q_i (-1)) :: st) h := xe_iconst ec816 dX8_beside_93
theorem e816_94 {ls st : List Value} {h : x_H} : x_run 816 94 ls st h = x_run 816 100 ls st h := xe_goto ec816 dX8_beside_94 rfl
theorem e816_97 {ls st : List Value} {h : x_H} : x_run 816 97 ls st h = q_gi ls 0 (fun v => x_run 816 98 ls (.int v :: st) h) := xe_iload_n ec816 dX8_beside_97
theorem e816_98 {ls st : List Value} {h : x_H} : x_run 816 98 ls st h = x_run 816 99 ls (.int (q_i 1) :: st) h := xe_iconst ec816 dX8_beside_98
theorem e816_99 {ls st : List Value} {h : x_H} {x y : Int32}: x_run 816 99 ls (.int y :: .int x :: st) h = x_run 816 100 ls (.int (x + y) :: st) h := xe_iadd ec816 dX8_beside_99
theorem e816_100 {ls : List Value} {h : x_H} {x : Int32} : x_run 816 100 ls [.int x] h = if narrow .int (.int x) = .int x then some (.inl (some (.int x)), h) else none := xe_ireturn ec816 dX8_beside_100 rfl
theorem e816_101 {ls st : List Value} {h : x_H} : x_run 816 101 ls st h = q_gi ls 0 (fun v => x_run 816 102 ls (.int v :: st) h) := xe_iload_n ec816 dX8_beside_101
theorem e816_102 {ls st : List Value} {h : x_H} : x_run 816 102 ls st h = x_run 816 104 ls (.int (q_i 48) :: st) h := xe_bipush ec816 dX8_beside_102 (by decide)
theorem e816_104 {ls st : List Value} {h : x_H} {x y : Int32}: x_run 816 104 ls (.int y :: .int x :: st) h = x_run 816 105 ls (.int (x + y) :: st) h := xe_iadd ec816 dX8_beside_104
theorem e816_105 {ls st : List Value} {h : x_H} : x_run 816 105 ls st h = x_run 816 107 ls (.int (q_i 96) :: st) h := xe_bipush ec816 dX8_beside_105 (by decide)
theorem e816_107 {ls st : List Value} {h : x_H} {x y : Int32}: x_run 816 107 ls (.int y :: .int x :: st) h = if y = 0 then none else x_run 816 108 ls (.int (x - (x / y) * y) :: st) h := xe_irem ec816 dX8_beside_107
theorem e816_108 {ls : List Value} {h : x_H} {x : Int32} : x_run 816 108 ls [.int x] h = if narrow .int (.int x) = .int x then some (.inl (some (.int x)), h) else none := xe_ireturn ec816 dX8_beside_108 rfl
theorem ec817 : x_code 817 = cX8_areWide := rfl
theorem e817_0 {ls st : List Value} {h : x_H} : x_run 817 0 ls st h = q_gr ls 0 (fun v => x_run 817 1 ls (.ref v :: st) h) := xe_aload_n ec817 dX8_areWide_0
theorem e817_1 {ls st : List Value} {h : x_H} : x_run 817 1 ls st h = q_gi ls 1 (fun v => x_run 817 2 ls (.int v :: st) h) := xe_iload_n ec817 dX8_areWide_1
theorem e817_2 {ls st : List Value} {h : x_H} : x_run 817 2 ls st h = x_run 817 3 ls (.int (q_i 0) :: st) h := xe_iconst ec817 dX8_areWide_2
theorem e817_3 {ls st : List Value} {h : x_H} {b : Nat} {a1 a2 : Value}: x_run 817 3 ls (a2 :: a1 :: .ref b :: st) h = if q_rcv h b 10 = true then (if x_wt st ≤ 8 ∧ x_wt [.ref b, a1, a2] = 3 then q_cl (x_m 811 [.ref b, a1, a2] h) (fun v h' => x_run 817 6 ls (v.toList ++ st) h') else none) else none := xe_virt (r := [a1, a2]) ec817 dX8_areWide_3 ek8_80 rfl (by decide +kernel) (by decide +kernel)
theorem e817_6 {ls st : List Value} {h : x_H} : x_run 817 6 ls st h = x_run 817 7 ls (.int (q_i 1) :: st) h := xe_iconst ec817 dX8_areWide_6
theorem e817_7 {ls st : List Value} {h : x_H} {x y : Int32}: x_run 817 7 ls (.int y :: .int x :: st) h = if x = y then x_run 817 20 ls st h else x_run 817 10 ls st h := xe_ic_eq ec817 dX8_areWide_7 rfl
theorem e817_10 {ls st : List Value} {h : x_H} : x_run 817 10 ls st h = q_gr ls 0 (fun v => x_run 817 11 ls (.ref v :: st) h) := xe_aload_n ec817 dX8_areWide_10
theorem e817_11 {ls st : List Value} {h : x_H} : x_run 817 11 ls st h = q_gi ls 2 (fun v => x_run 817 12 ls (.int v :: st) h) := xe_iload_n ec817 dX8_areWide_11
theorem e817_12 {ls st : List Value} {h : x_H} : x_run 817 12 ls st h = x_run 817 13 ls (.int (q_i 0) :: st) h := xe_iconst ec817 dX8_areWide_12
theorem e817_13 {ls st : List Value} {h : x_H} {b : Nat} {a1 a2 : Value}: x_run 817 13 ls (a2 :: a1 :: .ref b :: st) h = if q_rcv h b 10 = true then (if x_wt st ≤ 8 ∧ x_wt [.ref b, a1, a2] = 3 then q_cl (x_m 811 [.ref b, a1, a2] h) (fun v h' => x_run 817 16 ls (v.toList ++ st) h') else none) else none := xe_virt (r := [a1, a2]) ec817 dX8_areWide_13 ek8_80 rfl (by decide +kernel) (by decide +kernel)
theorem e817_16 {ls st : List Value} {h : x_H} : x_run 817 16 ls st h = x_run 817 17 ls (.int (q_i 1) :: st) h := xe_iconst ec817 dX8_areWide_16
theorem e817_17 {ls st : List Value} {h : x_H} {x y : Int32}: x_run 817 17 ls (.int y :: .int x :: st) h = if ¬ x = y then x_run 817 24 ls st h else x_run 817 20 ls st h := xe_ic_ne ec817 dX8_areWide_17 rfl
theorem e817_20 {ls st : List Value} {h : x_H} : x_run 817 20 ls st h = x_run 817 21 ls (.int (q_i 1) :: st) h := xe_iconst ec817 dX8_areWide_20
theorem e817_21 {ls st : List Value} {h : x_H} : x_run 817 21 ls st h = x_run 817 25 ls st h := xe_goto ec817 dX8_areWide_21 rfl
theorem e817_24 {ls st : List Value} {h : x_H} : x_run 817 24 ls st h = x_run 817 25 ls (.int (q_i 0) :: st) h := xe_iconst ec817 dX8_areWide_24
theorem e817_25 {ls : List Value} {h : x_H} {x : Int32} : x_run 817 25 ls [.int x] h = if narrow .boolean (.int x) = .int x then some (.inl (some (.int x)), h) else none := xe_ireturn ec817 dX8_areWide_25 rfl
theorem ec818 : x_code 818 = cX8_tooNear := rfl
theorem e818_0 {ls st : List Value} {h : x_H} : x_run 818 0 ls st h = x_run 818 1 ls (.int (q_i (-1)) :: st) h := xe_iconst ec818 dX8_tooNear_0
theorem e818_1 {ls st : List Value} {h : x_H} {x : Int32}: x_run 818 1 ls (.int x :: st) h = q_ls ls 4 (.int x) (fun ls' => x_run 818 3 ls' st h) := xe_istore ec818 dX8_tooNear_1
theorem e818_3 {ls st : List Value} {h : x_H} : x_run 818 3 ls st h = x_run 818 4 ls (.int (q_i 0) :: st) h := xe_iconst ec818 dX8_tooNear_3
theorem e818_4 {ls st : List Value} {h : x_H} {x : Int32}: x_run 818 4 ls (.int x :: st) h = q_ls ls 5 (.int x) (fun ls' => x_run 818 6 ls' st h) := xe_istore ec818 dX8_tooNear_4
theorem e818_6 {ls st : List Value} {h : x_H} : x_run 818 6 ls st h = q_gi ls 5 (fun v => x_run 818 8 ls (.int v :: st) h) := xe_iload ec818 dX8_tooNear_6
theorem e818_8 {ls st : List Value} {h : x_H} : x_run 818 8 ls st h = x_run 818 9 ls (.int (q_i 4) :: st) h := xe_iconst ec818 dX8_tooNear_8
theorem e818_9 {ls st : List Value} {h : x_H} {x y : Int32}: x_run 818 9 ls (.int y :: .int x :: st) h = if y ≤ x then x_run 818 96 ls st h else x_run 818 12 ls st h := xe_ic_ge ec818 dX8_tooNear_9 rfl
theorem e818_12 {ls st : List Value} {h : x_H} : x_run 818 12 ls st h = q_gi ls 2 (fun v => x_run 818 13 ls (.int v :: st) h) := xe_iload_n ec818 dX8_tooNear_12
theorem e818_13 {ls st : List Value} {h : x_H} : x_run 818 13 ls st h = q_gi ls 5 (fun v => x_run 818 15 ls (.int v :: st) h) := xe_iload ec818 dX8_tooNear_13
theorem e818_15 {ls st : List Value} {h : x_H} {a1 a2 : Value}: x_run 818 15 ls (a2 :: a1 :: st) h = if x_wt st ≤ 8 ∧ x_wt [a1, a2] = 2 then q_cl (x_m 816 [a1, a2] h) (fun v h' => x_run 818 18 ls (v.toList ++ st) h') else none := xe_stat (args := [a1, a2]) ec818 dX8_tooNear_15 ek8_84 (by decide) rfl (by decide +kernel) (by decide +kernel)
theorem e818_18 {ls st : List Value} {h : x_H} {x : Int32}: x_run 818 18 ls (.int x :: st) h = q_ls ls 6 (.int x) (fun ls' => x_run 818 20 ls' st h) := xe_istore ec818 dX8_tooNear_18
theorem e818_20 {ls st : List Value} {h : x_H} : x_run 818 20 ls st h = q_gi ls 6 (fun v => x_run 818 22 ls (.int v :: st) h) := xe_iload ec818 dX8_tooNear_20
theorem e818_22 {ls st : List Value} {h : x_H} {x : Int32}: x_run 818 22 ls (.int x :: st) h = if 0 ≤ x then x_run 818 29 ls st h else x_run 818 25 ls st h := xe_if_ge ec818 dX8_tooNear_22 rfl
theorem e818_25 {ls st : List Value} {h : x_H} : x_run 818 25 ls st h = x_run 818 26 ls (.int (q_i (-1)) :: st) h := xe_iconst ec818 dX8_tooNear_25
theorem e818_26 {ls st : List Value} {h : x_H} : x_run 818 26 ls st h = x_run 818 35 ls st h := xe_goto ec818 dX8_tooNear_26 rfl
theorem e818_29 {ls st : List Value} {h : x_H} : x_run 818 29 ls st h = q_gr ls 0 (fun v => x_run 818 30 ls (.ref v :: st) h) := xe_aload_n ec818 dX8_tooNear_29
theorem e818_30 {ls st : List Value} {h : x_H} : x_run 818 30 ls st h = q_gi ls 6 (fun v => x_run 818 32 ls (.int v :: st) h) := xe_iload ec818 dX8_tooNear_30
theorem e818_32 {ls st : List Value} {h : x_H} {b : Nat} {a1 : Value}: x_run 818 32 ls (a1 :: .ref b :: st) h = if q_rcv h b 10 = true then (if x_wt st ≤ 8 ∧ x_wt [.ref b, a1] = 2 then q_cl (x_m 814 [.ref b, a1] h) (fun v h' => x_run 818 35 ls (v.toList ++ st) h') else none) else none := xe_virt (r := [a1]) ec818 dX8_tooNear_32 ek8_87 rfl (by decide +kernel) (by decide +kernel)
theorem e818_35 {ls st : List Value} {h : x_H} {x : Int32}: x_run 818 35 ls (.int x :: st) h = q_ls ls 7 (.int x) (fun ls' => x_run 818 37 ls' st h) := xe_istore ec818 dX8_tooNear_35
theorem e818_37 {ls st : List Value} {h : x_H} : x_run 818 37 ls st h = q_gi ls 7 (fun v => x_run 818 39 ls (.int v :: st) h) := xe_iload ec818 dX8_tooNear_37
theorem e818_39 {ls st : List Value} {h : x_H} {x : Int32}: x_run 818 39 ls (.int x :: st) h = if x < 0 then x_run 818 90 ls st h else x_run 818 42 ls st h := xe_if_lt ec818 dX8_tooNear_39 rfl
theorem e818_42 {ls st : List Value} {h : x_H} : x_run 818 42 ls st h = q_gi ls 7 (fun v => x_run 818 44 ls (.int v :: st) h) := xe_iload ec818 dX8_tooNear_42
theorem e818_44 {ls st : List Value} {h : x_H} : x_run 818 44 ls st h = q_gi ls 1 (fun v => x_run 818 45 ls (.int v :: st) h) := xe_iload_n ec818 dX8_tooNear_44
theorem e818_45 {ls st : List Value} {h : x_H} {x y : Int32}: x_run 818 45 ls (.int y :: .int x :: st) h = if x = y then x_run 818 90 ls st h else x_run 818 48 ls st h := xe_ic_eq ec818 dX8_tooNear_45 rfl
theorem e818_48 {ls st : List Value} {h : x_H} : x_run 818 48 ls st h = q_gr ls 0 (fun v => x_run 818 49 ls (.ref v :: st) h) := xe_aload_n ec818 dX8_tooNear_48
theorem e818_49 {ls st : List Value} {h : x_H} : x_run 818 49 ls st h = q_gi ls 1 (fun v => x_run 818 50 ls (.int v :: st) h) := xe_iload_n ec818 dX8_tooNear_49
theorem e818_50 {ls st : List Value} {h : x_H} : x_run 818 50 ls st h = q_gi ls 7 (fun v => x_run 818 52 ls (.int v :: st) h) := xe_iload ec818 dX8_tooNear_50
theorem e818_52 {ls st : List Value} {h : x_H} {b : Nat} {a1 a2 : Value}: x_run 818 52 ls (a2 :: a1 :: .ref b :: st) h = if q_rcv h b 10 = true then (if x_wt st ≤ 8 ∧ x_wt [.ref b, a1, a2] = 3 then q_cl (x_m 817 [.ref b, a1, a2] h) (fun v h' => x_run 818 55 ls (v.toList ++ st) h') else none) else none := xe_virt (r := [a1, a2]) ec818 dX8_tooNear_52 ek8_90 rfl (by decide +kernel) (by decide +kernel)
theorem e818_55 {ls st : List Value} {h : x_H} {x : Int32}: x_run 818 55 ls (.int x :: st) h = if x = 0 then x_run 818 90 ls st h else x_run 818 58 ls st h := xe_if_eq ec818 dX8_tooNear_55 rfl
theorem e818_58 {ls st : List Value} {h : x_H} : x_run 818 58 ls st h = q_gi ls 3 (fun v => x_run 818 59 ls (.int v :: st) h) := xe_iload_n ec818 dX8_tooNear_58
theorem e818_59 {ls st : List Value} {h : x_H} {x : Int32}: x_run 818 59 ls (.int x :: st) h = if x = 0 then x_run 818 74 ls st h else x_run 818 62 ls st h := xe_if_eq ec818 dX8_tooNear_59 rfl
theorem e818_62 {ls st : List Value} {h : x_H} : x_run 818 62 ls st h = q_gr ls 0 (fun v => x_run 818 63 ls (.ref v :: st) h) := xe_aload_n ec818 dX8_tooNear_62
theorem e818_63 {ls st : List Value} {h : x_H} : x_run 818 63 ls st h = q_gi ls 6 (fun v => x_run 818 65 ls (.int v :: st) h) := xe_iload ec818 dX8_tooNear_63
theorem e818_65 {ls st : List Value} {h : x_H} {b : Nat} {a1 : Value}: x_run 818 65 ls (a1 :: .ref b :: st) h = if q_rcv h b 10 = true then (if x_wt st ≤ 8 ∧ x_wt [.ref b, a1] = 2 then q_cl (x_m 815 [.ref b, a1] h) (fun v h' => x_run 818 68 ls (v.toList ++ st) h') else none) else none := xe_virt (r := [a1]) ec818 dX8_tooNear_65 ek8_93 rfl (by decide +kernel) (by decide +kernel)
theorem e818_68 {ls st : List Value} {h : x_H} {x : Int32}: x_run 818 68 ls (.int x :: st) h = if ¬ x = 0 then x_run 818 74 ls st h else x_run 818 71 ls st h := xe_if_ne ec818 dX8_tooNear_68 rfl
theorem e818_71 {ls st : List Value} {h : x_H} : x_run 818 71 ls st h = x_run 818 90 ls st h := xe_goto ec818 dX8_tooNear_71 rfl
theorem e818_74 {ls st : List Value} {h : x_H} : x_run 818 74 ls st h = q_gi ls 4 (fun v => x_run 818 76 ls (.int v :: st) h) := xe_iload ec818 dX8_tooNear_74
theorem e818_76 {ls st : List Value} {h : x_H} {x : Int32}: x_run 818 76 ls (.int x :: st) h = if x < 0 then x_run 818 86 ls st h else x_run 818 79 ls st h := xe_if_lt ec818 dX8_tooNear_76 rfl
theorem e818_79 {ls st : List Value} {h : x_H} : x_run 818 79 ls st h = q_gi ls 7 (fun v => x_run 818 81 ls (.int v :: st) h) := xe_iload ec818 dX8_tooNear_79
theorem e818_81 {ls st : List Value} {h : x_H} : x_run 818 81 ls st h = q_gi ls 4 (fun v => x_run 818 83 ls (.int v :: st) h) := xe_iload ec818 dX8_tooNear_81
theorem e818_83 {ls st : List Value} {h : x_H} {x y : Int32}: x_run 818 83 ls (.int y :: .int x :: st) h = if y ≤ x then x_run 818 90 ls st h else x_run 818 86 ls st h := xe_ic_ge ec818 dX8_tooNear_83 rfl
theorem e818_86 {ls st : List Value} {h : x_H} : x_run 818 86 ls st h = q_gi ls 7 (fun v => x_run 818 88 ls (.int v :: st) h) := xe_iload ec818 dX8_tooNear_86
theorem e818_88 {ls st : List Value} {h : x_H} {x : Int32}: x_run 818 88 ls (.int x :: st) h = q_ls ls 4 (.int x) (fun ls' => x_run 818 90 ls' st h) := xe_istore ec818 dX8_tooNear_88
theorem e818_90 {ls st : List Value} {h : x_H} : x_run 818 90 ls st h = q_gi ls 5 (fun v => if x_nd ls 5 = true then x_run 818 93 (ls.set 5 (.int (v + q_i 1))) st h else none) := xe_iinc ec818 dX8_tooNear_90
theorem e818_93 {ls st : List Value} {h : x_H} : x_run 818 93 ls st h = x_run 818 6 ls st h := xe_goto ec818 dX8_tooNear_93 rfl
theorem e818_96 {ls st : List Value} {h : x_H} : x_run 818 96 ls st h = q_gi ls 4 (fun v => x_run 818 98 ls (.int v :: st) h) := xe_iload ec818 dX8_tooNear_96
theorem e818_98 {ls : List Value} {h : x_H} {x : Int32} : x_run 818 98 ls [.int x] h = if narrow .int (.int x) = .int x then some (.inl (some (.int x)), h) else none := xe_ireturn ec818 dX8_tooNear_98 rfl
theorem ec819 : x_code 819 = cX8_priceOf := rfl
theorem e819_0 {ls st : List Value} {h : x_H} : x_run 819 0 ls st h = q_gr ls 0 (fun v => x_run 819 1 ls (.ref v :: st) h) := xe_aload_n ec819 dX8_priceOf_0
theorem e819_1 {ls st : List Value} {h : x_H} : x_run 819 1 ls st h = q_gi ls 2 (fun v => x_run 819 2 ls (.int v :: st) h) := xe_iload_n ec819 dX8_priceOf_1
theorem e819_2 {ls st : List Value} {h : x_H} {b : Nat} {a1 : Value}: x_run 819 2 ls (a1 :: .ref b :: st) h = if q_rcv h b 10 = true then (if x_wt st ≤ 8 ∧ x_wt [.ref b, a1] = 2 then q_cl (x_m 814 [.ref b, a1] h) (fun v h' => x_run 819 5 ls (v.toList ++ st) h') else none) else none := xe_virt (r := [a1]) ec819 dX8_priceOf_2 ek8_87 rfl (by decide +kernel) (by decide +kernel)
theorem e819_5 {ls st : List Value} {h : x_H} {x : Int32}: x_run 819 5 ls (.int x :: st) h = q_ls ls 3 (.int x) (fun ls' => x_run 819 6 ls' st h) := xe_istore_n ec819 dX8_priceOf_5
theorem e819_6 {ls st : List Value} {h : x_H} : x_run 819 6 ls st h = q_gr ls 0 (fun v => x_run 819 7 ls (.ref v :: st) h) := xe_aload_n ec819 dX8_priceOf_6
theorem e819_7 {ls st : List Value} {h : x_H} : x_run 819 7 ls st h = q_gi ls 2 (fun v => x_run 819 8 ls (.int v :: st) h) := xe_iload_n ec819 dX8_priceOf_7
theorem e819_8 {ls st : List Value} {h : x_H} {b : Nat} {a1 : Value}: x_run 819 8 ls (a1 :: .ref b :: st) h = if q_rcv h b 10 = true then (if x_wt st ≤ 8 ∧ x_wt [.ref b, a1] = 2 then q_cl (x_m 813 [.ref b, a1] h) (fun v h' => x_run 819 11 ls (v.toList ++ st) h') else none) else none := xe_virt (r := [a1]) ec819 dX8_priceOf_8 ek8_76 rfl (by decide +kernel) (by decide +kernel)
theorem e819_11 {ls st : List Value} {h : x_H} : x_run 819 11 ls st h = x_run 819 12 ls (.int (q_i 1) :: st) h := xe_iconst ec819 dX8_priceOf_11
theorem e819_12 {ls st : List Value} {h : x_H} {x y : Int32}: x_run 819 12 ls (.int y :: .int x :: st) h = if x = y then x_run 819 42 ls st h else x_run 819 15 ls st h := xe_ic_eq ec819 dX8_priceOf_12 rfl
theorem e819_15 {ls st : List Value} {h : x_H} : x_run 819 15 ls st h = q_gi ls 3 (fun v => x_run 819 16 ls (.int v :: st) h) := xe_iload_n ec819 dX8_priceOf_15
theorem e819_16 {ls st : List Value} {h : x_H} {x : Int32}: x_run 819 16 ls (.int x :: st) h = if x < 0 then x_run 819 32 ls st h else x_run 819 19 ls st h := xe_if_lt ec819 dX8_priceOf_16 rfl
theorem e819_19 {ls st : List Value} {h : x_H} : x_run 819 19 ls st h = q_gi ls 3 (fun v => x_run 819 20 ls (.int v :: st) h) := xe_iload_n ec819 dX8_priceOf_19
theorem e819_20 {ls st : List Value} {h : x_H} : x_run 819 20 ls st h = q_gi ls 1 (fun v => x_run 819 21 ls (.int v :: st) h) := xe_iload_n ec819 dX8_priceOf_20
theorem e819_21 {ls st : List Value} {h : x_H} {x y : Int32}: x_run 819 21 ls (.int y :: .int x :: st) h = if x = y then x_run 819 32 ls st h else x_run 819 24 ls st h := xe_ic_eq ec819 dX8_priceOf_21 rfl
theorem e819_24 {ls st : List Value} {h : x_H} : x_run 819 24 ls st h = q_gr ls 0 (fun v => x_run 819 25 ls (.ref v :: st) h) := xe_aload_n ec819 dX8_priceOf_24
theorem e819_25 {ls st : List Value} {h : x_H} : x_run 819 25 ls st h = q_gi ls 2 (fun v => x_run 819 26 ls (.int v :: st) h) := xe_iload_n ec819 dX8_priceOf_25
theorem e819_26 {ls st : List Value} {h : x_H} {b : Nat} {a1 : Value}: x_run 819 26 ls (a1 :: .ref b :: st) h = if q_rcv h b 10 = true then (if x_wt st ≤ 8 ∧ x_wt [.ref b, a1] = 2 then q_cl (x_m 815 [.ref b, a1] h) (fun v h' => x_run 819 29 ls (v.toList ++ st) h') else none) else none := xe_virt (r := [a1]) ec819 dX8_priceOf_26 ek8_93 rfl (by decide +kernel) (by decide +kernel)
theorem e819_29 {ls st : List Value} {h : x_H} {x : Int32}: x_run 819 29 ls (.int x :: st) h = if ¬ x = 0 then x_run 819 42 ls st h else x_run 819 32 ls st h := xe_if_ne ec819 dX8_priceOf_29 rfl
theorem e819_32 {ls st : List Value} {h : x_H} : x_run 819 32 ls st h = q_gr ls 0 (fun v => x_run 819 33 ls (.ref v :: st) h) := xe_aload_n ec819 dX8_priceOf_32
theorem e819_33 {ls st : List Value} {h : x_H} : x_run 819 33 ls st h = q_gi ls 1 (fun v => x_run 819 34 ls (.int v :: st) h) := xe_iload_n ec819 dX8_priceOf_33
theorem e819_34 {ls st : List Value} {h : x_H} : x_run 819 34 ls st h = q_gi ls 2 (fun v => x_run 819 35 ls (.int v :: st) h) := xe_iload_n ec819 dX8_priceOf_34
theorem e819_35 {ls st : List Value} {h : x_H} : x_run 819 35 ls st h = x_run 819 36 ls (.int (q_i 1) :: st) h := xe_iconst ec819 dX8_priceOf_35
theorem e819_36 {ls st : List Value} {h : x_H} {b : Nat} {a1 a2 a3 : Value}: x_run 819 36 ls (a3 :: a2 :: a1 :: .ref b :: st) h = if q_rcv h b 10 = true then (if x_wt st ≤ 8 ∧ x_wt [.ref b, a1, a2, a3] = 4 then q_cl (x_m 818 [.ref b, a1, a2, a3] h) (fun v h' => x_run 819 39 ls (v.toList ++ st) h') else none) else none := xe_virt (r := [a1, a2, a3]) ec819 dX8_priceOf_36 ek8_97 rfl (by decide +kernel) (by decide +kernel)
theorem e819_39 {ls st : List Value} {h : x_H} {x : Int32}: x_run 819 39 ls (.int x :: st) h = if x < 0 then x_run 819 44 ls st h else x_run 819 42 ls st h := xe_if_lt ec819 dX8_priceOf_39 rfl
theorem e819_42 {ls st : List Value} {h : x_H} : x_run 819 42 ls st h = x_run 819 43 ls (.int (q_i (-1)) :: st) h := xe_iconst ec819 dX8_priceOf_42
theorem e819_43 {ls : List Value} {h : x_H} {x : Int32} : x_run 819 43 ls [.int x] h = if narrow .int (.int x) = .int x then some (.inl (some (.int x)), h) else none := xe_ireturn ec819 dX8_priceOf_43 rfl
theorem e819_44 {ls st : List Value} {h : x_H} : x_run 819 44 ls st h = q_gi ls 3 (fun v => x_run 819 45 ls (.int v :: st) h) := xe_iload_n ec819 dX8_priceOf_44
theorem e819_45 {ls st : List Value} {h : x_H} {x : Int32}: x_run 819 45 ls (.int x :: st) h = if x < 0 then x_run 819 53 ls st h else x_run 819 48 ls st h := xe_if_lt ec819 dX8_priceOf_45 rfl
theorem e819_48 {ls st : List Value} {h : x_H} : x_run 819 48 ls st h = q_gi ls 3 (fun v => x_run 819 49 ls (.int v :: st) h) := xe_iload_n ec819 dX8_priceOf_48
theorem e819_49 {ls st : List Value} {h : x_H} : x_run 819 49 ls st h = q_gi ls 1 (fun v => x_run 819 50 ls (.int v :: st) h) := xe_iload_n ec819 dX8_priceOf_49
theorem e819_50 {ls st : List Value} {h : x_H} {x y : Int32}: x_run 819 50 ls (.int y :: .int x :: st) h = if ¬ x = y then x_run 819 63 ls st h else x_run 819 53 ls st h := xe_ic_ne ec819 dX8_priceOf_50 rfl
theorem e819_53 {ls st : List Value} {h : x_H} : x_run 819 53 ls st h = q_gr ls 0 (fun v => x_run 819 54 ls (.ref v :: st) h) := xe_aload_n ec819 dX8_priceOf_53
theorem e819_54 {ls st : List Value} {h : x_H} : x_run 819 54 ls st h = q_gi ls 1 (fun v => x_run 819 55 ls (.int v :: st) h) := xe_iload_n ec819 dX8_priceOf_54
theorem e819_55 {ls st : List Value} {h : x_H} : x_run 819 55 ls st h = q_gi ls 2 (fun v => x_run 819 56 ls (.int v :: st) h) := xe_iload_n ec819 dX8_priceOf_55
theorem e819_56 {ls st : List Value} {h : x_H} : x_run 819 56 ls st h = x_run 819 57 ls (.int (q_i 0) :: st) h := xe_iconst ec819 dX8_priceOf_56
theorem e819_57 {ls st : List Value} {h : x_H} {b : Nat} {a1 a2 a3 : Value}: x_run 819 57 ls (a3 :: a2 :: a1 :: .ref b :: st) h = if q_rcv h b 10 = true then (if x_wt st ≤ 8 ∧ x_wt [.ref b, a1, a2, a3] = 4 then q_cl (x_m 818 [.ref b, a1, a2, a3] h) (fun v h' => x_run 819 60 ls (v.toList ++ st) h') else none) else none := xe_virt (r := [a1, a2, a3]) ec819 dX8_priceOf_57 ek8_97 rfl (by decide +kernel) (by decide +kernel)
theorem e819_60 {ls st : List Value} {h : x_H} {x : Int32}: x_run 819 60 ls (.int x :: st) h = if x < 0 then x_run 819 68 ls st h else x_run 819 63 ls st h := xe_if_lt ec819 dX8_priceOf_60 rfl
theorem e819_63 {ls st : List Value} {h : x_H} : x_run 819 63 ls st h = x_run 819 65 ls (.int (q_i 8) :: st) h := xe_bipush ec819 dX8_priceOf_63 (by decide)
theorem e819_65 {ls st : List Value} {h : x_H} : x_run 819 65 ls st h = x_run 819 69 ls st h := xe_goto ec819 dX8_priceOf_65 rfl
theorem e819_68 {ls st : List Value} {h : x_H} : x_run 819 68 ls st h = x_run 819 69 ls (.int (q_i 0) :: st) h := xe_iconst ec819 dX8_priceOf_68
theorem e819_69 {ls : List Value} {h : x_H} {x : Int32} : x_run 819 69 ls [.int x] h = if narrow .int (.int x) = .int x then some (.inl (some (.int x)), h) else none := xe_ireturn ec819 dX8_priceOf_69 rfl
theorem ec820 : x_code 820 = cX8_net := rfl
theorem e820_0 {ls st : List Value} {h : x_H} : x_run 820 0 ls st h = q_gr ls 0 (fun v => x_run 820 1 ls (.ref v :: st) h) := xe_aload_n ec820 dX8_net_0
theorem e820_1 {ls st : List Value} {h : x_H} {a : Nat}: x_run 820 1 ls (.ref a :: st) h = q_gf h a 10 0 (fun v => x_run 820 4 ls (v :: st) h) := xe_getfield ec820 dX8_net_1 ef8_7
theorem e820_4 {ls st : List Value} {h : x_H} : x_run 820 4 ls st h = x_run 820 5 ls (.int (q_i 0) :: st) h := xe_iconst ec820 dX8_net_4
theorem e820_5 {ls st : List Value} {h : x_H} {x : Int32} {a : Nat}: x_run 820 5 ls (.int x :: .ref a :: st) h = q_ra h a 0 x (fun v => x_run 820 6 ls (.int v :: st) h) := xe_iaload ec820 dX8_net_5
theorem e820_6 {ls st : List Value} {h : x_H} : x_run 820 6 ls st h = x_run 820 8 ls (.int (q_i 6) :: st) h := xe_bipush ec820 dX8_net_6 (by decide)
theorem e820_8 {ls st : List Value} {h : x_H} {x y : Int32}: x_run 820 8 ls (.int y :: .int x :: st) h = if ¬ x = y then x_run 820 19 ls st h else x_run 820 11 ls st h := xe_ic_ne ec820 dX8_net_8 rfl
theorem e820_11 {ls st : List Value} {h : x_H} : x_run 820 11 ls st h = q_gr ls 0 (fun v => x_run 820 12 ls (.ref v :: st) h) := xe_aload_n ec820 dX8_net_11
theorem e820_12 {ls st : List Value} {h : x_H} : x_run 820 12 ls st h = x_run 820 13 ls (.int (q_i 2) :: st) h := xe_iconst ec820 dX8_net_12
theorem e820_13 {ls st : List Value} {h : x_H} : x_run 820 13 ls st h = x_run 820 15 ls (.int (q_i 6) :: st) h := xe_bipush ec820 dX8_net_13 (by decide)
theorem e820_15 {ls st : List Value} {h : x_H} {b : Nat} {a1 a2 : Value}: x_run 820 15 ls (a2 :: a1 :: .ref b :: st) h = if q_rcv h b 10 = true then (if x_wt st ≤ 8 ∧ x_wt [.ref b, a1, a2] = 3 then q_cl (x_m 803 [.ref b, a1, a2] h) (fun v h' => x_run 820 18 ls (v.toList ++ st) h') else none) else none := xe_virt (r := [a1, a2]) ec820 dX8_net_15 ek8_101 rfl (by decide +kernel) (by decide +kernel)
theorem e820_18 {ls : List Value} {h : x_H} {x : Int32} : x_run 820 18 ls [.int x] h = if narrow .int (.int x) = .int x then some (.inl (some (.int x)), h) else none := xe_ireturn ec820 dX8_net_18 rfl
theorem e820_19 {ls st : List Value} {h : x_H} : x_run 820 19 ls st h = q_gr ls 0 (fun v => x_run 820 20 ls (.ref v :: st) h) := xe_aload_n ec820 dX8_net_19
theorem e820_20 {ls st : List Value} {h : x_H} : x_run 820 20 ls st h = q_gr ls 0 (fun v => x_run 820 21 ls (.ref v :: st) h) := xe_aload_n ec820 dX8_net_20
theorem e820_21 {ls st : List Value} {h : x_H} {a : Nat}: x_run 820 21 ls (.ref a :: st) h = q_gf h a 10 0 (fun v => x_run 820 24 ls (v :: st) h) := xe_getfield ec820 dX8_net_21 ef8_7
theorem e820_24 {ls st : List Value} {h : x_H} {b : Nat} {a1 : Value}: x_run 820 24 ls (a1 :: .ref b :: st) h = if q_rcv h b 10 = true then (if x_wt st ≤ 8 ∧ x_wt [.ref b, a1] = 2 then q_cl (x_m 806 [.ref b, a1] h) (fun v h' => x_run 820 27 ls (v.toList ++ st) h') else none) else none := xe_virt (r := [a1]) ec820 dX8_net_24 ek8_104 rfl (by decide +kernel) (by decide +kernel)
theorem e820_27 {ls st : List Value} {h : x_H} : x_run 820 27 ls st h = q_gr ls 0 (fun v => x_run 820 28 ls (.ref v :: st) h) := xe_aload_n ec820 dX8_net_27
theorem e820_28 {ls st : List Value} {h : x_H} {a : Nat}: x_run 820 28 ls (.ref a :: st) h = q_gf h a 10 0 (fun v => x_run 820 31 ls (v :: st) h) := xe_getfield ec820 dX8_net_28 ef8_7
theorem e820_31 {ls st : List Value} {h : x_H} : x_run 820 31 ls st h = x_run 820 32 ls (.int (q_i 0) :: st) h := xe_iconst ec820 dX8_net_31
theorem e820_32 {ls st : List Value} {h : x_H} {x : Int32} {a : Nat}: x_run 820 32 ls (.int x :: .ref a :: st) h = q_ra h a 0 x (fun v => x_run 820 33 ls (.int v :: st) h) := xe_iaload ec820 dX8_net_32
theorem e820_33 {ls st : List Value} {h : x_H} {x : Int32}: x_run 820 33 ls (.int x :: st) h = q_ls ls 2 (.int x) (fun ls' => x_run 820 34 ls' st h) := xe_istore_n ec820 dX8_net_33
theorem e820_34 {ls st : List Value} {h : x_H} : x_run 820 34 ls st h = q_gr ls 0 (fun v => x_run 820 35 ls (.ref v :: st) h) := xe_aload_n ec820 dX8_net_34
theorem e820_35 {ls st : List Value} {h : x_H} {a : Nat}: x_run 820 35 ls (.ref a :: st) h = q_gf h a 10 0 (fun v => x_run 820 38 ls (v :: st) h) := xe_getfield ec820 dX8_net_35 ef8_7
theorem e820_38 {ls st : List Value} {h : x_H} : x_run 820 38 ls st h = x_run 820 39 ls (.int (q_i 0) :: st) h := xe_iconst ec820 dX8_net_38
theorem e820_39 {ls st : List Value} {h : x_H} {v w : Value} (hv : v.category = 1 ∧ w.category = 1): x_run 820 39 ls (v :: w :: st) h = x_run 820 40 ls (v :: w :: v :: w :: st) h := xe_dup2 ec820 dX8_net_39 hv
theorem e820_40 {ls st : List Value} {h : x_H} {x : Int32} {a : Nat}: x_run 820 40 ls (.int x :: .ref a :: st) h = q_ra h a 0 x (fun v => x_run 820 41 ls (.int v :: st) h) := xe_iaload ec820 dX8_net_40
theorem e820_41 {ls st : List Value} {h : x_H} : x_run 820 41 ls st h = x_run 820 42 ls (.int (q_i 1) :: st) h := xe_iconst ec820 dX8_net_41
theorem e820_42 {ls st : List Value} {h : x_H} {x y : Int32}: x_run 820 42 ls (.int y :: .int x :: st) h = x_run 820 43 ls (.int (x + y) :: st) h := xe_iadd ec820 dX8_net_42
theorem e820_43 {ls st : List Value} {h : x_H} {x y : Int32} {a : Nat}: x_run 820 43 ls (.int y :: .int x :: .ref a :: st) h = q_wa h a 0 x y (fun h' => x_run 820 44 ls st h') := xe_iastore ec820 dX8_net_43
theorem e820_44 {ls st : List Value} {h : x_H} : x_run 820 44 ls st h = x_run 820 45 ls (.int (q_i 0) :: st) h := xe_iconst ec820 dX8_net_44
theorem e820_45 {ls st : List Value} {h : x_H} {x : Int32}: x_run 820 45 ls (.int x :: st) h = q_ls ls 3 (.int x) (fun ls' => x_run 820 46 ls' st h) := xe_istore_n ec820 dX8_net_45
theorem e820_46 {ls st : List Value} {h : x_H} : x_run 820 46 ls st h = q_gi ls 3 (fun v => x_run 820 47 ls (.int v :: st) h) := xe_iload_n ec820 dX8_net_46
theorem e820_47 {ls st : List Value} {h : x_H} : x_run 820 47 ls st h = x_run 820 49 ls (.int (q_i 9) :: st) h := xe_bipush ec820 dX8_net_47 (by decide)
theorem e820_49 {ls st : List Value} {h : x_H} {x y : Int32}: x_run 820 49 ls (.int y :: .int x :: st) h = if y ≤ x then x_run 820 65 ls st h else x_run 820 52 ls st h := xe_ic_ge ec820 dX8_net_49 rfl
theorem e820_52 {ls st : List Value} {h : x_H} : x_run 820 52 ls st h = q_gr ls 0 (fun v => x_run 820 53 ls (.ref v :: st) h) := xe_aload_n ec820 dX8_net_52
theorem e820_53 {ls st : List Value} {h : x_H} : x_run 820 53 ls st h = q_gi ls 2 (fun v => x_run 820 54 ls (.int v :: st) h) := xe_iload_n ec820 dX8_net_53
theorem e820_54 {ls st : List Value} {h : x_H} : x_run 820 54 ls st h = q_gi ls 3 (fun v => x_run 820 55 ls (.int v :: st) h) := xe_iload_n ec820 dX8_net_54
theorem e820_55 {ls st : List Value} {h : x_H} : x_run 820 55 ls st h = x_run 820 56 ls (.int (q_i 0) :: st) h := xe_iconst ec820 dX8_net_55
theorem e820_56 {ls st : List Value} {h : x_H} {b : Nat} {a1 a2 a3 : Value}: x_run 820 56 ls (a3 :: a2 :: a1 :: .ref b :: st) h = if q_rcv h b 10 = true then (if x_wt st ≤ 8 ∧ x_wt [.ref b, a1, a2, a3] = 4 then q_cl (x_m 812 [.ref b, a1, a2, a3] h) (fun v h' => x_run 820 59 ls (v.toList ++ st) h') else none) else none := xe_virt (r := [a1, a2, a3]) ec820 dX8_net_56 ek8_108 rfl (by decide +kernel) (by decide +kernel)
theorem e820_59 {ls st : List Value} {h : x_H} : x_run 820 59 ls st h = q_gi ls 3 (fun v => if x_nd ls 3 = true then x_run 820 62 (ls.set 3 (.int (v + q_i 1))) st h else none) := xe_iinc ec820 dX8_net_59
theorem e820_62 {ls st : List Value} {h : x_H} : x_run 820 62 ls st h = x_run 820 46 ls st h := xe_goto ec820 dX8_net_62 rfl
theorem e820_65 {ls st : List Value} {h : x_H} : x_run 820 65 ls st h = q_gr ls 0 (fun v => x_run 820 66 ls (.ref v :: st) h) := xe_aload_n ec820 dX8_net_65
theorem e820_66 {ls st : List Value} {h : x_H} : x_run 820 66 ls st h = q_gi ls 2 (fun v => x_run 820 67 ls (.int v :: st) h) := xe_iload_n ec820 dX8_net_66
theorem e820_67 {ls st : List Value} {h : x_H} : x_run 820 67 ls st h = x_run 820 68 ls (.int (q_i 0) :: st) h := xe_iconst ec820 dX8_net_67
theorem e820_68 {ls st : List Value} {h : x_H} : x_run 820 68 ls st h = q_gi ls 1 (fun v => x_run 820 69 ls (.int v :: st) h) := xe_iload_n ec820 dX8_net_68
theorem e820_69 {ls st : List Value} {h : x_H} {x : Int32}: x_run 820 69 ls (.int x :: st) h = if x = 0 then x_run 820 76 ls st h else x_run 820 72 ls st h := xe_if_eq ec820 dX8_net_69 rfl
theorem e820_72 {ls st : List Value} {h : x_H} : x_run 820 72 ls st h = x_run 820 73 ls (.int (q_i 1) :: st) h := xe_iconst ec820 dX8_net_72
theorem e820_73 {ls st : List Value} {h : x_H} : x_run 820 73 ls st h = x_run 820 77 ls st h := xe_goto ec820 dX8_net_73 rfl
theorem e820_76 {ls st : List Value} {h : x_H} : x_run 820 76 ls st h = x_run 820 77 ls (.int (q_i 0) :: st) h := xe_iconst ec820 dX8_net_76
theorem e820_77 {ls st : List Value} {h : x_H} {b : Nat} {a1 a2 a3 : Value}: x_run 820 77 ls (a3 :: a2 :: a1 :: .ref b :: st) h = if q_rcv h b 10 = true then (if x_wt st ≤ 8 ∧ x_wt [.ref b, a1, a2, a3] = 4 then q_cl (x_m 812 [.ref b, a1, a2, a3] h) (fun v h' => x_run 820 80 ls (v.toList ++ st) h') else none) else none := xe_virt (r := [a1, a2, a3]) ec820 dX8_net_77 ek8_108 rfl (by decide +kernel) (by decide +kernel)
theorem e820_80 {ls st : List Value} {h : x_H} : x_run 820 80 ls st h = q_gi ls 2 (fun v => x_run 820 81 ls (.int v :: st) h) := xe_iload_n ec820 dX8_net_80
theorem e820_81 {ls : List Value} {h : x_H} {x : Int32} : x_run 820 81 ls [.int x] h = if narrow .int (.int x) = .int x then some (.inl (some (.int x)), h) else none := xe_ireturn ec820 dX8_net_81 rfl
theorem ec821 : x_code 821 = cX8_pin := rfl
theorem e821_0 {ls st : List Value} {h : x_H} : x_run 821 0 ls st h = q_gr ls 0 (fun v => x_run 821 1 ls (.ref v :: st) h) := xe_aload_n ec821 dX8_pin_0
theorem e821_1 {ls st : List Value} {h : x_H} : x_run 821 1 ls st h = q_gi ls 1 (fun v => x_run 821 2 ls (.int v :: st) h) := xe_iload_n ec821 dX8_pin_1
theorem e821_2 {ls st : List Value} {h : x_H} {b : Nat} {a1 : Value}: x_run 821 2 ls (a1 :: .ref b :: st) h = if q_rcv h b 10 = true then (if x_wt st ≤ 8 ∧ x_wt [.ref b, a1] = 2 then q_cl (x_m 810 [.ref b, a1] h) (fun v h' => x_run 821 5 ls (v.toList ++ st) h') else none) else none := xe_virt (r := [a1]) ec821 dX8_pin_2 ek8_112 rfl (by decide +kernel) (by decide +kernel)
theorem e821_5 {ls st : List Value} {h : x_H} {x : Int32}: x_run 821 5 ls (.int x :: st) h = if ¬ x = 0 then x_run 821 15 ls st h else x_run 821 8 ls st h := xe_if_ne ec821 dX8_pin_5 rfl
theorem e821_8 {ls st : List Value} {h : x_H} : x_run 821 8 ls st h = q_gr ls 0 (fun v => x_run 821 9 ls (.ref v :: st) h) := xe_aload_n ec821 dX8_pin_8
theorem e821_9 {ls st : List Value} {h : x_H} : x_run 821 9 ls st h = x_run 821 10 ls (.int (q_i 3) :: st) h := xe_iconst ec821 dX8_pin_9
theorem e821_10 {ls st : List Value} {h : x_H} : x_run 821 10 ls st h = q_gi ls 1 (fun v => x_run 821 11 ls (.int v :: st) h) := xe_iload_n ec821 dX8_pin_10
theorem e821_11 {ls st : List Value} {h : x_H} {b : Nat} {a1 a2 : Value}: x_run 821 11 ls (a2 :: a1 :: .ref b :: st) h = if q_rcv h b 10 = true then (if x_wt st ≤ 8 ∧ x_wt [.ref b, a1, a2] = 3 then q_cl (x_m 803 [.ref b, a1, a2] h) (fun v h' => x_run 821 14 ls (v.toList ++ st) h') else none) else none := xe_virt (r := [a1, a2]) ec821 dX8_pin_11 ek8_101 rfl (by decide +kernel) (by decide +kernel)
theorem e821_14 {ls : List Value} {h : x_H} {x : Int32} : x_run 821 14 ls [.int x] h = if narrow .int (.int x) = .int x then some (.inl (some (.int x)), h) else none := xe_ireturn ec821 dX8_pin_14 rfl
theorem e821_15 {ls st : List Value} {h : x_H} : x_run 821 15 ls st h = q_gi ls 2 (fun v => x_run 821 16 ls (.int v :: st) h) := xe_iload_n ec821 dX8_pin_15
theorem e821_16 {ls st : List Value} {h : x_H} : x_run 821 16 ls st h = q_gi ls 3 (fun v => x_run 821 17 ls (.int v :: st) h) := xe_iload_n ec821 dX8_pin_16
theorem e821_17 {ls st : List Value} {h : x_H} {a1 a2 : Value}: x_run 821 17 ls (a2 :: a1 :: st) h = if x_wt st ≤ 8 ∧ x_wt [a1, a2] = 2 then q_cl (x_m 807 [a1, a2] h) (fun v h' => x_run 821 20 ls (v.toList ++ st) h') else none := xe_stat (args := [a1, a2]) ec821 dX8_pin_17 ek8_72 (by decide) rfl (by decide +kernel) (by decide +kernel)
theorem e821_20 {ls st : List Value} {h : x_H} {x : Int32}: x_run 821 20 ls (.int x :: st) h = if ¬ x = 0 then x_run 821 30 ls st h else x_run 821 23 ls st h := xe_if_ne ec821 dX8_pin_20 rfl
theorem e821_23 {ls st : List Value} {h : x_H} : x_run 821 23 ls st h = q_gr ls 0 (fun v => x_run 821 24 ls (.ref v :: st) h) := xe_aload_n ec821 dX8_pin_23
theorem e821_24 {ls st : List Value} {h : x_H} : x_run 821 24 ls st h = x_run 821 25 ls (.int (q_i 1) :: st) h := xe_iconst ec821 dX8_pin_24
theorem e821_25 {ls st : List Value} {h : x_H} : x_run 821 25 ls st h = x_run 821 26 ls (.int (q_i 0) :: st) h := xe_iconst ec821 dX8_pin_25
theorem e821_26 {ls st : List Value} {h : x_H} {b : Nat} {a1 a2 : Value}: x_run 821 26 ls (a2 :: a1 :: .ref b :: st) h = if q_rcv h b 10 = true then (if x_wt st ≤ 8 ∧ x_wt [.ref b, a1, a2] = 3 then q_cl (x_m 803 [.ref b, a1, a2] h) (fun v h' => x_run 821 29 ls (v.toList ++ st) h') else none) else none := xe_virt (r := [a1, a2]) ec821 dX8_pin_26 ek8_101 rfl (by decide +kernel) (by decide +kernel)
theorem e821_29 {ls : List Value} {h : x_H} {x : Int32} : x_run 821 29 ls [.int x] h = if narrow .int (.int x) = .int x then some (.inl (some (.int x)), h) else none := xe_ireturn ec821 dX8_pin_29 rfl
theorem e821_30 {ls st : List Value} {h : x_H} : x_run 821 30 ls st h = q_gr ls 0 (fun v => x_run 821 31 ls (.ref v :: st) h) := xe_aload_n ec821 dX8_pin_30
theorem e821_31 {ls st : List Value} {h : x_H} : x_run 821 31 ls st h = q_gi ls 1 (fun v => x_run 821 32 ls (.int v :: st) h) := xe_iload_n ec821 dX8_pin_31
theorem e821_32 {ls st : List Value} {h : x_H} : x_run 821 32 ls st h = x_run 821 34 ls (.int (q_i 6) :: st) h := xe_bipush ec821 dX8_pin_32 (by decide)
theorem e821_34 {ls st : List Value} {h : x_H} {b : Nat} {a1 a2 : Value}: x_run 821 34 ls (a2 :: a1 :: .ref b :: st) h = if q_rcv h b 10 = true then (if x_wt st ≤ 8 ∧ x_wt [.ref b, a1, a2] = 3 then q_cl (x_m 811 [.ref b, a1, a2] h) (fun v h' => x_run 821 37 ls (v.toList ++ st) h') else none) else none := xe_virt (r := [a1, a2]) ec821 dX8_pin_34 ek8_80 rfl (by decide +kernel) (by decide +kernel)
theorem e821_37 {ls st : List Value} {h : x_H} : x_run 821 37 ls st h = x_run 821 38 ls (.int (q_i 1) :: st) h := xe_iconst ec821 dX8_pin_37
theorem e821_38 {ls st : List Value} {h : x_H} {x y : Int32}: x_run 821 38 ls (.int y :: .int x :: st) h = if ¬ x = y then x_run 821 48 ls st h else x_run 821 41 ls st h := xe_ic_ne ec821 dX8_pin_38 rfl
theorem e821_41 {ls st : List Value} {h : x_H} : x_run 821 41 ls st h = q_gr ls 0 (fun v => x_run 821 42 ls (.ref v :: st) h) := xe_aload_n ec821 dX8_pin_41
theorem e821_42 {ls st : List Value} {h : x_H} : x_run 821 42 ls st h = x_run 821 43 ls (.int (q_i 4) :: st) h := xe_iconst ec821 dX8_pin_42
theorem e821_43 {ls st : List Value} {h : x_H} : x_run 821 43 ls st h = q_gi ls 1 (fun v => x_run 821 44 ls (.int v :: st) h) := xe_iload_n ec821 dX8_pin_43
theorem e821_44 {ls st : List Value} {h : x_H} {b : Nat} {a1 a2 : Value}: x_run 821 44 ls (a2 :: a1 :: .ref b :: st) h = if q_rcv h b 10 = true then (if x_wt st ≤ 8 ∧ x_wt [.ref b, a1, a2] = 3 then q_cl (x_m 803 [.ref b, a1, a2] h) (fun v h' => x_run 821 47 ls (v.toList ++ st) h') else none) else none := xe_virt (r := [a1, a2]) ec821 dX8_pin_44 ek8_101 rfl (by decide +kernel) (by decide +kernel)
theorem e821_47 {ls : List Value} {h : x_H} {x : Int32} : x_run 821 47 ls [.int x] h = if narrow .int (.int x) = .int x then some (.inl (some (.int x)), h) else none := xe_ireturn ec821 dX8_pin_47 rfl
theorem e821_48 {ls st : List Value} {h : x_H} : x_run 821 48 ls st h = q_gr ls 0 (fun v => x_run 821 49 ls (.ref v :: st) h) := xe_aload_n ec821 dX8_pin_48
theorem e821_49 {ls st : List Value} {h : x_H} : x_run 821 49 ls st h = q_gi ls 1 (fun v => x_run 821 50 ls (.int v :: st) h) := xe_iload_n ec821 dX8_pin_49
theorem e821_50 {ls st : List Value} {h : x_H} : x_run 821 50 ls st h = x_run 821 51 ls (.int (q_i 1) :: st) h := xe_iconst ec821 dX8_pin_50
theorem e821_51 {ls st : List Value} {h : x_H} {b : Nat} {a1 a2 : Value}: x_run 821 51 ls (a2 :: a1 :: .ref b :: st) h = if q_rcv h b 10 = true then (if x_wt st ≤ 8 ∧ x_wt [.ref b, a1, a2] = 3 then q_cl (x_m 811 [.ref b, a1, a2] h) (fun v h' => x_run 821 54 ls (v.toList ++ st) h') else none) else none := xe_virt (r := [a1, a2]) ec821 dX8_pin_51 ek8_80 rfl (by decide +kernel) (by decide +kernel)
theorem e821_54 {ls st : List Value} {h : x_H} {x : Int32}: x_run 821 54 ls (.int x :: st) h = q_ls ls 4 (.int x) (fun ls' => x_run 821 56 ls' st h) := xe_istore ec821 dX8_pin_54
theorem e821_56 {ls st : List Value} {h : x_H} : x_run 821 56 ls st h = q_gi ls 4 (fun v => x_run 821 58 ls (.int v :: st) h) := xe_iload ec821 dX8_pin_56
theorem e821_58 {ls st : List Value} {h : x_H} : x_run 821 58 ls st h = x_run 821 59 ls (.int (q_i 4) :: st) h := xe_iconst ec821 dX8_pin_58
theorem e821_59 {ls st : List Value} {h : x_H} {x y : Int32}: x_run 821 59 ls (.int y :: .int x :: st) h = if ¬ x = y then x_run 821 69 ls st h else x_run 821 62 ls st h := xe_ic_ne ec821 dX8_pin_59 rfl
theorem e821_62 {ls st : List Value} {h : x_H} : x_run 821 62 ls st h = q_gr ls 0 (fun v => x_run 821 63 ls (.ref v :: st) h) := xe_aload_n ec821 dX8_pin_62
theorem e821_63 {ls st : List Value} {h : x_H} : x_run 821 63 ls st h = x_run 821 64 ls (.int (q_i 2) :: st) h := xe_iconst ec821 dX8_pin_63
theorem e821_64 {ls st : List Value} {h : x_H} : x_run 821 64 ls st h = x_run 821 65 ls (.int (q_i 4) :: st) h := xe_iconst ec821 dX8_pin_64
theorem e821_65 {ls st : List Value} {h : x_H} {b : Nat} {a1 a2 : Value}: x_run 821 65 ls (a2 :: a1 :: .ref b :: st) h = if q_rcv h b 10 = true then (if x_wt st ≤ 8 ∧ x_wt [.ref b, a1, a2] = 3 then q_cl (x_m 803 [.ref b, a1, a2] h) (fun v h' => x_run 821 68 ls (v.toList ++ st) h') else none) else none := xe_virt (r := [a1, a2]) ec821 dX8_pin_65 ek8_101 rfl (by decide +kernel) (by decide +kernel)
theorem e821_68 {ls : List Value} {h : x_H} {x : Int32} : x_run 821 68 ls [.int x] h = if narrow .int (.int x) = .int x then some (.inl (some (.int x)), h) else none := xe_ireturn ec821 dX8_pin_68 rfl
theorem e821_69 {ls st : List Value} {h : x_H} : x_run 821 69 ls st h = q_gi ls 2 (fun v => x_run 821 70 ls (.int v :: st) h) := xe_iload_n ec821 dX8_pin_69
theorem e821_70 {ls st : List Value} {h : x_H} : x_run 821 70 ls st h = q_gi ls 3 (fun v => x_run 821 71 ls (.int v :: st) h) := xe_iload_n ec821 dX8_pin_70
theorem e821_71 {ls st : List Value} {h : x_H} : x_run 821 71 ls st h = x_run 821 72 ls (.int (q_i 0) :: st) h := xe_iconst ec821 dX8_pin_71
theorem e821_72 {ls st : List Value} {h : x_H} {a1 a2 a3 : Value}: x_run 821 72 ls (a3 :: a2 :: a1 :: st) h = if x_wt st ≤ 8 ∧ x_wt [a1, a2, a3] = 3 then q_cl (x_m 809 [a1, a2, a3] h) (fun v h' => x_run 821 75 ls (v.toList ++ st) h') else none := xe_stat (args := [a1, a2, a3]) ec821 dX8_pin_72 ek8_115 (by decide) rfl (by decide +kernel) (by decide +kernel)
theorem e821_75 {ls st : List Value} {h : x_H} {x : Int32}: x_run 821 75 ls (.int x :: st) h = q_ls ls 5 (.int x) (fun ls' => x_run 821 77 ls' st h) := xe_istore ec821 dX8_pin_75
theorem e821_77 {ls st : List Value} {h : x_H} : x_run 821 77 ls st h = q_gi ls 5 (fun v => x_run 821 79 ls (.int v :: st) h) := xe_iload ec821 dX8_pin_77
theorem e821_79 {ls st : List Value} {h : x_H} {x : Int32}: x_run 821 79 ls (.int x :: st) h = q_ls ls 6 (.int x) (fun ls' => x_run 821 81 ls' st h) := xe_istore ec821 dX8_pin_79
theorem e821_81 {ls st : List Value} {h : x_H} : x_run 821 81 ls st h = q_gi ls 6 (fun v => x_run 821 83 ls (.int v :: st) h) := xe_iload ec821 dX8_pin_81
theorem e821_83 {ls st : List Value} {h : x_H} : x_run 821 83 ls st h = x_run 821 85 ls (.int (q_i 96) :: st) h := xe_bipush ec821 dX8_pin_83 (by decide)
theorem e821_85 {ls st : List Value} {h : x_H} {x y : Int32}: x_run 821 85 ls (.int y :: .int x :: st) h = if y ≤ x then x_run 821 115 ls st h else x_run 821 88 ls st h := xe_ic_ge ec821 dX8_pin_85 rfl
theorem e821_88 {ls st : List Value} {h : x_H} : x_run 821 88 ls st h = q_gr ls 0 (fun v => x_run 821 89 ls (.ref v :: st) h) := xe_aload_n ec821 dX8_pin_88
theorem e821_89 {ls st : List Value} {h : x_H} : x_run 821 89 ls st h = q_gi ls 6 (fun v => x_run 821 91 ls (.int v :: st) h) := xe_iload ec821 dX8_pin_89
theorem e821_91 {ls st : List Value} {h : x_H} {b : Nat} {a1 : Value}: x_run 821 91 ls (a1 :: .ref b :: st) h = if q_rcv h b 10 = true then (if x_wt st ≤ 8 ∧ x_wt [.ref b, a1] = 2 then q_cl (x_m 813 [.ref b, a1] h) (fun v h' => x_run 821 94 ls (v.toList ++ st) h') else none) else none := xe_virt (r := [a1]) ec821 dX8_pin_91 ek8_76 rfl (by decide +kernel) (by decide +kernel)
theorem e821_94 {ls st : List Value} {h : x_H} {x : Int32}: x_run 821 94 ls (.int x :: st) h = if x = 0 then x_run 821 109 ls st h else x_run 821 97 ls st h := xe_if_eq ec821 dX8_pin_94 rfl
theorem e821_97 {ls st : List Value} {h : x_H} : x_run 821 97 ls st h = q_gr ls 0 (fun v => x_run 821 98 ls (.ref v :: st) h) := xe_aload_n ec821 dX8_pin_97
theorem e821_98 {ls st : List Value} {h : x_H} : x_run 821 98 ls st h = x_run 821 99 ls (.int (q_i 5) :: st) h := xe_iconst ec821 dX8_pin_98
theorem e821_99 {ls st : List Value} {h : x_H} : x_run 821 99 ls st h = q_gr ls 0 (fun v => x_run 821 100 ls (.ref v :: st) h) := xe_aload_n ec821 dX8_pin_99
theorem e821_100 {ls st : List Value} {h : x_H} : x_run 821 100 ls st h = q_gi ls 6 (fun v => x_run 821 102 ls (.int v :: st) h) := xe_iload ec821 dX8_pin_100
theorem e821_102 {ls st : List Value} {h : x_H} {b : Nat} {a1 : Value}: x_run 821 102 ls (a1 :: .ref b :: st) h = if q_rcv h b 10 = true then (if x_wt st ≤ 8 ∧ x_wt [.ref b, a1] = 2 then q_cl (x_m 814 [.ref b, a1] h) (fun v h' => x_run 821 105 ls (v.toList ++ st) h') else none) else none := xe_virt (r := [a1]) ec821 dX8_pin_102 ek8_87 rfl (by decide +kernel) (by decide +kernel)
theorem e821_105 {ls st : List Value} {h : x_H} {b : Nat} {a1 a2 : Value}: x_run 821 105 ls (a2 :: a1 :: .ref b :: st) h = if q_rcv h b 10 = true then (if x_wt st ≤ 8 ∧ x_wt [.ref b, a1, a2] = 3 then q_cl (x_m 803 [.ref b, a1, a2] h) (fun v h' => x_run 821 108 ls (v.toList ++ st) h') else none) else none := xe_virt (r := [a1, a2]) ec821 dX8_pin_105 ek8_101 rfl (by decide +kernel) (by decide +kernel)
theorem e821_108 {ls : List Value} {h : x_H} {x : Int32} : x_run 821 108 ls [.int x] h = if narrow .int (.int x) = .int x then some (.inl (some (.int x)), h) else none := xe_ireturn ec821 dX8_pin_108 rfl
theorem e821_109 {ls st : List Value} {h : x_H} : x_run 821 109 ls st h = q_gi ls 6 (fun v => if x_nd ls 6 = true then x_run 821 112 (ls.set 6 (.int (v + q_i 48))) st h else none) := xe_iinc ec821 dX8_pin_109
theorem e821_112 {ls st : List Value} {h : x_H} : x_run 821 112 ls st h = x_run 821 81 ls st h := xe_goto ec821 dX8_pin_112 rfl
theorem e821_115 {ls st : List Value} {h : x_H} : x_run 821 115 ls st h = q_gi ls 5 (fun v => x_run 821 117 ls (.int v :: st) h) := xe_iload ec821 dX8_pin_115
theorem e821_117 {ls st : List Value} {h : x_H} {x : Int32}: x_run 821 117 ls (.int x :: st) h = q_ls ls 6 (.int x) (fun ls' => x_run 821 119 ls' st h) := xe_istore ec821 dX8_pin_117
theorem e821_119 {ls st : List Value} {h : x_H} : x_run 821 119 ls st h = q_gi ls 6 (fun v => x_run 821 121 ls (.int v :: st) h) := xe_iload ec821 dX8_pin_119
theorem e821_121 {ls st : List Value} {h : x_H} : x_run 821 121 ls st h = x_run 821 123 ls (.int (q_i 96) :: st) h := xe_bipush ec821 dX8_pin_121 (by decide)
theorem e821_123 {ls st : List Value} {h : x_H} {x y : Int32}: x_run 821 123 ls (.int y :: .int x :: st) h = if y ≤ x then x_run 821 158 ls st h else x_run 821 126 ls st h := xe_ic_ge ec821 dX8_pin_123 rfl
theorem e821_126 {ls st : List Value} {h : x_H} : x_run 821 126 ls st h = q_gr ls 0 (fun v => x_run 821 127 ls (.ref v :: st) h) := xe_aload_n ec821 dX8_pin_126
theorem e821_127 {ls st : List Value} {h : x_H} : x_run 821 127 ls st h = q_gi ls 1 (fun v => x_run 821 128 ls (.int v :: st) h) := xe_iload_n ec821 dX8_pin_127
theorem e821_128 {ls st : List Value} {h : x_H} : x_run 821 128 ls st h = q_gi ls 6 (fun v => x_run 821 130 ls (.int v :: st) h) := xe_iload ec821 dX8_pin_128
theorem e821_130 {ls st : List Value} {h : x_H} : x_run 821 130 ls st h = x_run 821 131 ls (.int (q_i 0) :: st) h := xe_iconst ec821 dX8_pin_130
theorem e821_131 {ls st : List Value} {h : x_H} {b : Nat} {a1 a2 a3 : Value}: x_run 821 131 ls (a3 :: a2 :: a1 :: .ref b :: st) h = if q_rcv h b 10 = true then (if x_wt st ≤ 8 ∧ x_wt [.ref b, a1, a2, a3] = 4 then q_cl (x_m 818 [.ref b, a1, a2, a3] h) (fun v h' => x_run 821 134 ls (v.toList ++ st) h') else none) else none := xe_virt (r := [a1, a2, a3]) ec821 dX8_pin_131 ek8_97 rfl (by decide +kernel) (by decide +kernel)
theorem e821_134 {ls st : List Value} {h : x_H} {x : Int32}: x_run 821 134 ls (.int x :: st) h = if x < 0 then x_run 821 152 ls st h else x_run 821 137 ls st h := xe_if_lt ec821 dX8_pin_134 rfl
theorem e821_137 {ls st : List Value} {h : x_H} : x_run 821 137 ls st h = q_gr ls 0 (fun v => x_run 821 138 ls (.ref v :: st) h) := xe_aload_n ec821 dX8_pin_137
theorem e821_138 {ls st : List Value} {h : x_H} : x_run 821 138 ls st h = x_run 821 140 ls (.int (q_i 6) :: st) h := xe_bipush ec821 dX8_pin_138 (by decide)
theorem e821_140 {ls st : List Value} {h : x_H} : x_run 821 140 ls st h = q_gr ls 0 (fun v => x_run 821 141 ls (.ref v :: st) h) := xe_aload_n ec821 dX8_pin_140
theorem e821_141 {ls st : List Value} {h : x_H} : x_run 821 141 ls st h = q_gi ls 1 (fun v => x_run 821 142 ls (.int v :: st) h) := xe_iload_n ec821 dX8_pin_141
theorem e821_142 {ls st : List Value} {h : x_H} : x_run 821 142 ls st h = q_gi ls 6 (fun v => x_run 821 144 ls (.int v :: st) h) := xe_iload ec821 dX8_pin_142
theorem e821_144 {ls st : List Value} {h : x_H} : x_run 821 144 ls st h = x_run 821 145 ls (.int (q_i 0) :: st) h := xe_iconst ec821 dX8_pin_144
theorem e821_145 {ls st : List Value} {h : x_H} {b : Nat} {a1 a2 a3 : Value}: x_run 821 145 ls (a3 :: a2 :: a1 :: .ref b :: st) h = if q_rcv h b 10 = true then (if x_wt st ≤ 8 ∧ x_wt [.ref b, a1, a2, a3] = 4 then q_cl (x_m 818 [.ref b, a1, a2, a3] h) (fun v h' => x_run 821 148 ls (v.toList ++ st) h') else none) else none := xe_virt (r := [a1, a2, a3]) ec821 dX8_pin_145 ek8_97 rfl (by decide +kernel) (by decide +kernel)
theorem e821_148 {ls st : List Value} {h : x_H} {b : Nat} {a1 a2 : Value}: x_run 821 148 ls (a2 :: a1 :: .ref b :: st) h = if q_rcv h b 10 = true then (if x_wt st ≤ 8 ∧ x_wt [.ref b, a1, a2] = 3 then q_cl (x_m 803 [.ref b, a1, a2] h) (fun v h' => x_run 821 151 ls (v.toList ++ st) h') else none) else none := xe_virt (r := [a1, a2]) ec821 dX8_pin_148 ek8_101 rfl (by decide +kernel) (by decide +kernel)
theorem e821_151 {ls : List Value} {h : x_H} {x : Int32} : x_run 821 151 ls [.int x] h = if narrow .int (.int x) = .int x then some (.inl (some (.int x)), h) else none := xe_ireturn ec821 dX8_pin_151 rfl
theorem e821_152 {ls st : List Value} {h : x_H} : x_run 821 152 ls st h = q_gi ls 6 (fun v => if x_nd ls 6 = true then x_run 821 155 (ls.set 6 (.int (v + q_i 48))) st h else none) := xe_iinc ec821 dX8_pin_152
theorem e821_155 {ls st : List Value} {h : x_H} : x_run 821 155 ls st h = x_run 821 119 ls st h := xe_goto ec821 dX8_pin_155 rfl
theorem e821_158 {ls st : List Value} {h : x_H} : x_run 821 158 ls st h = q_gr ls 0 (fun v => x_run 821 159 ls (.ref v :: st) h) := xe_aload_n ec821 dX8_pin_158
theorem e821_159 {ls st : List Value} {h : x_H} : x_run 821 159 ls st h = q_gr ls 0 (fun v => x_run 821 160 ls (.ref v :: st) h) := xe_aload_n ec821 dX8_pin_159
theorem e821_160 {ls st : List Value} {h : x_H} {a : Nat}: x_run 821 160 ls (.ref a :: st) h = q_gf h a 10 0 (fun v => x_run 821 163 ls (v :: st) h) := xe_getfield ec821 dX8_pin_160 ef8_7
theorem e821_163 {ls st : List Value} {h : x_H} {b : Nat} {a1 : Value}: x_run 821 163 ls (a1 :: .ref b :: st) h = if q_rcv h b 10 = true then (if x_wt st ≤ 8 ∧ x_wt [.ref b, a1] = 2 then q_cl (x_m 806 [.ref b, a1] h) (fun v h' => x_run 821 166 ls (v.toList ++ st) h') else none) else none := xe_virt (r := [a1]) ec821 dX8_pin_163 ek8_104 rfl (by decide +kernel) (by decide +kernel)
theorem e821_166 {ls st : List Value} {h : x_H} : x_run 821 166 ls st h = q_gr ls 0 (fun v => x_run 821 167 ls (.ref v :: st) h) := xe_aload_n ec821 dX8_pin_166
theorem e821_167 {ls st : List Value} {h : x_H} : x_run 821 167 ls st h = q_gi ls 1 (fun v => x_run 821 168 ls (.int v :: st) h) := xe_iload_n ec821 dX8_pin_167
theorem e821_168 {ls st : List Value} {h : x_H} : x_run 821 168 ls st h = x_run 821 169 ls (.int (q_i 2) :: st) h := xe_iconst ec821 dX8_pin_168
theorem e821_169 {ls st : List Value} {h : x_H} : x_run 821 169 ls st h = q_gi ls 4 (fun v => x_run 821 171 ls (.int v :: st) h) := xe_iload ec821 dX8_pin_169
theorem e821_171 {ls st : List Value} {h : x_H} {x y : Int32}: x_run 821 171 ls (.int y :: .int x :: st) h = x_run 821 172 ls (.int (x + y) :: st) h := xe_iadd ec821 dX8_pin_171
theorem e821_172 {ls st : List Value} {h : x_H} : x_run 821 172 ls st h = q_gi ls 5 (fun v => x_run 821 174 ls (.int v :: st) h) := xe_iload ec821 dX8_pin_172
theorem e821_174 {ls st : List Value} {h : x_H} {b : Nat} {a1 a2 a3 : Value}: x_run 821 174 ls (a3 :: a2 :: a1 :: .ref b :: st) h = if q_rcv h b 10 = true then (if x_wt st ≤ 8 ∧ x_wt [.ref b, a1, a2, a3] = 4 then q_cl (x_m 812 [.ref b, a1, a2, a3] h) (fun v h' => x_run 821 177 ls (v.toList ++ st) h') else none) else none := xe_virt (r := [a1, a2, a3]) ec821 dX8_pin_174 ek8_108 rfl (by decide +kernel) (by decide +kernel)
theorem e821_177 {ls st : List Value} {h : x_H} : x_run 821 177 ls st h = q_gr ls 0 (fun v => x_run 821 178 ls (.ref v :: st) h) := xe_aload_n ec821 dX8_pin_177
theorem e821_178 {ls st : List Value} {h : x_H} : x_run 821 178 ls st h = q_gi ls 1 (fun v => x_run 821 179 ls (.int v :: st) h) := xe_iload_n ec821 dX8_pin_178
theorem e821_179 {ls st : List Value} {h : x_H} : x_run 821 179 ls st h = x_run 821 180 ls (.int (q_i 1) :: st) h := xe_iconst ec821 dX8_pin_179
theorem e821_180 {ls st : List Value} {h : x_H} : x_run 821 180 ls st h = q_gi ls 4 (fun v => x_run 821 182 ls (.int v :: st) h) := xe_iload ec821 dX8_pin_180
theorem e821_182 {ls st : List Value} {h : x_H} : x_run 821 182 ls st h = x_run 821 183 ls (.int (q_i 1) :: st) h := xe_iconst ec821 dX8_pin_182
theorem e821_183 {ls st : List Value} {h : x_H} {x y : Int32}: x_run 821 183 ls (.int y :: .int x :: st) h = x_run 821 184 ls (.int (x + y) :: st) h := xe_iadd ec821 dX8_pin_183
theorem e821_184 {ls st : List Value} {h : x_H} {b : Nat} {a1 a2 a3 : Value}: x_run 821 184 ls (a3 :: a2 :: a1 :: .ref b :: st) h = if q_rcv h b 10 = true then (if x_wt st ≤ 8 ∧ x_wt [.ref b, a1, a2, a3] = 4 then q_cl (x_m 812 [.ref b, a1, a2, a3] h) (fun v h' => x_run 821 187 ls (v.toList ++ st) h') else none) else none := xe_virt (r := [a1, a2, a3]) ec821 dX8_pin_184 ek8_108 rfl (by decide +kernel) (by decide +kernel)
theorem e821_187 {ls st : List Value} {h : x_H} : x_run 821 187 ls st h = q_gr ls 0 (fun v => x_run 821 188 ls (.ref v :: st) h) := xe_aload_n ec821 dX8_pin_187
theorem e821_188 {ls st : List Value} {h : x_H} {a : Nat}: x_run 821 188 ls (.ref a :: st) h = q_gf h a 10 0 (fun v => x_run 821 191 ls (v :: st) h) := xe_getfield ec821 dX8_pin_188 ef8_7
theorem e821_191 {ls st : List Value} {h : x_H} : x_run 821 191 ls st h = x_run 821 193 ls (.int (q_i 55) :: st) h := xe_bipush ec821 dX8_pin_191 (by decide)
theorem e821_193 {ls st : List Value} {h : x_H} : x_run 821 193 ls st h = q_gi ls 5 (fun v => x_run 821 195 ls (.int v :: st) h) := xe_iload ec821 dX8_pin_193
theorem e821_195 {ls st : List Value} {h : x_H} {x y : Int32}: x_run 821 195 ls (.int y :: .int x :: st) h = x_run 821 196 ls (.int (x + y) :: st) h := xe_iadd ec821 dX8_pin_195
theorem e821_196 {ls st : List Value} {h : x_H} : x_run 821 196 ls st h = x_run 821 197 ls (.int (q_i 2) :: st) h := xe_iconst ec821 dX8_pin_196
theorem e821_197 {ls st : List Value} {h : x_H} : x_run 821 197 ls st h = x_run 821 198 ls (.int (q_i 2) :: st) h := xe_iconst ec821 dX8_pin_197
theorem e821_198 {ls st : List Value} {h : x_H} : x_run 821 198 ls st h = q_gi ls 1 (fun v => x_run 821 199 ls (.int v :: st) h) := xe_iload_n ec821 dX8_pin_198
theorem e821_199 {ls st : List Value} {h : x_H} {x y : Int32}: x_run 821 199 ls (.int y :: .int x :: st) h = x_run 821 200 ls (.int (x * y) :: st) h := xe_imul ec821 dX8_pin_199
theorem e821_200 {ls st : List Value} {h : x_H} {x y : Int32}: x_run 821 200 ls (.int y :: .int x :: st) h = x_run 821 201 ls (.int (x + y) :: st) h := xe_iadd ec821 dX8_pin_200
theorem e821_201 {ls st : List Value} {h : x_H} {x y : Int32} {a : Nat}: x_run 821 201 ls (.int y :: .int x :: .ref a :: st) h = q_wa h a 0 x y (fun h' => x_run 821 202 ls st h') := xe_iastore ec821 dX8_pin_201
theorem e821_202 {ls st : List Value} {h : x_H} : x_run 821 202 ls st h = q_gr ls 0 (fun v => x_run 821 203 ls (.ref v :: st) h) := xe_aload_n ec821 dX8_pin_202
theorem e821_203 {ls st : List Value} {h : x_H} {a : Nat}: x_run 821 203 ls (.ref a :: st) h = q_gf h a 10 0 (fun v => x_run 821 206 ls (v :: st) h) := xe_getfield ec821 dX8_pin_203 ef8_7
theorem e821_206 {ls st : List Value} {h : x_H} : x_run 821 206 ls st h = x_run 821 208 ls (.int (q_i 55) :: st) h := xe_bipush ec821 dX8_pin_206 (by decide)
theorem e821_208 {ls st : List Value} {h : x_H} : x_run 821 208 ls st h = q_gi ls 5 (fun v => x_run 821 210 ls (.int v :: st) h) := xe_iload ec821 dX8_pin_208
theorem e821_210 {ls st : List Value} {h : x_H} {x y : Int32}: x_run 821 210 ls (.int y :: .int x :: st) h = x_run 821 211 ls (.int (x + y) :: st) h := xe_iadd ec821 dX8_pin_210
theorem e821_211 {ls st : List Value} {h : x_H} : x_run 821 211 ls st h = x_run 821 213 ls (.int (q_i 48) :: st) h := xe_bipush ec821 dX8_pin_211 (by decide)
theorem e821_213 {ls st : List Value} {h : x_H} {x y : Int32}: x_run 821 213 ls (.int y :: .int x :: st) h = x_run 821 214 ls (.int (x + y) :: st) h := xe_iadd ec821 dX8_pin_213
theorem e821_214 {ls st : List Value} {h : x_H} : x_run 821 214 ls st h = x_run 821 215 ls (.int (q_i 2) :: st) h := xe_iconst ec821 dX8_pin_214
theorem e821_215 {ls st : List Value} {h : x_H} : x_run 821 215 ls st h = x_run 821 216 ls (.int (q_i 2) :: st) h := xe_iconst ec821 dX8_pin_215
theorem e821_216 {ls st : List Value} {h : x_H} : x_run 821 216 ls st h = q_gi ls 1 (fun v => x_run 821 217 ls (.int v :: st) h) := xe_iload_n ec821 dX8_pin_216
theorem e821_217 {ls st : List Value} {h : x_H} {x y : Int32}: x_run 821 217 ls (.int y :: .int x :: st) h = x_run 821 218 ls (.int (x * y) :: st) h := xe_imul ec821 dX8_pin_217
theorem e821_218 {ls st : List Value} {h : x_H} {x y : Int32}: x_run 821 218 ls (.int y :: .int x :: st) h = x_run 821 219 ls (.int (x + y) :: st) h := xe_iadd ec821 dX8_pin_218
theorem e821_219 {ls st : List Value} {h : x_H} {x y : Int32} {a : Nat}: x_run 821 219 ls (.int y :: .int x :: .ref a :: st) h = q_wa h a 0 x y (fun h' => x_run 821 220 ls st h') := xe_iastore ec821 dX8_pin_219
theorem e821_220 {ls st : List Value} {h : x_H} : x_run 821 220 ls st h = q_gi ls 4 (fun v => x_run 821 222 ls (.int v :: st) h) := xe_iload ec821 dX8_pin_220
theorem e821_222 {ls : List Value} {h : x_H} {x : Int32} : x_run 821 222 ls [.int x] h = if narrow .int (.int x) = .int x then some (.inl (some (.int x)), h) else none := xe_ireturn ec821 dX8_pin_222 rfl
theorem ec822 : x_code 822 = cX8_walls := rfl
theorem e822_0 {ls st : List Value} {h : x_H} : x_run 822 0 ls st h = x_run 822 1 ls (.int (q_i 0) :: st) h := xe_iconst ec822 dX8_walls_0
theorem e822_1 {ls st : List Value} {h : x_H} {x : Int32}: x_run 822 1 ls (.int x :: st) h = q_ls ls 1 (.int x) (fun ls' => x_run 822 2 ls' st h) := xe_istore_n ec822 dX8_walls_1
theorem e822_2 {ls st : List Value} {h : x_H} : x_run 822 2 ls st h = x_run 822 3 ls (.int (q_i 0) :: st) h := xe_iconst ec822 dX8_walls_2
theorem e822_3 {ls st : List Value} {h : x_H} {x : Int32}: x_run 822 3 ls (.int x :: st) h = q_ls ls 2 (.int x) (fun ls' => x_run 822 4 ls' st h) := xe_istore_n ec822 dX8_walls_3
theorem e822_4 {ls st : List Value} {h : x_H} : x_run 822 4 ls st h = q_gi ls 2 (fun v => x_run 822 5 ls (.int v :: st) h) := xe_iload_n ec822 dX8_walls_4
theorem e822_5 {ls st : List Value} {h : x_H} : x_run 822 5 ls st h = x_run 822 7 ls (.int (q_i 96) :: st) h := xe_bipush ec822 dX8_walls_5 (by decide)
theorem e822_7 {ls st : List Value} {h : x_H} {x y : Int32}: x_run 822 7 ls (.int y :: .int x :: st) h = if y ≤ x then x_run 822 33 ls st h else x_run 822 10 ls st h := xe_ic_ge ec822 dX8_walls_7 rfl
theorem e822_10 {ls st : List Value} {h : x_H} : x_run 822 10 ls st h = q_gi ls 1 (fun v => x_run 822 11 ls (.int v :: st) h) := xe_iload_n ec822 dX8_walls_10
theorem e822_11 {ls st : List Value} {h : x_H} : x_run 822 11 ls st h = q_gr ls 0 (fun v => x_run 822 12 ls (.ref v :: st) h) := xe_aload_n ec822 dX8_walls_11
theorem e822_12 {ls st : List Value} {h : x_H} : x_run 822 12 ls st h = q_gi ls 2 (fun v => x_run 822 13 ls (.int v :: st) h) := xe_iload_n ec822 dX8_walls_12
theorem e822_13 {ls st : List Value} {h : x_H} {b : Nat} {a1 : Value}: x_run 822 13 ls (a1 :: .ref b :: st) h = if q_rcv h b 10 = true then (if x_wt st ≤ 8 ∧ x_wt [.ref b, a1] = 2 then q_cl (x_m 813 [.ref b, a1] h) (fun v h' => x_run 822 16 ls (v.toList ++ st) h') else none) else none := xe_virt (r := [a1]) ec822 dX8_walls_13 ek8_76 rfl (by decide +kernel) (by decide +kernel)
theorem e822_16 {ls st : List Value} {h : x_H} : x_run 822 16 ls st h = x_run 822 17 ls (.int (q_i 1) :: st) h := xe_iconst ec822 dX8_walls_16
theorem e822_17 {ls st : List Value} {h : x_H} {x y : Int32}: x_run 822 17 ls (.int y :: .int x :: st) h = if ¬ x = y then x_run 822 24 ls st h else x_run 822 20 ls st h := xe_ic_ne ec822 dX8_walls_17 rfl
theorem e822_20 {ls st : List Value} {h : x_H} : x_run 822 20 ls st h = x_run 822 21 ls (.int (q_i 1) :: st) h := xe_iconst ec822 dX8_walls_20
theorem e822_21 {ls st : List Value} {h : x_H} : x_run 822 21 ls st h = x_run 822 25 ls st h := xe_goto ec822 dX8_walls_21 rfl
theorem e822_24 {ls st : List Value} {h : x_H} : x_run 822 24 ls st h = x_run 822 25 ls (.int (q_i 0) :: st) h := xe_iconst ec822 dX8_walls_24
theorem e822_25 {ls st : List Value} {h : x_H} {x y : Int32}: x_run 822 25 ls (.int y :: .int x :: st) h = x_run 822 26 ls (.int (x + y) :: st) h := xe_iadd ec822 dX8_walls_25
theorem e822_26 {ls st : List Value} {h : x_H} {x : Int32}: x_run 822 26 ls (.int x :: st) h = q_ls ls 1 (.int x) (fun ls' => x_run 822 27 ls' st h) := xe_istore_n ec822 dX8_walls_26
theorem e822_27 {ls st : List Value} {h : x_H} : x_run 822 27 ls st h = q_gi ls 2 (fun v => if x_nd ls 2 = true then x_run 822 30 (ls.set 2 (.int (v + q_i 1))) st h else none) := xe_iinc ec822 dX8_walls_27
theorem e822_30 {ls st : List Value} {h : x_H} : x_run 822 30 ls st h = x_run 822 4 ls st h := xe_goto ec822 dX8_walls_30 rfl
theorem e822_33 {ls st : List Value} {h : x_H} : x_run 822 33 ls st h = q_gi ls 1 (fun v => x_run 822 34 ls (.int v :: st) h) := xe_iload_n ec822 dX8_walls_33
theorem e822_34 {ls : List Value} {h : x_H} {x : Int32} : x_run 822 34 ls [.int x] h = if narrow .int (.int x) = .int x then some (.inl (some (.int x)), h) else none := xe_ireturn ec822 dX8_walls_34 rfl
theorem ec823 : x_code 823 = cX8_wall := rfl
theorem e823_0 {ls st : List Value} {h : x_H} : x_run 823 0 ls st h = q_gi ls 1 (fun v => x_run 823 1 ls (.int v :: st) h) := xe_iload_n ec823 dX8_wall_0
theorem e823_1 {ls st : List Value} {h : x_H} : x_run 823 1 ls st h = q_gi ls 2 (fun v => x_run 823 2 ls (.int v :: st) h) := xe_iload_n ec823 dX8_wall_1
theorem e823_2 {ls st : List Value} {h : x_H} : x_run 823 2 ls st h = q_gi ls 3 (fun v => x_run 823 3 ls (.int v :: st) h) := xe_iload_n ec823 dX8_wall_2
theorem e823_3 {ls st : List Value} {h : x_H} {a1 a2 a3 : Value}: x_run 823 3 ls (a3 :: a2 :: a1 :: st) h = if x_wt st ≤ 8 ∧ x_wt [a1, a2, a3] = 3 then q_cl (x_m 808 [a1, a2, a3] h) (fun v h' => x_run 823 6 ls (v.toList ++ st) h') else none := xe_stat (args := [a1, a2, a3]) ec823 dX8_wall_3 ek8_119 (by decide) rfl (by decide +kernel) (by decide +kernel)
theorem e823_6 {ls st : List Value} {h : x_H} {x : Int32}: x_run 823 6 ls (.int x :: st) h = if ¬ x = 0 then x_run 823 16 ls st h else x_run 823 9 ls st h := xe_if_ne ec823 dX8_wall_6 rfl
theorem e823_9 {ls st : List Value} {h : x_H} : x_run 823 9 ls st h = q_gr ls 0 (fun v => x_run 823 10 ls (.ref v :: st) h) := xe_aload_n ec823 dX8_wall_9
theorem e823_10 {ls st : List Value} {h : x_H} : x_run 823 10 ls st h = x_run 823 11 ls (.int (q_i 1) :: st) h := xe_iconst ec823 dX8_wall_10
theorem e823_11 {ls st : List Value} {h : x_H} : x_run 823 11 ls st h = x_run 823 12 ls (.int (q_i 0) :: st) h := xe_iconst ec823 dX8_wall_11
theorem e823_12 {ls st : List Value} {h : x_H} {b : Nat} {a1 a2 : Value}: x_run 823 12 ls (a2 :: a1 :: .ref b :: st) h = if q_rcv h b 10 = true then (if x_wt st ≤ 8 ∧ x_wt [.ref b, a1, a2] = 3 then q_cl (x_m 803 [.ref b, a1, a2] h) (fun v h' => x_run 823 15 ls (v.toList ++ st) h') else none) else none := xe_virt (r := [a1, a2]) ec823 dX8_wall_12 ek8_101 rfl (by decide +kernel) (by decide +kernel)
theorem e823_15 {ls : List Value} {h : x_H} {x : Int32} : x_run 823 15 ls [.int x] h = if narrow .int (.int x) = .int x then some (.inl (some (.int x)), h) else none := xe_ireturn ec823 dX8_wall_15 rfl
theorem e823_16 {ls st : List Value} {h : x_H} : x_run 823 16 ls st h = q_gi ls 1 (fun v => x_run 823 17 ls (.int v :: st) h) := xe_iload_n ec823 dX8_wall_16
theorem e823_17 {ls st : List Value} {h : x_H} : x_run 823 17 ls st h = q_gi ls 2 (fun v => x_run 823 18 ls (.int v :: st) h) := xe_iload_n ec823 dX8_wall_17
theorem e823_18 {ls st : List Value} {h : x_H} : x_run 823 18 ls st h = q_gi ls 3 (fun v => x_run 823 19 ls (.int v :: st) h) := xe_iload_n ec823 dX8_wall_18
theorem e823_19 {ls st : List Value} {h : x_H} {a1 a2 a3 : Value}: x_run 823 19 ls (a3 :: a2 :: a1 :: st) h = if x_wt st ≤ 8 ∧ x_wt [a1, a2, a3] = 3 then q_cl (x_m 809 [a1, a2, a3] h) (fun v h' => x_run 823 22 ls (v.toList ++ st) h') else none := xe_stat (args := [a1, a2, a3]) ec823 dX8_wall_19 ek8_115 (by decide) rfl (by decide +kernel) (by decide +kernel)
theorem e823_22 {ls st : List Value} {h : x_H} {x : Int32}: x_run 823 22 ls (.int x :: st) h = q_ls ls 4 (.int x) (fun ls' => x_run 823 24 ls' st h) := xe_istore ec823 dX8_wall_22
theorem e823_24 {ls st : List Value} {h : x_H} : x_run 823 24 ls st h = q_gr ls 0 (fun v => x_run 823 25 ls (.ref v :: st) h) := xe_aload_n ec823 dX8_wall_24
theorem e823_25 {ls st : List Value} {h : x_H} : x_run 823 25 ls st h = q_gi ls 4 (fun v => x_run 823 27 ls (.int v :: st) h) := xe_iload ec823 dX8_wall_25
theorem e823_27 {ls st : List Value} {h : x_H} {b : Nat} {a1 : Value}: x_run 823 27 ls (a1 :: .ref b :: st) h = if q_rcv h b 10 = true then (if x_wt st ≤ 8 ∧ x_wt [.ref b, a1] = 2 then q_cl (x_m 813 [.ref b, a1] h) (fun v h' => x_run 823 30 ls (v.toList ++ st) h') else none) else none := xe_virt (r := [a1]) ec823 dX8_wall_27 ek8_76 rfl (by decide +kernel) (by decide +kernel)
theorem e823_30 {ls st : List Value} {h : x_H} {x : Int32}: x_run 823 30 ls (.int x :: st) h = if x = 0 then x_run 823 45 ls st h else x_run 823 33 ls st h := xe_if_eq ec823 dX8_wall_30 rfl
theorem e823_33 {ls st : List Value} {h : x_H} : x_run 823 33 ls st h = q_gr ls 0 (fun v => x_run 823 34 ls (.ref v :: st) h) := xe_aload_n ec823 dX8_wall_33
theorem e823_34 {ls st : List Value} {h : x_H} : x_run 823 34 ls st h = x_run 823 35 ls (.int (q_i 5) :: st) h := xe_iconst ec823 dX8_wall_34
theorem e823_35 {ls st : List Value} {h : x_H} : x_run 823 35 ls st h = q_gr ls 0 (fun v => x_run 823 36 ls (.ref v :: st) h) := xe_aload_n ec823 dX8_wall_35
theorem e823_36 {ls st : List Value} {h : x_H} : x_run 823 36 ls st h = q_gi ls 4 (fun v => x_run 823 38 ls (.int v :: st) h) := xe_iload ec823 dX8_wall_36
theorem e823_38 {ls st : List Value} {h : x_H} {b : Nat} {a1 : Value}: x_run 823 38 ls (a1 :: .ref b :: st) h = if q_rcv h b 10 = true then (if x_wt st ≤ 8 ∧ x_wt [.ref b, a1] = 2 then q_cl (x_m 814 [.ref b, a1] h) (fun v h' => x_run 823 41 ls (v.toList ++ st) h') else none) else none := xe_virt (r := [a1]) ec823 dX8_wall_38 ek8_87 rfl (by decide +kernel) (by decide +kernel)
theorem e823_41 {ls st : List Value} {h : x_H} {b : Nat} {a1 a2 : Value}: x_run 823 41 ls (a2 :: a1 :: .ref b :: st) h = if q_rcv h b 10 = true then (if x_wt st ≤ 8 ∧ x_wt [.ref b, a1, a2] = 3 then q_cl (x_m 803 [.ref b, a1, a2] h) (fun v h' => x_run 823 44 ls (v.toList ++ st) h') else none) else none := xe_virt (r := [a1, a2]) ec823 dX8_wall_41 ek8_101 rfl (by decide +kernel) (by decide +kernel)
theorem e823_44 {ls : List Value} {h : x_H} {x : Int32} : x_run 823 44 ls [.int x] h = if narrow .int (.int x) = .int x then some (.inl (some (.int x)), h) else none := xe_ireturn ec823 dX8_wall_44 rfl
theorem e823_45 {ls st : List Value} {h : x_H} : x_run 823 45 ls st h = q_gr ls 0 (fun v => x_run 823 46 ls (.ref v :: st) h) := xe_aload_n ec823 dX8_wall_45
theorem e823_46 {ls st : List Value} {h : x_H} : x_run 823 46 ls st h = q_gr ls 0 (fun v => x_run 823 47 ls (.ref v :: st) h) := xe_aload_n ec823 dX8_wall_46
theorem e823_47 {ls st : List Value} {h : x_H} {a : Nat}: x_run 823 47 ls (.ref a :: st) h = q_gf h a 10 0 (fun v => x_run 823 50 ls (v :: st) h) := xe_getfield ec823 dX8_wall_47 ef8_7
theorem e823_50 {ls st : List Value} {h : x_H} {b : Nat} {a1 : Value}: x_run 823 50 ls (a1 :: .ref b :: st) h = if q_rcv h b 10 = true then (if x_wt st ≤ 8 ∧ x_wt [.ref b, a1] = 2 then q_cl (x_m 806 [.ref b, a1] h) (fun v h' => x_run 823 53 ls (v.toList ++ st) h') else none) else none := xe_virt (r := [a1]) ec823 dX8_wall_50 ek8_104 rfl (by decide +kernel) (by decide +kernel)
theorem e823_53 {ls st : List Value} {h : x_H} : x_run 823 53 ls st h = q_gr ls 0 (fun v => x_run 823 54 ls (.ref v :: st) h) := xe_aload_n ec823 dX8_wall_53
theorem e823_54 {ls st : List Value} {h : x_H} {a : Nat}: x_run 823 54 ls (.ref a :: st) h = q_gf h a 10 0 (fun v => x_run 823 57 ls (v :: st) h) := xe_getfield ec823 dX8_wall_54 ef8_7
theorem e823_57 {ls st : List Value} {h : x_H} : x_run 823 57 ls st h = x_run 823 59 ls (.int (q_i 55) :: st) h := xe_bipush ec823 dX8_wall_57 (by decide)
theorem e823_59 {ls st : List Value} {h : x_H} : x_run 823 59 ls st h = q_gi ls 4 (fun v => x_run 823 61 ls (.int v :: st) h) := xe_iload ec823 dX8_wall_59
theorem e823_61 {ls st : List Value} {h : x_H} {x y : Int32}: x_run 823 61 ls (.int y :: .int x :: st) h = x_run 823 62 ls (.int (x + y) :: st) h := xe_iadd ec823 dX8_wall_61
theorem e823_62 {ls st : List Value} {h : x_H} : x_run 823 62 ls st h = x_run 823 63 ls (.int (q_i 1) :: st) h := xe_iconst ec823 dX8_wall_62
theorem e823_63 {ls st : List Value} {h : x_H} {x y : Int32} {a : Nat}: x_run 823 63 ls (.int y :: .int x :: .ref a :: st) h = q_wa h a 0 x y (fun h' => x_run 823 64 ls st h') := xe_iastore ec823 dX8_wall_63
theorem e823_64 {ls st : List Value} {h : x_H} : x_run 823 64 ls st h = q_gr ls 0 (fun v => x_run 823 65 ls (.ref v :: st) h) := xe_aload_n ec823 dX8_wall_64
theorem e823_65 {ls st : List Value} {h : x_H} {b : Nat}: x_run 823 65 ls (.ref b :: st) h = if q_rcv h b 10 = true then (if x_wt st ≤ 8 ∧ x_wt [.ref b] = 1 then q_cl (x_m 822 [.ref b] h) (fun v h' => x_run 823 68 ls (v.toList ++ st) h') else none) else none := xe_virt (r := []) ec823 dX8_wall_65 ek8_122 rfl (by decide +kernel) (by decide +kernel)
theorem e823_68 {ls : List Value} {h : x_H} {x : Int32} : x_run 823 68 ls [.int x] h = if narrow .int (.int x) = .int x then some (.inl (some (.int x)), h) else none := xe_ireturn ec823 dX8_wall_68 rfl
theorem ec824 : x_code 824 = cX8_tearDown := rfl
theorem e824_0 {ls st : List Value} {h : x_H} : x_run 824 0 ls st h = q_gi ls 1 (fun v => x_run 824 1 ls (.int v :: st) h) := xe_iload_n ec824 dX8_tearDown_0
theorem e824_1 {ls st : List Value} {h : x_H} : x_run 824 1 ls st h = q_gi ls 2 (fun v => x_run 824 2 ls (.int v :: st) h) := xe_iload_n ec824 dX8_tearDown_1
theorem e824_2 {ls st : List Value} {h : x_H} : x_run 824 2 ls st h = q_gi ls 3 (fun v => x_run 824 3 ls (.int v :: st) h) := xe_iload_n ec824 dX8_tearDown_2
theorem e824_3 {ls st : List Value} {h : x_H} {a1 a2 a3 : Value}: x_run 824 3 ls (a3 :: a2 :: a1 :: st) h = if x_wt st ≤ 8 ∧ x_wt [a1, a2, a3] = 3 then q_cl (x_m 808 [a1, a2, a3] h) (fun v h' => x_run 824 6 ls (v.toList ++ st) h') else none := xe_stat (args := [a1, a2, a3]) ec824 dX8_tearDown_3 ek8_119 (by decide) rfl (by decide +kernel) (by decide +kernel)
theorem e824_6 {ls st : List Value} {h : x_H} {x : Int32}: x_run 824 6 ls (.int x :: st) h = if ¬ x = 0 then x_run 824 16 ls st h else x_run 824 9 ls st h := xe_if_ne ec824 dX8_tearDown_6 rfl
theorem e824_9 {ls st : List Value} {h : x_H} : x_run 824 9 ls st h = q_gr ls 0 (fun v => x_run 824 10 ls (.ref v :: st) h) := xe_aload_n ec824 dX8_tearDown_9
theorem e824_10 {ls st : List Value} {h : x_H} : x_run 824 10 ls st h = x_run 824 11 ls (.int (q_i 1) :: st) h := xe_iconst ec824 dX8_tearDown_10
theorem e824_11 {ls st : List Value} {h : x_H} : x_run 824 11 ls st h = x_run 824 12 ls (.int (q_i 0) :: st) h := xe_iconst ec824 dX8_tearDown_11
theorem e824_12 {ls st : List Value} {h : x_H} {b : Nat} {a1 a2 : Value}: x_run 824 12 ls (a2 :: a1 :: .ref b :: st) h = if q_rcv h b 10 = true then (if x_wt st ≤ 8 ∧ x_wt [.ref b, a1, a2] = 3 then q_cl (x_m 803 [.ref b, a1, a2] h) (fun v h' => x_run 824 15 ls (v.toList ++ st) h') else none) else none := xe_virt (r := [a1, a2]) ec824 dX8_tearDown_12 ek8_101 rfl (by decide +kernel) (by decide +kernel)
theorem e824_15 {ls : List Value} {h : x_H} {x : Int32} : x_run 824 15 ls [.int x] h = if narrow .int (.int x) = .int x then some (.inl (some (.int x)), h) else none := xe_ireturn ec824 dX8_tearDown_15 rfl
theorem e824_16 {ls st : List Value} {h : x_H} : x_run 824 16 ls st h = q_gi ls 1 (fun v => x_run 824 17 ls (.int v :: st) h) := xe_iload_n ec824 dX8_tearDown_16
theorem e824_17 {ls st : List Value} {h : x_H} : x_run 824 17 ls st h = q_gi ls 2 (fun v => x_run 824 18 ls (.int v :: st) h) := xe_iload_n ec824 dX8_tearDown_17
theorem e824_18 {ls st : List Value} {h : x_H} : x_run 824 18 ls st h = q_gi ls 3 (fun v => x_run 824 19 ls (.int v :: st) h) := xe_iload_n ec824 dX8_tearDown_18
theorem e824_19 {ls st : List Value} {h : x_H} {a1 a2 a3 : Value}: x_run 824 19 ls (a3 :: a2 :: a1 :: st) h = if x_wt st ≤ 8 ∧ x_wt [a1, a2, a3] = 3 then q_cl (x_m 809 [a1, a2, a3] h) (fun v h' => x_run 824 22 ls (v.toList ++ st) h') else none := xe_stat (args := [a1, a2, a3]) ec824 dX8_tearDown_19 ek8_115 (by decide) rfl (by decide +kernel) (by decide +kernel)
theorem e824_22 {ls st : List Value} {h : x_H} {x : Int32}: x_run 824 22 ls (.int x :: st) h = q_ls ls 4 (.int x) (fun ls' => x_run 824 24 ls' st h) := xe_istore ec824 dX8_tearDown_22
theorem e824_24 {ls st : List Value} {h : x_H} : x_run 824 24 ls st h = q_gr ls 0 (fun v => x_run 824 25 ls (.ref v :: st) h) := xe_aload_n ec824 dX8_tearDown_24
theorem e824_25 {ls st : List Value} {h : x_H} : x_run 824 25 ls st h = q_gi ls 4 (fun v => x_run 824 27 ls (.int v :: st) h) := xe_iload ec824 dX8_tearDown_25
theorem e824_27 {ls st : List Value} {h : x_H} {b : Nat} {a1 : Value}: x_run 824 27 ls (a1 :: .ref b :: st) h = if q_rcv h b 10 = true then (if x_wt st ≤ 8 ∧ x_wt [.ref b, a1] = 2 then q_cl (x_m 813 [.ref b, a1] h) (fun v h' => x_run 824 30 ls (v.toList ++ st) h') else none) else none := xe_virt (r := [a1]) ec824 dX8_tearDown_27 ek8_76 rfl (by decide +kernel) (by decide +kernel)
theorem e824_30 {ls st : List Value} {h : x_H} : x_run 824 30 ls st h = x_run 824 31 ls (.int (q_i 1) :: st) h := xe_iconst ec824 dX8_tearDown_30
theorem e824_31 {ls st : List Value} {h : x_H} {x y : Int32}: x_run 824 31 ls (.int y :: .int x :: st) h = if x = y then x_run 824 42 ls st h else x_run 824 34 ls st h := xe_ic_eq ec824 dX8_tearDown_31 rfl
theorem e824_34 {ls st : List Value} {h : x_H} : x_run 824 34 ls st h = q_gr ls 0 (fun v => x_run 824 35 ls (.ref v :: st) h) := xe_aload_n ec824 dX8_tearDown_34
theorem e824_35 {ls st : List Value} {h : x_H} : x_run 824 35 ls st h = x_run 824 37 ls (.int (q_i 7) :: st) h := xe_bipush ec824 dX8_tearDown_35 (by decide)
theorem e824_37 {ls st : List Value} {h : x_H} : x_run 824 37 ls st h = x_run 824 38 ls (.int (q_i 0) :: st) h := xe_iconst ec824 dX8_tearDown_37
theorem e824_38 {ls st : List Value} {h : x_H} {b : Nat} {a1 a2 : Value}: x_run 824 38 ls (a2 :: a1 :: .ref b :: st) h = if q_rcv h b 10 = true then (if x_wt st ≤ 8 ∧ x_wt [.ref b, a1, a2] = 3 then q_cl (x_m 803 [.ref b, a1, a2] h) (fun v h' => x_run 824 41 ls (v.toList ++ st) h') else none) else none := xe_virt (r := [a1, a2]) ec824 dX8_tearDown_38 ek8_101 rfl (by decide +kernel) (by decide +kernel)
theorem e824_41 {ls : List Value} {h : x_H} {x : Int32} : x_run 824 41 ls [.int x] h = if narrow .int (.int x) = .int x then some (.inl (some (.int x)), h) else none := xe_ireturn ec824 dX8_tearDown_41 rfl
theorem e824_42 {ls st : List Value} {h : x_H} : x_run 824 42 ls st h = q_gr ls 0 (fun v => x_run 824 43 ls (.ref v :: st) h) := xe_aload_n ec824 dX8_tearDown_42
theorem e824_43 {ls st : List Value} {h : x_H} : x_run 824 43 ls st h = q_gr ls 0 (fun v => x_run 824 44 ls (.ref v :: st) h) := xe_aload_n ec824 dX8_tearDown_43
theorem e824_44 {ls st : List Value} {h : x_H} {a : Nat}: x_run 824 44 ls (.ref a :: st) h = q_gf h a 10 0 (fun v => x_run 824 47 ls (v :: st) h) := xe_getfield ec824 dX8_tearDown_44 ef8_7
theorem e824_47 {ls st : List Value} {h : x_H} {b : Nat} {a1 : Value}: x_run 824 47 ls (a1 :: .ref b :: st) h = if q_rcv h b 10 = true then (if x_wt st ≤ 8 ∧ x_wt [.ref b, a1] = 2 then q_cl (x_m 806 [.ref b, a1] h) (fun v h' => x_run 824 50 ls (v.toList ++ st) h') else none) else none := xe_virt (r := [a1]) ec824 dX8_tearDown_47 ek8_104 rfl (by decide +kernel) (by decide +kernel)
theorem e824_50 {ls st : List Value} {h : x_H} : x_run 824 50 ls st h = q_gr ls 0 (fun v => x_run 824 51 ls (.ref v :: st) h) := xe_aload_n ec824 dX8_tearDown_50
theorem e824_51 {ls st : List Value} {h : x_H} {a : Nat}: x_run 824 51 ls (.ref a :: st) h = q_gf h a 10 0 (fun v => x_run 824 54 ls (v :: st) h) := xe_getfield ec824 dX8_tearDown_51 ef8_7
theorem e824_54 {ls st : List Value} {h : x_H} : x_run 824 54 ls st h = x_run 824 56 ls (.int (q_i 55) :: st) h := xe_bipush ec824 dX8_tearDown_54 (by decide)
theorem e824_56 {ls st : List Value} {h : x_H} : x_run 824 56 ls st h = q_gi ls 4 (fun v => x_run 824 58 ls (.int v :: st) h) := xe_iload ec824 dX8_tearDown_56
theorem e824_58 {ls st : List Value} {h : x_H} {x y : Int32}: x_run 824 58 ls (.int y :: .int x :: st) h = x_run 824 59 ls (.int (x + y) :: st) h := xe_iadd ec824 dX8_tearDown_58
theorem e824_59 {ls st : List Value} {h : x_H} : x_run 824 59 ls st h = x_run 824 60 ls (.int (q_i 0) :: st) h := xe_iconst ec824 dX8_tearDown_59
theorem e824_60 {ls st : List Value} {h : x_H} {x y : Int32} {a : Nat}: x_run 824 60 ls (.int y :: .int x :: .ref a :: st) h = q_wa h a 0 x y (fun h' => x_run 824 61 ls st h') := xe_iastore ec824 dX8_tearDown_60
theorem e824_61 {ls st : List Value} {h : x_H} : x_run 824 61 ls st h = q_gr ls 0 (fun v => x_run 824 62 ls (.ref v :: st) h) := xe_aload_n ec824 dX8_tearDown_61
theorem e824_62 {ls st : List Value} {h : x_H} {b : Nat}: x_run 824 62 ls (.ref b :: st) h = if q_rcv h b 10 = true then (if x_wt st ≤ 8 ∧ x_wt [.ref b] = 1 then q_cl (x_m 822 [.ref b] h) (fun v h' => x_run 824 65 ls (v.toList ++ st) h') else none) else none := xe_virt (r := []) ec824 dX8_tearDown_62 ek8_122 rfl (by decide +kernel) (by decide +kernel)
theorem e824_65 {ls : List Value} {h : x_H} {x : Int32} : x_run 824 65 ls [.int x] h = if narrow .int (.int x) = .int x then some (.inl (some (.int x)), h) else none := xe_ireturn ec824 dX8_tearDown_65 rfl
theorem ec825 : x_code 825 = cX8_isOwnPin := rfl
theorem e825_0 {ls st : List Value} {h : x_H} : x_run 825 0 ls st h = q_gr ls 0 (fun v => x_run 825 1 ls (.ref v :: st) h) := xe_aload_n ec825 dX8_isOwnPin_0
theorem e825_1 {ls st : List Value} {h : x_H} : x_run 825 1 ls st h = q_gi ls 2 (fun v => x_run 825 2 ls (.int v :: st) h) := xe_iload_n ec825 dX8_isOwnPin_1
theorem e825_2 {ls st : List Value} {h : x_H} {b : Nat} {a1 : Value}: x_run 825 2 ls (a1 :: .ref b :: st) h = if q_rcv h b 10 = true then (if x_wt st ≤ 8 ∧ x_wt [.ref b, a1] = 2 then q_cl (x_m 814 [.ref b, a1] h) (fun v h' => x_run 825 5 ls (v.toList ++ st) h') else none) else none := xe_virt (r := [a1]) ec825 dX8_isOwnPin_2 ek8_87 rfl (by decide +kernel) (by decide +kernel)
theorem e825_5 {ls st : List Value} {h : x_H} : x_run 825 5 ls st h = q_gi ls 1 (fun v => x_run 825 6 ls (.int v :: st) h) := xe_iload_n ec825 dX8_isOwnPin_5
theorem e825_6 {ls st : List Value} {h : x_H} {x y : Int32}: x_run 825 6 ls (.int y :: .int x :: st) h = if ¬ x = y then x_run 825 21 ls st h else x_run 825 9 ls st h := xe_ic_ne ec825 dX8_isOwnPin_6 rfl
theorem e825_9 {ls st : List Value} {h : x_H} : x_run 825 9 ls st h = q_gr ls 0 (fun v => x_run 825 10 ls (.ref v :: st) h) := xe_aload_n ec825 dX8_isOwnPin_9
theorem e825_10 {ls st : List Value} {h : x_H} : x_run 825 10 ls st h = q_gi ls 2 (fun v => x_run 825 11 ls (.int v :: st) h) := xe_iload_n ec825 dX8_isOwnPin_10
theorem e825_11 {ls st : List Value} {h : x_H} {b : Nat} {a1 : Value}: x_run 825 11 ls (a1 :: .ref b :: st) h = if q_rcv h b 10 = true then (if x_wt st ≤ 8 ∧ x_wt [.ref b, a1] = 2 then q_cl (x_m 815 [.ref b, a1] h) (fun v h' => x_run 825 14 ls (v.toList ++ st) h') else none) else none := xe_virt (r := [a1]) ec825 dX8_isOwnPin_11 ek8_93 rfl (by decide +kernel) (by decide +kernel)
theorem e825_14 {ls st : List Value} {h : x_H} {x : Int32}: x_run 825 14 ls (.int x :: st) h = if x = 0 then x_run 825 21 ls st h else x_run 825 17 ls st h := xe_if_eq ec825 dX8_isOwnPin_14 rfl
theorem e825_17 {ls st : List Value} {h : x_H} : x_run 825 17 ls st h = x_run 825 18 ls (.int (q_i 1) :: st) h := xe_iconst ec825 dX8_isOwnPin_17
theorem e825_18 {ls st : List Value} {h : x_H} : x_run 825 18 ls st h = x_run 825 22 ls st h := xe_goto ec825 dX8_isOwnPin_18 rfl
theorem e825_21 {ls st : List Value} {h : x_H} : x_run 825 21 ls st h = x_run 825 22 ls (.int (q_i 0) :: st) h := xe_iconst ec825 dX8_isOwnPin_21
theorem e825_22 {ls : List Value} {h : x_H} {x : Int32} : x_run 825 22 ls [.int x] h = if narrow .boolean (.int x) = .int x then some (.inl (some (.int x)), h) else none := xe_ireturn ec825 dX8_isOwnPin_22 rfl
theorem ec826 : x_code 826 = cX8_stepCost := rfl
theorem e826_0 {ls st : List Value} {h : x_H} : x_run 826 0 ls st h = q_gi ls 3 (fun v => x_run 826 1 ls (.int v :: st) h) := xe_iload_n ec826 dX8_stepCost_0
theorem e826_1 {ls st : List Value} {h : x_H} : x_run 826 1 ls st h = x_run 826 2 ls (.int (q_i 4) :: st) h := xe_iconst ec826 dX8_stepCost_1
theorem e826_2 {ls st : List Value} {h : x_H} {x y : Int32}: x_run 826 2 ls (.int y :: .int x :: st) h = if ¬ x = y then x_run 826 20 ls st h else x_run 826 5 ls st h := xe_ic_ne ec826 dX8_stepCost_2 rfl
theorem e826_5 {ls st : List Value} {h : x_H} : x_run 826 5 ls st h = q_gr ls 0 (fun v => x_run 826 6 ls (.ref v :: st) h) := xe_aload_n ec826 dX8_stepCost_5
theorem e826_6 {ls st : List Value} {h : x_H} : x_run 826 6 ls st h = q_gi ls 1 (fun v => x_run 826 7 ls (.int v :: st) h) := xe_iload_n ec826 dX8_stepCost_6
theorem e826_7 {ls st : List Value} {h : x_H} : x_run 826 7 ls st h = q_gi ls 2 (fun v => x_run 826 8 ls (.int v :: st) h) := xe_iload_n ec826 dX8_stepCost_7
theorem e826_8 {ls st : List Value} {h : x_H} {b : Nat} {a1 a2 : Value}: x_run 826 8 ls (a2 :: a1 :: .ref b :: st) h = if q_rcv h b 10 = true then (if x_wt st ≤ 8 ∧ x_wt [.ref b, a1, a2] = 3 then q_cl (x_m 825 [.ref b, a1, a2] h) (fun v h' => x_run 826 11 ls (v.toList ++ st) h') else none) else none := xe_virt (r := [a1, a2]) ec826 dX8_stepCost_8 ek8_126 rfl (by decide +kernel) (by decide +kernel)
theorem e826_11 {ls st : List Value} {h : x_H} {x : Int32}: x_run 826 11 ls (.int x :: st) h = if x = 0 then x_run 826 18 ls st h else x_run 826 14 ls st h := xe_if_eq ec826 dX8_stepCost_11 rfl
theorem e826_14 {ls st : List Value} {h : x_H} : x_run 826 14 ls st h = x_run 826 15 ls (.int (q_i 0) :: st) h := xe_iconst ec826 dX8_stepCost_14
theorem e826_15 {ls st : List Value} {h : x_H} : x_run 826 15 ls st h = x_run 826 19 ls st h := xe_goto ec826 dX8_stepCost_15 rfl
theorem e826_18 {ls st : List Value} {h : x_H} : x_run 826 18 ls st h = x_run 826 19 ls (.int (q_i 3) :: st) h := xe_iconst ec826 dX8_stepCost_18
theorem e826_19 {ls : List Value} {h : x_H} {x : Int32} : x_run 826 19 ls [.int x] h = if narrow .int (.int x) = .int x then some (.inl (some (.int x)), h) else none := xe_ireturn ec826 dX8_stepCost_19 rfl
theorem e826_20 {ls st : List Value} {h : x_H} : x_run 826 20 ls st h = q_gi ls 3 (fun v => x_run 826 21 ls (.int v :: st) h) := xe_iload_n ec826 dX8_stepCost_20
theorem e826_21 {ls st : List Value} {h : x_H} : x_run 826 21 ls st h = x_run 826 22 ls (.int (q_i 1) :: st) h := xe_iconst ec826 dX8_stepCost_21
theorem e826_22 {ls st : List Value} {h : x_H} {x y : Int32}: x_run 826 22 ls (.int y :: .int x :: st) h = if x ≤ y then x_run 826 29 ls st h else x_run 826 25 ls st h := xe_ic_le ec826 dX8_stepCost_22 rfl
theorem e826_25 {ls st : List Value} {h : x_H} : x_run 826 25 ls st h = x_run 826 26 ls (.int (q_i 1) :: st) h := xe_iconst ec826 dX8_stepCost_25
theorem e826_26 {ls st : List Value} {h : x_H} : x_run 826 26 ls st h = x_run 826 30 ls st h := xe_goto ec826 dX8_stepCost_26 rfl
theorem e826_29 {ls st : List Value} {h : x_H} : x_run 826 29 ls st h = x_run 826 30 ls (.int (q_i 0) :: st) h := xe_iconst ec826 dX8_stepCost_29
theorem e826_30 {ls st : List Value} {h : x_H} {x : Int32}: x_run 826 30 ls (.int x :: st) h = q_ls ls 4 (.int x) (fun ls' => x_run 826 32 ls' st h) := xe_istore ec826 dX8_stepCost_30
theorem e826_32 {ls st : List Value} {h : x_H} : x_run 826 32 ls st h = q_gi ls 4 (fun v => x_run 826 34 ls (.int v :: st) h) := xe_iload ec826 dX8_stepCost_32
theorem e826_34 {ls st : List Value} {h : x_H} : x_run 826 34 ls st h = q_gi ls 2 (fun v => x_run 826 35 ls (.int v :: st) h) := xe_iload_n ec826 dX8_stepCost_34
theorem e826_35 {ls st : List Value} {h : x_H} : x_run 826 35 ls st h = x_run 826 37 ls (.int (q_i 48) :: st) h := xe_bipush ec826 dX8_stepCost_35 (by decide)
theorem e826_37 {ls st : List Value} {h : x_H} {x y : Int32}: x_run 826 37 ls (.int y :: .int x :: st) h = if y ≤ x then x_run 826 44 ls st h else x_run 826 40 ls st h := xe_ic_ge ec826 dX8_stepCost_37 rfl
theorem e826_40 {ls st : List Value} {h : x_H} : x_run 826 40 ls st h = x_run 826 41 ls (.int (q_i 1) :: st) h := xe_iconst ec826 dX8_stepCost_40
theorem e826_41 {ls st : List Value} {h : x_H} : x_run 826 41 ls st h = x_run 826 45 ls st h := xe_goto ec826 dX8_stepCost_41 rfl
theorem e826_44 {ls st : List Value} {h : x_H} : x_run 826 44 ls st h = x_run 826 45 ls (.int (q_i 0) :: st) h := xe_iconst ec826 dX8_stepCost_44
theorem e826_45 {ls st : List Value} {h : x_H} {x y : Int32}: x_run 826 45 ls (.int y :: .int x :: st) h = if ¬ x = y then x_run 826 52 ls st h else x_run 826 48 ls st h := xe_ic_ne ec826 dX8_stepCost_45 rfl
theorem e826_48 {ls st : List Value} {h : x_H} : x_run 826 48 ls st h = x_run 826 49 ls (.int (q_i 1) :: st) h := xe_iconst ec826 dX8_stepCost_48
theorem e826_49 {ls st : List Value} {h : x_H} : x_run 826 49 ls st h = x_run 826 53 ls st h := xe_goto ec826 dX8_stepCost_49 rfl
theorem e826_52 {ls st : List Value} {h : x_H} : x_run 826 52 ls st h = x_run 826 53 ls (.int (q_i 2) :: st) h := xe_iconst ec826 dX8_stepCost_52
theorem e826_53 {ls : List Value} {h : x_H} {x : Int32} : x_run 826 53 ls [.int x] h = if narrow .int (.int x) = .int x then some (.inl (some (.int x)), h) else none := xe_ireturn ec826 dX8_stepCost_53 rfl
theorem ec827 : x_code 827 = cX8_moreFor := rfl
theorem e827_0 {ls st : List Value} {h : x_H} : x_run 827 0 ls st h = q_gr ls 0 (fun v => x_run 827 1 ls (.ref v :: st) h) := xe_aload_n ec827 dX8_moreFor_0
theorem e827_1 {ls st : List Value} {h : x_H} : x_run 827 1 ls st h = q_gi ls 1 (fun v => x_run 827 2 ls (.int v :: st) h) := xe_iload_n ec827 dX8_moreFor_1
theorem e827_2 {ls st : List Value} {h : x_H} : x_run 827 2 ls st h = q_gi ls 2 (fun v => x_run 827 3 ls (.int v :: st) h) := xe_iload_n ec827 dX8_moreFor_2
theorem e827_3 {ls st : List Value} {h : x_H} {b : Nat} {a1 a2 : Value}: x_run 827 3 ls (a2 :: a1 :: .ref b :: st) h = if q_rcv h b 10 = true then (if x_wt st ≤ 8 ∧ x_wt [.ref b, a1, a2] = 3 then q_cl (x_m 819 [.ref b, a1, a2] h) (fun v h' => x_run 827 6 ls (v.toList ++ st) h') else none) else none := xe_virt (r := [a1, a2]) ec827 dX8_moreFor_3 ek8_129 rfl (by decide +kernel) (by decide +kernel)
theorem e827_6 {ls st : List Value} {h : x_H} {x : Int32}: x_run 827 6 ls (.int x :: st) h = q_ls ls 4 (.int x) (fun ls' => x_run 827 8 ls' st h) := xe_istore ec827 dX8_moreFor_6
theorem e827_8 {ls st : List Value} {h : x_H} : x_run 827 8 ls st h = q_gi ls 4 (fun v => x_run 827 10 ls (.int v :: st) h) := xe_iload ec827 dX8_moreFor_8
theorem e827_10 {ls st : List Value} {h : x_H} {x : Int32}: x_run 827 10 ls (.int x :: st) h = if ¬ x = 0 then x_run 827 17 ls st h else x_run 827 13 ls st h := xe_if_ne ec827 dX8_moreFor_10 rfl
theorem e827_13 {ls st : List Value} {h : x_H} : x_run 827 13 ls st h = x_run 827 14 ls (.int (q_i 0) :: st) h := xe_iconst ec827 dX8_moreFor_13
theorem e827_14 {ls st : List Value} {h : x_H} : x_run 827 14 ls st h = x_run 827 35 ls st h := xe_goto ec827 dX8_moreFor_14 rfl
theorem e827_17 {ls st : List Value} {h : x_H} : x_run 827 17 ls st h = q_gi ls 4 (fun v => x_run 827 19 ls (.int v :: st) h) := xe_iload ec827 dX8_moreFor_17
theorem e827_19 {ls st : List Value} {h : x_H} : x_run 827 19 ls st h = x_run 827 21 ls (.int (q_i 8) :: st) h := xe_bipush ec827 dX8_moreFor_19 (by decide)
theorem e827_21 {ls st : List Value} {h : x_H} {x y : Int32}: x_run 827 21 ls (.int y :: .int x :: st) h = if ¬ x = y then x_run 827 33 ls st h else x_run 827 24 ls st h := xe_ic_ne ec827 dX8_moreFor_21 rfl
theorem e827_24 {ls st : List Value} {h : x_H} : x_run 827 24 ls st h = q_gi ls 3 (fun v => x_run 827 25 ls (.int v :: st) h) := xe_iload_n ec827 dX8_moreFor_24
theorem e827_25 {ls st : List Value} {h : x_H} {x : Int32}: x_run 827 25 ls (.int x :: st) h = if x = 0 then x_run 827 33 ls st h else x_run 827 28 ls st h := xe_if_eq ec827 dX8_moreFor_25 rfl
theorem e827_28 {ls st : List Value} {h : x_H} : x_run 827 28 ls st h = x_run 827 30 ls (.int (q_i 8) :: st) h := xe_bipush ec827 dX8_moreFor_28 (by decide)
theorem e827_30 {ls st : List Value} {h : x_H} : x_run 827 30 ls st h = x_run 827 35 ls st h := xe_goto ec827 dX8_moreFor_30 rfl
theorem e827_33 {ls st : List Value} {h : x_H} : x_run 827 33 ls st h = x_run 827 35 ls (.int (q_i 100000) :: st) h := xe_ldc ec827 dX8_moreFor_33 (by decide +kernel)
theorem e827_35 {ls : List Value} {h : x_H} {x : Int32} : x_run 827 35 ls [.int x] h = if narrow .int (.int x) = .int x then some (.inl (some (.int x)), h) else none := xe_ireturn ec827 dX8_moreFor_35 rfl
theorem ec828 : x_code 828 = cX8_spreads := rfl
theorem e828_0 {ls st : List Value} {h : x_H} : x_run 828 0 ls st h = x_run 828 1 ls (.int (q_i 0) :: st) h := xe_iconst ec828 dX8_spreads_0
theorem e828_1 {ls st : List Value} {h : x_H} {x : Int32}: x_run 828 1 ls (.int x :: st) h = q_ls ls 3 (.int x) (fun ls' => x_run 828 2 ls' st h) := xe_istore_n ec828 dX8_spreads_1
theorem e828_2 {ls st : List Value} {h : x_H} : x_run 828 2 ls st h = q_gi ls 3 (fun v => x_run 828 3 ls (.int v :: st) h) := xe_iload_n ec828 dX8_spreads_2
theorem e828_3 {ls st : List Value} {h : x_H} : x_run 828 3 ls st h = x_run 828 5 ls (.int (q_i 96) :: st) h := xe_bipush ec828 dX8_spreads_3 (by decide)
theorem e828_5 {ls st : List Value} {h : x_H} {x y : Int32}: x_run 828 5 ls (.int y :: .int x :: st) h = if y ≤ x then x_run 828 36 ls st h else x_run 828 8 ls st h := xe_ic_ge ec828 dX8_spreads_5 rfl
theorem e828_8 {ls st : List Value} {h : x_H} : x_run 828 8 ls st h = q_gr ls 0 (fun v => x_run 828 9 ls (.ref v :: st) h) := xe_aload_n ec828 dX8_spreads_8
theorem e828_9 {ls st : List Value} {h : x_H} {a : Nat}: x_run 828 9 ls (.ref a :: st) h = q_gf h a 10 16 (fun v => x_run 828 12 ls (v :: st) h) := xe_getfield ec828 dX8_spreads_9 ef8_33
theorem e828_12 {ls st : List Value} {h : x_H} : x_run 828 12 ls st h = q_gi ls 3 (fun v => x_run 828 13 ls (.int v :: st) h) := xe_iload_n ec828 dX8_spreads_12
theorem e828_13 {ls st : List Value} {h : x_H} : x_run 828 13 ls st h = q_gr ls 0 (fun v => x_run 828 14 ls (.ref v :: st) h) := xe_aload_n ec828 dX8_spreads_13
theorem e828_14 {ls st : List Value} {h : x_H} {a : Nat}: x_run 828 14 ls (.ref a :: st) h = q_gf h a 10 17 (fun v => x_run 828 17 ls (v :: st) h) := xe_getfield ec828 dX8_spreads_14 ef8_36
theorem e828_17 {ls st : List Value} {h : x_H} : x_run 828 17 ls st h = q_gi ls 3 (fun v => x_run 828 18 ls (.int v :: st) h) := xe_iload_n ec828 dX8_spreads_17
theorem e828_18 {ls st : List Value} {h : x_H} {x : Int32} {a : Nat}: x_run 828 18 ls (.int x :: .ref a :: st) h = q_ra h a 0 x (fun v => x_run 828 19 ls (.int v :: st) h) := xe_iaload ec828 dX8_spreads_18
theorem e828_19 {ls st : List Value} {h : x_H} : x_run 828 19 ls st h = x_run 828 20 ls (.int (q_i 1) :: st) h := xe_iconst ec828 dX8_spreads_19
theorem e828_20 {ls st : List Value} {h : x_H} {x y : Int32}: x_run 828 20 ls (.int y :: .int x :: st) h = if ¬ x = y then x_run 828 27 ls st h else x_run 828 23 ls st h := xe_ic_ne ec828 dX8_spreads_20 rfl
theorem e828_23 {ls st : List Value} {h : x_H} : x_run 828 23 ls st h = x_run 828 24 ls (.int (q_i 0) :: st) h := xe_iconst ec828 dX8_spreads_23
theorem e828_24 {ls st : List Value} {h : x_H} : x_run 828 24 ls st h = x_run 828 29 ls st h := xe_goto ec828 dX8_spreads_24 rfl
theorem e828_27 {ls st : List Value} {h : x_H} : x_run 828 27 ls st h = x_run 828 29 ls (.int (q_i 100000) :: st) h := xe_ldc ec828 dX8_spreads_27 (by decide +kernel)
theorem e828_29 {ls st : List Value} {h : x_H} {x y : Int32} {a : Nat}: x_run 828 29 ls (.int y :: .int x :: .ref a :: st) h = q_wa h a 0 x y (fun h' => x_run 828 30 ls st h') := xe_iastore ec828 dX8_spreads_29
theorem e828_30 {ls st : List Value} {h : x_H} : x_run 828 30 ls st h = q_gi ls 3 (fun v => if x_nd ls 3 = true then x_run 828 33 (ls.set 3 (.int (v + q_i 1))) st h else none) := xe_iinc ec828 dX8_spreads_30
theorem e828_33 {ls st : List Value} {h : x_H} : x_run 828 33 ls st h = x_run 828 2 ls st h := xe_goto ec828 dX8_spreads_33 rfl
theorem e828_36 {ls st : List Value} {h : x_H} : x_run 828 36 ls st h = x_run 828 37 ls (.int (q_i 1) :: st) h := xe_iconst ec828 dX8_spreads_36
theorem e828_37 {ls st : List Value} {h : x_H} {x : Int32}: x_run 828 37 ls (.int x :: st) h = q_ls ls 3 (.int x) (fun ls' => x_run 828 38 ls' st h) := xe_istore_n ec828 dX8_spreads_37
theorem e828_38 {ls st : List Value} {h : x_H} : x_run 828 38 ls st h = q_gi ls 3 (fun v => x_run 828 39 ls (.int v :: st) h) := xe_iload_n ec828 dX8_spreads_38
theorem e828_39 {ls st : List Value} {h : x_H} {x : Int32}: x_run 828 39 ls (.int x :: st) h = if x = 0 then x_run 828 188 ls st h else x_run 828 42 ls st h := xe_if_eq ec828 dX8_spreads_39 rfl
theorem e828_42 {ls st : List Value} {h : x_H} : x_run 828 42 ls st h = x_run 828 43 ls (.int (q_i 0) :: st) h := xe_iconst ec828 dX8_spreads_42
theorem e828_43 {ls st : List Value} {h : x_H} {x : Int32}: x_run 828 43 ls (.int x :: st) h = q_ls ls 3 (.int x) (fun ls' => x_run 828 44 ls' st h) := xe_istore_n ec828 dX8_spreads_43
theorem e828_44 {ls st : List Value} {h : x_H} : x_run 828 44 ls st h = x_run 828 45 ls (.int (q_i 0) :: st) h := xe_iconst ec828 dX8_spreads_44
theorem e828_45 {ls st : List Value} {h : x_H} {x : Int32}: x_run 828 45 ls (.int x :: st) h = q_ls ls 4 (.int x) (fun ls' => x_run 828 47 ls' st h) := xe_istore ec828 dX8_spreads_45
theorem e828_47 {ls st : List Value} {h : x_H} : x_run 828 47 ls st h = q_gi ls 4 (fun v => x_run 828 49 ls (.int v :: st) h) := xe_iload ec828 dX8_spreads_47
theorem e828_49 {ls st : List Value} {h : x_H} : x_run 828 49 ls st h = x_run 828 51 ls (.int (q_i 96) :: st) h := xe_bipush ec828 dX8_spreads_49 (by decide)
theorem e828_51 {ls st : List Value} {h : x_H} {x y : Int32}: x_run 828 51 ls (.int y :: .int x :: st) h = if y ≤ x then x_run 828 185 ls st h else x_run 828 54 ls st h := xe_ic_ge ec828 dX8_spreads_51 rfl
theorem e828_54 {ls st : List Value} {h : x_H} : x_run 828 54 ls st h = q_gr ls 0 (fun v => x_run 828 55 ls (.ref v :: st) h) := xe_aload_n ec828 dX8_spreads_54
theorem e828_55 {ls st : List Value} {h : x_H} {a : Nat}: x_run 828 55 ls (.ref a :: st) h = q_gf h a 10 17 (fun v => x_run 828 58 ls (v :: st) h) := xe_getfield ec828 dX8_spreads_55 ef8_36
theorem e828_58 {ls st : List Value} {h : x_H} : x_run 828 58 ls st h = q_gi ls 4 (fun v => x_run 828 60 ls (.int v :: st) h) := xe_iload ec828 dX8_spreads_58
theorem e828_60 {ls st : List Value} {h : x_H} {x : Int32} {a : Nat}: x_run 828 60 ls (.int x :: .ref a :: st) h = q_ra h a 0 x (fun v => x_run 828 61 ls (.int v :: st) h) := xe_iaload ec828 dX8_spreads_60
theorem e828_61 {ls st : List Value} {h : x_H} : x_run 828 61 ls st h = x_run 828 62 ls (.int (q_i 1) :: st) h := xe_iconst ec828 dX8_spreads_61
theorem e828_62 {ls st : List Value} {h : x_H} {x y : Int32}: x_run 828 62 ls (.int y :: .int x :: st) h = if x = y then x_run 828 179 ls st h else x_run 828 65 ls st h := xe_ic_eq ec828 dX8_spreads_62 rfl
theorem e828_65 {ls st : List Value} {h : x_H} : x_run 828 65 ls st h = q_gr ls 0 (fun v => x_run 828 66 ls (.ref v :: st) h) := xe_aload_n ec828 dX8_spreads_65
theorem e828_66 {ls st : List Value} {h : x_H} : x_run 828 66 ls st h = q_gi ls 1 (fun v => x_run 828 67 ls (.int v :: st) h) := xe_iload_n ec828 dX8_spreads_66
theorem e828_67 {ls st : List Value} {h : x_H} : x_run 828 67 ls st h = q_gi ls 4 (fun v => x_run 828 69 ls (.int v :: st) h) := xe_iload ec828 dX8_spreads_67
theorem e828_69 {ls st : List Value} {h : x_H} : x_run 828 69 ls st h = q_gi ls 2 (fun v => x_run 828 70 ls (.int v :: st) h) := xe_iload_n ec828 dX8_spreads_69
theorem e828_70 {ls st : List Value} {h : x_H} {b : Nat} {a1 a2 a3 : Value}: x_run 828 70 ls (a3 :: a2 :: a1 :: .ref b :: st) h = if q_rcv h b 10 = true then (if x_wt st ≤ 8 ∧ x_wt [.ref b, a1, a2, a3] = 4 then q_cl (x_m 827 [.ref b, a1, a2, a3] h) (fun v h' => x_run 828 73 ls (v.toList ++ st) h') else none) else none := xe_virt (r := [a1, a2, a3]) ec828 dX8_spreads_70 ek8_133 rfl (by decide +kernel) (by decide +kernel)
theorem e828_73 {ls st : List Value} {h : x_H} : x_run 828 73 ls st h = x_run 828 75 ls (.int (q_i 100000) :: st) h := xe_ldc ec828 dX8_spreads_73 (by decide +kernel)
theorem e828_75 {ls st : List Value} {h : x_H} {x y : Int32}: x_run 828 75 ls (.int y :: .int x :: st) h = if ¬ x = y then x_run 828 81 ls st h else x_run 828 78 ls st h := xe_ic_ne ec828 dX8_spreads_75 rfl
theorem e828_78 {ls st : List Value} {h : x_H} : x_run 828 78 ls st h = x_run 828 179 ls st h := xe_goto ec828 dX8_spreads_78 rfl
theorem e828_81 {ls st : List Value} {h : x_H} : x_run 828 81 ls st h = x_run 828 82 ls (.int (q_i 0) :: st) h := xe_iconst ec828 dX8_spreads_81
theorem e828_82 {ls st : List Value} {h : x_H} {x : Int32}: x_run 828 82 ls (.int x :: st) h = q_ls ls 5 (.int x) (fun ls' => x_run 828 84 ls' st h) := xe_istore ec828 dX8_spreads_82
theorem e828_84 {ls st : List Value} {h : x_H} : x_run 828 84 ls st h = q_gi ls 5 (fun v => x_run 828 86 ls (.int v :: st) h) := xe_iload ec828 dX8_spreads_84
theorem e828_86 {ls st : List Value} {h : x_H} : x_run 828 86 ls st h = x_run 828 87 ls (.int (q_i 5) :: st) h := xe_iconst ec828 dX8_spreads_86
theorem e828_87 {ls st : List Value} {h : x_H} {x y : Int32}: x_run 828 87 ls (.int y :: .int x :: st) h = if y ≤ x then x_run 828 179 ls st h else x_run 828 90 ls st h := xe_ic_ge ec828 dX8_spreads_87 rfl
theorem e828_90 {ls st : List Value} {h : x_H} : x_run 828 90 ls st h = q_gi ls 4 (fun v => x_run 828 92 ls (.int v :: st) h) := xe_iload ec828 dX8_spreads_90
theorem e828_92 {ls st : List Value} {h : x_H} : x_run 828 92 ls st h = q_gi ls 5 (fun v => x_run 828 94 ls (.int v :: st) h) := xe_iload ec828 dX8_spreads_92
theorem e828_94 {ls st : List Value} {h : x_H} {a1 a2 : Value}: x_run 828 94 ls (a2 :: a1 :: st) h = if x_wt st ≤ 8 ∧ x_wt [a1, a2] = 2 then q_cl (x_m 816 [a1, a2] h) (fun v h' => x_run 828 97 ls (v.toList ++ st) h') else none := xe_stat (args := [a1, a2]) ec828 dX8_spreads_94 ek8_84 (by decide) rfl (by decide +kernel) (by decide +kernel)
theorem e828_97 {ls st : List Value} {h : x_H} {x : Int32}: x_run 828 97 ls (.int x :: st) h = q_ls ls 6 (.int x) (fun ls' => x_run 828 99 ls' st h) := xe_istore ec828 dX8_spreads_97
theorem e828_99 {ls st : List Value} {h : x_H} : x_run 828 99 ls st h = q_gi ls 6 (fun v => x_run 828 101 ls (.int v :: st) h) := xe_iload ec828 dX8_spreads_99
theorem e828_101 {ls st : List Value} {h : x_H} {x : Int32}: x_run 828 101 ls (.int x :: st) h = if x < 0 then x_run 828 173 ls st h else x_run 828 104 ls st h := xe_if_lt ec828 dX8_spreads_101 rfl
theorem e828_104 {ls st : List Value} {h : x_H} : x_run 828 104 ls st h = q_gr ls 0 (fun v => x_run 828 105 ls (.ref v :: st) h) := xe_aload_n ec828 dX8_spreads_104
theorem e828_105 {ls st : List Value} {h : x_H} {a : Nat}: x_run 828 105 ls (.ref a :: st) h = q_gf h a 10 16 (fun v => x_run 828 108 ls (v :: st) h) := xe_getfield ec828 dX8_spreads_105 ef8_33
theorem e828_108 {ls st : List Value} {h : x_H} : x_run 828 108 ls st h = q_gi ls 6 (fun v => x_run 828 110 ls (.int v :: st) h) := xe_iload ec828 dX8_spreads_108
theorem e828_110 {ls st : List Value} {h : x_H} {x : Int32} {a : Nat}: x_run 828 110 ls (.int x :: .ref a :: st) h = q_ra h a 0 x (fun v => x_run 828 111 ls (.int v :: st) h) := xe_iaload ec828 dX8_spreads_110
theorem e828_111 {ls st : List Value} {h : x_H} : x_run 828 111 ls st h = x_run 828 113 ls (.int (q_i 100000) :: st) h := xe_ldc ec828 dX8_spreads_111 (by decide +kernel)
theorem e828_113 {ls st : List Value} {h : x_H} {x y : Int32}: x_run 828 113 ls (.int y :: .int x :: st) h = if x < y then x_run 828 119 ls st h else x_run 828 116 ls st h := xe_ic_lt ec828 dX8_spreads_113 rfl
theorem e828_116 {ls st : List Value} {h : x_H} : x_run 828 116 ls st h = x_run 828 173 ls st h := xe_goto ec828 dX8_spreads_116 rfl
theorem e828_119 {ls st : List Value} {h : x_H} : x_run 828 119 ls st h = q_gr ls 0 (fun v => x_run 828 120 ls (.ref v :: st) h) := xe_aload_n ec828 dX8_spreads_119
theorem e828_120 {ls st : List Value} {h : x_H} {a : Nat}: x_run 828 120 ls (.ref a :: st) h = q_gf h a 10 16 (fun v => x_run 828 123 ls (v :: st) h) := xe_getfield ec828 dX8_spreads_120 ef8_33
theorem e828_123 {ls st : List Value} {h : x_H} : x_run 828 123 ls st h = q_gi ls 6 (fun v => x_run 828 125 ls (.int v :: st) h) := xe_iload ec828 dX8_spreads_123
theorem e828_125 {ls st : List Value} {h : x_H} {x : Int32} {a : Nat}: x_run 828 125 ls (.int x :: .ref a :: st) h = q_ra h a 0 x (fun v => x_run 828 126 ls (.int v :: st) h) := xe_iaload ec828 dX8_spreads_125
theorem e828_126 {ls st : List Value} {h : x_H} : x_run 828 126 ls st h = q_gr ls 0 (fun v => x_run 828 127 ls (.ref v :: st) h) := xe_aload_n ec828 dX8_spreads_126
theorem e828_127 {ls st : List Value} {h : x_H} : x_run 828 127 ls st h = q_gi ls 1 (fun v => x_run 828 128 ls (.int v :: st) h) := xe_iload_n ec828 dX8_spreads_127
theorem e828_128 {ls st : List Value} {h : x_H} : x_run 828 128 ls st h = q_gi ls 4 (fun v => x_run 828 130 ls (.int v :: st) h) := xe_iload ec828 dX8_spreads_128
theorem e828_130 {ls st : List Value} {h : x_H} : x_run 828 130 ls st h = q_gi ls 5 (fun v => x_run 828 132 ls (.int v :: st) h) := xe_iload ec828 dX8_spreads_130
theorem e828_132 {ls st : List Value} {h : x_H} {b : Nat} {a1 a2 a3 : Value}: x_run 828 132 ls (a3 :: a2 :: a1 :: .ref b :: st) h = if q_rcv h b 10 = true then (if x_wt st ≤ 8 ∧ x_wt [.ref b, a1, a2, a3] = 4 then q_cl (x_m 826 [.ref b, a1, a2, a3] h) (fun v h' => x_run 828 135 ls (v.toList ++ st) h') else none) else none := xe_virt (r := [a1, a2, a3]) ec828 dX8_spreads_132 ek8_136 rfl (by decide +kernel) (by decide +kernel)
theorem e828_135 {ls st : List Value} {h : x_H} {x y : Int32}: x_run 828 135 ls (.int y :: .int x :: st) h = x_run 828 136 ls (.int (x + y) :: st) h := xe_iadd ec828 dX8_spreads_135
theorem e828_136 {ls st : List Value} {h : x_H} : x_run 828 136 ls st h = q_gr ls 0 (fun v => x_run 828 137 ls (.ref v :: st) h) := xe_aload_n ec828 dX8_spreads_136
theorem e828_137 {ls st : List Value} {h : x_H} : x_run 828 137 ls st h = q_gi ls 1 (fun v => x_run 828 138 ls (.int v :: st) h) := xe_iload_n ec828 dX8_spreads_137
theorem e828_138 {ls st : List Value} {h : x_H} : x_run 828 138 ls st h = q_gi ls 4 (fun v => x_run 828 140 ls (.int v :: st) h) := xe_iload ec828 dX8_spreads_138
theorem e828_140 {ls st : List Value} {h : x_H} : x_run 828 140 ls st h = q_gi ls 2 (fun v => x_run 828 141 ls (.int v :: st) h) := xe_iload_n ec828 dX8_spreads_140
theorem e828_141 {ls st : List Value} {h : x_H} {b : Nat} {a1 a2 a3 : Value}: x_run 828 141 ls (a3 :: a2 :: a1 :: .ref b :: st) h = if q_rcv h b 10 = true then (if x_wt st ≤ 8 ∧ x_wt [.ref b, a1, a2, a3] = 4 then q_cl (x_m 827 [.ref b, a1, a2, a3] h) (fun v h' => x_run 828 144 ls (v.toList ++ st) h') else none) else none := xe_virt (r := [a1, a2, a3]) ec828 dX8_spreads_141 ek8_133 rfl (by decide +kernel) (by decide +kernel)
theorem e828_144 {ls st : List Value} {h : x_H} {x y : Int32}: x_run 828 144 ls (.int y :: .int x :: st) h = x_run 828 145 ls (.int (x + y) :: st) h := xe_iadd ec828 dX8_spreads_144
theorem e828_145 {ls st : List Value} {h : x_H} {x : Int32}: x_run 828 145 ls (.int x :: st) h = q_ls ls 7 (.int x) (fun ls' => x_run 828 147 ls' st h) := xe_istore ec828 dX8_spreads_145
theorem e828_147 {ls st : List Value} {h : x_H} : x_run 828 147 ls st h = q_gi ls 7 (fun v => x_run 828 149 ls (.int v :: st) h) := xe_iload ec828 dX8_spreads_147
theorem e828_149 {ls st : List Value} {h : x_H} : x_run 828 149 ls st h = q_gr ls 0 (fun v => x_run 828 150 ls (.ref v :: st) h) := xe_aload_n ec828 dX8_spreads_149
theorem e828_150 {ls st : List Value} {h : x_H} {a : Nat}: x_run 828 150 ls (.ref a :: st) h = q_gf h a 10 16 (fun v => x_run 828 153 ls (v :: st) h) := xe_getfield ec828 dX8_spreads_150 ef8_33
theorem e828_153 {ls st : List Value} {h : x_H} : x_run 828 153 ls st h = q_gi ls 4 (fun v => x_run 828 155 ls (.int v :: st) h) := xe_iload ec828 dX8_spreads_153
theorem e828_155 {ls st : List Value} {h : x_H} {x : Int32} {a : Nat}: x_run 828 155 ls (.int x :: .ref a :: st) h = q_ra h a 0 x (fun v => x_run 828 156 ls (.int v :: st) h) := xe_iaload ec828 dX8_spreads_155
theorem e828_156 {ls st : List Value} {h : x_H} {x y : Int32}: x_run 828 156 ls (.int y :: .int x :: st) h = if x < y then x_run 828 162 ls st h else x_run 828 159 ls st h := xe_ic_lt ec828 dX8_spreads_156 rfl
theorem e828_159 {ls st : List Value} {h : x_H} : x_run 828 159 ls st h = x_run 828 173 ls st h := xe_goto ec828 dX8_spreads_159 rfl
theorem e828_162 {ls st : List Value} {h : x_H} : x_run 828 162 ls st h = q_gr ls 0 (fun v => x_run 828 163 ls (.ref v :: st) h) := xe_aload_n ec828 dX8_spreads_162
theorem e828_163 {ls st : List Value} {h : x_H} {a : Nat}: x_run 828 163 ls (.ref a :: st) h = q_gf h a 10 16 (fun v => x_run 828 166 ls (v :: st) h) := xe_getfield ec828 dX8_spreads_163 ef8_33
theorem e828_166 {ls st : List Value} {h : x_H} : x_run 828 166 ls st h = q_gi ls 4 (fun v => x_run 828 168 ls (.int v :: st) h) := xe_iload ec828 dX8_spreads_166
theorem e828_168 {ls st : List Value} {h : x_H} : x_run 828 168 ls st h = q_gi ls 7 (fun v => x_run 828 170 ls (.int v :: st) h) := xe_iload ec828 dX8_spreads_168
theorem e828_170 {ls st : List Value} {h : x_H} {x y : Int32} {a : Nat}: x_run 828 170 ls (.int y :: .int x :: .ref a :: st) h = q_wa h a 0 x y (fun h' => x_run 828 171 ls st h') := xe_iastore ec828 dX8_spreads_170
theorem e828_171 {ls st : List Value} {h : x_H} : x_run 828 171 ls st h = x_run 828 172 ls (.int (q_i 1) :: st) h := xe_iconst ec828 dX8_spreads_171
theorem e828_172 {ls st : List Value} {h : x_H} {x : Int32}: x_run 828 172 ls (.int x :: st) h = q_ls ls 3 (.int x) (fun ls' => x_run 828 173 ls' st h) := xe_istore_n ec828 dX8_spreads_172
theorem e828_173 {ls st : List Value} {h : x_H} : x_run 828 173 ls st h = q_gi ls 5 (fun v => if x_nd ls 5 = true then x_run 828 176 (ls.set 5 (.int (v + q_i 1))) st h else none) := xe_iinc ec828 dX8_spreads_173
theorem e828_176 {ls st : List Value} {h : x_H} : x_run 828 176 ls st h = x_run 828 84 ls st h := xe_goto ec828 dX8_spreads_176 rfl
theorem e828_179 {ls st : List Value} {h : x_H} : x_run 828 179 ls st h = q_gi ls 4 (fun v => if x_nd ls 4 = true then x_run 828 182 (ls.set 4 (.int (v + q_i 1))) st h else none) := xe_iinc ec828 dX8_spreads_179
theorem e828_182 {ls st : List Value} {h : x_H} : x_run 828 182 ls st h = x_run 828 47 ls st h := xe_goto ec828 dX8_spreads_182 rfl
theorem e828_185 {ls st : List Value} {h : x_H} : x_run 828 185 ls st h = x_run 828 38 ls st h := xe_goto ec828 dX8_spreads_185 rfl
theorem e828_188 {ls : List Value} {h : x_H} : x_run 828 188 ls [] h = some (.inl (none), h) := xe_return ec828 dX8_spreads_188 rfl
theorem ec829 : x_code 829 = cX8_goesBack := rfl
theorem e829_0 {ls st : List Value} {h : x_H} : x_run 829 0 ls st h = q_gi ls 2 (fun v => x_run 829 1 ls (.int v :: st) h) := xe_iload_n ec829 dX8_goesBack_0
theorem e829_1 {ls st : List Value} {h : x_H} {x : Int32}: x_run 829 1 ls (.int x :: st) h = q_ls ls 4 (.int x) (fun ls' => x_run 829 3 ls' st h) := xe_istore ec829 dX8_goesBack_1
theorem e829_3 {ls st : List Value} {h : x_H} : x_run 829 3 ls st h = q_gr ls 0 (fun v => x_run 829 4 ls (.ref v :: st) h) := xe_aload_n ec829 dX8_goesBack_3
theorem e829_4 {ls st : List Value} {h : x_H} {a : Nat}: x_run 829 4 ls (.ref a :: st) h = q_gf h a 10 17 (fun v => x_run 829 7 ls (v :: st) h) := xe_getfield ec829 dX8_goesBack_4 ef8_36
theorem e829_7 {ls st : List Value} {h : x_H} : x_run 829 7 ls st h = q_gi ls 4 (fun v => x_run 829 9 ls (.int v :: st) h) := xe_iload ec829 dX8_goesBack_7
theorem e829_9 {ls st : List Value} {h : x_H} {x : Int32} {a : Nat}: x_run 829 9 ls (.int x :: .ref a :: st) h = q_ra h a 0 x (fun v => x_run 829 10 ls (.int v :: st) h) := xe_iaload ec829 dX8_goesBack_9
theorem e829_10 {ls st : List Value} {h : x_H} {x : Int32}: x_run 829 10 ls (.int x :: st) h = if ¬ x = 0 then x_run 829 120 ls st h else x_run 829 13 ls st h := xe_if_ne ec829 dX8_goesBack_10 rfl
theorem e829_13 {ls st : List Value} {h : x_H} : x_run 829 13 ls st h = q_gr ls 0 (fun v => x_run 829 14 ls (.ref v :: st) h) := xe_aload_n ec829 dX8_goesBack_13
theorem e829_14 {ls st : List Value} {h : x_H} {a : Nat}: x_run 829 14 ls (.ref a :: st) h = q_gf h a 10 17 (fun v => x_run 829 17 ls (v :: st) h) := xe_getfield ec829 dX8_goesBack_14 ef8_36
theorem e829_17 {ls st : List Value} {h : x_H} : x_run 829 17 ls st h = q_gi ls 4 (fun v => x_run 829 19 ls (.int v :: st) h) := xe_iload ec829 dX8_goesBack_17
theorem e829_19 {ls st : List Value} {h : x_H} : x_run 829 19 ls st h = x_run 829 20 ls (.int (q_i 2) :: st) h := xe_iconst ec829 dX8_goesBack_19
theorem e829_20 {ls st : List Value} {h : x_H} {x y : Int32} {a : Nat}: x_run 829 20 ls (.int y :: .int x :: .ref a :: st) h = q_wa h a 0 x y (fun h' => x_run 829 21 ls st h') := xe_iastore ec829 dX8_goesBack_20
theorem e829_21 {ls st : List Value} {h : x_H} : x_run 829 21 ls st h = x_run 829 22 ls (.int (q_i 0) :: st) h := xe_iconst ec829 dX8_goesBack_21
theorem e829_22 {ls st : List Value} {h : x_H} {x : Int32}: x_run 829 22 ls (.int x :: st) h = q_ls ls 5 (.int x) (fun ls' => x_run 829 24 ls' st h) := xe_istore ec829 dX8_goesBack_22
theorem e829_24 {ls st : List Value} {h : x_H} : x_run 829 24 ls st h = q_gi ls 4 (fun v => x_run 829 26 ls (.int v :: st) h) := xe_iload ec829 dX8_goesBack_24
theorem e829_26 {ls st : List Value} {h : x_H} : x_run 829 26 ls st h = q_gi ls 5 (fun v => x_run 829 28 ls (.int v :: st) h) := xe_iload ec829 dX8_goesBack_26
theorem e829_28 {ls st : List Value} {h : x_H} {a1 a2 : Value}: x_run 829 28 ls (a2 :: a1 :: st) h = if x_wt st ≤ 8 ∧ x_wt [a1, a2] = 2 then q_cl (x_m 816 [a1, a2] h) (fun v h' => x_run 829 31 ls (v.toList ++ st) h') else none := xe_stat (args := [a1, a2]) ec829 dX8_goesBack_28 ek8_84 (by decide) rfl (by decide +kernel) (by decide +kernel)
theorem e829_31 {ls st : List Value} {h : x_H} {x : Int32}: x_run 829 31 ls (.int x :: st) h = if x < 0 then x_run 829 75 ls st h else x_run 829 34 ls st h := xe_if_lt ec829 dX8_goesBack_31 rfl
theorem e829_34 {ls st : List Value} {h : x_H} : x_run 829 34 ls st h = q_gr ls 0 (fun v => x_run 829 35 ls (.ref v :: st) h) := xe_aload_n ec829 dX8_goesBack_34
theorem e829_35 {ls st : List Value} {h : x_H} {a : Nat}: x_run 829 35 ls (.ref a :: st) h = q_gf h a 10 16 (fun v => x_run 829 38 ls (v :: st) h) := xe_getfield ec829 dX8_goesBack_35 ef8_33
theorem e829_38 {ls st : List Value} {h : x_H} : x_run 829 38 ls st h = q_gi ls 4 (fun v => x_run 829 40 ls (.int v :: st) h) := xe_iload ec829 dX8_goesBack_38
theorem e829_40 {ls st : List Value} {h : x_H} : x_run 829 40 ls st h = q_gi ls 5 (fun v => x_run 829 42 ls (.int v :: st) h) := xe_iload ec829 dX8_goesBack_40
theorem e829_42 {ls st : List Value} {h : x_H} {a1 a2 : Value}: x_run 829 42 ls (a2 :: a1 :: st) h = if x_wt st ≤ 8 ∧ x_wt [a1, a2] = 2 then q_cl (x_m 816 [a1, a2] h) (fun v h' => x_run 829 45 ls (v.toList ++ st) h') else none := xe_stat (args := [a1, a2]) ec829 dX8_goesBack_42 ek8_84 (by decide) rfl (by decide +kernel) (by decide +kernel)
theorem e829_45 {ls st : List Value} {h : x_H} {x : Int32} {a : Nat}: x_run 829 45 ls (.int x :: .ref a :: st) h = q_ra h a 0 x (fun v => x_run 829 46 ls (.int v :: st) h) := xe_iaload ec829 dX8_goesBack_45
theorem e829_46 {ls st : List Value} {h : x_H} : x_run 829 46 ls st h = q_gr ls 0 (fun v => x_run 829 47 ls (.ref v :: st) h) := xe_aload_n ec829 dX8_goesBack_46
theorem e829_47 {ls st : List Value} {h : x_H} : x_run 829 47 ls st h = q_gi ls 1 (fun v => x_run 829 48 ls (.int v :: st) h) := xe_iload_n ec829 dX8_goesBack_47
theorem e829_48 {ls st : List Value} {h : x_H} : x_run 829 48 ls st h = q_gi ls 4 (fun v => x_run 829 50 ls (.int v :: st) h) := xe_iload ec829 dX8_goesBack_48
theorem e829_50 {ls st : List Value} {h : x_H} : x_run 829 50 ls st h = q_gi ls 5 (fun v => x_run 829 52 ls (.int v :: st) h) := xe_iload ec829 dX8_goesBack_50
theorem e829_52 {ls st : List Value} {h : x_H} {b : Nat} {a1 a2 a3 : Value}: x_run 829 52 ls (a3 :: a2 :: a1 :: .ref b :: st) h = if q_rcv h b 10 = true then (if x_wt st ≤ 8 ∧ x_wt [.ref b, a1, a2, a3] = 4 then q_cl (x_m 826 [.ref b, a1, a2, a3] h) (fun v h' => x_run 829 55 ls (v.toList ++ st) h') else none) else none := xe_virt (r := [a1, a2, a3]) ec829 dX8_goesBack_52 ek8_136 rfl (by decide +kernel) (by decide +kernel)
theorem e829_55 {ls st : List Value} {h : x_H} {x y : Int32}: x_run 829 55 ls (.int y :: .int x :: st) h = x_run 829 56 ls (.int (x + y) :: st) h := xe_iadd ec829 dX8_goesBack_55
theorem e829_56 {ls st : List Value} {h : x_H} : x_run 829 56 ls st h = q_gr ls 0 (fun v => x_run 829 57 ls (.ref v :: st) h) := xe_aload_n ec829 dX8_goesBack_56
theorem e829_57 {ls st : List Value} {h : x_H} : x_run 829 57 ls st h = q_gi ls 1 (fun v => x_run 829 58 ls (.int v :: st) h) := xe_iload_n ec829 dX8_goesBack_57
theorem e829_58 {ls st : List Value} {h : x_H} : x_run 829 58 ls st h = q_gi ls 4 (fun v => x_run 829 60 ls (.int v :: st) h) := xe_iload ec829 dX8_goesBack_58
theorem e829_60 {ls st : List Value} {h : x_H} : x_run 829 60 ls st h = q_gi ls 3 (fun v => x_run 829 61 ls (.int v :: st) h) := xe_iload_n ec829 dX8_goesBack_60
theorem e829_61 {ls st : List Value} {h : x_H} {b : Nat} {a1 a2 a3 : Value}: x_run 829 61 ls (a3 :: a2 :: a1 :: .ref b :: st) h = if q_rcv h b 10 = true then (if x_wt st ≤ 8 ∧ x_wt [.ref b, a1, a2, a3] = 4 then q_cl (x_m 827 [.ref b, a1, a2, a3] h) (fun v h' => x_run 829 64 ls (v.toList ++ st) h') else none) else none := xe_virt (r := [a1, a2, a3]) ec829 dX8_goesBack_61 ek8_133 rfl (by decide +kernel) (by decide +kernel)
theorem e829_64 {ls st : List Value} {h : x_H} {x y : Int32}: x_run 829 64 ls (.int y :: .int x :: st) h = x_run 829 65 ls (.int (x + y) :: st) h := xe_iadd ec829 dX8_goesBack_64
theorem e829_65 {ls st : List Value} {h : x_H} : x_run 829 65 ls st h = q_gr ls 0 (fun v => x_run 829 66 ls (.ref v :: st) h) := xe_aload_n ec829 dX8_goesBack_65
theorem e829_66 {ls st : List Value} {h : x_H} {a : Nat}: x_run 829 66 ls (.ref a :: st) h = q_gf h a 10 16 (fun v => x_run 829 69 ls (v :: st) h) := xe_getfield ec829 dX8_goesBack_66 ef8_33
theorem e829_69 {ls st : List Value} {h : x_H} : x_run 829 69 ls st h = q_gi ls 4 (fun v => x_run 829 71 ls (.int v :: st) h) := xe_iload ec829 dX8_goesBack_69
theorem e829_71 {ls st : List Value} {h : x_H} {x : Int32} {a : Nat}: x_run 829 71 ls (.int x :: .ref a :: st) h = q_ra h a 0 x (fun v => x_run 829 72 ls (.int v :: st) h) := xe_iaload ec829 dX8_goesBack_71
theorem e829_72 {ls st : List Value} {h : x_H} {x y : Int32}: x_run 829 72 ls (.int y :: .int x :: st) h = if x = y then x_run 829 81 ls st h else x_run 829 75 ls st h := xe_ic_eq ec829 dX8_goesBack_72 rfl
theorem e829_75 {ls st : List Value} {h : x_H} : x_run 829 75 ls st h = q_gi ls 5 (fun v => if x_nd ls 5 = true then x_run 829 78 (ls.set 5 (.int (v + q_i 1))) st h else none) := xe_iinc ec829 dX8_goesBack_75
theorem e829_78 {ls st : List Value} {h : x_H} : x_run 829 78 ls st h = x_run 829 24 ls st h := xe_goto ec829 dX8_goesBack_78 rfl
theorem e829_81 {ls st : List Value} {h : x_H} : x_run 829 81 ls st h = q_gi ls 5 (fun v => x_run 829 83 ls (.int v :: st) h) := xe_iload ec829 dX8_goesBack_81
theorem e829_83 {ls st : List Value} {h : x_H} : x_run 829 83 ls st h = x_run 829 84 ls (.int (q_i 4) :: st) h := xe_iconst ec829 dX8_goesBack_83
theorem e829_84 {ls st : List Value} {h : x_H} {x y : Int32}: x_run 829 84 ls (.int y :: .int x :: st) h = if ¬ x = y then x_run 829 108 ls st h else x_run 829 87 ls st h := xe_ic_ne ec829 dX8_goesBack_84 rfl
theorem e829_87 {ls st : List Value} {h : x_H} : x_run 829 87 ls st h = q_gr ls 0 (fun v => x_run 829 88 ls (.ref v :: st) h) := xe_aload_n ec829 dX8_goesBack_87
theorem e829_88 {ls st : List Value} {h : x_H} : x_run 829 88 ls st h = q_gi ls 1 (fun v => x_run 829 89 ls (.int v :: st) h) := xe_iload_n ec829 dX8_goesBack_88
theorem e829_89 {ls st : List Value} {h : x_H} : x_run 829 89 ls st h = q_gi ls 4 (fun v => x_run 829 91 ls (.int v :: st) h) := xe_iload ec829 dX8_goesBack_89
theorem e829_91 {ls st : List Value} {h : x_H} {b : Nat} {a1 a2 : Value}: x_run 829 91 ls (a2 :: a1 :: .ref b :: st) h = if q_rcv h b 10 = true then (if x_wt st ≤ 8 ∧ x_wt [.ref b, a1, a2] = 3 then q_cl (x_m 825 [.ref b, a1, a2] h) (fun v h' => x_run 829 94 ls (v.toList ++ st) h') else none) else none := xe_virt (r := [a1, a2]) ec829 dX8_goesBack_91 ek8_126 rfl (by decide +kernel) (by decide +kernel)
theorem e829_94 {ls st : List Value} {h : x_H} {x : Int32}: x_run 829 94 ls (.int x :: st) h = if ¬ x = 0 then x_run 829 108 ls st h else x_run 829 97 ls st h := xe_if_ne ec829 dX8_goesBack_94 rfl
theorem e829_97 {ls st : List Value} {h : x_H} : x_run 829 97 ls st h = q_gr ls 0 (fun v => x_run 829 98 ls (.ref v :: st) h) := xe_aload_n ec829 dX8_goesBack_97
theorem e829_98 {ls st : List Value} {h : x_H} {a : Nat}: x_run 829 98 ls (.ref a :: st) h = q_gf h a 10 18 (fun v => x_run 829 101 ls (v :: st) h) := xe_getfield ec829 dX8_goesBack_98 ef8_39
theorem e829_101 {ls st : List Value} {h : x_H} : x_run 829 101 ls st h = q_gi ls 4 (fun v => x_run 829 103 ls (.int v :: st) h) := xe_iload ec829 dX8_goesBack_101
theorem e829_103 {ls st : List Value} {h : x_H} : x_run 829 103 ls st h = x_run 829 105 ls (.int (q_i 48) :: st) h := xe_bipush ec829 dX8_goesBack_103 (by decide)
theorem e829_105 {ls st : List Value} {h : x_H} {x y : Int32}: x_run 829 105 ls (.int y :: .int x :: st) h = if y = 0 then none else x_run 829 106 ls (.int (x - (x / y) * y) :: st) h := xe_irem ec829 dX8_goesBack_105
theorem e829_106 {ls st : List Value} {h : x_H} : x_run 829 106 ls st h = x_run 829 107 ls (.int (q_i 1) :: st) h := xe_iconst ec829 dX8_goesBack_106
theorem e829_107 {ls st : List Value} {h : x_H} {x y : Int32} {a : Nat}: x_run 829 107 ls (.int y :: .int x :: .ref a :: st) h = q_wa h a 0 x y (fun h' => x_run 829 108 ls st h') := xe_iastore ec829 dX8_goesBack_107
theorem e829_108 {ls st : List Value} {h : x_H} : x_run 829 108 ls st h = q_gi ls 4 (fun v => x_run 829 110 ls (.int v :: st) h) := xe_iload ec829 dX8_goesBack_108
theorem e829_110 {ls st : List Value} {h : x_H} : x_run 829 110 ls st h = q_gi ls 5 (fun v => x_run 829 112 ls (.int v :: st) h) := xe_iload ec829 dX8_goesBack_110
theorem e829_112 {ls st : List Value} {h : x_H} {a1 a2 : Value}: x_run 829 112 ls (a2 :: a1 :: st) h = if x_wt st ≤ 8 ∧ x_wt [a1, a2] = 2 then q_cl (x_m 816 [a1, a2] h) (fun v h' => x_run 829 115 ls (v.toList ++ st) h') else none := xe_stat (args := [a1, a2]) ec829 dX8_goesBack_112 ek8_84 (by decide) rfl (by decide +kernel) (by decide +kernel)
theorem e829_115 {ls st : List Value} {h : x_H} {x : Int32}: x_run 829 115 ls (.int x :: st) h = q_ls ls 4 (.int x) (fun ls' => x_run 829 117 ls' st h) := xe_istore ec829 dX8_goesBack_115
theorem e829_117 {ls st : List Value} {h : x_H} : x_run 829 117 ls st h = x_run 829 3 ls st h := xe_goto ec829 dX8_goesBack_117 rfl
theorem e829_120 {ls st : List Value} {h : x_H} : x_run 829 120 ls st h = x_run 829 121 ls (.int (q_i 0) :: st) h := xe_iconst ec829 dX8_goesBack_120
theorem e829_121 {ls st : List Value} {h : x_H} {x : Int32}: x_run 829 121 ls (.int x :: st) h = q_ls ls 5 (.int x) (fun ls' => x_run 829 123 ls' st h) := xe_istore ec829 dX8_goesBack_121
theorem e829_123 {ls st : List Value} {h : x_H} : x_run 829 123 ls st h = q_gi ls 5 (fun v => x_run 829 125 ls (.int v :: st) h) := xe_iload ec829 dX8_goesBack_123
theorem e829_125 {ls st : List Value} {h : x_H} : x_run 829 125 ls st h = x_run 829 127 ls (.int (q_i 96) :: st) h := xe_bipush ec829 dX8_goesBack_125 (by decide)
theorem e829_127 {ls st : List Value} {h : x_H} {x y : Int32}: x_run 829 127 ls (.int y :: .int x :: st) h = if y ≤ x then x_run 829 158 ls st h else x_run 829 130 ls st h := xe_ic_ge ec829 dX8_goesBack_127 rfl
theorem e829_130 {ls st : List Value} {h : x_H} : x_run 829 130 ls st h = q_gr ls 0 (fun v => x_run 829 131 ls (.ref v :: st) h) := xe_aload_n ec829 dX8_goesBack_130
theorem e829_131 {ls st : List Value} {h : x_H} {a : Nat}: x_run 829 131 ls (.ref a :: st) h = q_gf h a 10 17 (fun v => x_run 829 134 ls (v :: st) h) := xe_getfield ec829 dX8_goesBack_131 ef8_36
theorem e829_134 {ls st : List Value} {h : x_H} : x_run 829 134 ls st h = q_gi ls 5 (fun v => x_run 829 136 ls (.int v :: st) h) := xe_iload ec829 dX8_goesBack_134
theorem e829_136 {ls st : List Value} {h : x_H} : x_run 829 136 ls st h = q_gr ls 0 (fun v => x_run 829 137 ls (.ref v :: st) h) := xe_aload_n ec829 dX8_goesBack_136
theorem e829_137 {ls st : List Value} {h : x_H} {a : Nat}: x_run 829 137 ls (.ref a :: st) h = q_gf h a 10 17 (fun v => x_run 829 140 ls (v :: st) h) := xe_getfield ec829 dX8_goesBack_137 ef8_36
theorem e829_140 {ls st : List Value} {h : x_H} : x_run 829 140 ls st h = q_gi ls 5 (fun v => x_run 829 142 ls (.int v :: st) h) := xe_iload ec829 dX8_goesBack_140
theorem e829_142 {ls st : List Value} {h : x_H} {x : Int32} {a : Nat}: x_run 829 142 ls (.int x :: .ref a :: st) h = q_ra h a 0 x (fun v => x_run 829 143 ls (.int v :: st) h) := xe_iaload ec829 dX8_goesBack_142
theorem e829_143 {ls st : List Value} {h : x_H} {x : Int32}: x_run 829 143 ls (.int x :: st) h = if x ≤ 0 then x_run 829 150 ls st h else x_run 829 146 ls st h := xe_if_le ec829 dX8_goesBack_143 rfl
theorem e829_146 {ls st : List Value} {h : x_H} : x_run 829 146 ls st h = x_run 829 147 ls (.int (q_i 1) :: st) h := xe_iconst ec829 dX8_goesBack_146
theorem e829_147 {ls st : List Value} {h : x_H} : x_run 829 147 ls st h = x_run 829 151 ls st h := xe_goto ec829 dX8_goesBack_147 rfl
theorem e829_150 {ls st : List Value} {h : x_H} : x_run 829 150 ls st h = x_run 829 151 ls (.int (q_i 0) :: st) h := xe_iconst ec829 dX8_goesBack_150
theorem e829_151 {ls st : List Value} {h : x_H} {x y : Int32} {a : Nat}: x_run 829 151 ls (.int y :: .int x :: .ref a :: st) h = q_wa h a 0 x y (fun h' => x_run 829 152 ls st h') := xe_iastore ec829 dX8_goesBack_151
theorem e829_152 {ls st : List Value} {h : x_H} : x_run 829 152 ls st h = q_gi ls 5 (fun v => if x_nd ls 5 = true then x_run 829 155 (ls.set 5 (.int (v + q_i 1))) st h else none) := xe_iinc ec829 dX8_goesBack_152
theorem e829_155 {ls st : List Value} {h : x_H} : x_run 829 155 ls st h = x_run 829 123 ls st h := xe_goto ec829 dX8_goesBack_155 rfl
theorem e829_158 {ls : List Value} {h : x_H} : x_run 829 158 ls [] h = some (.inl (none), h) := xe_return ec829 dX8_goesBack_158 rfl
theorem ec830 : x_code 830 = cX8_joins := rfl
theorem e830_0 {ls st : List Value} {h : x_H} : x_run 830 0 ls st h = q_gr ls 0 (fun v => x_run 830 1 ls (.ref v :: st) h) := xe_aload_n ec830 dX8_joins_0
theorem e830_1 {ls st : List Value} {h : x_H} {a : Nat}: x_run 830 1 ls (.ref a :: st) h = q_gf h a 10 17 (fun v => x_run 830 4 ls (v :: st) h) := xe_getfield ec830 dX8_joins_1 ef8_36
theorem e830_4 {ls st : List Value} {h : x_H} : x_run 830 4 ls st h = q_gi ls 1 (fun v => x_run 830 5 ls (.int v :: st) h) := xe_iload_n ec830 dX8_joins_4
theorem e830_5 {ls st : List Value} {h : x_H} : x_run 830 5 ls st h = x_run 830 6 ls (.int (q_i 1) :: st) h := xe_iconst ec830 dX8_joins_5
theorem e830_6 {ls st : List Value} {h : x_H} {x y : Int32} {a : Nat}: x_run 830 6 ls (.int y :: .int x :: .ref a :: st) h = q_wa h a 0 x y (fun h' => x_run 830 7 ls st h') := xe_iastore ec830 dX8_joins_6
theorem e830_7 {ls st : List Value} {h : x_H} : x_run 830 7 ls st h = q_gr ls 0 (fun v => x_run 830 8 ls (.ref v :: st) h) := xe_aload_n ec830 dX8_joins_7
theorem e830_8 {ls st : List Value} {h : x_H} {a : Nat}: x_run 830 8 ls (.ref a :: st) h = q_gf h a 10 17 (fun v => x_run 830 11 ls (v :: st) h) := xe_getfield ec830 dX8_joins_8 ef8_36
theorem e830_11 {ls st : List Value} {h : x_H} : x_run 830 11 ls st h = q_gi ls 1 (fun v => x_run 830 12 ls (.int v :: st) h) := xe_iload_n ec830 dX8_joins_11
theorem e830_12 {ls st : List Value} {h : x_H} : x_run 830 12 ls st h = x_run 830 14 ls (.int (q_i 48) :: st) h := xe_bipush ec830 dX8_joins_12 (by decide)
theorem e830_14 {ls st : List Value} {h : x_H} {x y : Int32}: x_run 830 14 ls (.int y :: .int x :: st) h = x_run 830 15 ls (.int (x + y) :: st) h := xe_iadd ec830 dX8_joins_14
theorem e830_15 {ls st : List Value} {h : x_H} : x_run 830 15 ls st h = x_run 830 16 ls (.int (q_i 1) :: st) h := xe_iconst ec830 dX8_joins_15
theorem e830_16 {ls st : List Value} {h : x_H} {x y : Int32} {a : Nat}: x_run 830 16 ls (.int y :: .int x :: .ref a :: st) h = q_wa h a 0 x y (fun h' => x_run 830 17 ls st h') := xe_iastore ec830 dX8_joins_16
theorem e830_17 {ls : List Value} {h : x_H} : x_run 830 17 ls [] h = some (.inl (none), h) := xe_return ec830 dX8_joins_17 rfl
theorem ec831 : x_code 831 = cX8_finds := rfl
theorem e831_0 {ls st : List Value} {h : x_H} : x_run 831 0 ls st h = x_run 831 1 ls (.int (q_i 0) :: st) h := xe_iconst ec831 dX8_finds_0
theorem e831_1 {ls st : List Value} {h : x_H} {x : Int32}: x_run 831 1 ls (.int x :: st) h = q_ls ls 3 (.int x) (fun ls' => x_run 831 2 ls' st h) := xe_istore_n ec831 dX8_finds_1
theorem e831_2 {ls st : List Value} {h : x_H} : x_run 831 2 ls st h = q_gi ls 3 (fun v => x_run 831 3 ls (.int v :: st) h) := xe_iload_n ec831 dX8_finds_2
theorem e831_3 {ls st : List Value} {h : x_H} : x_run 831 3 ls st h = x_run 831 5 ls (.int (q_i 96) :: st) h := xe_bipush ec831 dX8_finds_3 (by decide)
theorem e831_5 {ls st : List Value} {h : x_H} {x y : Int32}: x_run 831 5 ls (.int y :: .int x :: st) h = if y ≤ x then x_run 831 21 ls st h else x_run 831 8 ls st h := xe_ic_ge ec831 dX8_finds_5 rfl
theorem e831_8 {ls st : List Value} {h : x_H} : x_run 831 8 ls st h = q_gr ls 0 (fun v => x_run 831 9 ls (.ref v :: st) h) := xe_aload_n ec831 dX8_finds_8
theorem e831_9 {ls st : List Value} {h : x_H} {a : Nat}: x_run 831 9 ls (.ref a :: st) h = q_gf h a 10 17 (fun v => x_run 831 12 ls (v :: st) h) := xe_getfield ec831 dX8_finds_9 ef8_36
theorem e831_12 {ls st : List Value} {h : x_H} : x_run 831 12 ls st h = q_gi ls 3 (fun v => x_run 831 13 ls (.int v :: st) h) := xe_iload_n ec831 dX8_finds_12
theorem e831_13 {ls st : List Value} {h : x_H} : x_run 831 13 ls st h = x_run 831 14 ls (.int (q_i 0) :: st) h := xe_iconst ec831 dX8_finds_13
theorem e831_14 {ls st : List Value} {h : x_H} {x y : Int32} {a : Nat}: x_run 831 14 ls (.int y :: .int x :: .ref a :: st) h = q_wa h a 0 x y (fun h' => x_run 831 15 ls st h') := xe_iastore ec831 dX8_finds_14
theorem e831_15 {ls st : List Value} {h : x_H} : x_run 831 15 ls st h = q_gi ls 3 (fun v => if x_nd ls 3 = true then x_run 831 18 (ls.set 3 (.int (v + q_i 1))) st h else none) := xe_iinc ec831 dX8_finds_15
theorem e831_18 {ls st : List Value} {h : x_H} : x_run 831 18 ls st h = x_run 831 2 ls st h := xe_goto ec831 dX8_finds_18 rfl
theorem e831_21 {ls st : List Value} {h : x_H} : x_run 831 21 ls st h = x_run 831 22 ls (.int (q_i 0) :: st) h := xe_iconst ec831 dX8_finds_21
theorem e831_22 {ls st : List Value} {h : x_H} {x : Int32}: x_run 831 22 ls (.int x :: st) h = q_ls ls 3 (.int x) (fun ls' => x_run 831 23 ls' st h) := xe_istore_n ec831 dX8_finds_22
theorem e831_23 {ls st : List Value} {h : x_H} : x_run 831 23 ls st h = q_gi ls 3 (fun v => x_run 831 24 ls (.int v :: st) h) := xe_iload_n ec831 dX8_finds_23
theorem e831_24 {ls st : List Value} {h : x_H} : x_run 831 24 ls st h = x_run 831 26 ls (.int (q_i 48) :: st) h := xe_bipush ec831 dX8_finds_24 (by decide)
theorem e831_26 {ls st : List Value} {h : x_H} {x y : Int32}: x_run 831 26 ls (.int y :: .int x :: st) h = if y ≤ x then x_run 831 42 ls st h else x_run 831 29 ls st h := xe_ic_ge ec831 dX8_finds_26 rfl
theorem e831_29 {ls st : List Value} {h : x_H} : x_run 831 29 ls st h = q_gr ls 0 (fun v => x_run 831 30 ls (.ref v :: st) h) := xe_aload_n ec831 dX8_finds_29
theorem e831_30 {ls st : List Value} {h : x_H} {a : Nat}: x_run 831 30 ls (.ref a :: st) h = q_gf h a 10 18 (fun v => x_run 831 33 ls (v :: st) h) := xe_getfield ec831 dX8_finds_30 ef8_39
theorem e831_33 {ls st : List Value} {h : x_H} : x_run 831 33 ls st h = q_gi ls 3 (fun v => x_run 831 34 ls (.int v :: st) h) := xe_iload_n ec831 dX8_finds_33
theorem e831_34 {ls st : List Value} {h : x_H} : x_run 831 34 ls st h = x_run 831 35 ls (.int (q_i 0) :: st) h := xe_iconst ec831 dX8_finds_34
theorem e831_35 {ls st : List Value} {h : x_H} {x y : Int32} {a : Nat}: x_run 831 35 ls (.int y :: .int x :: .ref a :: st) h = q_wa h a 0 x y (fun h' => x_run 831 36 ls st h') := xe_iastore ec831 dX8_finds_35
theorem e831_36 {ls st : List Value} {h : x_H} : x_run 831 36 ls st h = q_gi ls 3 (fun v => if x_nd ls 3 = true then x_run 831 39 (ls.set 3 (.int (v + q_i 1))) st h else none) := xe_iinc ec831 dX8_finds_36
theorem e831_39 {ls st : List Value} {h : x_H} : x_run 831 39 ls st h = x_run 831 23 ls st h := xe_goto ec831 dX8_finds_39 rfl
theorem e831_42 {ls st : List Value} {h : x_H} : x_run 831 42 ls st h = q_gr ls 0 (fun v => x_run 831 43 ls (.ref v :: st) h) := xe_aload_n ec831 dX8_finds_42
theorem e831_43 {ls st : List Value} {h : x_H} : x_run 831 43 ls st h = x_run 831 44 ls (.int (q_i 0) :: st) h := xe_iconst ec831 dX8_finds_43
theorem e831_44 {ls st : List Value} {h : x_H} {v : Value} {a : Nat}: x_run 831 44 ls (v :: .ref a :: st) h = if x_fit (x_ty 10 19) v = true then q_pf h a 10 19 v (fun h' => x_run 831 47 ls st h') else none := xe_putfield ec831 dX8_finds_44 ef8_139 (by decide +kernel)
theorem e831_47 {ls st : List Value} {h : x_H} : x_run 831 47 ls st h = q_gr ls 0 (fun v => x_run 831 48 ls (.ref v :: st) h) := xe_aload_n ec831 dX8_finds_47
theorem e831_48 {ls st : List Value} {h : x_H} : x_run 831 48 ls st h = q_gr ls 0 (fun v => x_run 831 49 ls (.ref v :: st) h) := xe_aload_n ec831 dX8_finds_48
theorem e831_49 {ls st : List Value} {h : x_H} : x_run 831 49 ls st h = q_gi ls 1 (fun v => x_run 831 50 ls (.int v :: st) h) := xe_iload_n ec831 dX8_finds_49
theorem e831_50 {ls st : List Value} {h : x_H} : x_run 831 50 ls st h = x_run 831 51 ls (.int (q_i 2) :: st) h := xe_iconst ec831 dX8_finds_50
theorem e831_51 {ls st : List Value} {h : x_H} {b : Nat} {a1 a2 : Value}: x_run 831 51 ls (a2 :: a1 :: .ref b :: st) h = if q_rcv h b 10 = true then (if x_wt st ≤ 8 ∧ x_wt [.ref b, a1, a2] = 3 then q_cl (x_m 811 [.ref b, a1, a2] h) (fun v h' => x_run 831 54 ls (v.toList ++ st) h') else none) else none := xe_virt (r := [a1, a2]) ec831 dX8_finds_51 ek8_80 rfl (by decide +kernel) (by decide +kernel)
theorem e831_54 {ls st : List Value} {h : x_H} {b : Nat} {a1 : Value}: x_run 831 54 ls (a1 :: .ref b :: st) h = if q_rcv h b 10 = true then (if x_wt st ≤ 8 ∧ x_wt [.ref b, a1] = 2 then q_cl (x_m 830 [.ref b, a1] h) (fun v h' => x_run 831 57 ls (v.toList ++ st) h') else none) else none := xe_virt (r := [a1]) ec831 dX8_finds_54 ek8_142 rfl (by decide +kernel) (by decide +kernel)
theorem e831_57 {ls st : List Value} {h : x_H} : x_run 831 57 ls st h = x_run 831 58 ls (.int (q_i 1) :: st) h := xe_iconst ec831 dX8_finds_57
theorem e831_58 {ls st : List Value} {h : x_H} {x : Int32}: x_run 831 58 ls (.int x :: st) h = q_ls ls 3 (.int x) (fun ls' => x_run 831 59 ls' st h) := xe_istore_n ec831 dX8_finds_58
theorem e831_59 {ls st : List Value} {h : x_H} : x_run 831 59 ls st h = q_gi ls 3 (fun v => x_run 831 60 ls (.int v :: st) h) := xe_iload_n ec831 dX8_finds_59
theorem e831_60 {ls st : List Value} {h : x_H} : x_run 831 60 ls st h = q_gr ls 0 (fun v => x_run 831 61 ls (.ref v :: st) h) := xe_aload_n ec831 dX8_finds_60
theorem e831_61 {ls st : List Value} {h : x_H} : x_run 831 61 ls st h = q_gi ls 1 (fun v => x_run 831 62 ls (.int v :: st) h) := xe_iload_n ec831 dX8_finds_61
theorem e831_62 {ls st : List Value} {h : x_H} : x_run 831 62 ls st h = x_run 831 63 ls (.int (q_i 1) :: st) h := xe_iconst ec831 dX8_finds_62
theorem e831_63 {ls st : List Value} {h : x_H} {b : Nat} {a1 a2 : Value}: x_run 831 63 ls (a2 :: a1 :: .ref b :: st) h = if q_rcv h b 10 = true then (if x_wt st ≤ 8 ∧ x_wt [.ref b, a1, a2] = 3 then q_cl (x_m 811 [.ref b, a1, a2] h) (fun v h' => x_run 831 66 ls (v.toList ++ st) h') else none) else none := xe_virt (r := [a1, a2]) ec831 dX8_finds_63 ek8_80 rfl (by decide +kernel) (by decide +kernel)
theorem e831_66 {ls st : List Value} {h : x_H} {x y : Int32}: x_run 831 66 ls (.int y :: .int x :: st) h = if y ≤ x then x_run 831 167 ls st h else x_run 831 69 ls st h := xe_ic_ge ec831 dX8_finds_66 rfl
theorem e831_69 {ls st : List Value} {h : x_H} : x_run 831 69 ls st h = q_gr ls 0 (fun v => x_run 831 70 ls (.ref v :: st) h) := xe_aload_n ec831 dX8_finds_69
theorem e831_70 {ls st : List Value} {h : x_H} : x_run 831 70 ls st h = q_gi ls 1 (fun v => x_run 831 71 ls (.int v :: st) h) := xe_iload_n ec831 dX8_finds_70
theorem e831_71 {ls st : List Value} {h : x_H} : x_run 831 71 ls st h = x_run 831 72 ls (.int (q_i 2) :: st) h := xe_iconst ec831 dX8_finds_71
theorem e831_72 {ls st : List Value} {h : x_H} : x_run 831 72 ls st h = q_gi ls 3 (fun v => x_run 831 73 ls (.int v :: st) h) := xe_iload_n ec831 dX8_finds_72
theorem e831_73 {ls st : List Value} {h : x_H} {x y : Int32}: x_run 831 73 ls (.int y :: .int x :: st) h = x_run 831 74 ls (.int (x + y) :: st) h := xe_iadd ec831 dX8_finds_73
theorem e831_74 {ls st : List Value} {h : x_H} {b : Nat} {a1 a2 : Value}: x_run 831 74 ls (a2 :: a1 :: .ref b :: st) h = if q_rcv h b 10 = true then (if x_wt st ≤ 8 ∧ x_wt [.ref b, a1, a2] = 3 then q_cl (x_m 811 [.ref b, a1, a2] h) (fun v h' => x_run 831 77 ls (v.toList ++ st) h') else none) else none := xe_virt (r := [a1, a2]) ec831 dX8_finds_74 ek8_80 rfl (by decide +kernel) (by decide +kernel)
theorem e831_77 {ls st : List Value} {h : x_H} {x : Int32}: x_run 831 77 ls (.int x :: st) h = q_ls ls 4 (.int x) (fun ls' => x_run 831 79 ls' st h) := xe_istore ec831 dX8_finds_77
theorem e831_79 {ls st : List Value} {h : x_H} : x_run 831 79 ls st h = q_gr ls 0 (fun v => x_run 831 80 ls (.ref v :: st) h) := xe_aload_n ec831 dX8_finds_79
theorem e831_80 {ls st : List Value} {h : x_H} : x_run 831 80 ls st h = q_gi ls 1 (fun v => x_run 831 81 ls (.int v :: st) h) := xe_iload_n ec831 dX8_finds_80
theorem e831_81 {ls st : List Value} {h : x_H} : x_run 831 81 ls st h = q_gi ls 2 (fun v => x_run 831 82 ls (.int v :: st) h) := xe_iload_n ec831 dX8_finds_81
theorem e831_82 {ls st : List Value} {h : x_H} {b : Nat} {a1 a2 : Value}: x_run 831 82 ls (a2 :: a1 :: .ref b :: st) h = if q_rcv h b 10 = true then (if x_wt st ≤ 8 ∧ x_wt [.ref b, a1, a2] = 3 then q_cl (x_m 828 [.ref b, a1, a2] h) (fun v h' => x_run 831 85 ls (v.toList ++ st) h') else none) else none := xe_virt (r := [a1, a2]) ec831 dX8_finds_82 ek8_146 rfl (by decide +kernel) (by decide +kernel)
theorem e831_85 {ls st : List Value} {h : x_H} : x_run 831 85 ls st h = q_gr ls 0 (fun v => x_run 831 86 ls (.ref v :: st) h) := xe_aload_n ec831 dX8_finds_85
theorem e831_86 {ls st : List Value} {h : x_H} {a : Nat}: x_run 831 86 ls (.ref a :: st) h = q_gf h a 10 16 (fun v => x_run 831 89 ls (v :: st) h) := xe_getfield ec831 dX8_finds_86 ef8_33
theorem e831_89 {ls st : List Value} {h : x_H} : x_run 831 89 ls st h = q_gi ls 4 (fun v => x_run 831 91 ls (.int v :: st) h) := xe_iload ec831 dX8_finds_89
theorem e831_91 {ls st : List Value} {h : x_H} {x : Int32} {a : Nat}: x_run 831 91 ls (.int x :: .ref a :: st) h = q_ra h a 0 x (fun v => x_run 831 92 ls (.int v :: st) h) := xe_iaload ec831 dX8_finds_91
theorem e831_92 {ls st : List Value} {h : x_H} : x_run 831 92 ls st h = q_gr ls 0 (fun v => x_run 831 93 ls (.ref v :: st) h) := xe_aload_n ec831 dX8_finds_92
theorem e831_93 {ls st : List Value} {h : x_H} {a : Nat}: x_run 831 93 ls (.ref a :: st) h = q_gf h a 10 16 (fun v => x_run 831 96 ls (v :: st) h) := xe_getfield ec831 dX8_finds_93 ef8_33
theorem e831_96 {ls st : List Value} {h : x_H} : x_run 831 96 ls st h = q_gi ls 4 (fun v => x_run 831 98 ls (.int v :: st) h) := xe_iload ec831 dX8_finds_96
theorem e831_98 {ls st : List Value} {h : x_H} : x_run 831 98 ls st h = x_run 831 100 ls (.int (q_i 48) :: st) h := xe_bipush ec831 dX8_finds_98 (by decide)
theorem e831_100 {ls st : List Value} {h : x_H} {x y : Int32}: x_run 831 100 ls (.int y :: .int x :: st) h = x_run 831 101 ls (.int (x + y) :: st) h := xe_iadd ec831 dX8_finds_100
theorem e831_101 {ls st : List Value} {h : x_H} {x : Int32} {a : Nat}: x_run 831 101 ls (.int x :: .ref a :: st) h = q_ra h a 0 x (fun v => x_run 831 102 ls (.int v :: st) h) := xe_iaload ec831 dX8_finds_101
theorem e831_102 {ls st : List Value} {h : x_H} {x y : Int32}: x_run 831 102 ls (.int y :: .int x :: st) h = if y < x then x_run 831 110 ls st h else x_run 831 105 ls st h := xe_ic_gt ec831 dX8_finds_102 rfl
theorem e831_105 {ls st : List Value} {h : x_H} : x_run 831 105 ls st h = q_gi ls 4 (fun v => x_run 831 107 ls (.int v :: st) h) := xe_iload ec831 dX8_finds_105
theorem e831_107 {ls st : List Value} {h : x_H} : x_run 831 107 ls st h = x_run 831 115 ls st h := xe_goto ec831 dX8_finds_107 rfl
theorem e831_110 {ls st : List Value} {h : x_H} : x_run 831 110 ls st h = q_gi ls 4 (fun v => x_run 831 112 ls (.int v :: st) h) := xe_iload ec831 dX8_finds_110
theorem e831_112 {ls st : List Value} {h : x_H} : x_run 831 112 ls st h = x_run 831 114 ls (.int (q_i 48) :: st) h := xe_bipush ec831 dX8_finds_112 (by decide)
theorem e831_114 {ls st : List Value} {h : x_H} {x y : Int32}: x_run 831 114 ls (.int y :: .int x :: st) h = x_run 831 115 ls (.int (x + y) :: st) h := xe_iadd ec831 dX8_finds_114
theorem e831_115 {ls st : List Value} {h : x_H} {x : Int32}: x_run 831 115 ls (.int x :: st) h = q_ls ls 5 (.int x) (fun ls' => x_run 831 117 ls' st h) := xe_istore ec831 dX8_finds_115
theorem e831_117 {ls st : List Value} {h : x_H} : x_run 831 117 ls st h = q_gr ls 0 (fun v => x_run 831 118 ls (.ref v :: st) h) := xe_aload_n ec831 dX8_finds_117
theorem e831_118 {ls st : List Value} {h : x_H} {a : Nat}: x_run 831 118 ls (.ref a :: st) h = q_gf h a 10 16 (fun v => x_run 831 121 ls (v :: st) h) := xe_getfield ec831 dX8_finds_118 ef8_33
theorem e831_121 {ls st : List Value} {h : x_H} : x_run 831 121 ls st h = q_gi ls 5 (fun v => x_run 831 123 ls (.int v :: st) h) := xe_iload ec831 dX8_finds_121
theorem e831_123 {ls st : List Value} {h : x_H} {x : Int32} {a : Nat}: x_run 831 123 ls (.int x :: .ref a :: st) h = q_ra h a 0 x (fun v => x_run 831 124 ls (.int v :: st) h) := xe_iaload ec831 dX8_finds_123
theorem e831_124 {ls st : List Value} {h : x_H} : x_run 831 124 ls st h = x_run 831 126 ls (.int (q_i 100000) :: st) h := xe_ldc ec831 dX8_finds_124 (by decide +kernel)
theorem e831_126 {ls st : List Value} {h : x_H} {x y : Int32}: x_run 831 126 ls (.int y :: .int x :: st) h = if x < y then x_run 831 131 ls st h else x_run 831 129 ls st h := xe_ic_lt ec831 dX8_finds_126 rfl
theorem e831_129 {ls st : List Value} {h : x_H} : x_run 831 129 ls st h = q_gi ls 3 (fun v => x_run 831 130 ls (.int v :: st) h) := xe_iload_n ec831 dX8_finds_129
theorem e831_130 {ls : List Value} {h : x_H} {x : Int32} : x_run 831 130 ls [.int x] h = if narrow .int (.int x) = .int x then some (.inl (some (.int x)), h) else none := xe_ireturn ec831 dX8_finds_130 rfl
theorem e831_131 {ls st : List Value} {h : x_H} : x_run 831 131 ls st h = q_gr ls 0 (fun v => x_run 831 132 ls (.ref v :: st) h) := xe_aload_n ec831 dX8_finds_131
theorem e831_132 {ls st : List Value} {h : x_H} {v : Value} (hv : v.category = 1): x_run 831 132 ls (v :: st) h = x_run 831 133 ls (v :: v :: st) h := xe_dup ec831 dX8_finds_132 hv
theorem e831_133 {ls st : List Value} {h : x_H} {a : Nat}: x_run 831 133 ls (.ref a :: st) h = q_gf h a 10 19 (fun v => x_run 831 136 ls (v :: st) h) := xe_getfield ec831 dX8_finds_133 ef8_139
theorem e831_136 {ls st : List Value} {h : x_H} : x_run 831 136 ls st h = q_gr ls 0 (fun v => x_run 831 137 ls (.ref v :: st) h) := xe_aload_n ec831 dX8_finds_136
theorem e831_137 {ls st : List Value} {h : x_H} {a : Nat}: x_run 831 137 ls (.ref a :: st) h = q_gf h a 10 16 (fun v => x_run 831 140 ls (v :: st) h) := xe_getfield ec831 dX8_finds_137 ef8_33
theorem e831_140 {ls st : List Value} {h : x_H} : x_run 831 140 ls st h = q_gi ls 5 (fun v => x_run 831 142 ls (.int v :: st) h) := xe_iload ec831 dX8_finds_140
theorem e831_142 {ls st : List Value} {h : x_H} {x : Int32} {a : Nat}: x_run 831 142 ls (.int x :: .ref a :: st) h = q_ra h a 0 x (fun v => x_run 831 143 ls (.int v :: st) h) := xe_iaload ec831 dX8_finds_142
theorem e831_143 {ls st : List Value} {h : x_H} {x y : Int32}: x_run 831 143 ls (.int y :: .int x :: st) h = x_run 831 144 ls (.int (x + y) :: st) h := xe_iadd ec831 dX8_finds_143
theorem e831_144 {ls st : List Value} {h : x_H} {v : Value} {a : Nat}: x_run 831 144 ls (v :: .ref a :: st) h = if x_fit (x_ty 10 19) v = true then q_pf h a 10 19 v (fun h' => x_run 831 147 ls st h') else none := xe_putfield ec831 dX8_finds_144 ef8_139 (by decide +kernel)
theorem e831_147 {ls st : List Value} {h : x_H} : x_run 831 147 ls st h = q_gr ls 0 (fun v => x_run 831 148 ls (.ref v :: st) h) := xe_aload_n ec831 dX8_finds_147
theorem e831_148 {ls st : List Value} {h : x_H} : x_run 831 148 ls st h = q_gi ls 1 (fun v => x_run 831 149 ls (.int v :: st) h) := xe_iload_n ec831 dX8_finds_148
theorem e831_149 {ls st : List Value} {h : x_H} : x_run 831 149 ls st h = q_gi ls 5 (fun v => x_run 831 151 ls (.int v :: st) h) := xe_iload ec831 dX8_finds_149
theorem e831_151 {ls st : List Value} {h : x_H} : x_run 831 151 ls st h = q_gi ls 2 (fun v => x_run 831 152 ls (.int v :: st) h) := xe_iload_n ec831 dX8_finds_151
theorem e831_152 {ls st : List Value} {h : x_H} {b : Nat} {a1 a2 a3 : Value}: x_run 831 152 ls (a3 :: a2 :: a1 :: .ref b :: st) h = if q_rcv h b 10 = true then (if x_wt st ≤ 8 ∧ x_wt [.ref b, a1, a2, a3] = 4 then q_cl (x_m 829 [.ref b, a1, a2, a3] h) (fun v h' => x_run 831 155 ls (v.toList ++ st) h') else none) else none := xe_virt (r := [a1, a2, a3]) ec831 dX8_finds_152 ek8_150 rfl (by decide +kernel) (by decide +kernel)
theorem e831_155 {ls st : List Value} {h : x_H} : x_run 831 155 ls st h = q_gr ls 0 (fun v => x_run 831 156 ls (.ref v :: st) h) := xe_aload_n ec831 dX8_finds_155
theorem e831_156 {ls st : List Value} {h : x_H} : x_run 831 156 ls st h = q_gi ls 4 (fun v => x_run 831 158 ls (.int v :: st) h) := xe_iload ec831 dX8_finds_156
theorem e831_158 {ls st : List Value} {h : x_H} {b : Nat} {a1 : Value}: x_run 831 158 ls (a1 :: .ref b :: st) h = if q_rcv h b 10 = true then (if x_wt st ≤ 8 ∧ x_wt [.ref b, a1] = 2 then q_cl (x_m 830 [.ref b, a1] h) (fun v h' => x_run 831 161 ls (v.toList ++ st) h') else none) else none := xe_virt (r := [a1]) ec831 dX8_finds_158 ek8_142 rfl (by decide +kernel) (by decide +kernel)
theorem e831_161 {ls st : List Value} {h : x_H} : x_run 831 161 ls st h = q_gi ls 3 (fun v => if x_nd ls 3 = true then x_run 831 164 (ls.set 3 (.int (v + q_i 1))) st h else none) := xe_iinc ec831 dX8_finds_161
theorem e831_164 {ls st : List Value} {h : x_H} : x_run 831 164 ls st h = x_run 831 59 ls st h := xe_goto ec831 dX8_finds_164 rfl
theorem e831_167 {ls st : List Value} {h : x_H} : x_run 831 167 ls st h = x_run 831 168 ls (.int (q_i 0) :: st) h := xe_iconst ec831 dX8_finds_167
theorem e831_168 {ls : List Value} {h : x_H} {x : Int32} : x_run 831 168 ls [.int x] h = if narrow .int (.int x) = .int x then some (.inl (some (.int x)), h) else none := xe_ireturn ec831 dX8_finds_168 rfl
theorem ec832 : x_code 832 = cX8_newHoles := rfl
theorem e832_0 {ls st : List Value} {h : x_H} : x_run 832 0 ls st h = x_run 832 1 ls (.int (q_i 0) :: st) h := xe_iconst ec832 dX8_newHoles_0
theorem e832_1 {ls st : List Value} {h : x_H} {x : Int32}: x_run 832 1 ls (.int x :: st) h = q_ls ls 1 (.int x) (fun ls' => x_run 832 2 ls' st h) := xe_istore_n ec832 dX8_newHoles_1
theorem e832_2 {ls st : List Value} {h : x_H} : x_run 832 2 ls st h = x_run 832 3 ls (.int (q_i 0) :: st) h := xe_iconst ec832 dX8_newHoles_2
theorem e832_3 {ls st : List Value} {h : x_H} {x : Int32}: x_run 832 3 ls (.int x :: st) h = q_ls ls 2 (.int x) (fun ls' => x_run 832 4 ls' st h) := xe_istore_n ec832 dX8_newHoles_3
theorem e832_4 {ls st : List Value} {h : x_H} : x_run 832 4 ls st h = q_gi ls 2 (fun v => x_run 832 5 ls (.int v :: st) h) := xe_iload_n ec832 dX8_newHoles_4
theorem e832_5 {ls st : List Value} {h : x_H} : x_run 832 5 ls st h = x_run 832 7 ls (.int (q_i 48) :: st) h := xe_bipush ec832 dX8_newHoles_5 (by decide)
theorem e832_7 {ls st : List Value} {h : x_H} {x y : Int32}: x_run 832 7 ls (.int y :: .int x :: st) h = if y ≤ x then x_run 832 25 ls st h else x_run 832 10 ls st h := xe_ic_ge ec832 dX8_newHoles_7 rfl
theorem e832_10 {ls st : List Value} {h : x_H} : x_run 832 10 ls st h = q_gi ls 1 (fun v => x_run 832 11 ls (.int v :: st) h) := xe_iload_n ec832 dX8_newHoles_10
theorem e832_11 {ls st : List Value} {h : x_H} : x_run 832 11 ls st h = q_gr ls 0 (fun v => x_run 832 12 ls (.ref v :: st) h) := xe_aload_n ec832 dX8_newHoles_11
theorem e832_12 {ls st : List Value} {h : x_H} {a : Nat}: x_run 832 12 ls (.ref a :: st) h = q_gf h a 10 18 (fun v => x_run 832 15 ls (v :: st) h) := xe_getfield ec832 dX8_newHoles_12 ef8_39
theorem e832_15 {ls st : List Value} {h : x_H} : x_run 832 15 ls st h = q_gi ls 2 (fun v => x_run 832 16 ls (.int v :: st) h) := xe_iload_n ec832 dX8_newHoles_15
theorem e832_16 {ls st : List Value} {h : x_H} {x : Int32} {a : Nat}: x_run 832 16 ls (.int x :: .ref a :: st) h = q_ra h a 0 x (fun v => x_run 832 17 ls (.int v :: st) h) := xe_iaload ec832 dX8_newHoles_16
theorem e832_17 {ls st : List Value} {h : x_H} {x y : Int32}: x_run 832 17 ls (.int y :: .int x :: st) h = x_run 832 18 ls (.int (x + y) :: st) h := xe_iadd ec832 dX8_newHoles_17
theorem e832_18 {ls st : List Value} {h : x_H} {x : Int32}: x_run 832 18 ls (.int x :: st) h = q_ls ls 1 (.int x) (fun ls' => x_run 832 19 ls' st h) := xe_istore_n ec832 dX8_newHoles_18
theorem e832_19 {ls st : List Value} {h : x_H} : x_run 832 19 ls st h = q_gi ls 2 (fun v => if x_nd ls 2 = true then x_run 832 22 (ls.set 2 (.int (v + q_i 1))) st h else none) := xe_iinc ec832 dX8_newHoles_19
theorem e832_22 {ls st : List Value} {h : x_H} : x_run 832 22 ls st h = x_run 832 4 ls st h := xe_goto ec832 dX8_newHoles_22 rfl
theorem e832_25 {ls st : List Value} {h : x_H} : x_run 832 25 ls st h = q_gi ls 1 (fun v => x_run 832 26 ls (.int v :: st) h) := xe_iload_n ec832 dX8_newHoles_25
theorem e832_26 {ls : List Value} {h : x_H} {x : Int32} : x_run 832 26 ls [.int x] h = if narrow .int (.int x) = .int x then some (.inl (some (.int x)), h) else none := xe_ireturn ec832 dX8_newHoles_26 rfl
theorem ec833 : x_code 833 = cX8_inTheWay := rfl
theorem e833_0 {ls st : List Value} {h : x_H} : x_run 833 0 ls st h = x_run 833 1 ls (.int (q_i 0) :: st) h := xe_iconst ec833 dX8_inTheWay_0
theorem e833_1 {ls st : List Value} {h : x_H} {x : Int32}: x_run 833 1 ls (.int x :: st) h = q_ls ls 2 (.int x) (fun ls' => x_run 833 2 ls' st h) := xe_istore_n ec833 dX8_inTheWay_1
theorem e833_2 {ls st : List Value} {h : x_H} : x_run 833 2 ls st h = x_run 833 3 ls (.int (q_i 0) :: st) h := xe_iconst ec833 dX8_inTheWay_2
theorem e833_3 {ls st : List Value} {h : x_H} {x : Int32}: x_run 833 3 ls (.int x :: st) h = q_ls ls 3 (.int x) (fun ls' => x_run 833 4 ls' st h) := xe_istore_n ec833 dX8_inTheWay_3
theorem e833_4 {ls st : List Value} {h : x_H} : x_run 833 4 ls st h = q_gi ls 3 (fun v => x_run 833 5 ls (.int v :: st) h) := xe_iload_n ec833 dX8_inTheWay_4
theorem e833_5 {ls st : List Value} {h : x_H} : x_run 833 5 ls st h = x_run 833 7 ls (.int (q_i 96) :: st) h := xe_bipush ec833 dX8_inTheWay_5 (by decide)
theorem e833_7 {ls st : List Value} {h : x_H} {x y : Int32}: x_run 833 7 ls (.int y :: .int x :: st) h = if y ≤ x then x_run 833 132 ls st h else x_run 833 10 ls st h := xe_ic_ge ec833 dX8_inTheWay_7 rfl
theorem e833_10 {ls st : List Value} {h : x_H} : x_run 833 10 ls st h = q_gr ls 0 (fun v => x_run 833 11 ls (.ref v :: st) h) := xe_aload_n ec833 dX8_inTheWay_10
theorem e833_11 {ls st : List Value} {h : x_H} {a : Nat}: x_run 833 11 ls (.ref a :: st) h = q_gf h a 10 17 (fun v => x_run 833 14 ls (v :: st) h) := xe_getfield ec833 dX8_inTheWay_11 ef8_36
theorem e833_14 {ls st : List Value} {h : x_H} : x_run 833 14 ls st h = q_gi ls 3 (fun v => x_run 833 15 ls (.int v :: st) h) := xe_iload_n ec833 dX8_inTheWay_14
theorem e833_15 {ls st : List Value} {h : x_H} {x : Int32} {a : Nat}: x_run 833 15 ls (.int x :: .ref a :: st) h = q_ra h a 0 x (fun v => x_run 833 16 ls (.int v :: st) h) := xe_iaload ec833 dX8_inTheWay_15
theorem e833_16 {ls st : List Value} {h : x_H} {x : Int32}: x_run 833 16 ls (.int x :: st) h = if ¬ x = 0 then x_run 833 22 ls st h else x_run 833 19 ls st h := xe_if_ne ec833 dX8_inTheWay_16 rfl
theorem e833_19 {ls st : List Value} {h : x_H} : x_run 833 19 ls st h = x_run 833 126 ls st h := xe_goto ec833 dX8_inTheWay_19 rfl
theorem e833_22 {ls st : List Value} {h : x_H} : x_run 833 22 ls st h = q_gr ls 0 (fun v => x_run 833 23 ls (.ref v :: st) h) := xe_aload_n ec833 dX8_inTheWay_22
theorem e833_23 {ls st : List Value} {h : x_H} : x_run 833 23 ls st h = q_gi ls 3 (fun v => x_run 833 24 ls (.int v :: st) h) := xe_iload_n ec833 dX8_inTheWay_23
theorem e833_24 {ls st : List Value} {h : x_H} {b : Nat} {a1 : Value}: x_run 833 24 ls (a1 :: .ref b :: st) h = if q_rcv h b 10 = true then (if x_wt st ≤ 8 ∧ x_wt [.ref b, a1] = 2 then q_cl (x_m 814 [.ref b, a1] h) (fun v h' => x_run 833 27 ls (v.toList ++ st) h') else none) else none := xe_virt (r := [a1]) ec833 dX8_inTheWay_24 ek8_87 rfl (by decide +kernel) (by decide +kernel)
theorem e833_27 {ls st : List Value} {h : x_H} {x : Int32}: x_run 833 27 ls (.int x :: st) h = if x < 0 then x_run 833 49 ls st h else x_run 833 30 ls st h := xe_if_lt ec833 dX8_inTheWay_27 rfl
theorem e833_30 {ls st : List Value} {h : x_H} : x_run 833 30 ls st h = q_gr ls 0 (fun v => x_run 833 31 ls (.ref v :: st) h) := xe_aload_n ec833 dX8_inTheWay_30
theorem e833_31 {ls st : List Value} {h : x_H} : x_run 833 31 ls st h = q_gi ls 3 (fun v => x_run 833 32 ls (.int v :: st) h) := xe_iload_n ec833 dX8_inTheWay_31
theorem e833_32 {ls st : List Value} {h : x_H} {b : Nat} {a1 : Value}: x_run 833 32 ls (a1 :: .ref b :: st) h = if q_rcv h b 10 = true then (if x_wt st ≤ 8 ∧ x_wt [.ref b, a1] = 2 then q_cl (x_m 814 [.ref b, a1] h) (fun v h' => x_run 833 35 ls (v.toList ++ st) h') else none) else none := xe_virt (r := [a1]) ec833 dX8_inTheWay_32 ek8_87 rfl (by decide +kernel) (by decide +kernel)
theorem e833_35 {ls st : List Value} {h : x_H} : x_run 833 35 ls st h = q_gi ls 1 (fun v => x_run 833 36 ls (.int v :: st) h) := xe_iload_n ec833 dX8_inTheWay_35
theorem e833_36 {ls st : List Value} {h : x_H} {x y : Int32}: x_run 833 36 ls (.int y :: .int x :: st) h = if x = y then x_run 833 49 ls st h else x_run 833 39 ls st h := xe_ic_eq ec833 dX8_inTheWay_36 rfl
theorem e833_39 {ls st : List Value} {h : x_H} : x_run 833 39 ls st h = q_gi ls 2 (fun v => x_run 833 40 ls (.int v :: st) h) := xe_iload_n ec833 dX8_inTheWay_39
theorem e833_40 {ls st : List Value} {h : x_H} : x_run 833 40 ls st h = x_run 833 41 ls (.int (q_i 1) :: st) h := xe_iconst ec833 dX8_inTheWay_40
theorem e833_41 {ls st : List Value} {h : x_H} : x_run 833 41 ls st h = q_gr ls 0 (fun v => x_run 833 42 ls (.ref v :: st) h) := xe_aload_n ec833 dX8_inTheWay_41
theorem e833_42 {ls st : List Value} {h : x_H} : x_run 833 42 ls st h = q_gi ls 3 (fun v => x_run 833 43 ls (.int v :: st) h) := xe_iload_n ec833 dX8_inTheWay_42
theorem e833_43 {ls st : List Value} {h : x_H} {b : Nat} {a1 : Value}: x_run 833 43 ls (a1 :: .ref b :: st) h = if q_rcv h b 10 = true then (if x_wt st ≤ 8 ∧ x_wt [.ref b, a1] = 2 then q_cl (x_m 814 [.ref b, a1] h) (fun v h' => x_run 833 46 ls (v.toList ++ st) h') else none) else none := xe_virt (r := [a1]) ec833 dX8_inTheWay_43 ek8_87 rfl (by decide +kernel) (by decide +kernel)
theorem e833_46 {ls st : List Value} {h : x_H} {x y : Int32}: x_run 833 46 ls (.int y :: .int x :: st) h = x_run 833 47 ls (.int (x <<< (y &&& 31)) :: st) h := xe_ishl ec833 dX8_inTheWay_46
theorem e833_47 {ls st : List Value} {h : x_H} {x y : Int32}: x_run 833 47 ls (.int y :: .int x :: st) h = x_run 833 48 ls (.int (x ||| y) :: st) h := xe_ior ec833 dX8_inTheWay_47
theorem e833_48 {ls st : List Value} {h : x_H} {x : Int32}: x_run 833 48 ls (.int x :: st) h = q_ls ls 2 (.int x) (fun ls' => x_run 833 49 ls' st h) := xe_istore_n ec833 dX8_inTheWay_48
theorem e833_49 {ls st : List Value} {h : x_H} : x_run 833 49 ls st h = x_run 833 50 ls (.int (q_i 0) :: st) h := xe_iconst ec833 dX8_inTheWay_49
theorem e833_50 {ls st : List Value} {h : x_H} {x : Int32}: x_run 833 50 ls (.int x :: st) h = q_ls ls 4 (.int x) (fun ls' => x_run 833 52 ls' st h) := xe_istore ec833 dX8_inTheWay_50
theorem e833_52 {ls st : List Value} {h : x_H} : x_run 833 52 ls st h = q_gi ls 4 (fun v => x_run 833 54 ls (.int v :: st) h) := xe_iload ec833 dX8_inTheWay_52
theorem e833_54 {ls st : List Value} {h : x_H} : x_run 833 54 ls st h = x_run 833 55 ls (.int (q_i 4) :: st) h := xe_iconst ec833 dX8_inTheWay_54
theorem e833_55 {ls st : List Value} {h : x_H} {x y : Int32}: x_run 833 55 ls (.int y :: .int x :: st) h = if y ≤ x then x_run 833 126 ls st h else x_run 833 58 ls st h := xe_ic_ge ec833 dX8_inTheWay_55 rfl
theorem e833_58 {ls st : List Value} {h : x_H} : x_run 833 58 ls st h = q_gi ls 3 (fun v => x_run 833 59 ls (.int v :: st) h) := xe_iload_n ec833 dX8_inTheWay_58
theorem e833_59 {ls st : List Value} {h : x_H} : x_run 833 59 ls st h = q_gi ls 4 (fun v => x_run 833 61 ls (.int v :: st) h) := xe_iload ec833 dX8_inTheWay_59
theorem e833_61 {ls st : List Value} {h : x_H} {a1 a2 : Value}: x_run 833 61 ls (a2 :: a1 :: st) h = if x_wt st ≤ 8 ∧ x_wt [a1, a2] = 2 then q_cl (x_m 816 [a1, a2] h) (fun v h' => x_run 833 64 ls (v.toList ++ st) h') else none := xe_stat (args := [a1, a2]) ec833 dX8_inTheWay_61 ek8_84 (by decide) rfl (by decide +kernel) (by decide +kernel)
theorem e833_64 {ls st : List Value} {h : x_H} {x : Int32}: x_run 833 64 ls (.int x :: st) h = q_ls ls 5 (.int x) (fun ls' => x_run 833 66 ls' st h) := xe_istore ec833 dX8_inTheWay_64
theorem e833_66 {ls st : List Value} {h : x_H} : x_run 833 66 ls st h = q_gi ls 5 (fun v => x_run 833 68 ls (.int v :: st) h) := xe_iload ec833 dX8_inTheWay_66
theorem e833_68 {ls st : List Value} {h : x_H} {x : Int32}: x_run 833 68 ls (.int x :: st) h = if 0 ≤ x then x_run 833 75 ls st h else x_run 833 71 ls st h := xe_if_ge ec833 dX8_inTheWay_68 rfl
theorem e833_71 {ls st : List Value} {h : x_H} : x_run 833 71 ls st h = x_run 833 72 ls (.int (q_i (-1)) :: st) h := xe_iconst ec833 dX8_inTheWay_71
theorem e833_72 {ls st : List Value} {h : x_H} : x_run 833 72 ls st h = x_run 833 81 ls st h := xe_goto ec833 dX8_inTheWay_72 rfl
theorem e833_75 {ls st : List Value} {h : x_H} : x_run 833 75 ls st h = q_gr ls 0 (fun v => x_run 833 76 ls (.ref v :: st) h) := xe_aload_n ec833 dX8_inTheWay_75
theorem e833_76 {ls st : List Value} {h : x_H} : x_run 833 76 ls st h = q_gi ls 5 (fun v => x_run 833 78 ls (.int v :: st) h) := xe_iload ec833 dX8_inTheWay_76
theorem e833_78 {ls st : List Value} {h : x_H} {b : Nat} {a1 : Value}: x_run 833 78 ls (a1 :: .ref b :: st) h = if q_rcv h b 10 = true then (if x_wt st ≤ 8 ∧ x_wt [.ref b, a1] = 2 then q_cl (x_m 814 [.ref b, a1] h) (fun v h' => x_run 833 81 ls (v.toList ++ st) h') else none) else none := xe_virt (r := [a1]) ec833 dX8_inTheWay_78 ek8_87 rfl (by decide +kernel) (by decide +kernel)
theorem e833_81 {ls st : List Value} {h : x_H} {x : Int32}: x_run 833 81 ls (.int x :: st) h = q_ls ls 6 (.int x) (fun ls' => x_run 833 83 ls' st h) := xe_istore ec833 dX8_inTheWay_81
theorem e833_83 {ls st : List Value} {h : x_H} : x_run 833 83 ls st h = q_gi ls 6 (fun v => x_run 833 85 ls (.int v :: st) h) := xe_iload ec833 dX8_inTheWay_83
theorem e833_85 {ls st : List Value} {h : x_H} {x : Int32}: x_run 833 85 ls (.int x :: st) h = if x < 0 then x_run 833 120 ls st h else x_run 833 88 ls st h := xe_if_lt ec833 dX8_inTheWay_85 rfl
theorem e833_88 {ls st : List Value} {h : x_H} : x_run 833 88 ls st h = q_gi ls 6 (fun v => x_run 833 90 ls (.int v :: st) h) := xe_iload ec833 dX8_inTheWay_88
theorem e833_90 {ls st : List Value} {h : x_H} : x_run 833 90 ls st h = q_gi ls 1 (fun v => x_run 833 91 ls (.int v :: st) h) := xe_iload_n ec833 dX8_inTheWay_90
theorem e833_91 {ls st : List Value} {h : x_H} {x y : Int32}: x_run 833 91 ls (.int y :: .int x :: st) h = if x = y then x_run 833 120 ls st h else x_run 833 94 ls st h := xe_ic_eq ec833 dX8_inTheWay_91 rfl
theorem e833_94 {ls st : List Value} {h : x_H} : x_run 833 94 ls st h = q_gr ls 0 (fun v => x_run 833 95 ls (.ref v :: st) h) := xe_aload_n ec833 dX8_inTheWay_94
theorem e833_95 {ls st : List Value} {h : x_H} : x_run 833 95 ls st h = q_gi ls 1 (fun v => x_run 833 96 ls (.int v :: st) h) := xe_iload_n ec833 dX8_inTheWay_95
theorem e833_96 {ls st : List Value} {h : x_H} : x_run 833 96 ls st h = q_gi ls 6 (fun v => x_run 833 98 ls (.int v :: st) h) := xe_iload ec833 dX8_inTheWay_96
theorem e833_98 {ls st : List Value} {h : x_H} {b : Nat} {a1 a2 : Value}: x_run 833 98 ls (a2 :: a1 :: .ref b :: st) h = if q_rcv h b 10 = true then (if x_wt st ≤ 8 ∧ x_wt [.ref b, a1, a2] = 3 then q_cl (x_m 817 [.ref b, a1, a2] h) (fun v h' => x_run 833 101 ls (v.toList ++ st) h') else none) else none := xe_virt (r := [a1, a2]) ec833 dX8_inTheWay_98 ek8_90 rfl (by decide +kernel) (by decide +kernel)
theorem e833_101 {ls st : List Value} {h : x_H} {x : Int32}: x_run 833 101 ls (.int x :: st) h = if x = 0 then x_run 833 120 ls st h else x_run 833 104 ls st h := xe_if_eq ec833 dX8_inTheWay_101 rfl
theorem e833_104 {ls st : List Value} {h : x_H} : x_run 833 104 ls st h = q_gr ls 0 (fun v => x_run 833 105 ls (.ref v :: st) h) := xe_aload_n ec833 dX8_inTheWay_104
theorem e833_105 {ls st : List Value} {h : x_H} : x_run 833 105 ls st h = q_gi ls 5 (fun v => x_run 833 107 ls (.int v :: st) h) := xe_iload ec833 dX8_inTheWay_105
theorem e833_107 {ls st : List Value} {h : x_H} {b : Nat} {a1 : Value}: x_run 833 107 ls (a1 :: .ref b :: st) h = if q_rcv h b 10 = true then (if x_wt st ≤ 8 ∧ x_wt [.ref b, a1] = 2 then q_cl (x_m 815 [.ref b, a1] h) (fun v h' => x_run 833 110 ls (v.toList ++ st) h') else none) else none := xe_virt (r := [a1]) ec833 dX8_inTheWay_107 ek8_93 rfl (by decide +kernel) (by decide +kernel)
theorem e833_110 {ls st : List Value} {h : x_H} {x : Int32}: x_run 833 110 ls (.int x :: st) h = if ¬ x = 0 then x_run 833 120 ls st h else x_run 833 113 ls st h := xe_if_ne ec833 dX8_inTheWay_110 rfl
theorem e833_113 {ls st : List Value} {h : x_H} : x_run 833 113 ls st h = q_gi ls 2 (fun v => x_run 833 114 ls (.int v :: st) h) := xe_iload_n ec833 dX8_inTheWay_113
theorem e833_114 {ls st : List Value} {h : x_H} : x_run 833 114 ls st h = x_run 833 115 ls (.int (q_i 1) :: st) h := xe_iconst ec833 dX8_inTheWay_114
theorem e833_115 {ls st : List Value} {h : x_H} : x_run 833 115 ls st h = q_gi ls 6 (fun v => x_run 833 117 ls (.int v :: st) h) := xe_iload ec833 dX8_inTheWay_115
theorem e833_117 {ls st : List Value} {h : x_H} {x y : Int32}: x_run 833 117 ls (.int y :: .int x :: st) h = x_run 833 118 ls (.int (x <<< (y &&& 31)) :: st) h := xe_ishl ec833 dX8_inTheWay_117
theorem e833_118 {ls st : List Value} {h : x_H} {x y : Int32}: x_run 833 118 ls (.int y :: .int x :: st) h = x_run 833 119 ls (.int (x ||| y) :: st) h := xe_ior ec833 dX8_inTheWay_118
theorem e833_119 {ls st : List Value} {h : x_H} {x : Int32}: x_run 833 119 ls (.int x :: st) h = q_ls ls 2 (.int x) (fun ls' => x_run 833 120 ls' st h) := xe_istore_n ec833 dX8_inTheWay_119
theorem e833_120 {ls st : List Value} {h : x_H} : x_run 833 120 ls st h = q_gi ls 4 (fun v => if x_nd ls 4 = true then x_run 833 123 (ls.set 4 (.int (v + q_i 1))) st h else none) := xe_iinc ec833 dX8_inTheWay_120
theorem e833_123 {ls st : List Value} {h : x_H} : x_run 833 123 ls st h = x_run 833 52 ls st h := xe_goto ec833 dX8_inTheWay_123 rfl
theorem e833_126 {ls st : List Value} {h : x_H} : x_run 833 126 ls st h = q_gi ls 3 (fun v => if x_nd ls 3 = true then x_run 833 129 (ls.set 3 (.int (v + q_i 1))) st h else none) := xe_iinc ec833 dX8_inTheWay_126
theorem e833_129 {ls st : List Value} {h : x_H} : x_run 833 129 ls st h = x_run 833 4 ls st h := xe_goto ec833 dX8_inTheWay_129 rfl
theorem e833_132 {ls st : List Value} {h : x_H} : x_run 833 132 ls st h = q_gi ls 2 (fun v => x_run 833 133 ls (.int v :: st) h) := xe_iload_n ec833 dX8_inTheWay_132
theorem e833_133 {ls : List Value} {h : x_H} {x : Int32} : x_run 833 133 ls [.int x] h = if narrow .int (.int x) = .int x then some (.inl (some (.int x)), h) else none := xe_ireturn ec833 dX8_inTheWay_133 rfl
theorem ec834 : x_code 834 = cX8_wireOf := rfl
theorem e834_0 {ls st : List Value} {h : x_H} : x_run 834 0 ls st h = x_run 834 1 ls (.int (q_i 0) :: st) h := xe_iconst ec834 dX8_wireOf_0
theorem e834_1 {ls st : List Value} {h : x_H} {x : Int32}: x_run 834 1 ls (.int x :: st) h = q_ls ls 2 (.int x) (fun ls' => x_run 834 2 ls' st h) := xe_istore_n ec834 dX8_wireOf_1
theorem e834_2 {ls st : List Value} {h : x_H} : x_run 834 2 ls st h = x_run 834 3 ls (.int (q_i 0) :: st) h := xe_iconst ec834 dX8_wireOf_2
theorem e834_3 {ls st : List Value} {h : x_H} {x : Int32}: x_run 834 3 ls (.int x :: st) h = q_ls ls 3 (.int x) (fun ls' => x_run 834 4 ls' st h) := xe_istore_n ec834 dX8_wireOf_3
theorem e834_4 {ls st : List Value} {h : x_H} : x_run 834 4 ls st h = q_gi ls 3 (fun v => x_run 834 5 ls (.int v :: st) h) := xe_iload_n ec834 dX8_wireOf_4
theorem e834_5 {ls st : List Value} {h : x_H} : x_run 834 5 ls st h = x_run 834 7 ls (.int (q_i 96) :: st) h := xe_bipush ec834 dX8_wireOf_5 (by decide)
theorem e834_7 {ls st : List Value} {h : x_H} {x y : Int32}: x_run 834 7 ls (.int y :: .int x :: st) h = if y ≤ x then x_run 834 41 ls st h else x_run 834 10 ls st h := xe_ic_ge ec834 dX8_wireOf_7 rfl
theorem e834_10 {ls st : List Value} {h : x_H} : x_run 834 10 ls st h = q_gi ls 2 (fun v => x_run 834 11 ls (.int v :: st) h) := xe_iload_n ec834 dX8_wireOf_10
theorem e834_11 {ls st : List Value} {h : x_H} : x_run 834 11 ls st h = q_gr ls 0 (fun v => x_run 834 12 ls (.ref v :: st) h) := xe_aload_n ec834 dX8_wireOf_11
theorem e834_12 {ls st : List Value} {h : x_H} : x_run 834 12 ls st h = q_gi ls 3 (fun v => x_run 834 13 ls (.int v :: st) h) := xe_iload_n ec834 dX8_wireOf_12
theorem e834_13 {ls st : List Value} {h : x_H} {b : Nat} {a1 : Value}: x_run 834 13 ls (a1 :: .ref b :: st) h = if q_rcv h b 10 = true then (if x_wt st ≤ 8 ∧ x_wt [.ref b, a1] = 2 then q_cl (x_m 814 [.ref b, a1] h) (fun v h' => x_run 834 16 ls (v.toList ++ st) h') else none) else none := xe_virt (r := [a1]) ec834 dX8_wireOf_13 ek8_87 rfl (by decide +kernel) (by decide +kernel)
theorem e834_16 {ls st : List Value} {h : x_H} : x_run 834 16 ls st h = q_gi ls 1 (fun v => x_run 834 17 ls (.int v :: st) h) := xe_iload_n ec834 dX8_wireOf_16
theorem e834_17 {ls st : List Value} {h : x_H} {x y : Int32}: x_run 834 17 ls (.int y :: .int x :: st) h = if ¬ x = y then x_run 834 32 ls st h else x_run 834 20 ls st h := xe_ic_ne ec834 dX8_wireOf_17 rfl
theorem e834_20 {ls st : List Value} {h : x_H} : x_run 834 20 ls st h = q_gr ls 0 (fun v => x_run 834 21 ls (.ref v :: st) h) := xe_aload_n ec834 dX8_wireOf_20
theorem e834_21 {ls st : List Value} {h : x_H} : x_run 834 21 ls st h = q_gi ls 3 (fun v => x_run 834 22 ls (.int v :: st) h) := xe_iload_n ec834 dX8_wireOf_21
theorem e834_22 {ls st : List Value} {h : x_H} {b : Nat} {a1 : Value}: x_run 834 22 ls (a1 :: .ref b :: st) h = if q_rcv h b 10 = true then (if x_wt st ≤ 8 ∧ x_wt [.ref b, a1] = 2 then q_cl (x_m 815 [.ref b, a1] h) (fun v h' => x_run 834 25 ls (v.toList ++ st) h') else none) else none := xe_virt (r := [a1]) ec834 dX8_wireOf_22 ek8_93 rfl (by decide +kernel) (by decide +kernel)
theorem e834_25 {ls st : List Value} {h : x_H} {x : Int32}: x_run 834 25 ls (.int x :: st) h = if ¬ x = 0 then x_run 834 32 ls st h else x_run 834 28 ls st h := xe_if_ne ec834 dX8_wireOf_25 rfl
theorem e834_28 {ls st : List Value} {h : x_H} : x_run 834 28 ls st h = x_run 834 29 ls (.int (q_i 1) :: st) h := xe_iconst ec834 dX8_wireOf_28
theorem e834_29 {ls st : List Value} {h : x_H} : x_run 834 29 ls st h = x_run 834 33 ls st h := xe_goto ec834 dX8_wireOf_29 rfl
theorem e834_32 {ls st : List Value} {h : x_H} : x_run 834 32 ls st h = x_run 834 33 ls (.int (q_i 0) :: st) h := xe_iconst ec834 dX8_wireOf_32
theorem e834_33 {ls st : List Value} {h : x_H} {x y : Int32}: x_run 834 33 ls (.int y :: .int x :: st) h = x_run 834 34 ls (.int (x + y) :: st) h := xe_iadd ec834 dX8_wireOf_33
theorem e834_34 {ls st : List Value} {h : x_H} {x : Int32}: x_run 834 34 ls (.int x :: st) h = q_ls ls 2 (.int x) (fun ls' => x_run 834 35 ls' st h) := xe_istore_n ec834 dX8_wireOf_34
theorem e834_35 {ls st : List Value} {h : x_H} : x_run 834 35 ls st h = q_gi ls 3 (fun v => if x_nd ls 3 = true then x_run 834 38 (ls.set 3 (.int (v + q_i 1))) st h else none) := xe_iinc ec834 dX8_wireOf_35
theorem e834_38 {ls st : List Value} {h : x_H} : x_run 834 38 ls st h = x_run 834 4 ls st h := xe_goto ec834 dX8_wireOf_38 rfl
theorem e834_41 {ls st : List Value} {h : x_H} : x_run 834 41 ls st h = q_gi ls 2 (fun v => x_run 834 42 ls (.int v :: st) h) := xe_iload_n ec834 dX8_wireOf_41
theorem e834_42 {ls : List Value} {h : x_H} {x : Int32} : x_run 834 42 ls [.int x] h = if narrow .int (.int x) = .int x then some (.inl (some (.int x)), h) else none := xe_ireturn ec834 dX8_wireOf_42 rfl
theorem ec835 : x_code 835 = cX8_holesOf := rfl
theorem e835_0 {ls st : List Value} {h : x_H} : x_run 835 0 ls st h = x_run 835 1 ls (.int (q_i 0) :: st) h := xe_iconst ec835 dX8_holesOf_0
theorem e835_1 {ls st : List Value} {h : x_H} {x : Int32}: x_run 835 1 ls (.int x :: st) h = q_ls ls 2 (.int x) (fun ls' => x_run 835 2 ls' st h) := xe_istore_n ec835 dX8_holesOf_1
theorem e835_2 {ls st : List Value} {h : x_H} : x_run 835 2 ls st h = x_run 835 3 ls (.int (q_i 0) :: st) h := xe_iconst ec835 dX8_holesOf_2
theorem e835_3 {ls st : List Value} {h : x_H} {x : Int32}: x_run 835 3 ls (.int x :: st) h = q_ls ls 3 (.int x) (fun ls' => x_run 835 4 ls' st h) := xe_istore_n ec835 dX8_holesOf_3
theorem e835_4 {ls st : List Value} {h : x_H} : x_run 835 4 ls st h = q_gi ls 3 (fun v => x_run 835 5 ls (.int v :: st) h) := xe_iload_n ec835 dX8_holesOf_4
theorem e835_5 {ls st : List Value} {h : x_H} : x_run 835 5 ls st h = x_run 835 7 ls (.int (q_i 48) :: st) h := xe_bipush ec835 dX8_holesOf_5 (by decide)
theorem e835_7 {ls st : List Value} {h : x_H} {x y : Int32}: x_run 835 7 ls (.int y :: .int x :: st) h = if y ≤ x then x_run 835 40 ls st h else x_run 835 10 ls st h := xe_ic_ge ec835 dX8_holesOf_7 rfl
theorem e835_10 {ls st : List Value} {h : x_H} : x_run 835 10 ls st h = q_gi ls 2 (fun v => x_run 835 11 ls (.int v :: st) h) := xe_iload_n ec835 dX8_holesOf_10
theorem e835_11 {ls st : List Value} {h : x_H} : x_run 835 11 ls st h = q_gr ls 0 (fun v => x_run 835 12 ls (.ref v :: st) h) := xe_aload_n ec835 dX8_holesOf_11
theorem e835_12 {ls st : List Value} {h : x_H} {a : Nat}: x_run 835 12 ls (.ref a :: st) h = q_gf h a 10 0 (fun v => x_run 835 15 ls (v :: st) h) := xe_getfield ec835 dX8_holesOf_12 ef8_7
theorem e835_15 {ls st : List Value} {h : x_H} : x_run 835 15 ls st h = x_run 835 18 ls (.int (q_i 151) :: st) h := xe_sipush ec835 dX8_holesOf_15 (by decide)
theorem e835_18 {ls st : List Value} {h : x_H} : x_run 835 18 ls st h = q_gi ls 3 (fun v => x_run 835 19 ls (.int v :: st) h) := xe_iload_n ec835 dX8_holesOf_18
theorem e835_19 {ls st : List Value} {h : x_H} {x y : Int32}: x_run 835 19 ls (.int y :: .int x :: st) h = x_run 835 20 ls (.int (x + y) :: st) h := xe_iadd ec835 dX8_holesOf_19
theorem e835_20 {ls st : List Value} {h : x_H} {x : Int32} {a : Nat}: x_run 835 20 ls (.int x :: .ref a :: st) h = q_ra h a 0 x (fun v => x_run 835 21 ls (.int v :: st) h) := xe_iaload ec835 dX8_holesOf_20
theorem e835_21 {ls st : List Value} {h : x_H} : x_run 835 21 ls st h = q_gi ls 1 (fun v => x_run 835 22 ls (.int v :: st) h) := xe_iload_n ec835 dX8_holesOf_21
theorem e835_22 {ls st : List Value} {h : x_H} : x_run 835 22 ls st h = x_run 835 23 ls (.int (q_i 1) :: st) h := xe_iconst ec835 dX8_holesOf_22
theorem e835_23 {ls st : List Value} {h : x_H} {x y : Int32}: x_run 835 23 ls (.int y :: .int x :: st) h = x_run 835 24 ls (.int (x + y) :: st) h := xe_iadd ec835 dX8_holesOf_23
theorem e835_24 {ls st : List Value} {h : x_H} {x y : Int32}: x_run 835 24 ls (.int y :: .int x :: st) h = if ¬ x = y then x_run 835 31 ls st h else x_run 835 27 ls st h := xe_ic_ne ec835 dX8_holesOf_24 rfl
theorem e835_27 {ls st : List Value} {h : x_H} : x_run 835 27 ls st h = x_run 835 28 ls (.int (q_i 1) :: st) h := xe_iconst ec835 dX8_holesOf_27
theorem e835_28 {ls st : List Value} {h : x_H} : x_run 835 28 ls st h = x_run 835 32 ls st h := xe_goto ec835 dX8_holesOf_28 rfl
theorem e835_31 {ls st : List Value} {h : x_H} : x_run 835 31 ls st h = x_run 835 32 ls (.int (q_i 0) :: st) h := xe_iconst ec835 dX8_holesOf_31
theorem e835_32 {ls st : List Value} {h : x_H} {x y : Int32}: x_run 835 32 ls (.int y :: .int x :: st) h = x_run 835 33 ls (.int (x + y) :: st) h := xe_iadd ec835 dX8_holesOf_32
theorem e835_33 {ls st : List Value} {h : x_H} {x : Int32}: x_run 835 33 ls (.int x :: st) h = q_ls ls 2 (.int x) (fun ls' => x_run 835 34 ls' st h) := xe_istore_n ec835 dX8_holesOf_33
theorem e835_34 {ls st : List Value} {h : x_H} : x_run 835 34 ls st h = q_gi ls 3 (fun v => if x_nd ls 3 = true then x_run 835 37 (ls.set 3 (.int (v + q_i 1))) st h else none) := xe_iinc ec835 dX8_holesOf_34
theorem e835_37 {ls st : List Value} {h : x_H} : x_run 835 37 ls st h = x_run 835 4 ls st h := xe_goto ec835 dX8_holesOf_37 rfl
theorem e835_40 {ls st : List Value} {h : x_H} : x_run 835 40 ls st h = q_gi ls 2 (fun v => x_run 835 41 ls (.int v :: st) h) := xe_iload_n ec835 dX8_holesOf_40
theorem e835_41 {ls : List Value} {h : x_H} {x : Int32} : x_run 835 41 ls [.int x] h = if narrow .int (.int x) = .int x then some (.inl (some (.int x)), h) else none := xe_ireturn ec835 dX8_holesOf_41 rfl
theorem ec836 : x_code 836 = cX8_rips := rfl
theorem e836_0 {ls st : List Value} {h : x_H} : x_run 836 0 ls st h = x_run 836 1 ls (.int (q_i 0) :: st) h := xe_iconst ec836 dX8_rips_0
theorem e836_1 {ls st : List Value} {h : x_H} {x : Int32}: x_run 836 1 ls (.int x :: st) h = q_ls ls 2 (.int x) (fun ls' => x_run 836 2 ls' st h) := xe_istore_n ec836 dX8_rips_1
theorem e836_2 {ls st : List Value} {h : x_H} : x_run 836 2 ls st h = q_gi ls 2 (fun v => x_run 836 3 ls (.int v :: st) h) := xe_iload_n ec836 dX8_rips_2
theorem e836_3 {ls st : List Value} {h : x_H} : x_run 836 3 ls st h = x_run 836 5 ls (.int (q_i 96) :: st) h := xe_bipush ec836 dX8_rips_3 (by decide)
theorem e836_5 {ls st : List Value} {h : x_H} {x y : Int32}: x_run 836 5 ls (.int y :: .int x :: st) h = if y ≤ x then x_run 836 41 ls st h else x_run 836 8 ls st h := xe_ic_ge ec836 dX8_rips_5 rfl
theorem e836_8 {ls st : List Value} {h : x_H} : x_run 836 8 ls st h = q_gr ls 0 (fun v => x_run 836 9 ls (.ref v :: st) h) := xe_aload_n ec836 dX8_rips_8
theorem e836_9 {ls st : List Value} {h : x_H} : x_run 836 9 ls st h = q_gi ls 2 (fun v => x_run 836 10 ls (.int v :: st) h) := xe_iload_n ec836 dX8_rips_9
theorem e836_10 {ls st : List Value} {h : x_H} {b : Nat} {a1 : Value}: x_run 836 10 ls (a1 :: .ref b :: st) h = if q_rcv h b 10 = true then (if x_wt st ≤ 8 ∧ x_wt [.ref b, a1] = 2 then q_cl (x_m 814 [.ref b, a1] h) (fun v h' => x_run 836 13 ls (v.toList ++ st) h') else none) else none := xe_virt (r := [a1]) ec836 dX8_rips_10 ek8_87 rfl (by decide +kernel) (by decide +kernel)
theorem e836_13 {ls st : List Value} {h : x_H} : x_run 836 13 ls st h = q_gi ls 1 (fun v => x_run 836 14 ls (.int v :: st) h) := xe_iload_n ec836 dX8_rips_13
theorem e836_14 {ls st : List Value} {h : x_H} {x y : Int32}: x_run 836 14 ls (.int y :: .int x :: st) h = if ¬ x = y then x_run 836 35 ls st h else x_run 836 17 ls st h := xe_ic_ne ec836 dX8_rips_14 rfl
theorem e836_17 {ls st : List Value} {h : x_H} : x_run 836 17 ls st h = q_gr ls 0 (fun v => x_run 836 18 ls (.ref v :: st) h) := xe_aload_n ec836 dX8_rips_17
theorem e836_18 {ls st : List Value} {h : x_H} : x_run 836 18 ls st h = q_gi ls 2 (fun v => x_run 836 19 ls (.int v :: st) h) := xe_iload_n ec836 dX8_rips_18
theorem e836_19 {ls st : List Value} {h : x_H} {b : Nat} {a1 : Value}: x_run 836 19 ls (a1 :: .ref b :: st) h = if q_rcv h b 10 = true then (if x_wt st ≤ 8 ∧ x_wt [.ref b, a1] = 2 then q_cl (x_m 815 [.ref b, a1] h) (fun v h' => x_run 836 22 ls (v.toList ++ st) h') else none) else none := xe_virt (r := [a1]) ec836 dX8_rips_19 ek8_93 rfl (by decide +kernel) (by decide +kernel)
theorem e836_22 {ls st : List Value} {h : x_H} {x : Int32}: x_run 836 22 ls (.int x :: st) h = if ¬ x = 0 then x_run 836 35 ls st h else x_run 836 25 ls st h := xe_if_ne ec836 dX8_rips_22 rfl
theorem e836_25 {ls st : List Value} {h : x_H} : x_run 836 25 ls st h = q_gr ls 0 (fun v => x_run 836 26 ls (.ref v :: st) h) := xe_aload_n ec836 dX8_rips_25
theorem e836_26 {ls st : List Value} {h : x_H} {a : Nat}: x_run 836 26 ls (.ref a :: st) h = q_gf h a 10 0 (fun v => x_run 836 29 ls (v :: st) h) := xe_getfield ec836 dX8_rips_26 ef8_7
theorem e836_29 {ls st : List Value} {h : x_H} : x_run 836 29 ls st h = x_run 836 31 ls (.int (q_i 55) :: st) h := xe_bipush ec836 dX8_rips_29 (by decide)
theorem e836_31 {ls st : List Value} {h : x_H} : x_run 836 31 ls st h = q_gi ls 2 (fun v => x_run 836 32 ls (.int v :: st) h) := xe_iload_n ec836 dX8_rips_31
theorem e836_32 {ls st : List Value} {h : x_H} {x y : Int32}: x_run 836 32 ls (.int y :: .int x :: st) h = x_run 836 33 ls (.int (x + y) :: st) h := xe_iadd ec836 dX8_rips_32
theorem e836_33 {ls st : List Value} {h : x_H} : x_run 836 33 ls st h = x_run 836 34 ls (.int (q_i 0) :: st) h := xe_iconst ec836 dX8_rips_33
theorem e836_34 {ls st : List Value} {h : x_H} {x y : Int32} {a : Nat}: x_run 836 34 ls (.int y :: .int x :: .ref a :: st) h = q_wa h a 0 x y (fun h' => x_run 836 35 ls st h') := xe_iastore ec836 dX8_rips_34
theorem e836_35 {ls st : List Value} {h : x_H} : x_run 836 35 ls st h = q_gi ls 2 (fun v => if x_nd ls 2 = true then x_run 836 38 (ls.set 2 (.int (v + q_i 1))) st h else none) := xe_iinc ec836 dX8_rips_35
theorem e836_38 {ls st : List Value} {h : x_H} : x_run 836 38 ls st h = x_run 836 2 ls st h := xe_goto ec836 dX8_rips_38 rfl
theorem e836_41 {ls st : List Value} {h : x_H} : x_run 836 41 ls st h = x_run 836 42 ls (.int (q_i 0) :: st) h := xe_iconst ec836 dX8_rips_41
theorem e836_42 {ls st : List Value} {h : x_H} {x : Int32}: x_run 836 42 ls (.int x :: st) h = q_ls ls 2 (.int x) (fun ls' => x_run 836 43 ls' st h) := xe_istore_n ec836 dX8_rips_42
theorem e836_43 {ls st : List Value} {h : x_H} : x_run 836 43 ls st h = q_gi ls 2 (fun v => x_run 836 44 ls (.int v :: st) h) := xe_iload_n ec836 dX8_rips_43
theorem e836_44 {ls st : List Value} {h : x_H} : x_run 836 44 ls st h = x_run 836 46 ls (.int (q_i 48) :: st) h := xe_bipush ec836 dX8_rips_44 (by decide)
theorem e836_46 {ls st : List Value} {h : x_H} {x y : Int32}: x_run 836 46 ls (.int y :: .int x :: st) h = if y ≤ x then x_run 836 82 ls st h else x_run 836 49 ls st h := xe_ic_ge ec836 dX8_rips_46 rfl
theorem e836_49 {ls st : List Value} {h : x_H} : x_run 836 49 ls st h = q_gr ls 0 (fun v => x_run 836 50 ls (.ref v :: st) h) := xe_aload_n ec836 dX8_rips_49
theorem e836_50 {ls st : List Value} {h : x_H} {a : Nat}: x_run 836 50 ls (.ref a :: st) h = q_gf h a 10 0 (fun v => x_run 836 53 ls (v :: st) h) := xe_getfield ec836 dX8_rips_50 ef8_7
theorem e836_53 {ls st : List Value} {h : x_H} : x_run 836 53 ls st h = x_run 836 56 ls (.int (q_i 151) :: st) h := xe_sipush ec836 dX8_rips_53 (by decide)
theorem e836_56 {ls st : List Value} {h : x_H} : x_run 836 56 ls st h = q_gi ls 2 (fun v => x_run 836 57 ls (.int v :: st) h) := xe_iload_n ec836 dX8_rips_56
theorem e836_57 {ls st : List Value} {h : x_H} {x y : Int32}: x_run 836 57 ls (.int y :: .int x :: st) h = x_run 836 58 ls (.int (x + y) :: st) h := xe_iadd ec836 dX8_rips_57
theorem e836_58 {ls st : List Value} {h : x_H} {x : Int32} {a : Nat}: x_run 836 58 ls (.int x :: .ref a :: st) h = q_ra h a 0 x (fun v => x_run 836 59 ls (.int v :: st) h) := xe_iaload ec836 dX8_rips_58
theorem e836_59 {ls st : List Value} {h : x_H} : x_run 836 59 ls st h = q_gi ls 1 (fun v => x_run 836 60 ls (.int v :: st) h) := xe_iload_n ec836 dX8_rips_59
theorem e836_60 {ls st : List Value} {h : x_H} : x_run 836 60 ls st h = x_run 836 61 ls (.int (q_i 1) :: st) h := xe_iconst ec836 dX8_rips_60
theorem e836_61 {ls st : List Value} {h : x_H} {x y : Int32}: x_run 836 61 ls (.int y :: .int x :: st) h = x_run 836 62 ls (.int (x + y) :: st) h := xe_iadd ec836 dX8_rips_61
theorem e836_62 {ls st : List Value} {h : x_H} {x y : Int32}: x_run 836 62 ls (.int y :: .int x :: st) h = if ¬ x = y then x_run 836 76 ls st h else x_run 836 65 ls st h := xe_ic_ne ec836 dX8_rips_62 rfl
theorem e836_65 {ls st : List Value} {h : x_H} : x_run 836 65 ls st h = q_gr ls 0 (fun v => x_run 836 66 ls (.ref v :: st) h) := xe_aload_n ec836 dX8_rips_65
theorem e836_66 {ls st : List Value} {h : x_H} {a : Nat}: x_run 836 66 ls (.ref a :: st) h = q_gf h a 10 0 (fun v => x_run 836 69 ls (v :: st) h) := xe_getfield ec836 dX8_rips_66 ef8_7
theorem e836_69 {ls st : List Value} {h : x_H} : x_run 836 69 ls st h = x_run 836 72 ls (.int (q_i 151) :: st) h := xe_sipush ec836 dX8_rips_69 (by decide)
theorem e836_72 {ls st : List Value} {h : x_H} : x_run 836 72 ls st h = q_gi ls 2 (fun v => x_run 836 73 ls (.int v :: st) h) := xe_iload_n ec836 dX8_rips_72
theorem e836_73 {ls st : List Value} {h : x_H} {x y : Int32}: x_run 836 73 ls (.int y :: .int x :: st) h = x_run 836 74 ls (.int (x + y) :: st) h := xe_iadd ec836 dX8_rips_73
theorem e836_74 {ls st : List Value} {h : x_H} : x_run 836 74 ls st h = x_run 836 75 ls (.int (q_i 0) :: st) h := xe_iconst ec836 dX8_rips_74
theorem e836_75 {ls st : List Value} {h : x_H} {x y : Int32} {a : Nat}: x_run 836 75 ls (.int y :: .int x :: .ref a :: st) h = q_wa h a 0 x y (fun h' => x_run 836 76 ls st h') := xe_iastore ec836 dX8_rips_75
theorem e836_76 {ls st : List Value} {h : x_H} : x_run 836 76 ls st h = q_gi ls 2 (fun v => if x_nd ls 2 = true then x_run 836 79 (ls.set 2 (.int (v + q_i 1))) st h else none) := xe_iinc ec836 dX8_rips_76
theorem e836_79 {ls st : List Value} {h : x_H} : x_run 836 79 ls st h = x_run 836 43 ls st h := xe_goto ec836 dX8_rips_79 rfl
theorem e836_82 {ls st : List Value} {h : x_H} : x_run 836 82 ls st h = q_gr ls 0 (fun v => x_run 836 83 ls (.ref v :: st) h) := xe_aload_n ec836 dX8_rips_82
theorem e836_83 {ls st : List Value} {h : x_H} : x_run 836 83 ls st h = q_gi ls 1 (fun v => x_run 836 84 ls (.int v :: st) h) := xe_iload_n ec836 dX8_rips_83
theorem e836_84 {ls st : List Value} {h : x_H} : x_run 836 84 ls st h = x_run 836 86 ls (.int (q_i 6) :: st) h := xe_bipush ec836 dX8_rips_84 (by decide)
theorem e836_86 {ls st : List Value} {h : x_H} : x_run 836 86 ls st h = x_run 836 87 ls (.int (q_i 0) :: st) h := xe_iconst ec836 dX8_rips_86
theorem e836_87 {ls st : List Value} {h : x_H} {b : Nat} {a1 a2 a3 : Value}: x_run 836 87 ls (a3 :: a2 :: a1 :: .ref b :: st) h = if q_rcv h b 10 = true then (if x_wt st ≤ 8 ∧ x_wt [.ref b, a1, a2, a3] = 4 then q_cl (x_m 812 [.ref b, a1, a2, a3] h) (fun v h' => x_run 836 90 ls (v.toList ++ st) h') else none) else none := xe_virt (r := [a1, a2, a3]) ec836 dX8_rips_87 ek8_108 rfl (by decide +kernel) (by decide +kernel)
theorem e836_90 {ls st : List Value} {h : x_H} : x_run 836 90 ls st h = q_gr ls 0 (fun v => x_run 836 91 ls (.ref v :: st) h) := xe_aload_n ec836 dX8_rips_90
theorem e836_91 {ls st : List Value} {h : x_H} : x_run 836 91 ls st h = q_gi ls 1 (fun v => x_run 836 92 ls (.int v :: st) h) := xe_iload_n ec836 dX8_rips_91
theorem e836_92 {ls st : List Value} {h : x_H} : x_run 836 92 ls st h = x_run 836 94 ls (.int (q_i 7) :: st) h := xe_bipush ec836 dX8_rips_92 (by decide)
theorem e836_94 {ls st : List Value} {h : x_H} : x_run 836 94 ls st h = x_run 836 95 ls (.int (q_i 0) :: st) h := xe_iconst ec836 dX8_rips_94
theorem e836_95 {ls st : List Value} {h : x_H} {b : Nat} {a1 a2 a3 : Value}: x_run 836 95 ls (a3 :: a2 :: a1 :: .ref b :: st) h = if q_rcv h b 10 = true then (if x_wt st ≤ 8 ∧ x_wt [.ref b, a1, a2, a3] = 4 then q_cl (x_m 812 [.ref b, a1, a2, a3] h) (fun v h' => x_run 836 98 ls (v.toList ++ st) h') else none) else none := xe_virt (r := [a1, a2, a3]) ec836 dX8_rips_95 ek8_108 rfl (by decide +kernel) (by decide +kernel)
theorem e836_98 {ls st : List Value} {h : x_H} : x_run 836 98 ls st h = q_gr ls 0 (fun v => x_run 836 99 ls (.ref v :: st) h) := xe_aload_n ec836 dX8_rips_98
theorem e836_99 {ls st : List Value} {h : x_H} : x_run 836 99 ls st h = q_gi ls 1 (fun v => x_run 836 100 ls (.int v :: st) h) := xe_iload_n ec836 dX8_rips_99
theorem e836_100 {ls st : List Value} {h : x_H} : x_run 836 100 ls st h = x_run 836 102 ls (.int (q_i 8) :: st) h := xe_bipush ec836 dX8_rips_100 (by decide)
theorem e836_102 {ls st : List Value} {h : x_H} : x_run 836 102 ls st h = q_gr ls 0 (fun v => x_run 836 103 ls (.ref v :: st) h) := xe_aload_n ec836 dX8_rips_102
theorem e836_103 {ls st : List Value} {h : x_H} : x_run 836 103 ls st h = q_gi ls 1 (fun v => x_run 836 104 ls (.int v :: st) h) := xe_iload_n ec836 dX8_rips_103
theorem e836_104 {ls st : List Value} {h : x_H} : x_run 836 104 ls st h = x_run 836 106 ls (.int (q_i 8) :: st) h := xe_bipush ec836 dX8_rips_104 (by decide)
theorem e836_106 {ls st : List Value} {h : x_H} {b : Nat} {a1 a2 : Value}: x_run 836 106 ls (a2 :: a1 :: .ref b :: st) h = if q_rcv h b 10 = true then (if x_wt st ≤ 8 ∧ x_wt [.ref b, a1, a2] = 3 then q_cl (x_m 811 [.ref b, a1, a2] h) (fun v h' => x_run 836 109 ls (v.toList ++ st) h') else none) else none := xe_virt (r := [a1, a2]) ec836 dX8_rips_106 ek8_80 rfl (by decide +kernel) (by decide +kernel)
theorem e836_109 {ls st : List Value} {h : x_H} : x_run 836 109 ls st h = x_run 836 110 ls (.int (q_i 1) :: st) h := xe_iconst ec836 dX8_rips_109
theorem e836_110 {ls st : List Value} {h : x_H} {x y : Int32}: x_run 836 110 ls (.int y :: .int x :: st) h = x_run 836 111 ls (.int (x + y) :: st) h := xe_iadd ec836 dX8_rips_110
theorem e836_111 {ls st : List Value} {h : x_H} {b : Nat} {a1 a2 a3 : Value}: x_run 836 111 ls (a3 :: a2 :: a1 :: .ref b :: st) h = if q_rcv h b 10 = true then (if x_wt st ≤ 8 ∧ x_wt [.ref b, a1, a2, a3] = 4 then q_cl (x_m 812 [.ref b, a1, a2, a3] h) (fun v h' => x_run 836 114 ls (v.toList ++ st) h') else none) else none := xe_virt (r := [a1, a2, a3]) ec836 dX8_rips_111 ek8_108 rfl (by decide +kernel) (by decide +kernel)
theorem e836_114 {ls : List Value} {h : x_H} : x_run 836 114 ls [] h = some (.inl (none), h) := xe_return ec836 dX8_rips_114 rfl
theorem ec837 : x_code 837 = cX8_allHoles := rfl
theorem e837_0 {ls st : List Value} {h : x_H} : x_run 837 0 ls st h = x_run 837 1 ls (.int (q_i 0) :: st) h := xe_iconst ec837 dX8_allHoles_0
theorem e837_1 {ls st : List Value} {h : x_H} {x : Int32}: x_run 837 1 ls (.int x :: st) h = q_ls ls 1 (.int x) (fun ls' => x_run 837 2 ls' st h) := xe_istore_n ec837 dX8_allHoles_1
theorem e837_2 {ls st : List Value} {h : x_H} : x_run 837 2 ls st h = x_run 837 3 ls (.int (q_i 0) :: st) h := xe_iconst ec837 dX8_allHoles_2
theorem e837_3 {ls st : List Value} {h : x_H} {x : Int32}: x_run 837 3 ls (.int x :: st) h = q_ls ls 2 (.int x) (fun ls' => x_run 837 4 ls' st h) := xe_istore_n ec837 dX8_allHoles_3
theorem e837_4 {ls st : List Value} {h : x_H} : x_run 837 4 ls st h = q_gi ls 2 (fun v => x_run 837 5 ls (.int v :: st) h) := xe_iload_n ec837 dX8_allHoles_4
theorem e837_5 {ls st : List Value} {h : x_H} : x_run 837 5 ls st h = x_run 837 7 ls (.int (q_i 48) :: st) h := xe_bipush ec837 dX8_allHoles_5 (by decide)
theorem e837_7 {ls st : List Value} {h : x_H} {x y : Int32}: x_run 837 7 ls (.int y :: .int x :: st) h = if y ≤ x then x_run 837 37 ls st h else x_run 837 10 ls st h := xe_ic_ge ec837 dX8_allHoles_7 rfl
theorem e837_10 {ls st : List Value} {h : x_H} : x_run 837 10 ls st h = q_gi ls 1 (fun v => x_run 837 11 ls (.int v :: st) h) := xe_iload_n ec837 dX8_allHoles_10
theorem e837_11 {ls st : List Value} {h : x_H} : x_run 837 11 ls st h = q_gr ls 0 (fun v => x_run 837 12 ls (.ref v :: st) h) := xe_aload_n ec837 dX8_allHoles_11
theorem e837_12 {ls st : List Value} {h : x_H} {a : Nat}: x_run 837 12 ls (.ref a :: st) h = q_gf h a 10 0 (fun v => x_run 837 15 ls (v :: st) h) := xe_getfield ec837 dX8_allHoles_12 ef8_7
theorem e837_15 {ls st : List Value} {h : x_H} : x_run 837 15 ls st h = x_run 837 18 ls (.int (q_i 151) :: st) h := xe_sipush ec837 dX8_allHoles_15 (by decide)
theorem e837_18 {ls st : List Value} {h : x_H} : x_run 837 18 ls st h = q_gi ls 2 (fun v => x_run 837 19 ls (.int v :: st) h) := xe_iload_n ec837 dX8_allHoles_18
theorem e837_19 {ls st : List Value} {h : x_H} {x y : Int32}: x_run 837 19 ls (.int y :: .int x :: st) h = x_run 837 20 ls (.int (x + y) :: st) h := xe_iadd ec837 dX8_allHoles_19
theorem e837_20 {ls st : List Value} {h : x_H} {x : Int32} {a : Nat}: x_run 837 20 ls (.int x :: .ref a :: st) h = q_ra h a 0 x (fun v => x_run 837 21 ls (.int v :: st) h) := xe_iaload ec837 dX8_allHoles_20
theorem e837_21 {ls st : List Value} {h : x_H} {x : Int32}: x_run 837 21 ls (.int x :: st) h = if x ≤ 0 then x_run 837 28 ls st h else x_run 837 24 ls st h := xe_if_le ec837 dX8_allHoles_21 rfl
theorem e837_24 {ls st : List Value} {h : x_H} : x_run 837 24 ls st h = x_run 837 25 ls (.int (q_i 1) :: st) h := xe_iconst ec837 dX8_allHoles_24
theorem e837_25 {ls st : List Value} {h : x_H} : x_run 837 25 ls st h = x_run 837 29 ls st h := xe_goto ec837 dX8_allHoles_25 rfl
theorem e837_28 {ls st : List Value} {h : x_H} : x_run 837 28 ls st h = x_run 837 29 ls (.int (q_i 0) :: st) h := xe_iconst ec837 dX8_allHoles_28
theorem e837_29 {ls st : List Value} {h : x_H} {x y : Int32}: x_run 837 29 ls (.int y :: .int x :: st) h = x_run 837 30 ls (.int (x + y) :: st) h := xe_iadd ec837 dX8_allHoles_29
theorem e837_30 {ls st : List Value} {h : x_H} {x : Int32}: x_run 837 30 ls (.int x :: st) h = q_ls ls 1 (.int x) (fun ls' => x_run 837 31 ls' st h) := xe_istore_n ec837 dX8_allHoles_30
theorem e837_31 {ls st : List Value} {h : x_H} : x_run 837 31 ls st h = q_gi ls 2 (fun v => if x_nd ls 2 = true then x_run 837 34 (ls.set 2 (.int (v + q_i 1))) st h else none) := xe_iinc ec837 dX8_allHoles_31
theorem e837_34 {ls st : List Value} {h : x_H} : x_run 837 34 ls st h = x_run 837 4 ls st h := xe_goto ec837 dX8_allHoles_34 rfl
theorem e837_37 {ls st : List Value} {h : x_H} : x_run 837 37 ls st h = q_gi ls 1 (fun v => x_run 837 38 ls (.int v :: st) h) := xe_iload_n ec837 dX8_allHoles_37
theorem e837_38 {ls : List Value} {h : x_H} {x : Int32} : x_run 837 38 ls [.int x] h = if narrow .int (.int x) = .int x then some (.inl (some (.int x)), h) else none := xe_ireturn ec837 dX8_allHoles_38 rfl
theorem ec838 : x_code 838 = cX8_cannotRoute := rfl
theorem e838_0 {ls st : List Value} {h : x_H} : x_run 838 0 ls st h = q_gr ls 0 (fun v => x_run 838 1 ls (.ref v :: st) h) := xe_aload_n ec838 dX8_cannotRoute_0
theorem e838_1 {ls st : List Value} {h : x_H} : x_run 838 1 ls st h = q_gi ls 1 (fun v => x_run 838 2 ls (.int v :: st) h) := xe_iload_n ec838 dX8_cannotRoute_1
theorem e838_2 {ls st : List Value} {h : x_H} {b : Nat} {a1 : Value}: x_run 838 2 ls (a1 :: .ref b :: st) h = if q_rcv h b 10 = true then (if x_wt st ≤ 8 ∧ x_wt [.ref b, a1] = 2 then q_cl (x_m 810 [.ref b, a1] h) (fun v h' => x_run 838 5 ls (v.toList ++ st) h') else none) else none := xe_virt (r := [a1]) ec838 dX8_cannotRoute_2 ek8_112 rfl (by decide +kernel) (by decide +kernel)
theorem e838_5 {ls st : List Value} {h : x_H} {x : Int32}: x_run 838 5 ls (.int x :: st) h = if ¬ x = 0 then x_run 838 18 ls st h else x_run 838 8 ls st h := xe_if_ne ec838 dX8_cannotRoute_5 rfl
theorem e838_8 {ls st : List Value} {h : x_H} : x_run 838 8 ls st h = q_gr ls 0 (fun v => x_run 838 9 ls (.ref v :: st) h) := xe_aload_n ec838 dX8_cannotRoute_8
theorem e838_9 {ls st : List Value} {h : x_H} : x_run 838 9 ls st h = x_run 838 10 ls (.int (q_i 3) :: st) h := xe_iconst ec838 dX8_cannotRoute_9
theorem e838_10 {ls st : List Value} {h : x_H} : x_run 838 10 ls st h = q_gi ls 1 (fun v => x_run 838 11 ls (.int v :: st) h) := xe_iload_n ec838 dX8_cannotRoute_10
theorem e838_11 {ls st : List Value} {h : x_H} {b : Nat} {a1 a2 : Value}: x_run 838 11 ls (a2 :: a1 :: .ref b :: st) h = if q_rcv h b 10 = true then (if x_wt st ≤ 8 ∧ x_wt [.ref b, a1, a2] = 3 then q_cl (x_m 803 [.ref b, a1, a2] h) (fun v h' => x_run 838 14 ls (v.toList ++ st) h') else none) else none := xe_virt (r := [a1, a2]) ec838 dX8_cannotRoute_11 ek8_101 rfl (by decide +kernel) (by decide +kernel)
theorem e838_14 {ls st : List Value} {h : x_H} {v : Value} (hv : v.category = 1): x_run 838 14 ls (v :: st) h = x_run 838 15 ls st h := xe_pop ec838 dX8_cannotRoute_14 hv
theorem e838_15 {ls st : List Value} {h : x_H} : x_run 838 15 ls st h = x_run 838 86 ls st h := xe_goto ec838 dX8_cannotRoute_15 rfl
theorem e838_18 {ls st : List Value} {h : x_H} : x_run 838 18 ls st h = q_gr ls 0 (fun v => x_run 838 19 ls (.ref v :: st) h) := xe_aload_n ec838 dX8_cannotRoute_18
theorem e838_19 {ls st : List Value} {h : x_H} : x_run 838 19 ls st h = q_gi ls 1 (fun v => x_run 838 20 ls (.int v :: st) h) := xe_iload_n ec838 dX8_cannotRoute_19
theorem e838_20 {ls st : List Value} {h : x_H} : x_run 838 20 ls st h = x_run 838 22 ls (.int (q_i 6) :: st) h := xe_bipush ec838 dX8_cannotRoute_20 (by decide)
theorem e838_22 {ls st : List Value} {h : x_H} {b : Nat} {a1 a2 : Value}: x_run 838 22 ls (a2 :: a1 :: .ref b :: st) h = if q_rcv h b 10 = true then (if x_wt st ≤ 8 ∧ x_wt [.ref b, a1, a2] = 3 then q_cl (x_m 811 [.ref b, a1, a2] h) (fun v h' => x_run 838 25 ls (v.toList ++ st) h') else none) else none := xe_virt (r := [a1, a2]) ec838 dX8_cannotRoute_22 ek8_80 rfl (by decide +kernel) (by decide +kernel)
theorem e838_25 {ls st : List Value} {h : x_H} : x_run 838 25 ls st h = x_run 838 26 ls (.int (q_i 1) :: st) h := xe_iconst ec838 dX8_cannotRoute_25
theorem e838_26 {ls st : List Value} {h : x_H} {x y : Int32}: x_run 838 26 ls (.int y :: .int x :: st) h = if ¬ x = y then x_run 838 39 ls st h else x_run 838 29 ls st h := xe_ic_ne ec838 dX8_cannotRoute_26 rfl
theorem e838_29 {ls st : List Value} {h : x_H} : x_run 838 29 ls st h = q_gr ls 0 (fun v => x_run 838 30 ls (.ref v :: st) h) := xe_aload_n ec838 dX8_cannotRoute_29
theorem e838_30 {ls st : List Value} {h : x_H} : x_run 838 30 ls st h = x_run 838 31 ls (.int (q_i 4) :: st) h := xe_iconst ec838 dX8_cannotRoute_30
theorem e838_31 {ls st : List Value} {h : x_H} : x_run 838 31 ls st h = q_gi ls 1 (fun v => x_run 838 32 ls (.int v :: st) h) := xe_iload_n ec838 dX8_cannotRoute_31
theorem e838_32 {ls st : List Value} {h : x_H} {b : Nat} {a1 a2 : Value}: x_run 838 32 ls (a2 :: a1 :: .ref b :: st) h = if q_rcv h b 10 = true then (if x_wt st ≤ 8 ∧ x_wt [.ref b, a1, a2] = 3 then q_cl (x_m 803 [.ref b, a1, a2] h) (fun v h' => x_run 838 35 ls (v.toList ++ st) h') else none) else none := xe_virt (r := [a1, a2]) ec838 dX8_cannotRoute_32 ek8_101 rfl (by decide +kernel) (by decide +kernel)
theorem e838_35 {ls st : List Value} {h : x_H} {v : Value} (hv : v.category = 1): x_run 838 35 ls (v :: st) h = x_run 838 36 ls st h := xe_pop ec838 dX8_cannotRoute_35 hv
theorem e838_36 {ls st : List Value} {h : x_H} : x_run 838 36 ls st h = x_run 838 86 ls st h := xe_goto ec838 dX8_cannotRoute_36 rfl
theorem e838_39 {ls st : List Value} {h : x_H} : x_run 838 39 ls st h = q_gr ls 0 (fun v => x_run 838 40 ls (.ref v :: st) h) := xe_aload_n ec838 dX8_cannotRoute_39
theorem e838_40 {ls st : List Value} {h : x_H} : x_run 838 40 ls st h = q_gi ls 1 (fun v => x_run 838 41 ls (.int v :: st) h) := xe_iload_n ec838 dX8_cannotRoute_40
theorem e838_41 {ls st : List Value} {h : x_H} : x_run 838 41 ls st h = x_run 838 42 ls (.int (q_i 1) :: st) h := xe_iconst ec838 dX8_cannotRoute_41
theorem e838_42 {ls st : List Value} {h : x_H} {b : Nat} {a1 a2 : Value}: x_run 838 42 ls (a2 :: a1 :: .ref b :: st) h = if q_rcv h b 10 = true then (if x_wt st ≤ 8 ∧ x_wt [.ref b, a1, a2] = 3 then q_cl (x_m 811 [.ref b, a1, a2] h) (fun v h' => x_run 838 45 ls (v.toList ++ st) h') else none) else none := xe_virt (r := [a1, a2]) ec838 dX8_cannotRoute_42 ek8_80 rfl (by decide +kernel) (by decide +kernel)
theorem e838_45 {ls st : List Value} {h : x_H} : x_run 838 45 ls st h = x_run 838 46 ls (.int (q_i 2) :: st) h := xe_iconst ec838 dX8_cannotRoute_45
theorem e838_46 {ls st : List Value} {h : x_H} {x y : Int32}: x_run 838 46 ls (.int y :: .int x :: st) h = if y ≤ x then x_run 838 65 ls st h else x_run 838 49 ls st h := xe_ic_ge ec838 dX8_cannotRoute_46 rfl
theorem e838_49 {ls st : List Value} {h : x_H} : x_run 838 49 ls st h = q_gr ls 0 (fun v => x_run 838 50 ls (.ref v :: st) h) := xe_aload_n ec838 dX8_cannotRoute_49
theorem e838_50 {ls st : List Value} {h : x_H} : x_run 838 50 ls st h = x_run 838 52 ls (.int (q_i 8) :: st) h := xe_bipush ec838 dX8_cannotRoute_50 (by decide)
theorem e838_52 {ls st : List Value} {h : x_H} : x_run 838 52 ls st h = q_gr ls 0 (fun v => x_run 838 53 ls (.ref v :: st) h) := xe_aload_n ec838 dX8_cannotRoute_52
theorem e838_53 {ls st : List Value} {h : x_H} : x_run 838 53 ls st h = q_gi ls 1 (fun v => x_run 838 54 ls (.int v :: st) h) := xe_iload_n ec838 dX8_cannotRoute_53
theorem e838_54 {ls st : List Value} {h : x_H} : x_run 838 54 ls st h = x_run 838 55 ls (.int (q_i 1) :: st) h := xe_iconst ec838 dX8_cannotRoute_54
theorem e838_55 {ls st : List Value} {h : x_H} {b : Nat} {a1 a2 : Value}: x_run 838 55 ls (a2 :: a1 :: .ref b :: st) h = if q_rcv h b 10 = true then (if x_wt st ≤ 8 ∧ x_wt [.ref b, a1, a2] = 3 then q_cl (x_m 811 [.ref b, a1, a2] h) (fun v h' => x_run 838 58 ls (v.toList ++ st) h') else none) else none := xe_virt (r := [a1, a2]) ec838 dX8_cannotRoute_55 ek8_80 rfl (by decide +kernel) (by decide +kernel)
theorem e838_58 {ls st : List Value} {h : x_H} {b : Nat} {a1 a2 : Value}: x_run 838 58 ls (a2 :: a1 :: .ref b :: st) h = if q_rcv h b 10 = true then (if x_wt st ≤ 8 ∧ x_wt [.ref b, a1, a2] = 3 then q_cl (x_m 803 [.ref b, a1, a2] h) (fun v h' => x_run 838 61 ls (v.toList ++ st) h') else none) else none := xe_virt (r := [a1, a2]) ec838 dX8_cannotRoute_58 ek8_101 rfl (by decide +kernel) (by decide +kernel)
theorem e838_61 {ls st : List Value} {h : x_H} {v : Value} (hv : v.category = 1): x_run 838 61 ls (v :: st) h = x_run 838 62 ls st h := xe_pop ec838 dX8_cannotRoute_61 hv
theorem e838_62 {ls st : List Value} {h : x_H} : x_run 838 62 ls st h = x_run 838 86 ls st h := xe_goto ec838 dX8_cannotRoute_62 rfl
theorem e838_65 {ls st : List Value} {h : x_H} : x_run 838 65 ls st h = q_gr ls 0 (fun v => x_run 838 66 ls (.ref v :: st) h) := xe_aload_n ec838 dX8_cannotRoute_65
theorem e838_66 {ls st : List Value} {h : x_H} : x_run 838 66 ls st h = q_gi ls 1 (fun v => x_run 838 67 ls (.int v :: st) h) := xe_iload_n ec838 dX8_cannotRoute_66
theorem e838_67 {ls st : List Value} {h : x_H} : x_run 838 67 ls st h = q_gi ls 2 (fun v => x_run 838 68 ls (.int v :: st) h) := xe_iload_n ec838 dX8_cannotRoute_67
theorem e838_68 {ls st : List Value} {h : x_H} {b : Nat} {a1 a2 : Value}: x_run 838 68 ls (a2 :: a1 :: .ref b :: st) h = if q_rcv h b 10 = true then (if x_wt st ≤ 8 ∧ x_wt [.ref b, a1, a2] = 3 then q_cl (x_m 831 [.ref b, a1, a2] h) (fun v h' => x_run 838 71 ls (v.toList ++ st) h') else none) else none := xe_virt (r := [a1, a2]) ec838 dX8_cannotRoute_68 ek8_154 rfl (by decide +kernel) (by decide +kernel)
theorem e838_71 {ls st : List Value} {h : x_H} {x : Int32}: x_run 838 71 ls (.int x :: st) h = q_ls ls 3 (.int x) (fun ls' => x_run 838 72 ls' st h) := xe_istore_n ec838 dX8_cannotRoute_71
theorem e838_72 {ls st : List Value} {h : x_H} : x_run 838 72 ls st h = q_gi ls 3 (fun v => x_run 838 73 ls (.int v :: st) h) := xe_iload_n ec838 dX8_cannotRoute_72
theorem e838_73 {ls st : List Value} {h : x_H} {x : Int32}: x_run 838 73 ls (.int x :: st) h = if ¬ x = 0 then x_run 838 78 ls st h else x_run 838 76 ls st h := xe_if_ne ec838 dX8_cannotRoute_73 rfl
theorem e838_76 {ls st : List Value} {h : x_H} : x_run 838 76 ls st h = x_run 838 77 ls (.int (q_i 0) :: st) h := xe_iconst ec838 dX8_cannotRoute_76
theorem e838_77 {ls : List Value} {h : x_H} {x : Int32} : x_run 838 77 ls [.int x] h = if narrow .boolean (.int x) = .int x then some (.inl (some (.int x)), h) else none := xe_ireturn ec838 dX8_cannotRoute_77 rfl
theorem e838_78 {ls st : List Value} {h : x_H} : x_run 838 78 ls st h = q_gr ls 0 (fun v => x_run 838 79 ls (.ref v :: st) h) := xe_aload_n ec838 dX8_cannotRoute_78
theorem e838_79 {ls st : List Value} {h : x_H} : x_run 838 79 ls st h = x_run 838 81 ls (.int (q_i 9) :: st) h := xe_bipush ec838 dX8_cannotRoute_79 (by decide)
theorem e838_81 {ls st : List Value} {h : x_H} : x_run 838 81 ls st h = q_gi ls 3 (fun v => x_run 838 82 ls (.int v :: st) h) := xe_iload_n ec838 dX8_cannotRoute_81
theorem e838_82 {ls st : List Value} {h : x_H} {b : Nat} {a1 a2 : Value}: x_run 838 82 ls (a2 :: a1 :: .ref b :: st) h = if q_rcv h b 10 = true then (if x_wt st ≤ 8 ∧ x_wt [.ref b, a1, a2] = 3 then q_cl (x_m 803 [.ref b, a1, a2] h) (fun v h' => x_run 838 85 ls (v.toList ++ st) h') else none) else none := xe_virt (r := [a1, a2]) ec838 dX8_cannotRoute_82 ek8_101 rfl (by decide +kernel) (by decide +kernel)
theorem e838_85 {ls st : List Value} {h : x_H} {v : Value} (hv : v.category = 1): x_run 838 85 ls (v :: st) h = x_run 838 86 ls st h := xe_pop ec838 dX8_cannotRoute_85 hv
theorem e838_86 {ls st : List Value} {h : x_H} : x_run 838 86 ls st h = x_run 838 87 ls (.int (q_i 1) :: st) h := xe_iconst ec838 dX8_cannotRoute_86
theorem e838_87 {ls : List Value} {h : x_H} {x : Int32} : x_run 838 87 ls [.int x] h = if narrow .boolean (.int x) = .int x then some (.inl (some (.int x)), h) else none := xe_ireturn ec838 dX8_cannotRoute_87 rfl
theorem ec839 : x_code 839 = cX8_routes := rfl
theorem e839_0 {ls st : List Value} {h : x_H} : x_run 839 0 ls st h = x_run 839 1 ls (.int (q_i 0) :: st) h := xe_iconst ec839 dX8_routes_0
theorem e839_1 {ls st : List Value} {h : x_H} {x : Int32}: x_run 839 1 ls (.int x :: st) h = q_ls ls 2 (.int x) (fun ls' => x_run 839 2 ls' st h) := xe_istore_n ec839 dX8_routes_1
theorem e839_2 {ls st : List Value} {h : x_H} : x_run 839 2 ls st h = q_gi ls 2 (fun v => x_run 839 3 ls (.int v :: st) h) := xe_iload_n ec839 dX8_routes_2
theorem e839_3 {ls st : List Value} {h : x_H} : x_run 839 3 ls st h = x_run 839 5 ls (.int (q_i 96) :: st) h := xe_bipush ec839 dX8_routes_3 (by decide)
theorem e839_5 {ls st : List Value} {h : x_H} {x y : Int32}: x_run 839 5 ls (.int y :: .int x :: st) h = if y ≤ x then x_run 839 46 ls st h else x_run 839 8 ls st h := xe_ic_ge ec839 dX8_routes_5 rfl
theorem e839_8 {ls st : List Value} {h : x_H} : x_run 839 8 ls st h = q_gr ls 0 (fun v => x_run 839 9 ls (.ref v :: st) h) := xe_aload_n ec839 dX8_routes_8
theorem e839_9 {ls st : List Value} {h : x_H} {a : Nat}: x_run 839 9 ls (.ref a :: st) h = q_gf h a 10 17 (fun v => x_run 839 12 ls (v :: st) h) := xe_getfield ec839 dX8_routes_9 ef8_36
theorem e839_12 {ls st : List Value} {h : x_H} : x_run 839 12 ls st h = q_gi ls 2 (fun v => x_run 839 13 ls (.int v :: st) h) := xe_iload_n ec839 dX8_routes_12
theorem e839_13 {ls st : List Value} {h : x_H} {x : Int32} {a : Nat}: x_run 839 13 ls (.int x :: .ref a :: st) h = q_ra h a 0 x (fun v => x_run 839 14 ls (.int v :: st) h) := xe_iaload ec839 dX8_routes_13
theorem e839_14 {ls st : List Value} {h : x_H} : x_run 839 14 ls st h = x_run 839 15 ls (.int (q_i 1) :: st) h := xe_iconst ec839 dX8_routes_14
theorem e839_15 {ls st : List Value} {h : x_H} {x y : Int32}: x_run 839 15 ls (.int y :: .int x :: st) h = if ¬ x = y then x_run 839 40 ls st h else x_run 839 18 ls st h := xe_ic_ne ec839 dX8_routes_15 rfl
theorem e839_18 {ls st : List Value} {h : x_H} : x_run 839 18 ls st h = q_gr ls 0 (fun v => x_run 839 19 ls (.ref v :: st) h) := xe_aload_n ec839 dX8_routes_18
theorem e839_19 {ls st : List Value} {h : x_H} : x_run 839 19 ls st h = q_gi ls 2 (fun v => x_run 839 20 ls (.int v :: st) h) := xe_iload_n ec839 dX8_routes_19
theorem e839_20 {ls st : List Value} {h : x_H} {b : Nat} {a1 : Value}: x_run 839 20 ls (a1 :: .ref b :: st) h = if q_rcv h b 10 = true then (if x_wt st ≤ 8 ∧ x_wt [.ref b, a1] = 2 then q_cl (x_m 813 [.ref b, a1] h) (fun v h' => x_run 839 23 ls (v.toList ++ st) h') else none) else none := xe_virt (r := [a1]) ec839 dX8_routes_20 ek8_76 rfl (by decide +kernel) (by decide +kernel)
theorem e839_23 {ls st : List Value} {h : x_H} {x : Int32}: x_run 839 23 ls (.int x :: st) h = if ¬ x = 0 then x_run 839 40 ls st h else x_run 839 26 ls st h := xe_if_ne ec839 dX8_routes_23 rfl
theorem e839_26 {ls st : List Value} {h : x_H} : x_run 839 26 ls st h = q_gr ls 0 (fun v => x_run 839 27 ls (.ref v :: st) h) := xe_aload_n ec839 dX8_routes_26
theorem e839_27 {ls st : List Value} {h : x_H} {a : Nat}: x_run 839 27 ls (.ref a :: st) h = q_gf h a 10 0 (fun v => x_run 839 30 ls (v :: st) h) := xe_getfield ec839 dX8_routes_27 ef8_7
theorem e839_30 {ls st : List Value} {h : x_H} : x_run 839 30 ls st h = x_run 839 32 ls (.int (q_i 55) :: st) h := xe_bipush ec839 dX8_routes_30 (by decide)
theorem e839_32 {ls st : List Value} {h : x_H} : x_run 839 32 ls st h = q_gi ls 2 (fun v => x_run 839 33 ls (.int v :: st) h) := xe_iload_n ec839 dX8_routes_32
theorem e839_33 {ls st : List Value} {h : x_H} {x y : Int32}: x_run 839 33 ls (.int y :: .int x :: st) h = x_run 839 34 ls (.int (x + y) :: st) h := xe_iadd ec839 dX8_routes_33
theorem e839_34 {ls st : List Value} {h : x_H} : x_run 839 34 ls st h = x_run 839 35 ls (.int (q_i 3) :: st) h := xe_iconst ec839 dX8_routes_34
theorem e839_35 {ls st : List Value} {h : x_H} : x_run 839 35 ls st h = x_run 839 36 ls (.int (q_i 2) :: st) h := xe_iconst ec839 dX8_routes_35
theorem e839_36 {ls st : List Value} {h : x_H} : x_run 839 36 ls st h = q_gi ls 1 (fun v => x_run 839 37 ls (.int v :: st) h) := xe_iload_n ec839 dX8_routes_36
theorem e839_37 {ls st : List Value} {h : x_H} {x y : Int32}: x_run 839 37 ls (.int y :: .int x :: st) h = x_run 839 38 ls (.int (x * y) :: st) h := xe_imul ec839 dX8_routes_37
theorem e839_38 {ls st : List Value} {h : x_H} {x y : Int32}: x_run 839 38 ls (.int y :: .int x :: st) h = x_run 839 39 ls (.int (x + y) :: st) h := xe_iadd ec839 dX8_routes_38
theorem e839_39 {ls st : List Value} {h : x_H} {x y : Int32} {a : Nat}: x_run 839 39 ls (.int y :: .int x :: .ref a :: st) h = q_wa h a 0 x y (fun h' => x_run 839 40 ls st h') := xe_iastore ec839 dX8_routes_39
theorem e839_40 {ls st : List Value} {h : x_H} : x_run 839 40 ls st h = q_gi ls 2 (fun v => if x_nd ls 2 = true then x_run 839 43 (ls.set 2 (.int (v + q_i 1))) st h else none) := xe_iinc ec839 dX8_routes_40
theorem e839_43 {ls st : List Value} {h : x_H} : x_run 839 43 ls st h = x_run 839 2 ls st h := xe_goto ec839 dX8_routes_43 rfl
theorem e839_46 {ls st : List Value} {h : x_H} : x_run 839 46 ls st h = x_run 839 47 ls (.int (q_i 0) :: st) h := xe_iconst ec839 dX8_routes_46
theorem e839_47 {ls st : List Value} {h : x_H} {x : Int32}: x_run 839 47 ls (.int x :: st) h = q_ls ls 2 (.int x) (fun ls' => x_run 839 48 ls' st h) := xe_istore_n ec839 dX8_routes_47
theorem e839_48 {ls st : List Value} {h : x_H} : x_run 839 48 ls st h = q_gi ls 2 (fun v => x_run 839 49 ls (.int v :: st) h) := xe_iload_n ec839 dX8_routes_48
theorem e839_49 {ls st : List Value} {h : x_H} : x_run 839 49 ls st h = x_run 839 51 ls (.int (q_i 48) :: st) h := xe_bipush ec839 dX8_routes_49 (by decide)
theorem e839_51 {ls st : List Value} {h : x_H} {x y : Int32}: x_run 839 51 ls (.int y :: .int x :: st) h = if y ≤ x then x_run 839 83 ls st h else x_run 839 54 ls st h := xe_ic_ge ec839 dX8_routes_51 rfl
theorem e839_54 {ls st : List Value} {h : x_H} : x_run 839 54 ls st h = q_gr ls 0 (fun v => x_run 839 55 ls (.ref v :: st) h) := xe_aload_n ec839 dX8_routes_54
theorem e839_55 {ls st : List Value} {h : x_H} {a : Nat}: x_run 839 55 ls (.ref a :: st) h = q_gf h a 10 18 (fun v => x_run 839 58 ls (v :: st) h) := xe_getfield ec839 dX8_routes_55 ef8_39
theorem e839_58 {ls st : List Value} {h : x_H} : x_run 839 58 ls st h = q_gi ls 2 (fun v => x_run 839 59 ls (.int v :: st) h) := xe_iload_n ec839 dX8_routes_58
theorem e839_59 {ls st : List Value} {h : x_H} {x : Int32} {a : Nat}: x_run 839 59 ls (.int x :: .ref a :: st) h = q_ra h a 0 x (fun v => x_run 839 60 ls (.int v :: st) h) := xe_iaload ec839 dX8_routes_59
theorem e839_60 {ls st : List Value} {h : x_H} : x_run 839 60 ls st h = x_run 839 61 ls (.int (q_i 1) :: st) h := xe_iconst ec839 dX8_routes_60
theorem e839_61 {ls st : List Value} {h : x_H} {x y : Int32}: x_run 839 61 ls (.int y :: .int x :: st) h = if ¬ x = y then x_run 839 77 ls st h else x_run 839 64 ls st h := xe_ic_ne ec839 dX8_routes_61 rfl
theorem e839_64 {ls st : List Value} {h : x_H} : x_run 839 64 ls st h = q_gr ls 0 (fun v => x_run 839 65 ls (.ref v :: st) h) := xe_aload_n ec839 dX8_routes_64
theorem e839_65 {ls st : List Value} {h : x_H} {a : Nat}: x_run 839 65 ls (.ref a :: st) h = q_gf h a 10 0 (fun v => x_run 839 68 ls (v :: st) h) := xe_getfield ec839 dX8_routes_65 ef8_7
theorem e839_68 {ls st : List Value} {h : x_H} : x_run 839 68 ls st h = x_run 839 71 ls (.int (q_i 151) :: st) h := xe_sipush ec839 dX8_routes_68 (by decide)
theorem e839_71 {ls st : List Value} {h : x_H} : x_run 839 71 ls st h = q_gi ls 2 (fun v => x_run 839 72 ls (.int v :: st) h) := xe_iload_n ec839 dX8_routes_71
theorem e839_72 {ls st : List Value} {h : x_H} {x y : Int32}: x_run 839 72 ls (.int y :: .int x :: st) h = x_run 839 73 ls (.int (x + y) :: st) h := xe_iadd ec839 dX8_routes_72
theorem e839_73 {ls st : List Value} {h : x_H} : x_run 839 73 ls st h = q_gi ls 1 (fun v => x_run 839 74 ls (.int v :: st) h) := xe_iload_n ec839 dX8_routes_73
theorem e839_74 {ls st : List Value} {h : x_H} : x_run 839 74 ls st h = x_run 839 75 ls (.int (q_i 1) :: st) h := xe_iconst ec839 dX8_routes_74
theorem e839_75 {ls st : List Value} {h : x_H} {x y : Int32}: x_run 839 75 ls (.int y :: .int x :: st) h = x_run 839 76 ls (.int (x + y) :: st) h := xe_iadd ec839 dX8_routes_75
theorem e839_76 {ls st : List Value} {h : x_H} {x y : Int32} {a : Nat}: x_run 839 76 ls (.int y :: .int x :: .ref a :: st) h = q_wa h a 0 x y (fun h' => x_run 839 77 ls st h') := xe_iastore ec839 dX8_routes_76
theorem e839_77 {ls st : List Value} {h : x_H} : x_run 839 77 ls st h = q_gi ls 2 (fun v => if x_nd ls 2 = true then x_run 839 80 (ls.set 2 (.int (v + q_i 1))) st h else none) := xe_iinc ec839 dX8_routes_77
theorem e839_80 {ls st : List Value} {h : x_H} : x_run 839 80 ls st h = x_run 839 48 ls st h := xe_goto ec839 dX8_routes_80 rfl
theorem e839_83 {ls st : List Value} {h : x_H} : x_run 839 83 ls st h = q_gr ls 0 (fun v => x_run 839 84 ls (.ref v :: st) h) := xe_aload_n ec839 dX8_routes_83
theorem e839_84 {ls st : List Value} {h : x_H} : x_run 839 84 ls st h = q_gi ls 1 (fun v => x_run 839 85 ls (.int v :: st) h) := xe_iload_n ec839 dX8_routes_84
theorem e839_85 {ls st : List Value} {h : x_H} : x_run 839 85 ls st h = x_run 839 87 ls (.int (q_i 6) :: st) h := xe_bipush ec839 dX8_routes_85 (by decide)
theorem e839_87 {ls st : List Value} {h : x_H} : x_run 839 87 ls st h = x_run 839 88 ls (.int (q_i 1) :: st) h := xe_iconst ec839 dX8_routes_87
theorem e839_88 {ls st : List Value} {h : x_H} {b : Nat} {a1 a2 a3 : Value}: x_run 839 88 ls (a3 :: a2 :: a1 :: .ref b :: st) h = if q_rcv h b 10 = true then (if x_wt st ≤ 8 ∧ x_wt [.ref b, a1, a2, a3] = 4 then q_cl (x_m 812 [.ref b, a1, a2, a3] h) (fun v h' => x_run 839 91 ls (v.toList ++ st) h') else none) else none := xe_virt (r := [a1, a2, a3]) ec839 dX8_routes_88 ek8_108 rfl (by decide +kernel) (by decide +kernel)
theorem e839_91 {ls st : List Value} {h : x_H} : x_run 839 91 ls st h = q_gr ls 0 (fun v => x_run 839 92 ls (.ref v :: st) h) := xe_aload_n ec839 dX8_routes_91
theorem e839_92 {ls st : List Value} {h : x_H} : x_run 839 92 ls st h = q_gi ls 1 (fun v => x_run 839 93 ls (.int v :: st) h) := xe_iload_n ec839 dX8_routes_92
theorem e839_93 {ls st : List Value} {h : x_H} : x_run 839 93 ls st h = x_run 839 95 ls (.int (q_i 7) :: st) h := xe_bipush ec839 dX8_routes_93 (by decide)
theorem e839_95 {ls st : List Value} {h : x_H} : x_run 839 95 ls st h = q_gr ls 0 (fun v => x_run 839 96 ls (.ref v :: st) h) := xe_aload_n ec839 dX8_routes_95
theorem e839_96 {ls st : List Value} {h : x_H} {a : Nat}: x_run 839 96 ls (.ref a :: st) h = q_gf h a 10 19 (fun v => x_run 839 99 ls (v :: st) h) := xe_getfield ec839 dX8_routes_96 ef8_139
theorem e839_99 {ls st : List Value} {h : x_H} {b : Nat} {a1 a2 a3 : Value}: x_run 839 99 ls (a3 :: a2 :: a1 :: .ref b :: st) h = if q_rcv h b 10 = true then (if x_wt st ≤ 8 ∧ x_wt [.ref b, a1, a2, a3] = 4 then q_cl (x_m 812 [.ref b, a1, a2, a3] h) (fun v h' => x_run 839 102 ls (v.toList ++ st) h') else none) else none := xe_virt (r := [a1, a2, a3]) ec839 dX8_routes_99 ek8_108 rfl (by decide +kernel) (by decide +kernel)
theorem e839_102 {ls : List Value} {h : x_H} : x_run 839 102 ls [] h = some (.inl (none), h) := xe_return ec839 dX8_routes_102 rfl
theorem ec840 : x_code 840 = cX8_route := rfl
theorem e840_0 {ls st : List Value} {h : x_H} : x_run 840 0 ls st h = q_gr ls 0 (fun v => x_run 840 1 ls (.ref v :: st) h) := xe_aload_n ec840 dX8_route_0
theorem e840_1 {ls st : List Value} {h : x_H} : x_run 840 1 ls st h = q_gi ls 1 (fun v => x_run 840 2 ls (.int v :: st) h) := xe_iload_n ec840 dX8_route_1
theorem e840_2 {ls st : List Value} {h : x_H} : x_run 840 2 ls st h = x_run 840 3 ls (.int (q_i 0) :: st) h := xe_iconst ec840 dX8_route_2
theorem e840_3 {ls st : List Value} {h : x_H} {b : Nat} {a1 a2 : Value}: x_run 840 3 ls (a2 :: a1 :: .ref b :: st) h = if q_rcv h b 10 = true then (if x_wt st ≤ 8 ∧ x_wt [.ref b, a1, a2] = 3 then q_cl (x_m 838 [.ref b, a1, a2] h) (fun v h' => x_run 840 6 ls (v.toList ++ st) h') else none) else none := xe_virt (r := [a1, a2]) ec840 dX8_route_3 ek8_158 rfl (by decide +kernel) (by decide +kernel)
theorem e840_6 {ls st : List Value} {h : x_H} {x : Int32}: x_run 840 6 ls (.int x :: st) h = if x = 0 then x_run 840 11 ls st h else x_run 840 9 ls st h := xe_if_eq ec840 dX8_route_6 rfl
theorem e840_9 {ls st : List Value} {h : x_H} : x_run 840 9 ls st h = x_run 840 10 ls (.int (q_i 0) :: st) h := xe_iconst ec840 dX8_route_9
theorem e840_10 {ls : List Value} {h : x_H} {x : Int32} : x_run 840 10 ls [.int x] h = if narrow .int (.int x) = .int x then some (.inl (some (.int x)), h) else none := xe_ireturn ec840 dX8_route_10 rfl
theorem e840_11 {ls st : List Value} {h : x_H} : x_run 840 11 ls st h = q_gr ls 0 (fun v => x_run 840 12 ls (.ref v :: st) h) := xe_aload_n ec840 dX8_route_11
theorem e840_12 {ls st : List Value} {h : x_H} {b : Nat}: x_run 840 12 ls (.ref b :: st) h = if q_rcv h b 10 = true then (if x_wt st ≤ 8 ∧ x_wt [.ref b] = 1 then q_cl (x_m 837 [.ref b] h) (fun v h' => x_run 840 15 ls (v.toList ++ st) h') else none) else none := xe_virt (r := []) ec840 dX8_route_12 ek8_162 rfl (by decide +kernel) (by decide +kernel)
theorem e840_15 {ls st : List Value} {h : x_H} : x_run 840 15 ls st h = q_gr ls 0 (fun v => x_run 840 16 ls (.ref v :: st) h) := xe_aload_n ec840 dX8_route_15
theorem e840_16 {ls st : List Value} {h : x_H} {b : Nat}: x_run 840 16 ls (.ref b :: st) h = if q_rcv h b 10 = true then (if x_wt st ≤ 8 ∧ x_wt [.ref b] = 1 then q_cl (x_m 832 [.ref b] h) (fun v h' => x_run 840 19 ls (v.toList ++ st) h') else none) else none := xe_virt (r := []) ec840 dX8_route_16 ek8_165 rfl (by decide +kernel) (by decide +kernel)
theorem e840_19 {ls st : List Value} {h : x_H} {x y : Int32}: x_run 840 19 ls (.int y :: .int x :: st) h = x_run 840 20 ls (.int (x + y) :: st) h := xe_iadd ec840 dX8_route_19
theorem e840_20 {ls st : List Value} {h : x_H} {x : Int32}: x_run 840 20 ls (.int x :: st) h = q_ls ls 2 (.int x) (fun ls' => x_run 840 21 ls' st h) := xe_istore_n ec840 dX8_route_20
theorem e840_21 {ls st : List Value} {h : x_H} : x_run 840 21 ls st h = q_gi ls 2 (fun v => x_run 840 22 ls (.int v :: st) h) := xe_iload_n ec840 dX8_route_21
theorem e840_22 {ls st : List Value} {h : x_H} : x_run 840 22 ls st h = x_run 840 24 ls (.int (q_i 12) :: st) h := xe_bipush ec840 dX8_route_22 (by decide)
theorem e840_24 {ls st : List Value} {h : x_H} {x y : Int32}: x_run 840 24 ls (.int y :: .int x :: st) h = if x ≤ y then x_run 840 35 ls st h else x_run 840 27 ls st h := xe_ic_le ec840 dX8_route_24 rfl
theorem e840_27 {ls st : List Value} {h : x_H} : x_run 840 27 ls st h = q_gr ls 0 (fun v => x_run 840 28 ls (.ref v :: st) h) := xe_aload_n ec840 dX8_route_27
theorem e840_28 {ls st : List Value} {h : x_H} : x_run 840 28 ls st h = x_run 840 30 ls (.int (q_i 10) :: st) h := xe_bipush ec840 dX8_route_28 (by decide)
theorem e840_30 {ls st : List Value} {h : x_H} : x_run 840 30 ls st h = q_gi ls 2 (fun v => x_run 840 31 ls (.int v :: st) h) := xe_iload_n ec840 dX8_route_30
theorem e840_31 {ls st : List Value} {h : x_H} {b : Nat} {a1 a2 : Value}: x_run 840 31 ls (a2 :: a1 :: .ref b :: st) h = if q_rcv h b 10 = true then (if x_wt st ≤ 8 ∧ x_wt [.ref b, a1, a2] = 3 then q_cl (x_m 803 [.ref b, a1, a2] h) (fun v h' => x_run 840 34 ls (v.toList ++ st) h') else none) else none := xe_virt (r := [a1, a2]) ec840 dX8_route_31 ek8_101 rfl (by decide +kernel) (by decide +kernel)
theorem e840_34 {ls : List Value} {h : x_H} {x : Int32} : x_run 840 34 ls [.int x] h = if narrow .int (.int x) = .int x then some (.inl (some (.int x)), h) else none := xe_ireturn ec840 dX8_route_34 rfl
theorem e840_35 {ls st : List Value} {h : x_H} : x_run 840 35 ls st h = q_gr ls 0 (fun v => x_run 840 36 ls (.ref v :: st) h) := xe_aload_n ec840 dX8_route_35
theorem e840_36 {ls st : List Value} {h : x_H} : x_run 840 36 ls st h = q_gr ls 0 (fun v => x_run 840 37 ls (.ref v :: st) h) := xe_aload_n ec840 dX8_route_36
theorem e840_37 {ls st : List Value} {h : x_H} {a : Nat}: x_run 840 37 ls (.ref a :: st) h = q_gf h a 10 0 (fun v => x_run 840 40 ls (v :: st) h) := xe_getfield ec840 dX8_route_37 ef8_7
theorem e840_40 {ls st : List Value} {h : x_H} {b : Nat} {a1 : Value}: x_run 840 40 ls (a1 :: .ref b :: st) h = if q_rcv h b 10 = true then (if x_wt st ≤ 8 ∧ x_wt [.ref b, a1] = 2 then q_cl (x_m 806 [.ref b, a1] h) (fun v h' => x_run 840 43 ls (v.toList ++ st) h') else none) else none := xe_virt (r := [a1]) ec840 dX8_route_40 ek8_104 rfl (by decide +kernel) (by decide +kernel)
theorem e840_43 {ls st : List Value} {h : x_H} : x_run 840 43 ls st h = q_gr ls 0 (fun v => x_run 840 44 ls (.ref v :: st) h) := xe_aload_n ec840 dX8_route_43
theorem e840_44 {ls st : List Value} {h : x_H} : x_run 840 44 ls st h = q_gi ls 1 (fun v => x_run 840 45 ls (.int v :: st) h) := xe_iload_n ec840 dX8_route_44
theorem e840_45 {ls st : List Value} {h : x_H} {b : Nat} {a1 : Value}: x_run 840 45 ls (a1 :: .ref b :: st) h = if q_rcv h b 10 = true then (if x_wt st ≤ 8 ∧ x_wt [.ref b, a1] = 2 then q_cl (x_m 839 [.ref b, a1] h) (fun v h' => x_run 840 48 ls (v.toList ++ st) h') else none) else none := xe_virt (r := [a1]) ec840 dX8_route_45 ek8_168 rfl (by decide +kernel) (by decide +kernel)
theorem e840_48 {ls st : List Value} {h : x_H} : x_run 840 48 ls st h = q_gr ls 0 (fun v => x_run 840 49 ls (.ref v :: st) h) := xe_aload_n ec840 dX8_route_48
theorem e840_49 {ls st : List Value} {h : x_H} : x_run 840 49 ls st h = q_gi ls 1 (fun v => x_run 840 50 ls (.int v :: st) h) := xe_iload_n ec840 dX8_route_49
theorem e840_50 {ls st : List Value} {h : x_H} : x_run 840 50 ls st h = x_run 840 52 ls (.int (q_i 7) :: st) h := xe_bipush ec840 dX8_route_50 (by decide)
theorem e840_52 {ls st : List Value} {h : x_H} {b : Nat} {a1 a2 : Value}: x_run 840 52 ls (a2 :: a1 :: .ref b :: st) h = if q_rcv h b 10 = true then (if x_wt st ≤ 8 ∧ x_wt [.ref b, a1, a2] = 3 then q_cl (x_m 811 [.ref b, a1, a2] h) (fun v h' => x_run 840 55 ls (v.toList ++ st) h') else none) else none := xe_virt (r := [a1, a2]) ec840 dX8_route_52 ek8_80 rfl (by decide +kernel) (by decide +kernel)
theorem e840_55 {ls : List Value} {h : x_H} {x : Int32} : x_run 840 55 ls [.int x] h = if narrow .int (.int x) = .int x then some (.inl (some (.int x)), h) else none := xe_ireturn ec840 dX8_route_55 rfl
theorem ec841 : x_code 841 = cX8_hard := rfl
theorem e841_0 {ls st : List Value} {h : x_H} : x_run 841 0 ls st h = q_gr ls 0 (fun v => x_run 841 1 ls (.ref v :: st) h) := xe_aload_n ec841 dX8_hard_0
theorem e841_1 {ls st : List Value} {h : x_H} : x_run 841 1 ls st h = q_gi ls 1 (fun v => x_run 841 2 ls (.int v :: st) h) := xe_iload_n ec841 dX8_hard_1
theorem e841_2 {ls st : List Value} {h : x_H} : x_run 841 2 ls st h = x_run 841 3 ls (.int (q_i 1) :: st) h := xe_iconst ec841 dX8_hard_2
theorem e841_3 {ls st : List Value} {h : x_H} {b : Nat} {a1 a2 : Value}: x_run 841 3 ls (a2 :: a1 :: .ref b :: st) h = if q_rcv h b 10 = true then (if x_wt st ≤ 8 ∧ x_wt [.ref b, a1, a2] = 3 then q_cl (x_m 838 [.ref b, a1, a2] h) (fun v h' => x_run 841 6 ls (v.toList ++ st) h') else none) else none := xe_virt (r := [a1, a2]) ec841 dX8_hard_3 ek8_158 rfl (by decide +kernel) (by decide +kernel)
theorem e841_6 {ls st : List Value} {h : x_H} {x : Int32}: x_run 841 6 ls (.int x :: st) h = if x = 0 then x_run 841 11 ls st h else x_run 841 9 ls st h := xe_if_eq ec841 dX8_hard_6 rfl
theorem e841_9 {ls st : List Value} {h : x_H} : x_run 841 9 ls st h = x_run 841 10 ls (.int (q_i 0) :: st) h := xe_iconst ec841 dX8_hard_9
theorem e841_10 {ls : List Value} {h : x_H} {x : Int32} : x_run 841 10 ls [.int x] h = if narrow .int (.int x) = .int x then some (.inl (some (.int x)), h) else none := xe_ireturn ec841 dX8_hard_10 rfl
theorem e841_11 {ls st : List Value} {h : x_H} : x_run 841 11 ls st h = q_gr ls 0 (fun v => x_run 841 12 ls (.ref v :: st) h) := xe_aload_n ec841 dX8_hard_11
theorem e841_12 {ls st : List Value} {h : x_H} : x_run 841 12 ls st h = q_gi ls 1 (fun v => x_run 841 13 ls (.int v :: st) h) := xe_iload_n ec841 dX8_hard_12
theorem e841_13 {ls st : List Value} {h : x_H} {b : Nat} {a1 : Value}: x_run 841 13 ls (a1 :: .ref b :: st) h = if q_rcv h b 10 = true then (if x_wt st ≤ 8 ∧ x_wt [.ref b, a1] = 2 then q_cl (x_m 833 [.ref b, a1] h) (fun v h' => x_run 841 16 ls (v.toList ++ st) h') else none) else none := xe_virt (r := [a1]) ec841 dX8_hard_13 ek8_171 rfl (by decide +kernel) (by decide +kernel)
theorem e841_16 {ls st : List Value} {h : x_H} {x : Int32}: x_run 841 16 ls (.int x :: st) h = q_ls ls 2 (.int x) (fun ls' => x_run 841 17 ls' st h) := xe_istore_n ec841 dX8_hard_16
theorem e841_17 {ls st : List Value} {h : x_H} : x_run 841 17 ls st h = q_gr ls 0 (fun v => x_run 841 18 ls (.ref v :: st) h) := xe_aload_n ec841 dX8_hard_17
theorem e841_18 {ls st : List Value} {h : x_H} {b : Nat}: x_run 841 18 ls (.ref b :: st) h = if q_rcv h b 10 = true then (if x_wt st ≤ 8 ∧ x_wt [.ref b] = 1 then q_cl (x_m 837 [.ref b] h) (fun v h' => x_run 841 21 ls (v.toList ++ st) h') else none) else none := xe_virt (r := []) ec841 dX8_hard_18 ek8_162 rfl (by decide +kernel) (by decide +kernel)
theorem e841_21 {ls st : List Value} {h : x_H} : x_run 841 21 ls st h = q_gr ls 0 (fun v => x_run 841 22 ls (.ref v :: st) h) := xe_aload_n ec841 dX8_hard_21
theorem e841_22 {ls st : List Value} {h : x_H} {b : Nat}: x_run 841 22 ls (.ref b :: st) h = if q_rcv h b 10 = true then (if x_wt st ≤ 8 ∧ x_wt [.ref b] = 1 then q_cl (x_m 832 [.ref b] h) (fun v h' => x_run 841 25 ls (v.toList ++ st) h') else none) else none := xe_virt (r := []) ec841 dX8_hard_22 ek8_165 rfl (by decide +kernel) (by decide +kernel)
theorem e841_25 {ls st : List Value} {h : x_H} {x y : Int32}: x_run 841 25 ls (.int y :: .int x :: st) h = x_run 841 26 ls (.int (x + y) :: st) h := xe_iadd ec841 dX8_hard_25
theorem e841_26 {ls st : List Value} {h : x_H} {x : Int32}: x_run 841 26 ls (.int x :: st) h = q_ls ls 3 (.int x) (fun ls' => x_run 841 27 ls' st h) := xe_istore_n ec841 dX8_hard_26
theorem e841_27 {ls st : List Value} {h : x_H} : x_run 841 27 ls st h = x_run 841 28 ls (.int (q_i 0) :: st) h := xe_iconst ec841 dX8_hard_27
theorem e841_28 {ls st : List Value} {h : x_H} {x : Int32}: x_run 841 28 ls (.int x :: st) h = q_ls ls 4 (.int x) (fun ls' => x_run 841 30 ls' st h) := xe_istore ec841 dX8_hard_28
theorem e841_30 {ls st : List Value} {h : x_H} : x_run 841 30 ls st h = q_gi ls 4 (fun v => x_run 841 32 ls (.int v :: st) h) := xe_iload ec841 dX8_hard_30
theorem e841_32 {ls st : List Value} {h : x_H} : x_run 841 32 ls st h = q_gr ls 0 (fun v => x_run 841 33 ls (.ref v :: st) h) := xe_aload_n ec841 dX8_hard_32
theorem e841_33 {ls st : List Value} {h : x_H} {a : Nat}: x_run 841 33 ls (.ref a :: st) h = q_gf h a 10 0 (fun v => x_run 841 36 ls (v :: st) h) := xe_getfield ec841 dX8_hard_33 ef8_7
theorem e841_36 {ls st : List Value} {h : x_H} : x_run 841 36 ls st h = x_run 841 37 ls (.int (q_i 0) :: st) h := xe_iconst ec841 dX8_hard_36
theorem e841_37 {ls st : List Value} {h : x_H} {x : Int32} {a : Nat}: x_run 841 37 ls (.int x :: .ref a :: st) h = q_ra h a 0 x (fun v => x_run 841 38 ls (.int v :: st) h) := xe_iaload ec841 dX8_hard_37
theorem e841_38 {ls st : List Value} {h : x_H} {x y : Int32}: x_run 841 38 ls (.int y :: .int x :: st) h = if y ≤ x then x_run 841 70 ls st h else x_run 841 41 ls st h := xe_ic_ge ec841 dX8_hard_38 rfl
theorem e841_41 {ls st : List Value} {h : x_H} : x_run 841 41 ls st h = q_gi ls 3 (fun v => x_run 841 42 ls (.int v :: st) h) := xe_iload_n ec841 dX8_hard_41
theorem e841_42 {ls st : List Value} {h : x_H} : x_run 841 42 ls st h = q_gi ls 2 (fun v => x_run 841 43 ls (.int v :: st) h) := xe_iload_n ec841 dX8_hard_42
theorem e841_43 {ls st : List Value} {h : x_H} : x_run 841 43 ls st h = q_gi ls 4 (fun v => x_run 841 45 ls (.int v :: st) h) := xe_iload ec841 dX8_hard_43
theorem e841_45 {ls st : List Value} {h : x_H} {x y : Int32}: x_run 841 45 ls (.int y :: .int x :: st) h = x_run 841 46 ls (.int (x >>> (y &&& 31)) :: st) h := xe_ishr ec841 dX8_hard_45
theorem e841_46 {ls st : List Value} {h : x_H} : x_run 841 46 ls st h = x_run 841 47 ls (.int (q_i 1) :: st) h := xe_iconst ec841 dX8_hard_46
theorem e841_47 {ls st : List Value} {h : x_H} {x y : Int32}: x_run 841 47 ls (.int y :: .int x :: st) h = x_run 841 48 ls (.int (x &&& y) :: st) h := xe_iand ec841 dX8_hard_47
theorem e841_48 {ls st : List Value} {h : x_H} : x_run 841 48 ls st h = x_run 841 49 ls (.int (q_i 1) :: st) h := xe_iconst ec841 dX8_hard_48
theorem e841_49 {ls st : List Value} {h : x_H} {x y : Int32}: x_run 841 49 ls (.int y :: .int x :: st) h = if ¬ x = y then x_run 841 61 ls st h else x_run 841 52 ls st h := xe_ic_ne ec841 dX8_hard_49 rfl
theorem e841_52 {ls st : List Value} {h : x_H} : x_run 841 52 ls st h = q_gr ls 0 (fun v => x_run 841 53 ls (.ref v :: st) h) := xe_aload_n ec841 dX8_hard_52
theorem e841_53 {ls st : List Value} {h : x_H} : x_run 841 53 ls st h = q_gi ls 4 (fun v => x_run 841 55 ls (.int v :: st) h) := xe_iload ec841 dX8_hard_53
theorem e841_55 {ls st : List Value} {h : x_H} {b : Nat} {a1 : Value}: x_run 841 55 ls (a1 :: .ref b :: st) h = if q_rcv h b 10 = true then (if x_wt st ≤ 8 ∧ x_wt [.ref b, a1] = 2 then q_cl (x_m 835 [.ref b, a1] h) (fun v h' => x_run 841 58 ls (v.toList ++ st) h') else none) else none := xe_virt (r := [a1]) ec841 dX8_hard_55 ek8_174 rfl (by decide +kernel) (by decide +kernel)
theorem e841_58 {ls st : List Value} {h : x_H} : x_run 841 58 ls st h = x_run 841 62 ls st h := xe_goto ec841 dX8_hard_58 rfl
theorem e841_61 {ls st : List Value} {h : x_H} : x_run 841 61 ls st h = x_run 841 62 ls (.int (q_i 0) :: st) h := xe_iconst ec841 dX8_hard_61
theorem e841_62 {ls st : List Value} {h : x_H} {x y : Int32}: x_run 841 62 ls (.int y :: .int x :: st) h = x_run 841 63 ls (.int (x - y) :: st) h := xe_isub ec841 dX8_hard_62
theorem e841_63 {ls st : List Value} {h : x_H} {x : Int32}: x_run 841 63 ls (.int x :: st) h = q_ls ls 3 (.int x) (fun ls' => x_run 841 64 ls' st h) := xe_istore_n ec841 dX8_hard_63
theorem e841_64 {ls st : List Value} {h : x_H} : x_run 841 64 ls st h = q_gi ls 4 (fun v => if x_nd ls 4 = true then x_run 841 67 (ls.set 4 (.int (v + q_i 1))) st h else none) := xe_iinc ec841 dX8_hard_64
theorem e841_67 {ls st : List Value} {h : x_H} : x_run 841 67 ls st h = x_run 841 30 ls st h := xe_goto ec841 dX8_hard_67 rfl
theorem e841_70 {ls st : List Value} {h : x_H} : x_run 841 70 ls st h = q_gi ls 3 (fun v => x_run 841 71 ls (.int v :: st) h) := xe_iload_n ec841 dX8_hard_70
theorem e841_71 {ls st : List Value} {h : x_H} : x_run 841 71 ls st h = x_run 841 73 ls (.int (q_i 12) :: st) h := xe_bipush ec841 dX8_hard_71 (by decide)
theorem e841_73 {ls st : List Value} {h : x_H} {x y : Int32}: x_run 841 73 ls (.int y :: .int x :: st) h = if x ≤ y then x_run 841 84 ls st h else x_run 841 76 ls st h := xe_ic_le ec841 dX8_hard_73 rfl
theorem e841_76 {ls st : List Value} {h : x_H} : x_run 841 76 ls st h = q_gr ls 0 (fun v => x_run 841 77 ls (.ref v :: st) h) := xe_aload_n ec841 dX8_hard_76
theorem e841_77 {ls st : List Value} {h : x_H} : x_run 841 77 ls st h = x_run 841 79 ls (.int (q_i 10) :: st) h := xe_bipush ec841 dX8_hard_77 (by decide)
theorem e841_79 {ls st : List Value} {h : x_H} : x_run 841 79 ls st h = q_gi ls 3 (fun v => x_run 841 80 ls (.int v :: st) h) := xe_iload_n ec841 dX8_hard_79
theorem e841_80 {ls st : List Value} {h : x_H} {b : Nat} {a1 a2 : Value}: x_run 841 80 ls (a2 :: a1 :: .ref b :: st) h = if q_rcv h b 10 = true then (if x_wt st ≤ 8 ∧ x_wt [.ref b, a1, a2] = 3 then q_cl (x_m 803 [.ref b, a1, a2] h) (fun v h' => x_run 841 83 ls (v.toList ++ st) h') else none) else none := xe_virt (r := [a1, a2]) ec841 dX8_hard_80 ek8_101 rfl (by decide +kernel) (by decide +kernel)
theorem e841_83 {ls : List Value} {h : x_H} {x : Int32} : x_run 841 83 ls [.int x] h = if narrow .int (.int x) = .int x then some (.inl (some (.int x)), h) else none := xe_ireturn ec841 dX8_hard_83 rfl
theorem e841_84 {ls st : List Value} {h : x_H} : x_run 841 84 ls st h = q_gr ls 0 (fun v => x_run 841 85 ls (.ref v :: st) h) := xe_aload_n ec841 dX8_hard_84
theorem e841_85 {ls st : List Value} {h : x_H} : x_run 841 85 ls st h = q_gr ls 0 (fun v => x_run 841 86 ls (.ref v :: st) h) := xe_aload_n ec841 dX8_hard_85
theorem e841_86 {ls st : List Value} {h : x_H} {a : Nat}: x_run 841 86 ls (.ref a :: st) h = q_gf h a 10 0 (fun v => x_run 841 89 ls (v :: st) h) := xe_getfield ec841 dX8_hard_86 ef8_7
theorem e841_89 {ls st : List Value} {h : x_H} {b : Nat} {a1 : Value}: x_run 841 89 ls (a1 :: .ref b :: st) h = if q_rcv h b 10 = true then (if x_wt st ≤ 8 ∧ x_wt [.ref b, a1] = 2 then q_cl (x_m 806 [.ref b, a1] h) (fun v h' => x_run 841 92 ls (v.toList ++ st) h') else none) else none := xe_virt (r := [a1]) ec841 dX8_hard_89 ek8_104 rfl (by decide +kernel) (by decide +kernel)
theorem e841_92 {ls st : List Value} {h : x_H} : x_run 841 92 ls st h = x_run 841 93 ls (.int (q_i 0) :: st) h := xe_iconst ec841 dX8_hard_92
theorem e841_93 {ls st : List Value} {h : x_H} {x : Int32}: x_run 841 93 ls (.int x :: st) h = q_ls ls 4 (.int x) (fun ls' => x_run 841 95 ls' st h) := xe_istore ec841 dX8_hard_93
theorem e841_95 {ls st : List Value} {h : x_H} : x_run 841 95 ls st h = q_gi ls 4 (fun v => x_run 841 97 ls (.int v :: st) h) := xe_iload ec841 dX8_hard_95
theorem e841_97 {ls st : List Value} {h : x_H} : x_run 841 97 ls st h = q_gr ls 0 (fun v => x_run 841 98 ls (.ref v :: st) h) := xe_aload_n ec841 dX8_hard_97
theorem e841_98 {ls st : List Value} {h : x_H} {a : Nat}: x_run 841 98 ls (.ref a :: st) h = q_gf h a 10 0 (fun v => x_run 841 101 ls (v :: st) h) := xe_getfield ec841 dX8_hard_98 ef8_7
theorem e841_101 {ls st : List Value} {h : x_H} : x_run 841 101 ls st h = x_run 841 102 ls (.int (q_i 0) :: st) h := xe_iconst ec841 dX8_hard_101
theorem e841_102 {ls st : List Value} {h : x_H} {x : Int32} {a : Nat}: x_run 841 102 ls (.int x :: .ref a :: st) h = q_ra h a 0 x (fun v => x_run 841 103 ls (.int v :: st) h) := xe_iaload ec841 dX8_hard_102
theorem e841_103 {ls st : List Value} {h : x_H} {x y : Int32}: x_run 841 103 ls (.int y :: .int x :: st) h = if y ≤ x then x_run 841 128 ls st h else x_run 841 106 ls st h := xe_ic_ge ec841 dX8_hard_103 rfl
theorem e841_106 {ls st : List Value} {h : x_H} : x_run 841 106 ls st h = q_gi ls 2 (fun v => x_run 841 107 ls (.int v :: st) h) := xe_iload_n ec841 dX8_hard_106
theorem e841_107 {ls st : List Value} {h : x_H} : x_run 841 107 ls st h = q_gi ls 4 (fun v => x_run 841 109 ls (.int v :: st) h) := xe_iload ec841 dX8_hard_107
theorem e841_109 {ls st : List Value} {h : x_H} {x y : Int32}: x_run 841 109 ls (.int y :: .int x :: st) h = x_run 841 110 ls (.int (x >>> (y &&& 31)) :: st) h := xe_ishr ec841 dX8_hard_109
theorem e841_110 {ls st : List Value} {h : x_H} : x_run 841 110 ls st h = x_run 841 111 ls (.int (q_i 1) :: st) h := xe_iconst ec841 dX8_hard_110
theorem e841_111 {ls st : List Value} {h : x_H} {x y : Int32}: x_run 841 111 ls (.int y :: .int x :: st) h = x_run 841 112 ls (.int (x &&& y) :: st) h := xe_iand ec841 dX8_hard_111
theorem e841_112 {ls st : List Value} {h : x_H} : x_run 841 112 ls st h = x_run 841 113 ls (.int (q_i 1) :: st) h := xe_iconst ec841 dX8_hard_112
theorem e841_113 {ls st : List Value} {h : x_H} {x y : Int32}: x_run 841 113 ls (.int y :: .int x :: st) h = if ¬ x = y then x_run 841 122 ls st h else x_run 841 116 ls st h := xe_ic_ne ec841 dX8_hard_113 rfl
theorem e841_116 {ls st : List Value} {h : x_H} : x_run 841 116 ls st h = q_gr ls 0 (fun v => x_run 841 117 ls (.ref v :: st) h) := xe_aload_n ec841 dX8_hard_116
theorem e841_117 {ls st : List Value} {h : x_H} : x_run 841 117 ls st h = q_gi ls 4 (fun v => x_run 841 119 ls (.int v :: st) h) := xe_iload ec841 dX8_hard_117
theorem e841_119 {ls st : List Value} {h : x_H} {b : Nat} {a1 : Value}: x_run 841 119 ls (a1 :: .ref b :: st) h = if q_rcv h b 10 = true then (if x_wt st ≤ 8 ∧ x_wt [.ref b, a1] = 2 then q_cl (x_m 836 [.ref b, a1] h) (fun v h' => x_run 841 122 ls (v.toList ++ st) h') else none) else none := xe_virt (r := [a1]) ec841 dX8_hard_119 ek8_177 rfl (by decide +kernel) (by decide +kernel)
theorem e841_122 {ls st : List Value} {h : x_H} : x_run 841 122 ls st h = q_gi ls 4 (fun v => if x_nd ls 4 = true then x_run 841 125 (ls.set 4 (.int (v + q_i 1))) st h else none) := xe_iinc ec841 dX8_hard_122
theorem e841_125 {ls st : List Value} {h : x_H} : x_run 841 125 ls st h = x_run 841 95 ls st h := xe_goto ec841 dX8_hard_125 rfl
theorem e841_128 {ls st : List Value} {h : x_H} : x_run 841 128 ls st h = q_gr ls 0 (fun v => x_run 841 129 ls (.ref v :: st) h) := xe_aload_n ec841 dX8_hard_128
theorem e841_129 {ls st : List Value} {h : x_H} : x_run 841 129 ls st h = q_gi ls 1 (fun v => x_run 841 130 ls (.int v :: st) h) := xe_iload_n ec841 dX8_hard_129
theorem e841_130 {ls st : List Value} {h : x_H} {b : Nat} {a1 : Value}: x_run 841 130 ls (a1 :: .ref b :: st) h = if q_rcv h b 10 = true then (if x_wt st ≤ 8 ∧ x_wt [.ref b, a1] = 2 then q_cl (x_m 839 [.ref b, a1] h) (fun v h' => x_run 841 133 ls (v.toList ++ st) h') else none) else none := xe_virt (r := [a1]) ec841 dX8_hard_130 ek8_168 rfl (by decide +kernel) (by decide +kernel)
theorem e841_133 {ls st : List Value} {h : x_H} : x_run 841 133 ls st h = q_gi ls 2 (fun v => x_run 841 134 ls (.int v :: st) h) := xe_iload_n ec841 dX8_hard_133
theorem e841_134 {ls : List Value} {h : x_H} {x : Int32} : x_run 841 134 ls [.int x] h = if narrow .int (.int x) = .int x then some (.inl (some (.int x)), h) else none := xe_ireturn ec841 dX8_hard_134 rfl
theorem ec842 : x_code 842 = cX8_rip := rfl
theorem e842_0 {ls st : List Value} {h : x_H} : x_run 842 0 ls st h = q_gr ls 0 (fun v => x_run 842 1 ls (.ref v :: st) h) := xe_aload_n ec842 dX8_rip_0
theorem e842_1 {ls st : List Value} {h : x_H} : x_run 842 1 ls st h = q_gi ls 1 (fun v => x_run 842 2 ls (.int v :: st) h) := xe_iload_n ec842 dX8_rip_1
theorem e842_2 {ls st : List Value} {h : x_H} {b : Nat} {a1 : Value}: x_run 842 2 ls (a1 :: .ref b :: st) h = if q_rcv h b 10 = true then (if x_wt st ≤ 8 ∧ x_wt [.ref b, a1] = 2 then q_cl (x_m 810 [.ref b, a1] h) (fun v h' => x_run 842 5 ls (v.toList ++ st) h') else none) else none := xe_virt (r := [a1]) ec842 dX8_rip_2 ek8_112 rfl (by decide +kernel) (by decide +kernel)
theorem e842_5 {ls st : List Value} {h : x_H} {x : Int32}: x_run 842 5 ls (.int x :: st) h = if ¬ x = 0 then x_run 842 15 ls st h else x_run 842 8 ls st h := xe_if_ne ec842 dX8_rip_5 rfl
theorem e842_8 {ls st : List Value} {h : x_H} : x_run 842 8 ls st h = q_gr ls 0 (fun v => x_run 842 9 ls (.ref v :: st) h) := xe_aload_n ec842 dX8_rip_8
theorem e842_9 {ls st : List Value} {h : x_H} : x_run 842 9 ls st h = x_run 842 10 ls (.int (q_i 3) :: st) h := xe_iconst ec842 dX8_rip_9
theorem e842_10 {ls st : List Value} {h : x_H} : x_run 842 10 ls st h = q_gi ls 1 (fun v => x_run 842 11 ls (.int v :: st) h) := xe_iload_n ec842 dX8_rip_10
theorem e842_11 {ls st : List Value} {h : x_H} {b : Nat} {a1 a2 : Value}: x_run 842 11 ls (a2 :: a1 :: .ref b :: st) h = if q_rcv h b 10 = true then (if x_wt st ≤ 8 ∧ x_wt [.ref b, a1, a2] = 3 then q_cl (x_m 803 [.ref b, a1, a2] h) (fun v h' => x_run 842 14 ls (v.toList ++ st) h') else none) else none := xe_virt (r := [a1, a2]) ec842 dX8_rip_11 ek8_101 rfl (by decide +kernel) (by decide +kernel)
theorem e842_14 {ls : List Value} {h : x_H} {x : Int32} : x_run 842 14 ls [.int x] h = if narrow .int (.int x) = .int x then some (.inl (some (.int x)), h) else none := xe_ireturn ec842 dX8_rip_14 rfl
theorem e842_15 {ls st : List Value} {h : x_H} : x_run 842 15 ls st h = q_gr ls 0 (fun v => x_run 842 16 ls (.ref v :: st) h) := xe_aload_n ec842 dX8_rip_15
theorem e842_16 {ls st : List Value} {h : x_H} : x_run 842 16 ls st h = q_gi ls 1 (fun v => x_run 842 17 ls (.int v :: st) h) := xe_iload_n ec842 dX8_rip_16
theorem e842_17 {ls st : List Value} {h : x_H} : x_run 842 17 ls st h = x_run 842 19 ls (.int (q_i 6) :: st) h := xe_bipush ec842 dX8_rip_17 (by decide)
theorem e842_19 {ls st : List Value} {h : x_H} {b : Nat} {a1 a2 : Value}: x_run 842 19 ls (a2 :: a1 :: .ref b :: st) h = if q_rcv h b 10 = true then (if x_wt st ≤ 8 ∧ x_wt [.ref b, a1, a2] = 3 then q_cl (x_m 811 [.ref b, a1, a2] h) (fun v h' => x_run 842 22 ls (v.toList ++ st) h') else none) else none := xe_virt (r := [a1, a2]) ec842 dX8_rip_19 ek8_80 rfl (by decide +kernel) (by decide +kernel)
theorem e842_22 {ls st : List Value} {h : x_H} {x : Int32}: x_run 842 22 ls (.int x :: st) h = if ¬ x = 0 then x_run 842 33 ls st h else x_run 842 25 ls st h := xe_if_ne ec842 dX8_rip_22 rfl
theorem e842_25 {ls st : List Value} {h : x_H} : x_run 842 25 ls st h = q_gr ls 0 (fun v => x_run 842 26 ls (.ref v :: st) h) := xe_aload_n ec842 dX8_rip_25
theorem e842_26 {ls st : List Value} {h : x_H} : x_run 842 26 ls st h = x_run 842 28 ls (.int (q_i 11) :: st) h := xe_bipush ec842 dX8_rip_26 (by decide)
theorem e842_28 {ls st : List Value} {h : x_H} : x_run 842 28 ls st h = q_gi ls 1 (fun v => x_run 842 29 ls (.int v :: st) h) := xe_iload_n ec842 dX8_rip_28
theorem e842_29 {ls st : List Value} {h : x_H} {b : Nat} {a1 a2 : Value}: x_run 842 29 ls (a2 :: a1 :: .ref b :: st) h = if q_rcv h b 10 = true then (if x_wt st ≤ 8 ∧ x_wt [.ref b, a1, a2] = 3 then q_cl (x_m 803 [.ref b, a1, a2] h) (fun v h' => x_run 842 32 ls (v.toList ++ st) h') else none) else none := xe_virt (r := [a1, a2]) ec842 dX8_rip_29 ek8_101 rfl (by decide +kernel) (by decide +kernel)
theorem e842_32 {ls : List Value} {h : x_H} {x : Int32} : x_run 842 32 ls [.int x] h = if narrow .int (.int x) = .int x then some (.inl (some (.int x)), h) else none := xe_ireturn ec842 dX8_rip_32 rfl
theorem e842_33 {ls st : List Value} {h : x_H} : x_run 842 33 ls st h = q_gr ls 0 (fun v => x_run 842 34 ls (.ref v :: st) h) := xe_aload_n ec842 dX8_rip_33
theorem e842_34 {ls st : List Value} {h : x_H} : x_run 842 34 ls st h = q_gr ls 0 (fun v => x_run 842 35 ls (.ref v :: st) h) := xe_aload_n ec842 dX8_rip_34
theorem e842_35 {ls st : List Value} {h : x_H} {a : Nat}: x_run 842 35 ls (.ref a :: st) h = q_gf h a 10 0 (fun v => x_run 842 38 ls (v :: st) h) := xe_getfield ec842 dX8_rip_35 ef8_7
theorem e842_38 {ls st : List Value} {h : x_H} {b : Nat} {a1 : Value}: x_run 842 38 ls (a1 :: .ref b :: st) h = if q_rcv h b 10 = true then (if x_wt st ≤ 8 ∧ x_wt [.ref b, a1] = 2 then q_cl (x_m 806 [.ref b, a1] h) (fun v h' => x_run 842 41 ls (v.toList ++ st) h') else none) else none := xe_virt (r := [a1]) ec842 dX8_rip_38 ek8_104 rfl (by decide +kernel) (by decide +kernel)
theorem e842_41 {ls st : List Value} {h : x_H} : x_run 842 41 ls st h = q_gr ls 0 (fun v => x_run 842 42 ls (.ref v :: st) h) := xe_aload_n ec842 dX8_rip_41
theorem e842_42 {ls st : List Value} {h : x_H} : x_run 842 42 ls st h = q_gi ls 1 (fun v => x_run 842 43 ls (.int v :: st) h) := xe_iload_n ec842 dX8_rip_42
theorem e842_43 {ls st : List Value} {h : x_H} {b : Nat} {a1 : Value}: x_run 842 43 ls (a1 :: .ref b :: st) h = if q_rcv h b 10 = true then (if x_wt st ≤ 8 ∧ x_wt [.ref b, a1] = 2 then q_cl (x_m 834 [.ref b, a1] h) (fun v h' => x_run 842 46 ls (v.toList ++ st) h') else none) else none := xe_virt (r := [a1]) ec842 dX8_rip_43 ek8_180 rfl (by decide +kernel) (by decide +kernel)
theorem e842_46 {ls st : List Value} {h : x_H} {x : Int32}: x_run 842 46 ls (.int x :: st) h = q_ls ls 2 (.int x) (fun ls' => x_run 842 47 ls' st h) := xe_istore_n ec842 dX8_rip_46
theorem e842_47 {ls st : List Value} {h : x_H} : x_run 842 47 ls st h = q_gr ls 0 (fun v => x_run 842 48 ls (.ref v :: st) h) := xe_aload_n ec842 dX8_rip_47
theorem e842_48 {ls st : List Value} {h : x_H} : x_run 842 48 ls st h = q_gi ls 1 (fun v => x_run 842 49 ls (.int v :: st) h) := xe_iload_n ec842 dX8_rip_48
theorem e842_49 {ls st : List Value} {h : x_H} {b : Nat} {a1 : Value}: x_run 842 49 ls (a1 :: .ref b :: st) h = if q_rcv h b 10 = true then (if x_wt st ≤ 8 ∧ x_wt [.ref b, a1] = 2 then q_cl (x_m 836 [.ref b, a1] h) (fun v h' => x_run 842 52 ls (v.toList ++ st) h') else none) else none := xe_virt (r := [a1]) ec842 dX8_rip_49 ek8_177 rfl (by decide +kernel) (by decide +kernel)
theorem e842_52 {ls st : List Value} {h : x_H} : x_run 842 52 ls st h = q_gi ls 2 (fun v => x_run 842 53 ls (.int v :: st) h) := xe_iload_n ec842 dX8_rip_52
theorem e842_53 {ls : List Value} {h : x_H} {x : Int32} : x_run 842 53 ls [.int x] h = if narrow .int (.int x) = .int x then some (.inl (some (.int x)), h) else none := xe_ireturn ec842 dX8_rip_53 rfl
theorem ec843 : x_code 843 = cX8_netOf := rfl
theorem e843_0 {ls st : List Value} {h : x_H} : x_run 843 0 ls st h = q_gr ls 0 (fun v => x_run 843 1 ls (.ref v :: st) h) := xe_aload_n ec843 dX8_netOf_0
theorem e843_1 {ls st : List Value} {h : x_H} : x_run 843 1 ls st h = q_gr ls 0 (fun v => x_run 843 2 ls (.ref v :: st) h) := xe_aload_n ec843 dX8_netOf_1
theorem e843_2 {ls st : List Value} {h : x_H} : x_run 843 2 ls st h = q_gi ls 1 (fun v => x_run 843 3 ls (.int v :: st) h) := xe_iload_n ec843 dX8_netOf_2
theorem e843_3 {ls st : List Value} {h : x_H} {b : Nat} {a1 : Value}: x_run 843 3 ls (a1 :: .ref b :: st) h = if q_rcv h b 10 = true then (if x_wt st ≤ 8 ∧ x_wt [.ref b, a1] = 2 then q_cl (x_m 810 [.ref b, a1] h) (fun v h' => x_run 843 6 ls (v.toList ++ st) h') else none) else none := xe_virt (r := [a1]) ec843 dX8_netOf_3 ek8_112 rfl (by decide +kernel) (by decide +kernel)
theorem e843_6 {ls st : List Value} {h : x_H} {x : Int32}: x_run 843 6 ls (.int x :: st) h = if ¬ x = 0 then x_run 843 13 ls st h else x_run 843 9 ls st h := xe_if_ne ec843 dX8_netOf_6 rfl
theorem e843_9 {ls st : List Value} {h : x_H} : x_run 843 9 ls st h = x_run 843 10 ls (.int (q_i 1) :: st) h := xe_iconst ec843 dX8_netOf_9
theorem e843_10 {ls st : List Value} {h : x_H} : x_run 843 10 ls st h = x_run 843 28 ls st h := xe_goto ec843 dX8_netOf_10 rfl
theorem e843_13 {ls st : List Value} {h : x_H} : x_run 843 13 ls st h = q_gi ls 2 (fun v => x_run 843 14 ls (.int v :: st) h) := xe_iload_n ec843 dX8_netOf_13
theorem e843_14 {ls st : List Value} {h : x_H} : x_run 843 14 ls st h = x_run 843 15 ls (.int (q_i 0) :: st) h := xe_iconst ec843 dX8_netOf_14
theorem e843_15 {ls st : List Value} {h : x_H} : x_run 843 15 ls st h = x_run 843 17 ls (.int (q_i 6) :: st) h := xe_bipush ec843 dX8_netOf_15 (by decide)
theorem e843_17 {ls st : List Value} {h : x_H} {a1 a2 a3 : Value}: x_run 843 17 ls (a3 :: a2 :: a1 :: st) h = if x_wt st ≤ 8 ∧ x_wt [a1, a2, a3] = 3 then q_cl (x_m 804 [a1, a2, a3] h) (fun v h' => x_run 843 20 ls (v.toList ++ st) h') else none := xe_stat (args := [a1, a2, a3]) ec843 dX8_netOf_17 ek8_68 (by decide) rfl (by decide +kernel) (by decide +kernel)
theorem e843_20 {ls st : List Value} {h : x_H} {x : Int32}: x_run 843 20 ls (.int x :: st) h = if x = 0 then x_run 843 27 ls st h else x_run 843 23 ls st h := xe_if_eq ec843 dX8_netOf_20 rfl
theorem e843_23 {ls st : List Value} {h : x_H} : x_run 843 23 ls st h = x_run 843 24 ls (.int (q_i 0) :: st) h := xe_iconst ec843 dX8_netOf_23
theorem e843_24 {ls st : List Value} {h : x_H} : x_run 843 24 ls st h = x_run 843 28 ls st h := xe_goto ec843 dX8_netOf_24 rfl
theorem e843_27 {ls st : List Value} {h : x_H} : x_run 843 27 ls st h = x_run 843 28 ls (.int (q_i 2) :: st) h := xe_iconst ec843 dX8_netOf_27
theorem e843_28 {ls st : List Value} {h : x_H} {b : Nat} {a1 : Value}: x_run 843 28 ls (a1 :: .ref b :: st) h = if q_rcv h b 10 = true then (if x_wt st ≤ 8 ∧ x_wt [.ref b, a1] = 2 then q_cl (x_m 802 [.ref b, a1] h) (fun v h' => x_run 843 31 ls (v.toList ++ st) h') else none) else none := xe_virt (r := [a1]) ec843 dX8_netOf_28 ek8_183 rfl (by decide +kernel) (by decide +kernel)
theorem e843_31 {ls st : List Value} {h : x_H} {x : Int32}: x_run 843 31 ls (.int x :: st) h = if x = 0 then x_run 843 36 ls st h else x_run 843 34 ls st h := xe_if_eq ec843 dX8_netOf_31 rfl
theorem e843_34 {ls st : List Value} {h : x_H} : x_run 843 34 ls st h = x_run 843 35 ls (.int (q_i 0) :: st) h := xe_iconst ec843 dX8_netOf_34
theorem e843_35 {ls : List Value} {h : x_H} {x : Int32} : x_run 843 35 ls [.int x] h = if narrow .int (.int x) = .int x then some (.inl (some (.int x)), h) else none := xe_ireturn ec843 dX8_netOf_35 rfl
theorem e843_36 {ls st : List Value} {h : x_H} : x_run 843 36 ls st h = q_gi ls 2 (fun v => x_run 843 37 ls (.int v :: st) h) := xe_iload_n ec843 dX8_netOf_36
theorem e843_37 {ls st : List Value} {h : x_H} {x : Int32}: x_run 843 37 ls (.int x :: st) h = q_so 37 (x_tsw 81 0 5 #[39, 46, 53, 61, 69, 75] x) (fun t => x_run 843 t ls st h) := xe_tsw ec843 dX8_netOf_37
theorem e843_76 {ls st : List Value} {h : x_H} : x_run 843 76 ls st h = q_gr ls 0 (fun v => x_run 843 77 ls (.ref v :: st) h) := xe_aload_n ec843 dX8_netOf_76
theorem e843_77 {ls st : List Value} {h : x_H} : x_run 843 77 ls st h = q_gi ls 1 (fun v => x_run 843 78 ls (.int v :: st) h) := xe_iload_n ec843 dX8_netOf_77
theorem e843_78 {ls st : List Value} {h : x_H} : x_run 843 78 ls st h = x_run 843 79 ls (.int (q_i 0) :: st) h := xe_iconst ec843 dX8_netOf_78
theorem e843_79 {ls st : List Value} {h : x_H} {b : Nat} {a1 a2 : Value}: x_run 843 79 ls (a2 :: a1 :: .ref b :: st) h = if q_rcv h b 10 = true then (if x_wt st ≤ 8 ∧ x_wt [.ref b, a1, a2] = 3 then q_cl (x_m 811 [.ref b, a1, a2] h) (fun v h' => x_run 843 82 ls (v.toList ++ st) h') else none) else none := xe_virt (r := [a1, a2]) ec843 dX8_netOf_79 ek8_80 rfl (by decide +kernel) (by decide +kernel)
theorem e843_82 {ls : List Value} {h : x_H} {x : Int32} : x_run 843 82 ls [.int x] h = if narrow .int (.int x) = .int x then some (.inl (some (.int x)), h) else none := xe_ireturn ec843 dX8_netOf_82 rfl
theorem e843_83 {ls st : List Value} {h : x_H} : x_run 843 83 ls st h = q_gr ls 0 (fun v => x_run 843 84 ls (.ref v :: st) h) := xe_aload_n ec843 dX8_netOf_83
theorem e843_84 {ls st : List Value} {h : x_H} : x_run 843 84 ls st h = q_gi ls 1 (fun v => x_run 843 85 ls (.int v :: st) h) := xe_iload_n ec843 dX8_netOf_84
theorem e843_85 {ls st : List Value} {h : x_H} : x_run 843 85 ls st h = x_run 843 86 ls (.int (q_i 1) :: st) h := xe_iconst ec843 dX8_netOf_85
theorem e843_86 {ls st : List Value} {h : x_H} {b : Nat} {a1 a2 : Value}: x_run 843 86 ls (a2 :: a1 :: .ref b :: st) h = if q_rcv h b 10 = true then (if x_wt st ≤ 8 ∧ x_wt [.ref b, a1, a2] = 3 then q_cl (x_m 811 [.ref b, a1, a2] h) (fun v h' => x_run 843 89 ls (v.toList ++ st) h') else none) else none := xe_virt (r := [a1, a2]) ec843 dX8_netOf_86 ek8_80 rfl (by decide +kernel) (by decide +kernel)
theorem e843_89 {ls : List Value} {h : x_H} {x : Int32} : x_run 843 89 ls [.int x] h = if narrow .int (.int x) = .int x then some (.inl (some (.int x)), h) else none := xe_ireturn ec843 dX8_netOf_89 rfl
theorem e843_90 {ls st : List Value} {h : x_H} : x_run 843 90 ls st h = q_gr ls 0 (fun v => x_run 843 91 ls (.ref v :: st) h) := xe_aload_n ec843 dX8_netOf_90
theorem e843_91 {ls st : List Value} {h : x_H} : x_run 843 91 ls st h = q_gi ls 1 (fun v => x_run 843 92 ls (.int v :: st) h) := xe_iload_n ec843 dX8_netOf_91
theorem e843_92 {ls st : List Value} {h : x_H} : x_run 843 92 ls st h = x_run 843 94 ls (.int (q_i 6) :: st) h := xe_bipush ec843 dX8_netOf_92 (by decide)
theorem e843_94 {ls st : List Value} {h : x_H} {b : Nat} {a1 a2 : Value}: x_run 843 94 ls (a2 :: a1 :: .ref b :: st) h = if q_rcv h b 10 = true then (if x_wt st ≤ 8 ∧ x_wt [.ref b, a1, a2] = 3 then q_cl (x_m 811 [.ref b, a1, a2] h) (fun v h' => x_run 843 97 ls (v.toList ++ st) h') else none) else none := xe_virt (r := [a1, a2]) ec843 dX8_netOf_94 ek8_80 rfl (by decide +kernel) (by decide +kernel)
theorem e843_97 {ls : List Value} {h : x_H} {x : Int32} : x_run 843 97 ls [.int x] h = if narrow .int (.int x) = .int x then some (.inl (some (.int x)), h) else none := xe_ireturn ec843 dX8_netOf_97 rfl
theorem e843_98 {ls st : List Value} {h : x_H} : x_run 843 98 ls st h = q_gr ls 0 (fun v => x_run 843 99 ls (.ref v :: st) h) := xe_aload_n ec843 dX8_netOf_98
theorem e843_99 {ls st : List Value} {h : x_H} : x_run 843 99 ls st h = q_gi ls 1 (fun v => x_run 843 100 ls (.int v :: st) h) := xe_iload_n ec843 dX8_netOf_99
theorem e843_100 {ls st : List Value} {h : x_H} : x_run 843 100 ls st h = x_run 843 102 ls (.int (q_i 7) :: st) h := xe_bipush ec843 dX8_netOf_100 (by decide)
theorem e843_102 {ls st : List Value} {h : x_H} {b : Nat} {a1 a2 : Value}: x_run 843 102 ls (a2 :: a1 :: .ref b :: st) h = if q_rcv h b 10 = true then (if x_wt st ≤ 8 ∧ x_wt [.ref b, a1, a2] = 3 then q_cl (x_m 811 [.ref b, a1, a2] h) (fun v h' => x_run 843 105 ls (v.toList ++ st) h') else none) else none := xe_virt (r := [a1, a2]) ec843 dX8_netOf_102 ek8_80 rfl (by decide +kernel) (by decide +kernel)
theorem e843_105 {ls : List Value} {h : x_H} {x : Int32} : x_run 843 105 ls [.int x] h = if narrow .int (.int x) = .int x then some (.inl (some (.int x)), h) else none := xe_ireturn ec843 dX8_netOf_105 rfl
theorem e843_106 {ls st : List Value} {h : x_H} : x_run 843 106 ls st h = q_gr ls 0 (fun v => x_run 843 107 ls (.ref v :: st) h) := xe_aload_n ec843 dX8_netOf_106
theorem e843_107 {ls st : List Value} {h : x_H} : x_run 843 107 ls st h = q_gi ls 1 (fun v => x_run 843 108 ls (.int v :: st) h) := xe_iload_n ec843 dX8_netOf_107
theorem e843_108 {ls st : List Value} {h : x_H} {b : Nat} {a1 : Value}: x_run 843 108 ls (a1 :: .ref b :: st) h = if q_rcv h b 10 = true then (if x_wt st ≤ 8 ∧ x_wt [.ref b, a1] = 2 then q_cl (x_m 834 [.ref b, a1] h) (fun v h' => x_run 843 111 ls (v.toList ++ st) h') else none) else none := xe_virt (r := [a1]) ec843 dX8_netOf_108 ek8_180 rfl (by decide +kernel) (by decide +kernel)
theorem e843_111 {ls : List Value} {h : x_H} {x : Int32} : x_run 843 111 ls [.int x] h = if narrow .int (.int x) = .int x then some (.inl (some (.int x)), h) else none := xe_ireturn ec843 dX8_netOf_111 rfl
theorem e843_112 {ls st : List Value} {h : x_H} : x_run 843 112 ls st h = q_gr ls 0 (fun v => x_run 843 113 ls (.ref v :: st) h) := xe_aload_n ec843 dX8_netOf_112
theorem e843_113 {ls st : List Value} {h : x_H} : x_run 843 113 ls st h = q_gi ls 1 (fun v => x_run 843 114 ls (.int v :: st) h) := xe_iload_n ec843 dX8_netOf_113
theorem e843_114 {ls st : List Value} {h : x_H} {b : Nat} {a1 : Value}: x_run 843 114 ls (a1 :: .ref b :: st) h = if q_rcv h b 10 = true then (if x_wt st ≤ 8 ∧ x_wt [.ref b, a1] = 2 then q_cl (x_m 835 [.ref b, a1] h) (fun v h' => x_run 843 117 ls (v.toList ++ st) h') else none) else none := xe_virt (r := [a1]) ec843 dX8_netOf_114 ek8_174 rfl (by decide +kernel) (by decide +kernel)
theorem e843_117 {ls : List Value} {h : x_H} {x : Int32} : x_run 843 117 ls [.int x] h = if narrow .int (.int x) = .int x then some (.inl (some (.int x)), h) else none := xe_ireturn ec843 dX8_netOf_117 rfl
theorem e843_118 {ls st : List Value} {h : x_H} : x_run 843 118 ls st h = q_gr ls 0 (fun v => x_run 843 119 ls (.ref v :: st) h) := xe_aload_n ec843 dX8_netOf_118
theorem e843_119 {ls st : List Value} {h : x_H} : x_run 843 119 ls st h = q_gi ls 1 (fun v => x_run 843 120 ls (.int v :: st) h) := xe_iload_n ec843 dX8_netOf_119
theorem e843_120 {ls st : List Value} {h : x_H} : x_run 843 120 ls st h = x_run 843 122 ls (.int (q_i 8) :: st) h := xe_bipush ec843 dX8_netOf_120 (by decide)
theorem e843_122 {ls st : List Value} {h : x_H} {b : Nat} {a1 a2 : Value}: x_run 843 122 ls (a2 :: a1 :: .ref b :: st) h = if q_rcv h b 10 = true then (if x_wt st ≤ 8 ∧ x_wt [.ref b, a1, a2] = 3 then q_cl (x_m 811 [.ref b, a1, a2] h) (fun v h' => x_run 843 125 ls (v.toList ++ st) h') else none) else none := xe_virt (r := [a1, a2]) ec843 dX8_netOf_122 ek8_80 rfl (by decide +kernel) (by decide +kernel)
theorem e843_125 {ls : List Value} {h : x_H} {x : Int32} : x_run 843 125 ls [.int x] h = if narrow .int (.int x) = .int x then some (.inl (some (.int x)), h) else none := xe_ireturn ec843 dX8_netOf_125 rfl
theorem ec844 : x_code 844 = cX8_pinOf := rfl
theorem e844_0 {ls st : List Value} {h : x_H} : x_run 844 0 ls st h = q_gr ls 0 (fun v => x_run 844 1 ls (.ref v :: st) h) := xe_aload_n ec844 dX8_pinOf_0
theorem e844_1 {ls st : List Value} {h : x_H} : x_run 844 1 ls st h = q_gr ls 0 (fun v => x_run 844 2 ls (.ref v :: st) h) := xe_aload_n ec844 dX8_pinOf_1
theorem e844_2 {ls st : List Value} {h : x_H} : x_run 844 2 ls st h = q_gi ls 1 (fun v => x_run 844 3 ls (.int v :: st) h) := xe_iload_n ec844 dX8_pinOf_2
theorem e844_3 {ls st : List Value} {h : x_H} {b : Nat} {a1 : Value}: x_run 844 3 ls (a1 :: .ref b :: st) h = if q_rcv h b 10 = true then (if x_wt st ≤ 8 ∧ x_wt [.ref b, a1] = 2 then q_cl (x_m 810 [.ref b, a1] h) (fun v h' => x_run 844 6 ls (v.toList ++ st) h') else none) else none := xe_virt (r := [a1]) ec844 dX8_pinOf_3 ek8_112 rfl (by decide +kernel) (by decide +kernel)
theorem e844_6 {ls st : List Value} {h : x_H} {x : Int32}: x_run 844 6 ls (.int x :: st) h = if x = 0 then x_run 844 29 ls st h else x_run 844 9 ls st h := xe_if_eq ec844 dX8_pinOf_6 rfl
theorem e844_9 {ls st : List Value} {h : x_H} : x_run 844 9 ls st h = q_gi ls 2 (fun v => x_run 844 10 ls (.int v :: st) h) := xe_iload_n ec844 dX8_pinOf_9
theorem e844_10 {ls st : List Value} {h : x_H} : x_run 844 10 ls st h = x_run 844 11 ls (.int (q_i 0) :: st) h := xe_iconst ec844 dX8_pinOf_10
theorem e844_11 {ls st : List Value} {h : x_H} : x_run 844 11 ls st h = q_gr ls 0 (fun v => x_run 844 12 ls (.ref v :: st) h) := xe_aload_n ec844 dX8_pinOf_11
theorem e844_12 {ls st : List Value} {h : x_H} : x_run 844 12 ls st h = q_gi ls 1 (fun v => x_run 844 13 ls (.int v :: st) h) := xe_iload_n ec844 dX8_pinOf_12
theorem e844_13 {ls st : List Value} {h : x_H} : x_run 844 13 ls st h = x_run 844 14 ls (.int (q_i 1) :: st) h := xe_iconst ec844 dX8_pinOf_13
theorem e844_14 {ls st : List Value} {h : x_H} {b : Nat} {a1 a2 : Value}: x_run 844 14 ls (a2 :: a1 :: .ref b :: st) h = if q_rcv h b 10 = true then (if x_wt st ≤ 8 ∧ x_wt [.ref b, a1, a2] = 3 then q_cl (x_m 811 [.ref b, a1, a2] h) (fun v h' => x_run 844 17 ls (v.toList ++ st) h') else none) else none := xe_virt (r := [a1, a2]) ec844 dX8_pinOf_14 ek8_80 rfl (by decide +kernel) (by decide +kernel)
theorem e844_17 {ls st : List Value} {h : x_H} : x_run 844 17 ls st h = x_run 844 18 ls (.int (q_i 1) :: st) h := xe_iconst ec844 dX8_pinOf_17
theorem e844_18 {ls st : List Value} {h : x_H} {x y : Int32}: x_run 844 18 ls (.int y :: .int x :: st) h = x_run 844 19 ls (.int (x - y) :: st) h := xe_isub ec844 dX8_pinOf_18
theorem e844_19 {ls st : List Value} {h : x_H} {a1 a2 a3 : Value}: x_run 844 19 ls (a3 :: a2 :: a1 :: st) h = if x_wt st ≤ 8 ∧ x_wt [a1, a2, a3] = 3 then q_cl (x_m 804 [a1, a2, a3] h) (fun v h' => x_run 844 22 ls (v.toList ++ st) h') else none := xe_stat (args := [a1, a2, a3]) ec844 dX8_pinOf_19 ek8_68 (by decide) rfl (by decide +kernel) (by decide +kernel)
theorem e844_22 {ls st : List Value} {h : x_H} {x : Int32}: x_run 844 22 ls (.int x :: st) h = if x = 0 then x_run 844 29 ls st h else x_run 844 25 ls st h := xe_if_eq ec844 dX8_pinOf_22 rfl
theorem e844_25 {ls st : List Value} {h : x_H} : x_run 844 25 ls st h = x_run 844 26 ls (.int (q_i 0) :: st) h := xe_iconst ec844 dX8_pinOf_25
theorem e844_26 {ls st : List Value} {h : x_H} : x_run 844 26 ls st h = x_run 844 30 ls st h := xe_goto ec844 dX8_pinOf_26 rfl
theorem e844_29 {ls st : List Value} {h : x_H} : x_run 844 29 ls st h = x_run 844 30 ls (.int (q_i 1) :: st) h := xe_iconst ec844 dX8_pinOf_29
theorem e844_30 {ls st : List Value} {h : x_H} {b : Nat} {a1 : Value}: x_run 844 30 ls (a1 :: .ref b :: st) h = if q_rcv h b 10 = true then (if x_wt st ≤ 8 ∧ x_wt [.ref b, a1] = 2 then q_cl (x_m 802 [.ref b, a1] h) (fun v h' => x_run 844 33 ls (v.toList ++ st) h') else none) else none := xe_virt (r := [a1]) ec844 dX8_pinOf_30 ek8_183 rfl (by decide +kernel) (by decide +kernel)
theorem e844_33 {ls st : List Value} {h : x_H} {x : Int32}: x_run 844 33 ls (.int x :: st) h = if x = 0 then x_run 844 40 ls st h else x_run 844 36 ls st h := xe_if_eq ec844 dX8_pinOf_33 rfl
theorem e844_36 {ls st : List Value} {h : x_H} : x_run 844 36 ls st h = x_run 844 37 ls (.int (q_i 0) :: st) h := xe_iconst ec844 dX8_pinOf_36
theorem e844_37 {ls st : List Value} {h : x_H} : x_run 844 37 ls st h = x_run 844 48 ls st h := xe_goto ec844 dX8_pinOf_37 rfl
theorem e844_40 {ls st : List Value} {h : x_H} : x_run 844 40 ls st h = q_gr ls 0 (fun v => x_run 844 41 ls (.ref v :: st) h) := xe_aload_n ec844 dX8_pinOf_40
theorem e844_41 {ls st : List Value} {h : x_H} : x_run 844 41 ls st h = q_gi ls 1 (fun v => x_run 844 42 ls (.int v :: st) h) := xe_iload_n ec844 dX8_pinOf_41
theorem e844_42 {ls st : List Value} {h : x_H} : x_run 844 42 ls st h = x_run 844 43 ls (.int (q_i 2) :: st) h := xe_iconst ec844 dX8_pinOf_42
theorem e844_43 {ls st : List Value} {h : x_H} : x_run 844 43 ls st h = q_gi ls 2 (fun v => x_run 844 44 ls (.int v :: st) h) := xe_iload_n ec844 dX8_pinOf_43
theorem e844_44 {ls st : List Value} {h : x_H} {x y : Int32}: x_run 844 44 ls (.int y :: .int x :: st) h = x_run 844 45 ls (.int (x + y) :: st) h := xe_iadd ec844 dX8_pinOf_44
theorem e844_45 {ls st : List Value} {h : x_H} {b : Nat} {a1 a2 : Value}: x_run 844 45 ls (a2 :: a1 :: .ref b :: st) h = if q_rcv h b 10 = true then (if x_wt st ≤ 8 ∧ x_wt [.ref b, a1, a2] = 3 then q_cl (x_m 811 [.ref b, a1, a2] h) (fun v h' => x_run 844 48 ls (v.toList ++ st) h') else none) else none := xe_virt (r := [a1, a2]) ec844 dX8_pinOf_45 ek8_80 rfl (by decide +kernel) (by decide +kernel)
theorem e844_48 {ls : List Value} {h : x_H} {x : Int32} : x_run 844 48 ls [.int x] h = if narrow .int (.int x) = .int x then some (.inl (some (.int x)), h) else none := xe_ireturn ec844 dX8_pinOf_48 rfl
theorem ec845 : x_code 845 = cX8_at := rfl
theorem e845_0 {ls st : List Value} {h : x_H} : x_run 845 0 ls st h = q_gr ls 0 (fun v => x_run 845 1 ls (.ref v :: st) h) := xe_aload_n ec845 dX8_at_0
theorem e845_1 {ls st : List Value} {h : x_H} : x_run 845 1 ls st h = q_gi ls 1 (fun v => x_run 845 2 ls (.int v :: st) h) := xe_iload_n ec845 dX8_at_1
theorem e845_2 {ls st : List Value} {h : x_H} : x_run 845 2 ls st h = q_gi ls 2 (fun v => x_run 845 3 ls (.int v :: st) h) := xe_iload_n ec845 dX8_at_2
theorem e845_3 {ls st : List Value} {h : x_H} : x_run 845 3 ls st h = q_gi ls 3 (fun v => x_run 845 4 ls (.int v :: st) h) := xe_iload_n ec845 dX8_at_3
theorem e845_4 {ls st : List Value} {h : x_H} {a1 a2 a3 : Value}: x_run 845 4 ls (a3 :: a2 :: a1 :: st) h = if x_wt st ≤ 8 ∧ x_wt [a1, a2, a3] = 3 then q_cl (x_m 808 [a1, a2, a3] h) (fun v h' => x_run 845 7 ls (v.toList ++ st) h') else none := xe_stat (args := [a1, a2, a3]) ec845 dX8_at_4 ek8_119 (by decide) rfl (by decide +kernel) (by decide +kernel)
theorem e845_7 {ls st : List Value} {h : x_H} {x : Int32}: x_run 845 7 ls (.int x :: st) h = if x = 0 then x_run 845 14 ls st h else x_run 845 10 ls st h := xe_if_eq ec845 dX8_at_7 rfl
theorem e845_10 {ls st : List Value} {h : x_H} : x_run 845 10 ls st h = x_run 845 11 ls (.int (q_i 0) :: st) h := xe_iconst ec845 dX8_at_10
theorem e845_11 {ls st : List Value} {h : x_H} : x_run 845 11 ls st h = x_run 845 15 ls st h := xe_goto ec845 dX8_at_11 rfl
theorem e845_14 {ls st : List Value} {h : x_H} : x_run 845 14 ls st h = x_run 845 15 ls (.int (q_i 1) :: st) h := xe_iconst ec845 dX8_at_14
theorem e845_15 {ls st : List Value} {h : x_H} {b : Nat} {a1 : Value}: x_run 845 15 ls (a1 :: .ref b :: st) h = if q_rcv h b 10 = true then (if x_wt st ≤ 8 ∧ x_wt [.ref b, a1] = 2 then q_cl (x_m 802 [.ref b, a1] h) (fun v h' => x_run 845 18 ls (v.toList ++ st) h') else none) else none := xe_virt (r := [a1]) ec845 dX8_at_15 ek8_183 rfl (by decide +kernel) (by decide +kernel)
theorem e845_18 {ls st : List Value} {h : x_H} {x : Int32}: x_run 845 18 ls (.int x :: st) h = if x = 0 then x_run 845 23 ls st h else x_run 845 21 ls st h := xe_if_eq ec845 dX8_at_18 rfl
theorem e845_21 {ls st : List Value} {h : x_H} : x_run 845 21 ls st h = x_run 845 22 ls (.int (q_i 0) :: st) h := xe_iconst ec845 dX8_at_21
theorem e845_22 {ls : List Value} {h : x_H} {x : Int32} : x_run 845 22 ls [.int x] h = if narrow .int (.int x) = .int x then some (.inl (some (.int x)), h) else none := xe_ireturn ec845 dX8_at_22 rfl
theorem e845_23 {ls st : List Value} {h : x_H} : x_run 845 23 ls st h = q_gi ls 1 (fun v => x_run 845 24 ls (.int v :: st) h) := xe_iload_n ec845 dX8_at_23
theorem e845_24 {ls st : List Value} {h : x_H} : x_run 845 24 ls st h = q_gi ls 2 (fun v => x_run 845 25 ls (.int v :: st) h) := xe_iload_n ec845 dX8_at_24
theorem e845_25 {ls st : List Value} {h : x_H} : x_run 845 25 ls st h = q_gi ls 3 (fun v => x_run 845 26 ls (.int v :: st) h) := xe_iload_n ec845 dX8_at_25
theorem e845_26 {ls st : List Value} {h : x_H} {a1 a2 a3 : Value}: x_run 845 26 ls (a3 :: a2 :: a1 :: st) h = if x_wt st ≤ 8 ∧ x_wt [a1, a2, a3] = 3 then q_cl (x_m 809 [a1, a2, a3] h) (fun v h' => x_run 845 29 ls (v.toList ++ st) h') else none := xe_stat (args := [a1, a2, a3]) ec845 dX8_at_26 ek8_115 (by decide) rfl (by decide +kernel) (by decide +kernel)
theorem e845_29 {ls st : List Value} {h : x_H} {x : Int32}: x_run 845 29 ls (.int x :: st) h = q_ls ls 4 (.int x) (fun ls' => x_run 845 31 ls' st h) := xe_istore ec845 dX8_at_29
theorem e845_31 {ls st : List Value} {h : x_H} : x_run 845 31 ls st h = q_gr ls 0 (fun v => x_run 845 32 ls (.ref v :: st) h) := xe_aload_n ec845 dX8_at_31
theorem e845_32 {ls st : List Value} {h : x_H} : x_run 845 32 ls st h = q_gi ls 4 (fun v => x_run 845 34 ls (.int v :: st) h) := xe_iload ec845 dX8_at_32
theorem e845_34 {ls st : List Value} {h : x_H} {b : Nat} {a1 : Value}: x_run 845 34 ls (a1 :: .ref b :: st) h = if q_rcv h b 10 = true then (if x_wt st ≤ 8 ∧ x_wt [.ref b, a1] = 2 then q_cl (x_m 813 [.ref b, a1] h) (fun v h' => x_run 845 37 ls (v.toList ++ st) h') else none) else none := xe_virt (r := [a1]) ec845 dX8_at_34 ek8_76 rfl (by decide +kernel) (by decide +kernel)
theorem e845_37 {ls st : List Value} {h : x_H} : x_run 845 37 ls st h = x_run 845 38 ls (.int (q_i 1) :: st) h := xe_iconst ec845 dX8_at_37
theorem e845_38 {ls st : List Value} {h : x_H} {x y : Int32}: x_run 845 38 ls (.int y :: .int x :: st) h = if ¬ x = y then x_run 845 46 ls st h else x_run 845 41 ls st h := xe_ic_ne ec845 dX8_at_38 rfl
theorem e845_41 {ls st : List Value} {h : x_H} : x_run 845 41 ls st h = x_run 845 43 ls (.int (q_i (-2)) :: st) h := xe_bipush ec845 dX8_at_41 (by decide)
theorem e845_43 {ls st : List Value} {h : x_H} : x_run 845 43 ls st h = x_run 845 52 ls st h := xe_goto ec845 dX8_at_43 rfl
theorem e845_46 {ls st : List Value} {h : x_H} : x_run 845 46 ls st h = q_gr ls 0 (fun v => x_run 845 47 ls (.ref v :: st) h) := xe_aload_n ec845 dX8_at_46
theorem e845_47 {ls st : List Value} {h : x_H} : x_run 845 47 ls st h = q_gi ls 4 (fun v => x_run 845 49 ls (.int v :: st) h) := xe_iload ec845 dX8_at_47
theorem e845_49 {ls st : List Value} {h : x_H} {b : Nat} {a1 : Value}: x_run 845 49 ls (a1 :: .ref b :: st) h = if q_rcv h b 10 = true then (if x_wt st ≤ 8 ∧ x_wt [.ref b, a1] = 2 then q_cl (x_m 814 [.ref b, a1] h) (fun v h' => x_run 845 52 ls (v.toList ++ st) h') else none) else none := xe_virt (r := [a1]) ec845 dX8_at_49 ek8_87 rfl (by decide +kernel) (by decide +kernel)
theorem e845_52 {ls : List Value} {h : x_H} {x : Int32} : x_run 845 52 ls [.int x] h = if narrow .int (.int x) = .int x then some (.inl (some (.int x)), h) else none := xe_ireturn ec845 dX8_at_52 rfl
theorem ec846 : x_code 846 = cX8_isHole := rfl
theorem e846_0 {ls st : List Value} {h : x_H} : x_run 846 0 ls st h = q_gr ls 0 (fun v => x_run 846 1 ls (.ref v :: st) h) := xe_aload_n ec846 dX8_isHole_0
theorem e846_1 {ls st : List Value} {h : x_H} : x_run 846 1 ls st h = q_gi ls 1 (fun v => x_run 846 2 ls (.int v :: st) h) := xe_iload_n ec846 dX8_isHole_1
theorem e846_2 {ls st : List Value} {h : x_H} : x_run 846 2 ls st h = q_gi ls 2 (fun v => x_run 846 3 ls (.int v :: st) h) := xe_iload_n ec846 dX8_isHole_2
theorem e846_3 {ls st : List Value} {h : x_H} {a1 a2 : Value}: x_run 846 3 ls (a2 :: a1 :: st) h = if x_wt st ≤ 8 ∧ x_wt [a1, a2] = 2 then q_cl (x_m 807 [a1, a2] h) (fun v h' => x_run 846 6 ls (v.toList ++ st) h') else none := xe_stat (args := [a1, a2]) ec846 dX8_isHole_3 ek8_72 (by decide) rfl (by decide +kernel) (by decide +kernel)
theorem e846_6 {ls st : List Value} {h : x_H} {x : Int32}: x_run 846 6 ls (.int x :: st) h = if x = 0 then x_run 846 13 ls st h else x_run 846 9 ls st h := xe_if_eq ec846 dX8_isHole_6 rfl
theorem e846_9 {ls st : List Value} {h : x_H} : x_run 846 9 ls st h = x_run 846 10 ls (.int (q_i 0) :: st) h := xe_iconst ec846 dX8_isHole_9
theorem e846_10 {ls st : List Value} {h : x_H} : x_run 846 10 ls st h = x_run 846 14 ls st h := xe_goto ec846 dX8_isHole_10 rfl
theorem e846_13 {ls st : List Value} {h : x_H} : x_run 846 13 ls st h = x_run 846 14 ls (.int (q_i 1) :: st) h := xe_iconst ec846 dX8_isHole_13
theorem e846_14 {ls st : List Value} {h : x_H} {b : Nat} {a1 : Value}: x_run 846 14 ls (a1 :: .ref b :: st) h = if q_rcv h b 10 = true then (if x_wt st ≤ 8 ∧ x_wt [.ref b, a1] = 2 then q_cl (x_m 802 [.ref b, a1] h) (fun v h' => x_run 846 17 ls (v.toList ++ st) h') else none) else none := xe_virt (r := [a1]) ec846 dX8_isHole_14 ek8_183 rfl (by decide +kernel) (by decide +kernel)
theorem e846_17 {ls st : List Value} {h : x_H} {x : Int32}: x_run 846 17 ls (.int x :: st) h = if ¬ x = 0 then x_run 846 42 ls st h else x_run 846 20 ls st h := xe_if_ne ec846 dX8_isHole_17 rfl
theorem e846_20 {ls st : List Value} {h : x_H} : x_run 846 20 ls st h = q_gr ls 0 (fun v => x_run 846 21 ls (.ref v :: st) h) := xe_aload_n ec846 dX8_isHole_20
theorem e846_21 {ls st : List Value} {h : x_H} {a : Nat}: x_run 846 21 ls (.ref a :: st) h = q_gf h a 10 0 (fun v => x_run 846 24 ls (v :: st) h) := xe_getfield ec846 dX8_isHole_21 ef8_7
theorem e846_24 {ls st : List Value} {h : x_H} : x_run 846 24 ls st h = x_run 846 27 ls (.int (q_i 151) :: st) h := xe_sipush ec846 dX8_isHole_24 (by decide)
theorem e846_27 {ls st : List Value} {h : x_H} : x_run 846 27 ls st h = q_gi ls 1 (fun v => x_run 846 28 ls (.int v :: st) h) := xe_iload_n ec846 dX8_isHole_27
theorem e846_28 {ls st : List Value} {h : x_H} : x_run 846 28 ls st h = q_gi ls 2 (fun v => x_run 846 29 ls (.int v :: st) h) := xe_iload_n ec846 dX8_isHole_28
theorem e846_29 {ls st : List Value} {h : x_H} : x_run 846 29 ls st h = x_run 846 30 ls (.int (q_i 0) :: st) h := xe_iconst ec846 dX8_isHole_29
theorem e846_30 {ls st : List Value} {h : x_H} {a1 a2 a3 : Value}: x_run 846 30 ls (a3 :: a2 :: a1 :: st) h = if x_wt st ≤ 8 ∧ x_wt [a1, a2, a3] = 3 then q_cl (x_m 809 [a1, a2, a3] h) (fun v h' => x_run 846 33 ls (v.toList ++ st) h') else none := xe_stat (args := [a1, a2, a3]) ec846 dX8_isHole_30 ek8_115 (by decide) rfl (by decide +kernel) (by decide +kernel)
theorem e846_33 {ls st : List Value} {h : x_H} {x y : Int32}: x_run 846 33 ls (.int y :: .int x :: st) h = x_run 846 34 ls (.int (x + y) :: st) h := xe_iadd ec846 dX8_isHole_33
theorem e846_34 {ls st : List Value} {h : x_H} {x : Int32} {a : Nat}: x_run 846 34 ls (.int x :: .ref a :: st) h = q_ra h a 0 x (fun v => x_run 846 35 ls (.int v :: st) h) := xe_iaload ec846 dX8_isHole_34
theorem e846_35 {ls st : List Value} {h : x_H} {x : Int32}: x_run 846 35 ls (.int x :: st) h = if x ≤ 0 then x_run 846 42 ls st h else x_run 846 38 ls st h := xe_if_le ec846 dX8_isHole_35 rfl
theorem e846_38 {ls st : List Value} {h : x_H} : x_run 846 38 ls st h = x_run 846 39 ls (.int (q_i 1) :: st) h := xe_iconst ec846 dX8_isHole_38
theorem e846_39 {ls st : List Value} {h : x_H} : x_run 846 39 ls st h = x_run 846 43 ls st h := xe_goto ec846 dX8_isHole_39 rfl
theorem e846_42 {ls st : List Value} {h : x_H} : x_run 846 42 ls st h = x_run 846 43 ls (.int (q_i 0) :: st) h := xe_iconst ec846 dX8_isHole_42
theorem e846_43 {ls : List Value} {h : x_H} {x : Int32} : x_run 846 43 ls [.int x] h = if narrow .boolean (.int x) = .int x then some (.inl (some (.int x)), h) else none := xe_ireturn ec846 dX8_isHole_43 rfl
theorem ec847 : x_code 847 = cX8_price := rfl
theorem e847_0 {ls st : List Value} {h : x_H} : x_run 847 0 ls st h = q_gr ls 0 (fun v => x_run 847 1 ls (.ref v :: st) h) := xe_aload_n ec847 dX8_price_0
theorem e847_1 {ls st : List Value} {h : x_H} : x_run 847 1 ls st h = q_gr ls 0 (fun v => x_run 847 2 ls (.ref v :: st) h) := xe_aload_n ec847 dX8_price_1
theorem e847_2 {ls st : List Value} {h : x_H} : x_run 847 2 ls st h = q_gi ls 1 (fun v => x_run 847 3 ls (.int v :: st) h) := xe_iload_n ec847 dX8_price_2
theorem e847_3 {ls st : List Value} {h : x_H} {b : Nat} {a1 : Value}: x_run 847 3 ls (a1 :: .ref b :: st) h = if q_rcv h b 10 = true then (if x_wt st ≤ 8 ∧ x_wt [.ref b, a1] = 2 then q_cl (x_m 810 [.ref b, a1] h) (fun v h' => x_run 847 6 ls (v.toList ++ st) h') else none) else none := xe_virt (r := [a1]) ec847 dX8_price_3 ek8_112 rfl (by decide +kernel) (by decide +kernel)
theorem e847_6 {ls st : List Value} {h : x_H} {x : Int32}: x_run 847 6 ls (.int x :: st) h = if x = 0 then x_run 847 23 ls st h else x_run 847 9 ls st h := xe_if_eq ec847 dX8_price_6 rfl
theorem e847_9 {ls st : List Value} {h : x_H} : x_run 847 9 ls st h = q_gi ls 2 (fun v => x_run 847 10 ls (.int v :: st) h) := xe_iload_n ec847 dX8_price_9
theorem e847_10 {ls st : List Value} {h : x_H} : x_run 847 10 ls st h = q_gi ls 3 (fun v => x_run 847 11 ls (.int v :: st) h) := xe_iload_n ec847 dX8_price_10
theorem e847_11 {ls st : List Value} {h : x_H} : x_run 847 11 ls st h = q_gi ls 4 (fun v => x_run 847 13 ls (.int v :: st) h) := xe_iload ec847 dX8_price_11
theorem e847_13 {ls st : List Value} {h : x_H} {a1 a2 a3 : Value}: x_run 847 13 ls (a3 :: a2 :: a1 :: st) h = if x_wt st ≤ 8 ∧ x_wt [a1, a2, a3] = 3 then q_cl (x_m 808 [a1, a2, a3] h) (fun v h' => x_run 847 16 ls (v.toList ++ st) h') else none := xe_stat (args := [a1, a2, a3]) ec847 dX8_price_13 ek8_119 (by decide) rfl (by decide +kernel) (by decide +kernel)
theorem e847_16 {ls st : List Value} {h : x_H} {x : Int32}: x_run 847 16 ls (.int x :: st) h = if x = 0 then x_run 847 23 ls st h else x_run 847 19 ls st h := xe_if_eq ec847 dX8_price_16 rfl
theorem e847_19 {ls st : List Value} {h : x_H} : x_run 847 19 ls st h = x_run 847 20 ls (.int (q_i 0) :: st) h := xe_iconst ec847 dX8_price_19
theorem e847_20 {ls st : List Value} {h : x_H} : x_run 847 20 ls st h = x_run 847 24 ls st h := xe_goto ec847 dX8_price_20 rfl
theorem e847_23 {ls st : List Value} {h : x_H} : x_run 847 23 ls st h = x_run 847 24 ls (.int (q_i 1) :: st) h := xe_iconst ec847 dX8_price_23
theorem e847_24 {ls st : List Value} {h : x_H} {b : Nat} {a1 : Value}: x_run 847 24 ls (a1 :: .ref b :: st) h = if q_rcv h b 10 = true then (if x_wt st ≤ 8 ∧ x_wt [.ref b, a1] = 2 then q_cl (x_m 802 [.ref b, a1] h) (fun v h' => x_run 847 27 ls (v.toList ++ st) h') else none) else none := xe_virt (r := [a1]) ec847 dX8_price_24 ek8_183 rfl (by decide +kernel) (by decide +kernel)
theorem e847_27 {ls st : List Value} {h : x_H} {x : Int32}: x_run 847 27 ls (.int x :: st) h = if x = 0 then x_run 847 34 ls st h else x_run 847 30 ls st h := xe_if_eq ec847 dX8_price_27 rfl
theorem e847_30 {ls st : List Value} {h : x_H} : x_run 847 30 ls st h = x_run 847 31 ls (.int (q_i 0) :: st) h := xe_iconst ec847 dX8_price_30
theorem e847_31 {ls st : List Value} {h : x_H} : x_run 847 31 ls st h = x_run 847 46 ls st h := xe_goto ec847 dX8_price_31 rfl
theorem e847_34 {ls st : List Value} {h : x_H} : x_run 847 34 ls st h = q_gr ls 0 (fun v => x_run 847 35 ls (.ref v :: st) h) := xe_aload_n ec847 dX8_price_34
theorem e847_35 {ls st : List Value} {h : x_H} : x_run 847 35 ls st h = q_gi ls 1 (fun v => x_run 847 36 ls (.int v :: st) h) := xe_iload_n ec847 dX8_price_35
theorem e847_36 {ls st : List Value} {h : x_H} : x_run 847 36 ls st h = q_gi ls 2 (fun v => x_run 847 37 ls (.int v :: st) h) := xe_iload_n ec847 dX8_price_36
theorem e847_37 {ls st : List Value} {h : x_H} : x_run 847 37 ls st h = q_gi ls 3 (fun v => x_run 847 38 ls (.int v :: st) h) := xe_iload_n ec847 dX8_price_37
theorem e847_38 {ls st : List Value} {h : x_H} : x_run 847 38 ls st h = q_gi ls 4 (fun v => x_run 847 40 ls (.int v :: st) h) := xe_iload ec847 dX8_price_38
theorem e847_40 {ls st : List Value} {h : x_H} {a1 a2 a3 : Value}: x_run 847 40 ls (a3 :: a2 :: a1 :: st) h = if x_wt st ≤ 8 ∧ x_wt [a1, a2, a3] = 3 then q_cl (x_m 809 [a1, a2, a3] h) (fun v h' => x_run 847 43 ls (v.toList ++ st) h') else none := xe_stat (args := [a1, a2, a3]) ec847 dX8_price_40 ek8_115 (by decide) rfl (by decide +kernel) (by decide +kernel)
theorem e847_43 {ls st : List Value} {h : x_H} {b : Nat} {a1 a2 : Value}: x_run 847 43 ls (a2 :: a1 :: .ref b :: st) h = if q_rcv h b 10 = true then (if x_wt st ≤ 8 ∧ x_wt [.ref b, a1, a2] = 3 then q_cl (x_m 819 [.ref b, a1, a2] h) (fun v h' => x_run 847 46 ls (v.toList ++ st) h') else none) else none := xe_virt (r := [a1, a2]) ec847 dX8_price_43 ek8_129 rfl (by decide +kernel) (by decide +kernel)
theorem e847_46 {ls : List Value} {h : x_H} {x : Int32} : x_run 847 46 ls [.int x] h = if narrow .int (.int x) = .int x then some (.inl (some (.int x)), h) else none := xe_ireturn ec847 dX8_price_46 rfl
theorem ec848 : x_code 848 = cX8_hasNoWay := rfl
theorem e848_0 {ls st : List Value} {h : x_H} : x_run 848 0 ls st h = q_gr ls 0 (fun v => x_run 848 1 ls (.ref v :: st) h) := xe_aload_n ec848 dX8_hasNoWay_0
theorem e848_1 {ls st : List Value} {h : x_H} : x_run 848 1 ls st h = q_gi ls 1 (fun v => x_run 848 2 ls (.int v :: st) h) := xe_iload_n ec848 dX8_hasNoWay_1
theorem e848_2 {ls st : List Value} {h : x_H} : x_run 848 2 ls st h = x_run 848 4 ls (.int (q_i 6) :: st) h := xe_bipush ec848 dX8_hasNoWay_2 (by decide)
theorem e848_4 {ls st : List Value} {h : x_H} {b : Nat} {a1 a2 : Value}: x_run 848 4 ls (a2 :: a1 :: .ref b :: st) h = if q_rcv h b 10 = true then (if x_wt st ≤ 8 ∧ x_wt [.ref b, a1, a2] = 3 then q_cl (x_m 811 [.ref b, a1, a2] h) (fun v h' => x_run 848 7 ls (v.toList ++ st) h') else none) else none := xe_virt (r := [a1, a2]) ec848 dX8_hasNoWay_4 ek8_80 rfl (by decide +kernel) (by decide +kernel)
theorem e848_7 {ls st : List Value} {h : x_H} : x_run 848 7 ls st h = x_run 848 8 ls (.int (q_i 1) :: st) h := xe_iconst ec848 dX8_hasNoWay_7
theorem e848_8 {ls st : List Value} {h : x_H} {x y : Int32}: x_run 848 8 ls (.int y :: .int x :: st) h = if x = y then x_run 848 30 ls st h else x_run 848 11 ls st h := xe_ic_eq ec848 dX8_hasNoWay_8 rfl
theorem e848_11 {ls st : List Value} {h : x_H} : x_run 848 11 ls st h = q_gr ls 0 (fun v => x_run 848 12 ls (.ref v :: st) h) := xe_aload_n ec848 dX8_hasNoWay_11
theorem e848_12 {ls st : List Value} {h : x_H} : x_run 848 12 ls st h = q_gi ls 1 (fun v => x_run 848 13 ls (.int v :: st) h) := xe_iload_n ec848 dX8_hasNoWay_12
theorem e848_13 {ls st : List Value} {h : x_H} : x_run 848 13 ls st h = x_run 848 14 ls (.int (q_i 1) :: st) h := xe_iconst ec848 dX8_hasNoWay_13
theorem e848_14 {ls st : List Value} {h : x_H} {b : Nat} {a1 a2 : Value}: x_run 848 14 ls (a2 :: a1 :: .ref b :: st) h = if q_rcv h b 10 = true then (if x_wt st ≤ 8 ∧ x_wt [.ref b, a1, a2] = 3 then q_cl (x_m 811 [.ref b, a1, a2] h) (fun v h' => x_run 848 17 ls (v.toList ++ st) h') else none) else none := xe_virt (r := [a1, a2]) ec848 dX8_hasNoWay_14 ek8_80 rfl (by decide +kernel) (by decide +kernel)
theorem e848_17 {ls st : List Value} {h : x_H} : x_run 848 17 ls st h = x_run 848 18 ls (.int (q_i 2) :: st) h := xe_iconst ec848 dX8_hasNoWay_17
theorem e848_18 {ls st : List Value} {h : x_H} {x y : Int32}: x_run 848 18 ls (.int y :: .int x :: st) h = if x < y then x_run 848 30 ls st h else x_run 848 21 ls st h := xe_ic_lt ec848 dX8_hasNoWay_18 rfl
theorem e848_21 {ls st : List Value} {h : x_H} : x_run 848 21 ls st h = q_gr ls 0 (fun v => x_run 848 22 ls (.ref v :: st) h) := xe_aload_n ec848 dX8_hasNoWay_21
theorem e848_22 {ls st : List Value} {h : x_H} : x_run 848 22 ls st h = q_gi ls 1 (fun v => x_run 848 23 ls (.int v :: st) h) := xe_iload_n ec848 dX8_hasNoWay_22
theorem e848_23 {ls st : List Value} {h : x_H} : x_run 848 23 ls st h = q_gi ls 2 (fun v => x_run 848 24 ls (.int v :: st) h) := xe_iload_n ec848 dX8_hasNoWay_23
theorem e848_24 {ls st : List Value} {h : x_H} {b : Nat} {a1 a2 : Value}: x_run 848 24 ls (a2 :: a1 :: .ref b :: st) h = if q_rcv h b 10 = true then (if x_wt st ≤ 8 ∧ x_wt [.ref b, a1, a2] = 3 then q_cl (x_m 831 [.ref b, a1, a2] h) (fun v h' => x_run 848 27 ls (v.toList ++ st) h') else none) else none := xe_virt (r := [a1, a2]) ec848 dX8_hasNoWay_24 ek8_154 rfl (by decide +kernel) (by decide +kernel)
theorem e848_27 {ls st : List Value} {h : x_H} {x : Int32}: x_run 848 27 ls (.int x :: st) h = if x ≤ 0 then x_run 848 34 ls st h else x_run 848 30 ls st h := xe_if_le ec848 dX8_hasNoWay_27 rfl
theorem e848_30 {ls st : List Value} {h : x_H} : x_run 848 30 ls st h = x_run 848 31 ls (.int (q_i 1) :: st) h := xe_iconst ec848 dX8_hasNoWay_30
theorem e848_31 {ls st : List Value} {h : x_H} : x_run 848 31 ls st h = x_run 848 35 ls st h := xe_goto ec848 dX8_hasNoWay_31 rfl
theorem e848_34 {ls st : List Value} {h : x_H} : x_run 848 34 ls st h = x_run 848 35 ls (.int (q_i 0) :: st) h := xe_iconst ec848 dX8_hasNoWay_34
theorem e848_35 {ls : List Value} {h : x_H} {x : Int32} : x_run 848 35 ls [.int x] h = if narrow .boolean (.int x) = .int x then some (.inl (some (.int x)), h) else none := xe_ireturn ec848 dX8_hasNoWay_35 rfl
theorem ec849 : x_code 849 = cX8_wouldCost := rfl
theorem e849_0 {ls st : List Value} {h : x_H} : x_run 849 0 ls st h = q_gr ls 0 (fun v => x_run 849 1 ls (.ref v :: st) h) := xe_aload_n ec849 dX8_wouldCost_0
theorem e849_1 {ls st : List Value} {h : x_H} : x_run 849 1 ls st h = q_gr ls 0 (fun v => x_run 849 2 ls (.ref v :: st) h) := xe_aload_n ec849 dX8_wouldCost_1
theorem e849_2 {ls st : List Value} {h : x_H} : x_run 849 2 ls st h = q_gi ls 1 (fun v => x_run 849 3 ls (.int v :: st) h) := xe_iload_n ec849 dX8_wouldCost_2
theorem e849_3 {ls st : List Value} {h : x_H} {b : Nat} {a1 : Value}: x_run 849 3 ls (a1 :: .ref b :: st) h = if q_rcv h b 10 = true then (if x_wt st ≤ 8 ∧ x_wt [.ref b, a1] = 2 then q_cl (x_m 810 [.ref b, a1] h) (fun v h' => x_run 849 6 ls (v.toList ++ st) h') else none) else none := xe_virt (r := [a1]) ec849 dX8_wouldCost_3 ek8_112 rfl (by decide +kernel) (by decide +kernel)
theorem e849_6 {ls st : List Value} {h : x_H} {x : Int32}: x_run 849 6 ls (.int x :: st) h = if ¬ x = 0 then x_run 849 13 ls st h else x_run 849 9 ls st h := xe_if_ne ec849 dX8_wouldCost_6 rfl
theorem e849_9 {ls st : List Value} {h : x_H} : x_run 849 9 ls st h = x_run 849 10 ls (.int (q_i 1) :: st) h := xe_iconst ec849 dX8_wouldCost_9
theorem e849_10 {ls st : List Value} {h : x_H} : x_run 849 10 ls st h = x_run 849 27 ls st h := xe_goto ec849 dX8_wouldCost_10 rfl
theorem e849_13 {ls st : List Value} {h : x_H} : x_run 849 13 ls st h = q_gr ls 0 (fun v => x_run 849 14 ls (.ref v :: st) h) := xe_aload_n ec849 dX8_wouldCost_13
theorem e849_14 {ls st : List Value} {h : x_H} : x_run 849 14 ls st h = q_gi ls 1 (fun v => x_run 849 15 ls (.int v :: st) h) := xe_iload_n ec849 dX8_wouldCost_14
theorem e849_15 {ls st : List Value} {h : x_H} : x_run 849 15 ls st h = x_run 849 16 ls (.int (q_i 0) :: st) h := xe_iconst ec849 dX8_wouldCost_15
theorem e849_16 {ls st : List Value} {h : x_H} {b : Nat} {a1 a2 : Value}: x_run 849 16 ls (a2 :: a1 :: .ref b :: st) h = if q_rcv h b 10 = true then (if x_wt st ≤ 8 ∧ x_wt [.ref b, a1, a2] = 3 then q_cl (x_m 848 [.ref b, a1, a2] h) (fun v h' => x_run 849 19 ls (v.toList ++ st) h') else none) else none := xe_virt (r := [a1, a2]) ec849 dX8_wouldCost_16 ek8_186 rfl (by decide +kernel) (by decide +kernel)
theorem e849_19 {ls st : List Value} {h : x_H} {x : Int32}: x_run 849 19 ls (.int x :: st) h = if x = 0 then x_run 849 26 ls st h else x_run 849 22 ls st h := xe_if_eq ec849 dX8_wouldCost_19 rfl
theorem e849_22 {ls st : List Value} {h : x_H} : x_run 849 22 ls st h = x_run 849 23 ls (.int (q_i 2) :: st) h := xe_iconst ec849 dX8_wouldCost_22
theorem e849_23 {ls st : List Value} {h : x_H} : x_run 849 23 ls st h = x_run 849 27 ls st h := xe_goto ec849 dX8_wouldCost_23 rfl
theorem e849_26 {ls st : List Value} {h : x_H} : x_run 849 26 ls st h = x_run 849 27 ls (.int (q_i 0) :: st) h := xe_iconst ec849 dX8_wouldCost_26
theorem e849_27 {ls st : List Value} {h : x_H} {b : Nat} {a1 : Value}: x_run 849 27 ls (a1 :: .ref b :: st) h = if q_rcv h b 10 = true then (if x_wt st ≤ 8 ∧ x_wt [.ref b, a1] = 2 then q_cl (x_m 802 [.ref b, a1] h) (fun v h' => x_run 849 30 ls (v.toList ++ st) h') else none) else none := xe_virt (r := [a1]) ec849 dX8_wouldCost_27 ek8_183 rfl (by decide +kernel) (by decide +kernel)
theorem e849_30 {ls st : List Value} {h : x_H} {x : Int32}: x_run 849 30 ls (.int x :: st) h = if x = 0 then x_run 849 37 ls st h else x_run 849 33 ls st h := xe_if_eq ec849 dX8_wouldCost_30 rfl
theorem e849_33 {ls st : List Value} {h : x_H} : x_run 849 33 ls st h = x_run 849 34 ls (.int (q_i 0) :: st) h := xe_iconst ec849 dX8_wouldCost_33
theorem e849_34 {ls st : List Value} {h : x_H} : x_run 849 34 ls st h = x_run 849 41 ls st h := xe_goto ec849 dX8_wouldCost_34 rfl
theorem e849_37 {ls st : List Value} {h : x_H} : x_run 849 37 ls st h = q_gr ls 0 (fun v => x_run 849 38 ls (.ref v :: st) h) := xe_aload_n ec849 dX8_wouldCost_37
theorem e849_38 {ls st : List Value} {h : x_H} {a : Nat}: x_run 849 38 ls (.ref a :: st) h = q_gf h a 10 19 (fun v => x_run 849 41 ls (v :: st) h) := xe_getfield ec849 dX8_wouldCost_38 ef8_139
theorem e849_41 {ls : List Value} {h : x_H} {x : Int32} : x_run 849 41 ls [.int x] h = if narrow .int (.int x) = .int x then some (.inl (some (.int x)), h) else none := xe_ireturn ec849 dX8_wouldCost_41 rfl
theorem ec850 : x_code 850 = cX8_wouldRip := rfl
theorem e850_0 {ls st : List Value} {h : x_H} : x_run 850 0 ls st h = q_gr ls 0 (fun v => x_run 850 1 ls (.ref v :: st) h) := xe_aload_n ec850 dX8_wouldRip_0
theorem e850_1 {ls st : List Value} {h : x_H} : x_run 850 1 ls st h = q_gr ls 0 (fun v => x_run 850 2 ls (.ref v :: st) h) := xe_aload_n ec850 dX8_wouldRip_1
theorem e850_2 {ls st : List Value} {h : x_H} : x_run 850 2 ls st h = q_gi ls 1 (fun v => x_run 850 3 ls (.int v :: st) h) := xe_iload_n ec850 dX8_wouldRip_2
theorem e850_3 {ls st : List Value} {h : x_H} {b : Nat} {a1 : Value}: x_run 850 3 ls (a1 :: .ref b :: st) h = if q_rcv h b 10 = true then (if x_wt st ≤ 8 ∧ x_wt [.ref b, a1] = 2 then q_cl (x_m 810 [.ref b, a1] h) (fun v h' => x_run 850 6 ls (v.toList ++ st) h') else none) else none := xe_virt (r := [a1]) ec850 dX8_wouldRip_3 ek8_112 rfl (by decide +kernel) (by decide +kernel)
theorem e850_6 {ls st : List Value} {h : x_H} {x : Int32}: x_run 850 6 ls (.int x :: st) h = if ¬ x = 0 then x_run 850 13 ls st h else x_run 850 9 ls st h := xe_if_ne ec850 dX8_wouldRip_6 rfl
theorem e850_9 {ls st : List Value} {h : x_H} : x_run 850 9 ls st h = x_run 850 10 ls (.int (q_i 1) :: st) h := xe_iconst ec850 dX8_wouldRip_9
theorem e850_10 {ls st : List Value} {h : x_H} : x_run 850 10 ls st h = x_run 850 27 ls st h := xe_goto ec850 dX8_wouldRip_10 rfl
theorem e850_13 {ls st : List Value} {h : x_H} : x_run 850 13 ls st h = q_gr ls 0 (fun v => x_run 850 14 ls (.ref v :: st) h) := xe_aload_n ec850 dX8_wouldRip_13
theorem e850_14 {ls st : List Value} {h : x_H} : x_run 850 14 ls st h = q_gi ls 1 (fun v => x_run 850 15 ls (.int v :: st) h) := xe_iload_n ec850 dX8_wouldRip_14
theorem e850_15 {ls st : List Value} {h : x_H} : x_run 850 15 ls st h = x_run 850 16 ls (.int (q_i 1) :: st) h := xe_iconst ec850 dX8_wouldRip_15
theorem e850_16 {ls st : List Value} {h : x_H} {b : Nat} {a1 a2 : Value}: x_run 850 16 ls (a2 :: a1 :: .ref b :: st) h = if q_rcv h b 10 = true then (if x_wt st ≤ 8 ∧ x_wt [.ref b, a1, a2] = 3 then q_cl (x_m 848 [.ref b, a1, a2] h) (fun v h' => x_run 850 19 ls (v.toList ++ st) h') else none) else none := xe_virt (r := [a1, a2]) ec850 dX8_wouldRip_16 ek8_186 rfl (by decide +kernel) (by decide +kernel)
theorem e850_19 {ls st : List Value} {h : x_H} {x : Int32}: x_run 850 19 ls (.int x :: st) h = if x = 0 then x_run 850 26 ls st h else x_run 850 22 ls st h := xe_if_eq ec850 dX8_wouldRip_19 rfl
theorem e850_22 {ls st : List Value} {h : x_H} : x_run 850 22 ls st h = x_run 850 23 ls (.int (q_i 2) :: st) h := xe_iconst ec850 dX8_wouldRip_22
theorem e850_23 {ls st : List Value} {h : x_H} : x_run 850 23 ls st h = x_run 850 27 ls st h := xe_goto ec850 dX8_wouldRip_23 rfl
theorem e850_26 {ls st : List Value} {h : x_H} : x_run 850 26 ls st h = x_run 850 27 ls (.int (q_i 0) :: st) h := xe_iconst ec850 dX8_wouldRip_26
theorem e850_27 {ls st : List Value} {h : x_H} {b : Nat} {a1 : Value}: x_run 850 27 ls (a1 :: .ref b :: st) h = if q_rcv h b 10 = true then (if x_wt st ≤ 8 ∧ x_wt [.ref b, a1] = 2 then q_cl (x_m 802 [.ref b, a1] h) (fun v h' => x_run 850 30 ls (v.toList ++ st) h') else none) else none := xe_virt (r := [a1]) ec850 dX8_wouldRip_27 ek8_183 rfl (by decide +kernel) (by decide +kernel)
theorem e850_30 {ls st : List Value} {h : x_H} {x : Int32}: x_run 850 30 ls (.int x :: st) h = if x = 0 then x_run 850 37 ls st h else x_run 850 33 ls st h := xe_if_eq ec850 dX8_wouldRip_30 rfl
theorem e850_33 {ls st : List Value} {h : x_H} : x_run 850 33 ls st h = x_run 850 34 ls (.int (q_i 0) :: st) h := xe_iconst ec850 dX8_wouldRip_33
theorem e850_34 {ls st : List Value} {h : x_H} : x_run 850 34 ls st h = x_run 850 42 ls st h := xe_goto ec850 dX8_wouldRip_34 rfl
theorem e850_37 {ls st : List Value} {h : x_H} : x_run 850 37 ls st h = q_gr ls 0 (fun v => x_run 850 38 ls (.ref v :: st) h) := xe_aload_n ec850 dX8_wouldRip_37
theorem e850_38 {ls st : List Value} {h : x_H} : x_run 850 38 ls st h = q_gi ls 1 (fun v => x_run 850 39 ls (.int v :: st) h) := xe_iload_n ec850 dX8_wouldRip_38
theorem e850_39 {ls st : List Value} {h : x_H} {b : Nat} {a1 : Value}: x_run 850 39 ls (a1 :: .ref b :: st) h = if q_rcv h b 10 = true then (if x_wt st ≤ 8 ∧ x_wt [.ref b, a1] = 2 then q_cl (x_m 833 [.ref b, a1] h) (fun v h' => x_run 850 42 ls (v.toList ++ st) h') else none) else none := xe_virt (r := [a1]) ec850 dX8_wouldRip_39 ek8_171 rfl (by decide +kernel) (by decide +kernel)
theorem e850_42 {ls : List Value} {h : x_H} {x : Int32} : x_run 850 42 ls [.int x] h = if narrow .int (.int x) = .int x then some (.inl (some (.int x)), h) else none := xe_ireturn ec850 dX8_wouldRip_42 rfl
theorem ec851 : x_code 851 = cX8_reach := rfl
theorem e851_0 {ls st : List Value} {h : x_H} : x_run 851 0 ls st h = q_gr ls 0 (fun v => x_run 851 1 ls (.ref v :: st) h) := xe_aload_n ec851 dX8_reach_0
theorem e851_1 {ls st : List Value} {h : x_H} : x_run 851 1 ls st h = q_gr ls 0 (fun v => x_run 851 2 ls (.ref v :: st) h) := xe_aload_n ec851 dX8_reach_1
theorem e851_2 {ls st : List Value} {h : x_H} : x_run 851 2 ls st h = q_gi ls 1 (fun v => x_run 851 3 ls (.int v :: st) h) := xe_iload_n ec851 dX8_reach_2
theorem e851_3 {ls st : List Value} {h : x_H} {b : Nat} {a1 : Value}: x_run 851 3 ls (a1 :: .ref b :: st) h = if q_rcv h b 10 = true then (if x_wt st ≤ 8 ∧ x_wt [.ref b, a1] = 2 then q_cl (x_m 810 [.ref b, a1] h) (fun v h' => x_run 851 6 ls (v.toList ++ st) h') else none) else none := xe_virt (r := [a1]) ec851 dX8_reach_3 ek8_112 rfl (by decide +kernel) (by decide +kernel)
theorem e851_6 {ls st : List Value} {h : x_H} {x : Int32}: x_run 851 6 ls (.int x :: st) h = if x = 0 then x_run 851 29 ls st h else x_run 851 9 ls st h := xe_if_eq ec851 dX8_reach_6 rfl
theorem e851_9 {ls st : List Value} {h : x_H} : x_run 851 9 ls st h = q_gi ls 2 (fun v => x_run 851 10 ls (.int v :: st) h) := xe_iload_n ec851 dX8_reach_9
theorem e851_10 {ls st : List Value} {h : x_H} : x_run 851 10 ls st h = x_run 851 11 ls (.int (q_i 0) :: st) h := xe_iconst ec851 dX8_reach_10
theorem e851_11 {ls st : List Value} {h : x_H} : x_run 851 11 ls st h = q_gr ls 0 (fun v => x_run 851 12 ls (.ref v :: st) h) := xe_aload_n ec851 dX8_reach_11
theorem e851_12 {ls st : List Value} {h : x_H} : x_run 851 12 ls st h = q_gi ls 1 (fun v => x_run 851 13 ls (.int v :: st) h) := xe_iload_n ec851 dX8_reach_12
theorem e851_13 {ls st : List Value} {h : x_H} : x_run 851 13 ls st h = x_run 851 14 ls (.int (q_i 1) :: st) h := xe_iconst ec851 dX8_reach_13
theorem e851_14 {ls st : List Value} {h : x_H} {b : Nat} {a1 a2 : Value}: x_run 851 14 ls (a2 :: a1 :: .ref b :: st) h = if q_rcv h b 10 = true then (if x_wt st ≤ 8 ∧ x_wt [.ref b, a1, a2] = 3 then q_cl (x_m 811 [.ref b, a1, a2] h) (fun v h' => x_run 851 17 ls (v.toList ++ st) h') else none) else none := xe_virt (r := [a1, a2]) ec851 dX8_reach_14 ek8_80 rfl (by decide +kernel) (by decide +kernel)
theorem e851_17 {ls st : List Value} {h : x_H} : x_run 851 17 ls st h = x_run 851 18 ls (.int (q_i 1) :: st) h := xe_iconst ec851 dX8_reach_17
theorem e851_18 {ls st : List Value} {h : x_H} {x y : Int32}: x_run 851 18 ls (.int y :: .int x :: st) h = x_run 851 19 ls (.int (x - y) :: st) h := xe_isub ec851 dX8_reach_18
theorem e851_19 {ls st : List Value} {h : x_H} {a1 a2 a3 : Value}: x_run 851 19 ls (a3 :: a2 :: a1 :: st) h = if x_wt st ≤ 8 ∧ x_wt [a1, a2, a3] = 3 then q_cl (x_m 804 [a1, a2, a3] h) (fun v h' => x_run 851 22 ls (v.toList ++ st) h') else none := xe_stat (args := [a1, a2, a3]) ec851 dX8_reach_19 ek8_68 (by decide) rfl (by decide +kernel) (by decide +kernel)
theorem e851_22 {ls st : List Value} {h : x_H} {x : Int32}: x_run 851 22 ls (.int x :: st) h = if x = 0 then x_run 851 29 ls st h else x_run 851 25 ls st h := xe_if_eq ec851 dX8_reach_22 rfl
theorem e851_25 {ls st : List Value} {h : x_H} : x_run 851 25 ls st h = x_run 851 26 ls (.int (q_i 0) :: st) h := xe_iconst ec851 dX8_reach_25
theorem e851_26 {ls st : List Value} {h : x_H} : x_run 851 26 ls st h = x_run 851 30 ls st h := xe_goto ec851 dX8_reach_26 rfl
theorem e851_29 {ls st : List Value} {h : x_H} : x_run 851 29 ls st h = x_run 851 30 ls (.int (q_i 1) :: st) h := xe_iconst ec851 dX8_reach_29
theorem e851_30 {ls st : List Value} {h : x_H} {b : Nat} {a1 : Value}: x_run 851 30 ls (a1 :: .ref b :: st) h = if q_rcv h b 10 = true then (if x_wt st ≤ 8 ∧ x_wt [.ref b, a1] = 2 then q_cl (x_m 802 [.ref b, a1] h) (fun v h' => x_run 851 33 ls (v.toList ++ st) h') else none) else none := xe_virt (r := [a1]) ec851 dX8_reach_30 ek8_183 rfl (by decide +kernel) (by decide +kernel)
theorem e851_33 {ls st : List Value} {h : x_H} {x : Int32}: x_run 851 33 ls (.int x :: st) h = if x = 0 then x_run 851 38 ls st h else x_run 851 36 ls st h := xe_if_eq ec851 dX8_reach_33 rfl
theorem e851_36 {ls st : List Value} {h : x_H} : x_run 851 36 ls st h = x_run 851 37 ls (.int (q_i 0) :: st) h := xe_iconst ec851 dX8_reach_36
theorem e851_37 {ls : List Value} {h : x_H} {x : Int32} : x_run 851 37 ls [.int x] h = if narrow .int (.int x) = .int x then some (.inl (some (.int x)), h) else none := xe_ireturn ec851 dX8_reach_37 rfl
theorem e851_38 {ls st : List Value} {h : x_H} : x_run 851 38 ls st h = x_run 851 39 ls (.int (q_i 0) :: st) h := xe_iconst ec851 dX8_reach_38
theorem e851_39 {ls st : List Value} {h : x_H} {x : Int32}: x_run 851 39 ls (.int x :: st) h = q_ls ls 3 (.int x) (fun ls' => x_run 851 40 ls' st h) := xe_istore_n ec851 dX8_reach_39
theorem e851_40 {ls st : List Value} {h : x_H} : x_run 851 40 ls st h = q_gi ls 3 (fun v => x_run 851 41 ls (.int v :: st) h) := xe_iload_n ec851 dX8_reach_40
theorem e851_41 {ls st : List Value} {h : x_H} : x_run 851 41 ls st h = x_run 851 43 ls (.int (q_i 96) :: st) h := xe_bipush ec851 dX8_reach_41 (by decide)
theorem e851_43 {ls st : List Value} {h : x_H} {x y : Int32}: x_run 851 43 ls (.int y :: .int x :: st) h = if y ≤ x then x_run 851 59 ls st h else x_run 851 46 ls st h := xe_ic_ge ec851 dX8_reach_43 rfl
theorem e851_46 {ls st : List Value} {h : x_H} : x_run 851 46 ls st h = q_gr ls 0 (fun v => x_run 851 47 ls (.ref v :: st) h) := xe_aload_n ec851 dX8_reach_46
theorem e851_47 {ls st : List Value} {h : x_H} {a : Nat}: x_run 851 47 ls (.ref a :: st) h = q_gf h a 10 17 (fun v => x_run 851 50 ls (v :: st) h) := xe_getfield ec851 dX8_reach_47 ef8_36
theorem e851_50 {ls st : List Value} {h : x_H} : x_run 851 50 ls st h = q_gi ls 3 (fun v => x_run 851 51 ls (.int v :: st) h) := xe_iload_n ec851 dX8_reach_50
theorem e851_51 {ls st : List Value} {h : x_H} : x_run 851 51 ls st h = x_run 851 52 ls (.int (q_i 0) :: st) h := xe_iconst ec851 dX8_reach_51
theorem e851_52 {ls st : List Value} {h : x_H} {x y : Int32} {a : Nat}: x_run 851 52 ls (.int y :: .int x :: .ref a :: st) h = q_wa h a 0 x y (fun h' => x_run 851 53 ls st h') := xe_iastore ec851 dX8_reach_52
theorem e851_53 {ls st : List Value} {h : x_H} : x_run 851 53 ls st h = q_gi ls 3 (fun v => if x_nd ls 3 = true then x_run 851 56 (ls.set 3 (.int (v + q_i 1))) st h else none) := xe_iinc ec851 dX8_reach_53
theorem e851_56 {ls st : List Value} {h : x_H} : x_run 851 56 ls st h = x_run 851 40 ls st h := xe_goto ec851 dX8_reach_56 rfl
theorem e851_59 {ls st : List Value} {h : x_H} : x_run 851 59 ls st h = q_gr ls 0 (fun v => x_run 851 60 ls (.ref v :: st) h) := xe_aload_n ec851 dX8_reach_59
theorem e851_60 {ls st : List Value} {h : x_H} : x_run 851 60 ls st h = q_gr ls 0 (fun v => x_run 851 61 ls (.ref v :: st) h) := xe_aload_n ec851 dX8_reach_60
theorem e851_61 {ls st : List Value} {h : x_H} : x_run 851 61 ls st h = q_gi ls 1 (fun v => x_run 851 62 ls (.int v :: st) h) := xe_iload_n ec851 dX8_reach_61
theorem e851_62 {ls st : List Value} {h : x_H} : x_run 851 62 ls st h = x_run 851 63 ls (.int (q_i 2) :: st) h := xe_iconst ec851 dX8_reach_62
theorem e851_63 {ls st : List Value} {h : x_H} : x_run 851 63 ls st h = q_gi ls 2 (fun v => x_run 851 64 ls (.int v :: st) h) := xe_iload_n ec851 dX8_reach_63
theorem e851_64 {ls st : List Value} {h : x_H} {x y : Int32}: x_run 851 64 ls (.int y :: .int x :: st) h = x_run 851 65 ls (.int (x + y) :: st) h := xe_iadd ec851 dX8_reach_64
theorem e851_65 {ls st : List Value} {h : x_H} {b : Nat} {a1 a2 : Value}: x_run 851 65 ls (a2 :: a1 :: .ref b :: st) h = if q_rcv h b 10 = true then (if x_wt st ≤ 8 ∧ x_wt [.ref b, a1, a2] = 3 then q_cl (x_m 811 [.ref b, a1, a2] h) (fun v h' => x_run 851 68 ls (v.toList ++ st) h') else none) else none := xe_virt (r := [a1, a2]) ec851 dX8_reach_65 ek8_80 rfl (by decide +kernel) (by decide +kernel)
theorem e851_68 {ls st : List Value} {h : x_H} {b : Nat} {a1 : Value}: x_run 851 68 ls (a1 :: .ref b :: st) h = if q_rcv h b 10 = true then (if x_wt st ≤ 8 ∧ x_wt [.ref b, a1] = 2 then q_cl (x_m 830 [.ref b, a1] h) (fun v h' => x_run 851 71 ls (v.toList ++ st) h') else none) else none := xe_virt (r := [a1]) ec851 dX8_reach_68 ek8_142 rfl (by decide +kernel) (by decide +kernel)
theorem e851_71 {ls st : List Value} {h : x_H} : x_run 851 71 ls st h = q_gr ls 0 (fun v => x_run 851 72 ls (.ref v :: st) h) := xe_aload_n ec851 dX8_reach_71
theorem e851_72 {ls st : List Value} {h : x_H} : x_run 851 72 ls st h = q_gi ls 1 (fun v => x_run 851 73 ls (.int v :: st) h) := xe_iload_n ec851 dX8_reach_72
theorem e851_73 {ls st : List Value} {h : x_H} : x_run 851 73 ls st h = x_run 851 74 ls (.int (q_i 0) :: st) h := xe_iconst ec851 dX8_reach_73
theorem e851_74 {ls st : List Value} {h : x_H} {b : Nat} {a1 a2 : Value}: x_run 851 74 ls (a2 :: a1 :: .ref b :: st) h = if q_rcv h b 10 = true then (if x_wt st ≤ 8 ∧ x_wt [.ref b, a1, a2] = 3 then q_cl (x_m 828 [.ref b, a1, a2] h) (fun v h' => x_run 851 77 ls (v.toList ++ st) h') else none) else none := xe_virt (r := [a1, a2]) ec851 dX8_reach_74 ek8_146 rfl (by decide +kernel) (by decide +kernel)
theorem e851_77 {ls st : List Value} {h : x_H} : x_run 851 77 ls st h = x_run 851 78 ls (.int (q_i 0) :: st) h := xe_iconst ec851 dX8_reach_77
theorem e851_78 {ls st : List Value} {h : x_H} {x : Int32}: x_run 851 78 ls (.int x :: st) h = q_ls ls 3 (.int x) (fun ls' => x_run 851 79 ls' st h) := xe_istore_n ec851 dX8_reach_78
theorem e851_79 {ls st : List Value} {h : x_H} : x_run 851 79 ls st h = x_run 851 80 ls (.int (q_i 0) :: st) h := xe_iconst ec851 dX8_reach_79
theorem e851_80 {ls st : List Value} {h : x_H} {x : Int32}: x_run 851 80 ls (.int x :: st) h = q_ls ls 4 (.int x) (fun ls' => x_run 851 82 ls' st h) := xe_istore ec851 dX8_reach_80
theorem e851_82 {ls st : List Value} {h : x_H} : x_run 851 82 ls st h = q_gi ls 4 (fun v => x_run 851 84 ls (.int v :: st) h) := xe_iload ec851 dX8_reach_82
theorem e851_84 {ls st : List Value} {h : x_H} : x_run 851 84 ls st h = x_run 851 86 ls (.int (q_i 96) :: st) h := xe_bipush ec851 dX8_reach_84 (by decide)
theorem e851_86 {ls st : List Value} {h : x_H} {x y : Int32}: x_run 851 86 ls (.int y :: .int x :: st) h = if y ≤ x then x_run 851 115 ls st h else x_run 851 89 ls st h := xe_ic_ge ec851 dX8_reach_86 rfl
theorem e851_89 {ls st : List Value} {h : x_H} : x_run 851 89 ls st h = q_gi ls 3 (fun v => x_run 851 90 ls (.int v :: st) h) := xe_iload_n ec851 dX8_reach_89
theorem e851_90 {ls st : List Value} {h : x_H} : x_run 851 90 ls st h = q_gr ls 0 (fun v => x_run 851 91 ls (.ref v :: st) h) := xe_aload_n ec851 dX8_reach_90
theorem e851_91 {ls st : List Value} {h : x_H} {a : Nat}: x_run 851 91 ls (.ref a :: st) h = q_gf h a 10 16 (fun v => x_run 851 94 ls (v :: st) h) := xe_getfield ec851 dX8_reach_91 ef8_33
theorem e851_94 {ls st : List Value} {h : x_H} : x_run 851 94 ls st h = q_gi ls 4 (fun v => x_run 851 96 ls (.int v :: st) h) := xe_iload ec851 dX8_reach_94
theorem e851_96 {ls st : List Value} {h : x_H} {x : Int32} {a : Nat}: x_run 851 96 ls (.int x :: .ref a :: st) h = q_ra h a 0 x (fun v => x_run 851 97 ls (.int v :: st) h) := xe_iaload ec851 dX8_reach_96
theorem e851_97 {ls st : List Value} {h : x_H} : x_run 851 97 ls st h = x_run 851 99 ls (.int (q_i 100000) :: st) h := xe_ldc ec851 dX8_reach_97 (by decide +kernel)
theorem e851_99 {ls st : List Value} {h : x_H} {x y : Int32}: x_run 851 99 ls (.int y :: .int x :: st) h = if y ≤ x then x_run 851 106 ls st h else x_run 851 102 ls st h := xe_ic_ge ec851 dX8_reach_99 rfl
theorem e851_102 {ls st : List Value} {h : x_H} : x_run 851 102 ls st h = x_run 851 103 ls (.int (q_i 1) :: st) h := xe_iconst ec851 dX8_reach_102
theorem e851_103 {ls st : List Value} {h : x_H} : x_run 851 103 ls st h = x_run 851 107 ls st h := xe_goto ec851 dX8_reach_103 rfl
theorem e851_106 {ls st : List Value} {h : x_H} : x_run 851 106 ls st h = x_run 851 107 ls (.int (q_i 0) :: st) h := xe_iconst ec851 dX8_reach_106
theorem e851_107 {ls st : List Value} {h : x_H} {x y : Int32}: x_run 851 107 ls (.int y :: .int x :: st) h = x_run 851 108 ls (.int (x + y) :: st) h := xe_iadd ec851 dX8_reach_107
theorem e851_108 {ls st : List Value} {h : x_H} {x : Int32}: x_run 851 108 ls (.int x :: st) h = q_ls ls 3 (.int x) (fun ls' => x_run 851 109 ls' st h) := xe_istore_n ec851 dX8_reach_108
theorem e851_109 {ls st : List Value} {h : x_H} : x_run 851 109 ls st h = q_gi ls 4 (fun v => if x_nd ls 4 = true then x_run 851 112 (ls.set 4 (.int (v + q_i 1))) st h else none) := xe_iinc ec851 dX8_reach_109
theorem e851_112 {ls st : List Value} {h : x_H} : x_run 851 112 ls st h = x_run 851 82 ls st h := xe_goto ec851 dX8_reach_112 rfl
theorem e851_115 {ls st : List Value} {h : x_H} : x_run 851 115 ls st h = q_gi ls 3 (fun v => x_run 851 116 ls (.int v :: st) h) := xe_iload_n ec851 dX8_reach_115
theorem e851_116 {ls : List Value} {h : x_H} {x : Int32} : x_run 851 116 ls [.int x] h = if narrow .int (.int x) = .int x then some (.inl (some (.int x)), h) else none := xe_ireturn ec851 dX8_reach_116 rfl
theorem ec852 : x_code 852 = cX8_cellsOf := rfl
theorem e852_0 {ls st : List Value} {h : x_H} : x_run 852 0 ls st h = q_gr ls 0 (fun v => x_run 852 1 ls (.ref v :: st) h) := xe_aload_n ec852 dX8_cellsOf_0
theorem e852_1 {ls st : List Value} {h : x_H} : x_run 852 1 ls st h = q_gr ls 0 (fun v => x_run 852 2 ls (.ref v :: st) h) := xe_aload_n ec852 dX8_cellsOf_1
theorem e852_2 {ls st : List Value} {h : x_H} : x_run 852 2 ls st h = q_gi ls 1 (fun v => x_run 852 3 ls (.int v :: st) h) := xe_iload_n ec852 dX8_cellsOf_2
theorem e852_3 {ls st : List Value} {h : x_H} {b : Nat} {a1 : Value}: x_run 852 3 ls (a1 :: .ref b :: st) h = if q_rcv h b 10 = true then (if x_wt st ≤ 8 ∧ x_wt [.ref b, a1] = 2 then q_cl (x_m 810 [.ref b, a1] h) (fun v h' => x_run 852 6 ls (v.toList ++ st) h') else none) else none := xe_virt (r := [a1]) ec852 dX8_cellsOf_3 ek8_112 rfl (by decide +kernel) (by decide +kernel)
theorem e852_6 {ls st : List Value} {h : x_H} {x : Int32}: x_run 852 6 ls (.int x :: st) h = if x = 0 then x_run 852 13 ls st h else x_run 852 9 ls st h := xe_if_eq ec852 dX8_cellsOf_6 rfl
theorem e852_9 {ls st : List Value} {h : x_H} : x_run 852 9 ls st h = x_run 852 10 ls (.int (q_i 0) :: st) h := xe_iconst ec852 dX8_cellsOf_9
theorem e852_10 {ls st : List Value} {h : x_H} : x_run 852 10 ls st h = x_run 852 14 ls st h := xe_goto ec852 dX8_cellsOf_10 rfl
theorem e852_13 {ls st : List Value} {h : x_H} : x_run 852 13 ls st h = x_run 852 14 ls (.int (q_i 1) :: st) h := xe_iconst ec852 dX8_cellsOf_13
theorem e852_14 {ls st : List Value} {h : x_H} {b : Nat} {a1 : Value}: x_run 852 14 ls (a1 :: .ref b :: st) h = if q_rcv h b 10 = true then (if x_wt st ≤ 8 ∧ x_wt [.ref b, a1] = 2 then q_cl (x_m 802 [.ref b, a1] h) (fun v h' => x_run 852 17 ls (v.toList ++ st) h') else none) else none := xe_virt (r := [a1]) ec852 dX8_cellsOf_14 ek8_183 rfl (by decide +kernel) (by decide +kernel)
theorem e852_17 {ls st : List Value} {h : x_H} {x : Int32}: x_run 852 17 ls (.int x :: st) h = if x = 0 then x_run 852 22 ls st h else x_run 852 20 ls st h := xe_if_eq ec852 dX8_cellsOf_17 rfl
theorem e852_20 {ls st : List Value} {h : x_H} : x_run 852 20 ls st h = x_run 852 21 ls (.int (q_i 0) :: st) h := xe_iconst ec852 dX8_cellsOf_20
theorem e852_21 {ls : List Value} {h : x_H} {x : Int32} : x_run 852 21 ls [.int x] h = if narrow .int (.int x) = .int x then some (.inl (some (.int x)), h) else none := xe_ireturn ec852 dX8_cellsOf_21 rfl
theorem e852_22 {ls st : List Value} {h : x_H} : x_run 852 22 ls st h = x_run 852 23 ls (.int (q_i 0) :: st) h := xe_iconst ec852 dX8_cellsOf_22
theorem e852_23 {ls st : List Value} {h : x_H} {x : Int32}: x_run 852 23 ls (.int x :: st) h = q_ls ls 2 (.int x) (fun ls' => x_run 852 24 ls' st h) := xe_istore_n ec852 dX8_cellsOf_23
theorem e852_24 {ls st : List Value} {h : x_H} : x_run 852 24 ls st h = x_run 852 25 ls (.int (q_i 0) :: st) h := xe_iconst ec852 dX8_cellsOf_24
theorem e852_25 {ls st : List Value} {h : x_H} {x : Int32}: x_run 852 25 ls (.int x :: st) h = q_ls ls 3 (.int x) (fun ls' => x_run 852 26 ls' st h) := xe_istore_n ec852 dX8_cellsOf_25
theorem e852_26 {ls st : List Value} {h : x_H} : x_run 852 26 ls st h = q_gi ls 3 (fun v => x_run 852 27 ls (.int v :: st) h) := xe_iload_n ec852 dX8_cellsOf_26
theorem e852_27 {ls st : List Value} {h : x_H} : x_run 852 27 ls st h = x_run 852 29 ls (.int (q_i 96) :: st) h := xe_bipush ec852 dX8_cellsOf_27 (by decide)
theorem e852_29 {ls st : List Value} {h : x_H} {x y : Int32}: x_run 852 29 ls (.int y :: .int x :: st) h = if y ≤ x then x_run 852 55 ls st h else x_run 852 32 ls st h := xe_ic_ge ec852 dX8_cellsOf_29 rfl
theorem e852_32 {ls st : List Value} {h : x_H} : x_run 852 32 ls st h = q_gi ls 2 (fun v => x_run 852 33 ls (.int v :: st) h) := xe_iload_n ec852 dX8_cellsOf_32
theorem e852_33 {ls st : List Value} {h : x_H} : x_run 852 33 ls st h = q_gr ls 0 (fun v => x_run 852 34 ls (.ref v :: st) h) := xe_aload_n ec852 dX8_cellsOf_33
theorem e852_34 {ls st : List Value} {h : x_H} : x_run 852 34 ls st h = q_gi ls 3 (fun v => x_run 852 35 ls (.int v :: st) h) := xe_iload_n ec852 dX8_cellsOf_34
theorem e852_35 {ls st : List Value} {h : x_H} {b : Nat} {a1 : Value}: x_run 852 35 ls (a1 :: .ref b :: st) h = if q_rcv h b 10 = true then (if x_wt st ≤ 8 ∧ x_wt [.ref b, a1] = 2 then q_cl (x_m 814 [.ref b, a1] h) (fun v h' => x_run 852 38 ls (v.toList ++ st) h') else none) else none := xe_virt (r := [a1]) ec852 dX8_cellsOf_35 ek8_87 rfl (by decide +kernel) (by decide +kernel)
theorem e852_38 {ls st : List Value} {h : x_H} : x_run 852 38 ls st h = q_gi ls 1 (fun v => x_run 852 39 ls (.int v :: st) h) := xe_iload_n ec852 dX8_cellsOf_38
theorem e852_39 {ls st : List Value} {h : x_H} {x y : Int32}: x_run 852 39 ls (.int y :: .int x :: st) h = if ¬ x = y then x_run 852 46 ls st h else x_run 852 42 ls st h := xe_ic_ne ec852 dX8_cellsOf_39 rfl
theorem e852_42 {ls st : List Value} {h : x_H} : x_run 852 42 ls st h = x_run 852 43 ls (.int (q_i 1) :: st) h := xe_iconst ec852 dX8_cellsOf_42
theorem e852_43 {ls st : List Value} {h : x_H} : x_run 852 43 ls st h = x_run 852 47 ls st h := xe_goto ec852 dX8_cellsOf_43 rfl
theorem e852_46 {ls st : List Value} {h : x_H} : x_run 852 46 ls st h = x_run 852 47 ls (.int (q_i 0) :: st) h := xe_iconst ec852 dX8_cellsOf_46
theorem e852_47 {ls st : List Value} {h : x_H} {x y : Int32}: x_run 852 47 ls (.int y :: .int x :: st) h = x_run 852 48 ls (.int (x + y) :: st) h := xe_iadd ec852 dX8_cellsOf_47
theorem e852_48 {ls st : List Value} {h : x_H} {x : Int32}: x_run 852 48 ls (.int x :: st) h = q_ls ls 2 (.int x) (fun ls' => x_run 852 49 ls' st h) := xe_istore_n ec852 dX8_cellsOf_48
theorem e852_49 {ls st : List Value} {h : x_H} : x_run 852 49 ls st h = q_gi ls 3 (fun v => if x_nd ls 3 = true then x_run 852 52 (ls.set 3 (.int (v + q_i 1))) st h else none) := xe_iinc ec852 dX8_cellsOf_49
theorem e852_52 {ls st : List Value} {h : x_H} : x_run 852 52 ls st h = x_run 852 26 ls st h := xe_goto ec852 dX8_cellsOf_52 rfl
theorem e852_55 {ls st : List Value} {h : x_H} : x_run 852 55 ls st h = q_gi ls 2 (fun v => x_run 852 56 ls (.int v :: st) h) := xe_iload_n ec852 dX8_cellsOf_55
theorem e852_56 {ls : List Value} {h : x_H} {x : Int32} : x_run 852 56 ls [.int x] h = if narrow .int (.int x) = .int x then some (.inl (some (.int x)), h) else none := xe_ireturn ec852 dX8_cellsOf_56 rfl
theorem ec853 : x_code 853 = cX8_cellsAgain := rfl
theorem e853_0 {ls st : List Value} {h : x_H} : x_run 853 0 ls st h = q_gr ls 0 (fun v => x_run 853 1 ls (.ref v :: st) h) := xe_aload_n ec853 dX8_cellsAgain_0
theorem e853_1 {ls st : List Value} {h : x_H} : x_run 853 1 ls st h = q_gr ls 0 (fun v => x_run 853 2 ls (.ref v :: st) h) := xe_aload_n ec853 dX8_cellsAgain_1
theorem e853_2 {ls st : List Value} {h : x_H} : x_run 853 2 ls st h = q_gi ls 1 (fun v => x_run 853 3 ls (.int v :: st) h) := xe_iload_n ec853 dX8_cellsAgain_2
theorem e853_3 {ls st : List Value} {h : x_H} {b : Nat} {a1 : Value}: x_run 853 3 ls (a1 :: .ref b :: st) h = if q_rcv h b 10 = true then (if x_wt st ≤ 8 ∧ x_wt [.ref b, a1] = 2 then q_cl (x_m 810 [.ref b, a1] h) (fun v h' => x_run 853 6 ls (v.toList ++ st) h') else none) else none := xe_virt (r := [a1]) ec853 dX8_cellsAgain_3 ek8_112 rfl (by decide +kernel) (by decide +kernel)
theorem e853_6 {ls st : List Value} {h : x_H} {x : Int32}: x_run 853 6 ls (.int x :: st) h = if x = 0 then x_run 853 13 ls st h else x_run 853 9 ls st h := xe_if_eq ec853 dX8_cellsAgain_6 rfl
theorem e853_9 {ls st : List Value} {h : x_H} : x_run 853 9 ls st h = x_run 853 10 ls (.int (q_i 0) :: st) h := xe_iconst ec853 dX8_cellsAgain_9
theorem e853_10 {ls st : List Value} {h : x_H} : x_run 853 10 ls st h = x_run 853 14 ls st h := xe_goto ec853 dX8_cellsAgain_10 rfl
theorem e853_13 {ls st : List Value} {h : x_H} : x_run 853 13 ls st h = x_run 853 14 ls (.int (q_i 1) :: st) h := xe_iconst ec853 dX8_cellsAgain_13
theorem e853_14 {ls st : List Value} {h : x_H} {b : Nat} {a1 : Value}: x_run 853 14 ls (a1 :: .ref b :: st) h = if q_rcv h b 10 = true then (if x_wt st ≤ 8 ∧ x_wt [.ref b, a1] = 2 then q_cl (x_m 802 [.ref b, a1] h) (fun v h' => x_run 853 17 ls (v.toList ++ st) h') else none) else none := xe_virt (r := [a1]) ec853 dX8_cellsAgain_14 ek8_183 rfl (by decide +kernel) (by decide +kernel)
theorem e853_17 {ls st : List Value} {h : x_H} {x : Int32}: x_run 853 17 ls (.int x :: st) h = if x = 0 then x_run 853 24 ls st h else x_run 853 20 ls st h := xe_if_eq ec853 dX8_cellsAgain_17 rfl
theorem e853_20 {ls st : List Value} {h : x_H} : x_run 853 20 ls st h = x_run 853 21 ls (.int (q_i 0) :: st) h := xe_iconst ec853 dX8_cellsAgain_20
theorem e853_21 {ls st : List Value} {h : x_H} : x_run 853 21 ls st h = x_run 853 38 ls st h := xe_goto ec853 dX8_cellsAgain_21 rfl
theorem e853_24 {ls st : List Value} {h : x_H} : x_run 853 24 ls st h = x_run 853 25 ls (.int (q_i 2) :: st) h := xe_iconst ec853 dX8_cellsAgain_24
theorem e853_25 {ls st : List Value} {h : x_H} : x_run 853 25 ls st h = q_gr ls 0 (fun v => x_run 853 26 ls (.ref v :: st) h) := xe_aload_n ec853 dX8_cellsAgain_25
theorem e853_26 {ls st : List Value} {h : x_H} : x_run 853 26 ls st h = q_gi ls 1 (fun v => x_run 853 27 ls (.int v :: st) h) := xe_iload_n ec853 dX8_cellsAgain_26
theorem e853_27 {ls st : List Value} {h : x_H} : x_run 853 27 ls st h = x_run 853 28 ls (.int (q_i 1) :: st) h := xe_iconst ec853 dX8_cellsAgain_27
theorem e853_28 {ls st : List Value} {h : x_H} {b : Nat} {a1 a2 : Value}: x_run 853 28 ls (a2 :: a1 :: .ref b :: st) h = if q_rcv h b 10 = true then (if x_wt st ≤ 8 ∧ x_wt [.ref b, a1, a2] = 3 then q_cl (x_m 811 [.ref b, a1, a2] h) (fun v h' => x_run 853 31 ls (v.toList ++ st) h') else none) else none := xe_virt (r := [a1, a2]) ec853 dX8_cellsAgain_28 ek8_80 rfl (by decide +kernel) (by decide +kernel)
theorem e853_31 {ls st : List Value} {h : x_H} {x y : Int32}: x_run 853 31 ls (.int y :: .int x :: st) h = x_run 853 32 ls (.int (x * y) :: st) h := xe_imul ec853 dX8_cellsAgain_31
theorem e853_32 {ls st : List Value} {h : x_H} : x_run 853 32 ls st h = q_gr ls 0 (fun v => x_run 853 33 ls (.ref v :: st) h) := xe_aload_n ec853 dX8_cellsAgain_32
theorem e853_33 {ls st : List Value} {h : x_H} : x_run 853 33 ls st h = q_gi ls 1 (fun v => x_run 853 34 ls (.int v :: st) h) := xe_iload_n ec853 dX8_cellsAgain_33
theorem e853_34 {ls st : List Value} {h : x_H} {b : Nat} {a1 : Value}: x_run 853 34 ls (a1 :: .ref b :: st) h = if q_rcv h b 10 = true then (if x_wt st ≤ 8 ∧ x_wt [.ref b, a1] = 2 then q_cl (x_m 834 [.ref b, a1] h) (fun v h' => x_run 853 37 ls (v.toList ++ st) h') else none) else none := xe_virt (r := [a1]) ec853 dX8_cellsAgain_34 ek8_180 rfl (by decide +kernel) (by decide +kernel)
theorem e853_37 {ls st : List Value} {h : x_H} {x y : Int32}: x_run 853 37 ls (.int y :: .int x :: st) h = x_run 853 38 ls (.int (x + y) :: st) h := xe_iadd ec853 dX8_cellsAgain_37
theorem e853_38 {ls : List Value} {h : x_H} {x : Int32} : x_run 853 38 ls [.int x] h = if narrow .int (.int x) = .int x then some (.inl (some (.int x)), h) else none := xe_ireturn ec853 dX8_cellsAgain_38 rfl
theorem ec854 : x_code 854 = cX8_holes := rfl
theorem e854_0 {ls st : List Value} {h : x_H} : x_run 854 0 ls st h = q_gr ls 0 (fun v => x_run 854 1 ls (.ref v :: st) h) := xe_aload_n ec854 dX8_holes_0
theorem e854_1 {ls st : List Value} {h : x_H} : x_run 854 1 ls st h = x_run 854 2 ls (.int (q_i 0) :: st) h := xe_iconst ec854 dX8_holes_1
theorem e854_2 {ls st : List Value} {h : x_H} {v : Value} {a : Nat}: x_run 854 2 ls (v :: .ref a :: st) h = if x_fit (x_ty 10 7) v = true then q_pf h a 10 7 v (fun h' => x_run 854 5 ls st h') else none := xe_putfield ec854 dX8_holes_2 ef8_45 (by decide +kernel)
theorem e854_5 {ls st : List Value} {h : x_H} : x_run 854 5 ls st h = q_gr ls 0 (fun v => x_run 854 6 ls (.ref v :: st) h) := xe_aload_n ec854 dX8_holes_5
theorem e854_6 {ls st : List Value} {h : x_H} {b : Nat}: x_run 854 6 ls (.ref b :: st) h = if q_rcv h b 10 = true then (if x_wt st ≤ 8 ∧ x_wt [.ref b] = 1 then q_cl (x_m 837 [.ref b] h) (fun v h' => x_run 854 9 ls (v.toList ++ st) h') else none) else none := xe_virt (r := []) ec854 dX8_holes_6 ek8_162 rfl (by decide +kernel) (by decide +kernel)
theorem e854_9 {ls : List Value} {h : x_H} {x : Int32} : x_run 854 9 ls [.int x] h = if narrow .int (.int x) = .int x then some (.inl (some (.int x)), h) else none := xe_ireturn ec854 dX8_holes_9 rfl
theorem ec855 : x_code 855 = cX8_holesAgain := rfl
theorem e855_0 {ls st : List Value} {h : x_H} : x_run 855 0 ls st h = q_gr ls 0 (fun v => x_run 855 1 ls (.ref v :: st) h) := xe_aload_n ec855 dX8_holesAgain_0
theorem e855_1 {ls st : List Value} {h : x_H} : x_run 855 1 ls st h = x_run 855 2 ls (.int (q_i 0) :: st) h := xe_iconst ec855 dX8_holesAgain_1
theorem e855_2 {ls st : List Value} {h : x_H} {v : Value} {a : Nat}: x_run 855 2 ls (v :: .ref a :: st) h = if x_fit (x_ty 10 7) v = true then q_pf h a 10 7 v (fun h' => x_run 855 5 ls st h') else none := xe_putfield ec855 dX8_holesAgain_2 ef8_45 (by decide +kernel)
theorem e855_5 {ls st : List Value} {h : x_H} : x_run 855 5 ls st h = x_run 855 6 ls (.int (q_i 0) :: st) h := xe_iconst ec855 dX8_holesAgain_5
theorem e855_6 {ls st : List Value} {h : x_H} {x : Int32}: x_run 855 6 ls (.int x :: st) h = q_ls ls 1 (.int x) (fun ls' => x_run 855 7 ls' st h) := xe_istore_n ec855 dX8_holesAgain_6
theorem e855_7 {ls st : List Value} {h : x_H} : x_run 855 7 ls st h = x_run 855 8 ls (.int (q_i 0) :: st) h := xe_iconst ec855 dX8_holesAgain_7
theorem e855_8 {ls st : List Value} {h : x_H} {x : Int32}: x_run 855 8 ls (.int x :: st) h = q_ls ls 2 (.int x) (fun ls' => x_run 855 9 ls' st h) := xe_istore_n ec855 dX8_holesAgain_8
theorem e855_9 {ls st : List Value} {h : x_H} : x_run 855 9 ls st h = q_gi ls 2 (fun v => x_run 855 10 ls (.int v :: st) h) := xe_iload_n ec855 dX8_holesAgain_9
theorem e855_10 {ls st : List Value} {h : x_H} : x_run 855 10 ls st h = q_gr ls 0 (fun v => x_run 855 11 ls (.ref v :: st) h) := xe_aload_n ec855 dX8_holesAgain_10
theorem e855_11 {ls st : List Value} {h : x_H} {a : Nat}: x_run 855 11 ls (.ref a :: st) h = q_gf h a 10 0 (fun v => x_run 855 14 ls (v :: st) h) := xe_getfield ec855 dX8_holesAgain_11 ef8_7
theorem e855_14 {ls st : List Value} {h : x_H} : x_run 855 14 ls st h = x_run 855 15 ls (.int (q_i 0) :: st) h := xe_iconst ec855 dX8_holesAgain_14
theorem e855_15 {ls st : List Value} {h : x_H} {x : Int32} {a : Nat}: x_run 855 15 ls (.int x :: .ref a :: st) h = q_ra h a 0 x (fun v => x_run 855 16 ls (.int v :: st) h) := xe_iaload ec855 dX8_holesAgain_15
theorem e855_16 {ls st : List Value} {h : x_H} {x y : Int32}: x_run 855 16 ls (.int y :: .int x :: st) h = if y ≤ x then x_run 855 33 ls st h else x_run 855 19 ls st h := xe_ic_ge ec855 dX8_holesAgain_16 rfl
theorem e855_19 {ls st : List Value} {h : x_H} : x_run 855 19 ls st h = q_gi ls 1 (fun v => x_run 855 20 ls (.int v :: st) h) := xe_iload_n ec855 dX8_holesAgain_19
theorem e855_20 {ls st : List Value} {h : x_H} : x_run 855 20 ls st h = q_gr ls 0 (fun v => x_run 855 21 ls (.ref v :: st) h) := xe_aload_n ec855 dX8_holesAgain_20
theorem e855_21 {ls st : List Value} {h : x_H} : x_run 855 21 ls st h = q_gi ls 2 (fun v => x_run 855 22 ls (.int v :: st) h) := xe_iload_n ec855 dX8_holesAgain_21
theorem e855_22 {ls st : List Value} {h : x_H} {b : Nat} {a1 : Value}: x_run 855 22 ls (a1 :: .ref b :: st) h = if q_rcv h b 10 = true then (if x_wt st ≤ 8 ∧ x_wt [.ref b, a1] = 2 then q_cl (x_m 835 [.ref b, a1] h) (fun v h' => x_run 855 25 ls (v.toList ++ st) h') else none) else none := xe_virt (r := [a1]) ec855 dX8_holesAgain_22 ek8_174 rfl (by decide +kernel) (by decide +kernel)
theorem e855_25 {ls st : List Value} {h : x_H} {x y : Int32}: x_run 855 25 ls (.int y :: .int x :: st) h = x_run 855 26 ls (.int (x + y) :: st) h := xe_iadd ec855 dX8_holesAgain_25
theorem e855_26 {ls st : List Value} {h : x_H} {x : Int32}: x_run 855 26 ls (.int x :: st) h = q_ls ls 1 (.int x) (fun ls' => x_run 855 27 ls' st h) := xe_istore_n ec855 dX8_holesAgain_26
theorem e855_27 {ls st : List Value} {h : x_H} : x_run 855 27 ls st h = q_gi ls 2 (fun v => if x_nd ls 2 = true then x_run 855 30 (ls.set 2 (.int (v + q_i 1))) st h else none) := xe_iinc ec855 dX8_holesAgain_27
theorem e855_30 {ls st : List Value} {h : x_H} : x_run 855 30 ls st h = x_run 855 9 ls st h := xe_goto ec855 dX8_holesAgain_30 rfl
theorem e855_33 {ls st : List Value} {h : x_H} : x_run 855 33 ls st h = q_gi ls 1 (fun v => x_run 855 34 ls (.int v :: st) h) := xe_iload_n ec855 dX8_holesAgain_33
theorem e855_34 {ls : List Value} {h : x_H} {x : Int32} : x_run 855 34 ls [.int x] h = if narrow .int (.int x) = .int x then some (.inl (some (.int x)), h) else none := xe_ireturn ec855 dX8_holesAgain_34 rfl
theorem ec856 : x_code 856 = cX8_touches := rfl
theorem e856_0 {ls st : List Value} {h : x_H} : x_run 856 0 ls st h = q_gr ls 0 (fun v => x_run 856 1 ls (.ref v :: st) h) := xe_aload_n ec856 dX8_touches_0
theorem e856_1 {ls st : List Value} {h : x_H} : x_run 856 1 ls st h = q_gr ls 0 (fun v => x_run 856 2 ls (.ref v :: st) h) := xe_aload_n ec856 dX8_touches_1
theorem e856_2 {ls st : List Value} {h : x_H} : x_run 856 2 ls st h = q_gi ls 1 (fun v => x_run 856 3 ls (.int v :: st) h) := xe_iload_n ec856 dX8_touches_2
theorem e856_3 {ls st : List Value} {h : x_H} {b : Nat} {a1 : Value}: x_run 856 3 ls (a1 :: .ref b :: st) h = if q_rcv h b 10 = true then (if x_wt st ≤ 8 ∧ x_wt [.ref b, a1] = 2 then q_cl (x_m 810 [.ref b, a1] h) (fun v h' => x_run 856 6 ls (v.toList ++ st) h') else none) else none := xe_virt (r := [a1]) ec856 dX8_touches_3 ek8_112 rfl (by decide +kernel) (by decide +kernel)
theorem e856_6 {ls st : List Value} {h : x_H} {x : Int32}: x_run 856 6 ls (.int x :: st) h = if x = 0 then x_run 856 13 ls st h else x_run 856 9 ls st h := xe_if_eq ec856 dX8_touches_6 rfl
theorem e856_9 {ls st : List Value} {h : x_H} : x_run 856 9 ls st h = x_run 856 10 ls (.int (q_i 0) :: st) h := xe_iconst ec856 dX8_touches_9
theorem e856_10 {ls st : List Value} {h : x_H} : x_run 856 10 ls st h = x_run 856 14 ls st h := xe_goto ec856 dX8_touches_10 rfl
theorem e856_13 {ls st : List Value} {h : x_H} : x_run 856 13 ls st h = x_run 856 14 ls (.int (q_i 1) :: st) h := xe_iconst ec856 dX8_touches_13
theorem e856_14 {ls st : List Value} {h : x_H} {b : Nat} {a1 : Value}: x_run 856 14 ls (a1 :: .ref b :: st) h = if q_rcv h b 10 = true then (if x_wt st ≤ 8 ∧ x_wt [.ref b, a1] = 2 then q_cl (x_m 802 [.ref b, a1] h) (fun v h' => x_run 856 17 ls (v.toList ++ st) h') else none) else none := xe_virt (r := [a1]) ec856 dX8_touches_14 ek8_183 rfl (by decide +kernel) (by decide +kernel)
theorem e856_17 {ls st : List Value} {h : x_H} {x : Int32}: x_run 856 17 ls (.int x :: st) h = if x = 0 then x_run 856 22 ls st h else x_run 856 20 ls st h := xe_if_eq ec856 dX8_touches_17 rfl
theorem e856_20 {ls st : List Value} {h : x_H} : x_run 856 20 ls st h = x_run 856 21 ls (.int (q_i 0) :: st) h := xe_iconst ec856 dX8_touches_20
theorem e856_21 {ls : List Value} {h : x_H} {x : Int32} : x_run 856 21 ls [.int x] h = if narrow .int (.int x) = .int x then some (.inl (some (.int x)), h) else none := xe_ireturn ec856 dX8_touches_21 rfl
theorem e856_22 {ls st : List Value} {h : x_H} : x_run 856 22 ls st h = x_run 856 23 ls (.int (q_i 0) :: st) h := xe_iconst ec856 dX8_touches_22
theorem e856_23 {ls st : List Value} {h : x_H} {x : Int32}: x_run 856 23 ls (.int x :: st) h = q_ls ls 2 (.int x) (fun ls' => x_run 856 24 ls' st h) := xe_istore_n ec856 dX8_touches_23
theorem e856_24 {ls st : List Value} {h : x_H} : x_run 856 24 ls st h = x_run 856 25 ls (.int (q_i 0) :: st) h := xe_iconst ec856 dX8_touches_24
theorem e856_25 {ls st : List Value} {h : x_H} {x : Int32}: x_run 856 25 ls (.int x :: st) h = q_ls ls 3 (.int x) (fun ls' => x_run 856 26 ls' st h) := xe_istore_n ec856 dX8_touches_25
theorem e856_26 {ls st : List Value} {h : x_H} : x_run 856 26 ls st h = q_gi ls 3 (fun v => x_run 856 27 ls (.int v :: st) h) := xe_iload_n ec856 dX8_touches_26
theorem e856_27 {ls st : List Value} {h : x_H} : x_run 856 27 ls st h = x_run 856 29 ls (.int (q_i 96) :: st) h := xe_bipush ec856 dX8_touches_27 (by decide)
theorem e856_29 {ls st : List Value} {h : x_H} {x y : Int32}: x_run 856 29 ls (.int y :: .int x :: st) h = if y ≤ x then x_run 856 102 ls st h else x_run 856 32 ls st h := xe_ic_ge ec856 dX8_touches_29 rfl
theorem e856_32 {ls st : List Value} {h : x_H} : x_run 856 32 ls st h = x_run 856 33 ls (.int (q_i 0) :: st) h := xe_iconst ec856 dX8_touches_32
theorem e856_33 {ls st : List Value} {h : x_H} {x : Int32}: x_run 856 33 ls (.int x :: st) h = q_ls ls 4 (.int x) (fun ls' => x_run 856 35 ls' st h) := xe_istore ec856 dX8_touches_33
theorem e856_35 {ls st : List Value} {h : x_H} : x_run 856 35 ls st h = q_gi ls 4 (fun v => x_run 856 37 ls (.int v :: st) h) := xe_iload ec856 dX8_touches_35
theorem e856_37 {ls st : List Value} {h : x_H} : x_run 856 37 ls st h = x_run 856 38 ls (.int (q_i 4) :: st) h := xe_iconst ec856 dX8_touches_37
theorem e856_38 {ls st : List Value} {h : x_H} {x y : Int32}: x_run 856 38 ls (.int y :: .int x :: st) h = if y ≤ x then x_run 856 96 ls st h else x_run 856 41 ls st h := xe_ic_ge ec856 dX8_touches_38 rfl
theorem e856_41 {ls st : List Value} {h : x_H} : x_run 856 41 ls st h = q_gr ls 0 (fun v => x_run 856 42 ls (.ref v :: st) h) := xe_aload_n ec856 dX8_touches_41
theorem e856_42 {ls st : List Value} {h : x_H} : x_run 856 42 ls st h = q_gi ls 3 (fun v => x_run 856 43 ls (.int v :: st) h) := xe_iload_n ec856 dX8_touches_42
theorem e856_43 {ls st : List Value} {h : x_H} {b : Nat} {a1 : Value}: x_run 856 43 ls (a1 :: .ref b :: st) h = if q_rcv h b 10 = true then (if x_wt st ≤ 8 ∧ x_wt [.ref b, a1] = 2 then q_cl (x_m 814 [.ref b, a1] h) (fun v h' => x_run 856 46 ls (v.toList ++ st) h') else none) else none := xe_virt (r := [a1]) ec856 dX8_touches_43 ek8_87 rfl (by decide +kernel) (by decide +kernel)
theorem e856_46 {ls st : List Value} {h : x_H} : x_run 856 46 ls st h = q_gi ls 1 (fun v => x_run 856 47 ls (.int v :: st) h) := xe_iload_n ec856 dX8_touches_46
theorem e856_47 {ls st : List Value} {h : x_H} {x y : Int32}: x_run 856 47 ls (.int y :: .int x :: st) h = if ¬ x = y then x_run 856 96 ls st h else x_run 856 50 ls st h := xe_ic_ne ec856 dX8_touches_47 rfl
theorem e856_50 {ls st : List Value} {h : x_H} : x_run 856 50 ls st h = q_gi ls 3 (fun v => x_run 856 51 ls (.int v :: st) h) := xe_iload_n ec856 dX8_touches_50
theorem e856_51 {ls st : List Value} {h : x_H} : x_run 856 51 ls st h = q_gi ls 4 (fun v => x_run 856 53 ls (.int v :: st) h) := xe_iload ec856 dX8_touches_51
theorem e856_53 {ls st : List Value} {h : x_H} {a1 a2 : Value}: x_run 856 53 ls (a2 :: a1 :: st) h = if x_wt st ≤ 8 ∧ x_wt [a1, a2] = 2 then q_cl (x_m 816 [a1, a2] h) (fun v h' => x_run 856 56 ls (v.toList ++ st) h') else none := xe_stat (args := [a1, a2]) ec856 dX8_touches_53 ek8_84 (by decide) rfl (by decide +kernel) (by decide +kernel)
theorem e856_56 {ls st : List Value} {h : x_H} {x : Int32}: x_run 856 56 ls (.int x :: st) h = q_ls ls 5 (.int x) (fun ls' => x_run 856 58 ls' st h) := xe_istore ec856 dX8_touches_56
theorem e856_58 {ls st : List Value} {h : x_H} : x_run 856 58 ls st h = q_gi ls 2 (fun v => x_run 856 59 ls (.int v :: st) h) := xe_iload_n ec856 dX8_touches_58
theorem e856_59 {ls st : List Value} {h : x_H} : x_run 856 59 ls st h = q_gi ls 5 (fun v => x_run 856 61 ls (.int v :: st) h) := xe_iload ec856 dX8_touches_59
theorem e856_61 {ls st : List Value} {h : x_H} {x : Int32}: x_run 856 61 ls (.int x :: st) h = if x < 0 then x_run 856 87 ls st h else x_run 856 64 ls st h := xe_if_lt ec856 dX8_touches_61 rfl
theorem e856_64 {ls st : List Value} {h : x_H} : x_run 856 64 ls st h = q_gr ls 0 (fun v => x_run 856 65 ls (.ref v :: st) h) := xe_aload_n ec856 dX8_touches_64
theorem e856_65 {ls st : List Value} {h : x_H} : x_run 856 65 ls st h = q_gi ls 5 (fun v => x_run 856 67 ls (.int v :: st) h) := xe_iload ec856 dX8_touches_65
theorem e856_67 {ls st : List Value} {h : x_H} {b : Nat} {a1 : Value}: x_run 856 67 ls (a1 :: .ref b :: st) h = if q_rcv h b 10 = true then (if x_wt st ≤ 8 ∧ x_wt [.ref b, a1] = 2 then q_cl (x_m 814 [.ref b, a1] h) (fun v h' => x_run 856 70 ls (v.toList ++ st) h') else none) else none := xe_virt (r := [a1]) ec856 dX8_touches_67 ek8_87 rfl (by decide +kernel) (by decide +kernel)
theorem e856_70 {ls st : List Value} {h : x_H} {x : Int32}: x_run 856 70 ls (.int x :: st) h = if x < 0 then x_run 856 87 ls st h else x_run 856 73 ls st h := xe_if_lt ec856 dX8_touches_70 rfl
theorem e856_73 {ls st : List Value} {h : x_H} : x_run 856 73 ls st h = q_gr ls 0 (fun v => x_run 856 74 ls (.ref v :: st) h) := xe_aload_n ec856 dX8_touches_73
theorem e856_74 {ls st : List Value} {h : x_H} : x_run 856 74 ls st h = q_gi ls 5 (fun v => x_run 856 76 ls (.int v :: st) h) := xe_iload ec856 dX8_touches_74
theorem e856_76 {ls st : List Value} {h : x_H} {b : Nat} {a1 : Value}: x_run 856 76 ls (a1 :: .ref b :: st) h = if q_rcv h b 10 = true then (if x_wt st ≤ 8 ∧ x_wt [.ref b, a1] = 2 then q_cl (x_m 814 [.ref b, a1] h) (fun v h' => x_run 856 79 ls (v.toList ++ st) h') else none) else none := xe_virt (r := [a1]) ec856 dX8_touches_76 ek8_87 rfl (by decide +kernel) (by decide +kernel)
theorem e856_79 {ls st : List Value} {h : x_H} : x_run 856 79 ls st h = q_gi ls 1 (fun v => x_run 856 80 ls (.int v :: st) h) := xe_iload_n ec856 dX8_touches_79
theorem e856_80 {ls st : List Value} {h : x_H} {x y : Int32}: x_run 856 80 ls (.int y :: .int x :: st) h = if x = y then x_run 856 87 ls st h else x_run 856 83 ls st h := xe_ic_eq ec856 dX8_touches_80 rfl
theorem e856_83 {ls st : List Value} {h : x_H} : x_run 856 83 ls st h = x_run 856 84 ls (.int (q_i 1) :: st) h := xe_iconst ec856 dX8_touches_83
theorem e856_84 {ls st : List Value} {h : x_H} : x_run 856 84 ls st h = x_run 856 88 ls st h := xe_goto ec856 dX8_touches_84 rfl
theorem e856_87 {ls st : List Value} {h : x_H} : x_run 856 87 ls st h = x_run 856 88 ls (.int (q_i 0) :: st) h := xe_iconst ec856 dX8_touches_87
theorem e856_88 {ls st : List Value} {h : x_H} {x y : Int32}: x_run 856 88 ls (.int y :: .int x :: st) h = x_run 856 89 ls (.int (x + y) :: st) h := xe_iadd ec856 dX8_touches_88
theorem e856_89 {ls st : List Value} {h : x_H} {x : Int32}: x_run 856 89 ls (.int x :: st) h = q_ls ls 2 (.int x) (fun ls' => x_run 856 90 ls' st h) := xe_istore_n ec856 dX8_touches_89
theorem e856_90 {ls st : List Value} {h : x_H} : x_run 856 90 ls st h = q_gi ls 4 (fun v => if x_nd ls 4 = true then x_run 856 93 (ls.set 4 (.int (v + q_i 1))) st h else none) := xe_iinc ec856 dX8_touches_90
theorem e856_93 {ls st : List Value} {h : x_H} : x_run 856 93 ls st h = x_run 856 35 ls st h := xe_goto ec856 dX8_touches_93 rfl
theorem e856_96 {ls st : List Value} {h : x_H} : x_run 856 96 ls st h = q_gi ls 3 (fun v => if x_nd ls 3 = true then x_run 856 99 (ls.set 3 (.int (v + q_i 1))) st h else none) := xe_iinc ec856 dX8_touches_96
theorem e856_99 {ls st : List Value} {h : x_H} : x_run 856 99 ls st h = x_run 856 26 ls st h := xe_goto ec856 dX8_touches_99 rfl
theorem e856_102 {ls st : List Value} {h : x_H} : x_run 856 102 ls st h = q_gi ls 2 (fun v => x_run 856 103 ls (.int v :: st) h) := xe_iload_n ec856 dX8_touches_102
theorem e856_103 {ls : List Value} {h : x_H} {x : Int32} : x_run 856 103 ls [.int x] h = if narrow .int (.int x) = .int x then some (.inl (some (.int x)), h) else none := xe_ireturn ec856 dX8_touches_103 rfl
theorem ec857 : x_code 857 = cX8_isAhead := rfl
theorem e857_0 {ls st : List Value} {h : x_H} : x_run 857 0 ls st h = q_gr ls 0 (fun v => x_run 857 1 ls (.ref v :: st) h) := xe_aload_n ec857 dX8_isAhead_0
theorem e857_1 {ls st : List Value} {h : x_H} : x_run 857 1 ls st h = q_gi ls 1 (fun v => x_run 857 2 ls (.int v :: st) h) := xe_iload_n ec857 dX8_isAhead_1
theorem e857_2 {ls st : List Value} {h : x_H} : x_run 857 2 ls st h = x_run 857 4 ls (.int (q_i 7) :: st) h := xe_bipush ec857 dX8_isAhead_2 (by decide)
theorem e857_4 {ls st : List Value} {h : x_H} {b : Nat} {a1 a2 : Value}: x_run 857 4 ls (a2 :: a1 :: .ref b :: st) h = if q_rcv h b 10 = true then (if x_wt st ≤ 8 ∧ x_wt [.ref b, a1, a2] = 3 then q_cl (x_m 811 [.ref b, a1, a2] h) (fun v h' => x_run 857 7 ls (v.toList ++ st) h') else none) else none := xe_virt (r := [a1, a2]) ec857 dX8_isAhead_4 ek8_80 rfl (by decide +kernel) (by decide +kernel)
theorem e857_7 {ls st : List Value} {h : x_H} : x_run 857 7 ls st h = q_gr ls 0 (fun v => x_run 857 8 ls (.ref v :: st) h) := xe_aload_n ec857 dX8_isAhead_7
theorem e857_8 {ls st : List Value} {h : x_H} : x_run 857 8 ls st h = q_gi ls 2 (fun v => x_run 857 9 ls (.int v :: st) h) := xe_iload_n ec857 dX8_isAhead_8
theorem e857_9 {ls st : List Value} {h : x_H} : x_run 857 9 ls st h = x_run 857 11 ls (.int (q_i 7) :: st) h := xe_bipush ec857 dX8_isAhead_9 (by decide)
theorem e857_11 {ls st : List Value} {h : x_H} {b : Nat} {a1 a2 : Value}: x_run 857 11 ls (a2 :: a1 :: .ref b :: st) h = if q_rcv h b 10 = true then (if x_wt st ≤ 8 ∧ x_wt [.ref b, a1, a2] = 3 then q_cl (x_m 811 [.ref b, a1, a2] h) (fun v h' => x_run 857 14 ls (v.toList ++ st) h') else none) else none := xe_virt (r := [a1, a2]) ec857 dX8_isAhead_11 ek8_80 rfl (by decide +kernel) (by decide +kernel)
theorem e857_14 {ls st : List Value} {h : x_H} {x y : Int32}: x_run 857 14 ls (.int y :: .int x :: st) h = if x = y then x_run 857 40 ls st h else x_run 857 17 ls st h := xe_ic_eq ec857 dX8_isAhead_14 rfl
theorem e857_17 {ls st : List Value} {h : x_H} : x_run 857 17 ls st h = q_gr ls 0 (fun v => x_run 857 18 ls (.ref v :: st) h) := xe_aload_n ec857 dX8_isAhead_17
theorem e857_18 {ls st : List Value} {h : x_H} : x_run 857 18 ls st h = q_gi ls 1 (fun v => x_run 857 19 ls (.int v :: st) h) := xe_iload_n ec857 dX8_isAhead_18
theorem e857_19 {ls st : List Value} {h : x_H} : x_run 857 19 ls st h = x_run 857 21 ls (.int (q_i 7) :: st) h := xe_bipush ec857 dX8_isAhead_19 (by decide)
theorem e857_21 {ls st : List Value} {h : x_H} {b : Nat} {a1 a2 : Value}: x_run 857 21 ls (a2 :: a1 :: .ref b :: st) h = if q_rcv h b 10 = true then (if x_wt st ≤ 8 ∧ x_wt [.ref b, a1, a2] = 3 then q_cl (x_m 811 [.ref b, a1, a2] h) (fun v h' => x_run 857 24 ls (v.toList ++ st) h') else none) else none := xe_virt (r := [a1, a2]) ec857 dX8_isAhead_21 ek8_80 rfl (by decide +kernel) (by decide +kernel)
theorem e857_24 {ls st : List Value} {h : x_H} : x_run 857 24 ls st h = q_gr ls 0 (fun v => x_run 857 25 ls (.ref v :: st) h) := xe_aload_n ec857 dX8_isAhead_24
theorem e857_25 {ls st : List Value} {h : x_H} : x_run 857 25 ls st h = q_gi ls 2 (fun v => x_run 857 26 ls (.int v :: st) h) := xe_iload_n ec857 dX8_isAhead_25
theorem e857_26 {ls st : List Value} {h : x_H} : x_run 857 26 ls st h = x_run 857 28 ls (.int (q_i 7) :: st) h := xe_bipush ec857 dX8_isAhead_26 (by decide)
theorem e857_28 {ls st : List Value} {h : x_H} {b : Nat} {a1 a2 : Value}: x_run 857 28 ls (a2 :: a1 :: .ref b :: st) h = if q_rcv h b 10 = true then (if x_wt st ≤ 8 ∧ x_wt [.ref b, a1, a2] = 3 then q_cl (x_m 811 [.ref b, a1, a2] h) (fun v h' => x_run 857 31 ls (v.toList ++ st) h') else none) else none := xe_virt (r := [a1, a2]) ec857 dX8_isAhead_28 ek8_80 rfl (by decide +kernel) (by decide +kernel)
theorem e857_31 {ls st : List Value} {h : x_H} {x y : Int32}: x_run 857 31 ls (.int y :: .int x :: st) h = if x ≤ y then x_run 857 38 ls st h else x_run 857 34 ls st h := xe_ic_le ec857 dX8_isAhead_31 rfl
theorem e857_34 {ls st : List Value} {h : x_H} : x_run 857 34 ls st h = x_run 857 35 ls (.int (q_i 1) :: st) h := xe_iconst ec857 dX8_isAhead_34
theorem e857_35 {ls st : List Value} {h : x_H} : x_run 857 35 ls st h = x_run 857 39 ls st h := xe_goto ec857 dX8_isAhead_35 rfl
theorem e857_38 {ls st : List Value} {h : x_H} : x_run 857 38 ls st h = x_run 857 39 ls (.int (q_i 0) :: st) h := xe_iconst ec857 dX8_isAhead_38
theorem e857_39 {ls : List Value} {h : x_H} {x : Int32} : x_run 857 39 ls [.int x] h = if narrow .boolean (.int x) = .int x then some (.inl (some (.int x)), h) else none := xe_ireturn ec857 dX8_isAhead_39 rfl
theorem e857_40 {ls st : List Value} {h : x_H} : x_run 857 40 ls st h = q_gr ls 0 (fun v => x_run 857 41 ls (.ref v :: st) h) := xe_aload_n ec857 dX8_isAhead_40
theorem e857_41 {ls st : List Value} {h : x_H} : x_run 857 41 ls st h = q_gi ls 1 (fun v => x_run 857 42 ls (.int v :: st) h) := xe_iload_n ec857 dX8_isAhead_41
theorem e857_42 {ls st : List Value} {h : x_H} : x_run 857 42 ls st h = x_run 857 44 ls (.int (q_i 8) :: st) h := xe_bipush ec857 dX8_isAhead_42 (by decide)
theorem e857_44 {ls st : List Value} {h : x_H} {b : Nat} {a1 a2 : Value}: x_run 857 44 ls (a2 :: a1 :: .ref b :: st) h = if q_rcv h b 10 = true then (if x_wt st ≤ 8 ∧ x_wt [.ref b, a1, a2] = 3 then q_cl (x_m 811 [.ref b, a1, a2] h) (fun v h' => x_run 857 47 ls (v.toList ++ st) h') else none) else none := xe_virt (r := [a1, a2]) ec857 dX8_isAhead_44 ek8_80 rfl (by decide +kernel) (by decide +kernel)
theorem e857_47 {ls st : List Value} {h : x_H} : x_run 857 47 ls st h = q_gr ls 0 (fun v => x_run 857 48 ls (.ref v :: st) h) := xe_aload_n ec857 dX8_isAhead_47
theorem e857_48 {ls st : List Value} {h : x_H} : x_run 857 48 ls st h = q_gi ls 2 (fun v => x_run 857 49 ls (.int v :: st) h) := xe_iload_n ec857 dX8_isAhead_48
theorem e857_49 {ls st : List Value} {h : x_H} : x_run 857 49 ls st h = x_run 857 51 ls (.int (q_i 8) :: st) h := xe_bipush ec857 dX8_isAhead_49 (by decide)
theorem e857_51 {ls st : List Value} {h : x_H} {b : Nat} {a1 a2 : Value}: x_run 857 51 ls (a2 :: a1 :: .ref b :: st) h = if q_rcv h b 10 = true then (if x_wt st ≤ 8 ∧ x_wt [.ref b, a1, a2] = 3 then q_cl (x_m 811 [.ref b, a1, a2] h) (fun v h' => x_run 857 54 ls (v.toList ++ st) h') else none) else none := xe_virt (r := [a1, a2]) ec857 dX8_isAhead_51 ek8_80 rfl (by decide +kernel) (by decide +kernel)
theorem e857_54 {ls st : List Value} {h : x_H} {x y : Int32}: x_run 857 54 ls (.int y :: .int x :: st) h = if x = y then x_run 857 82 ls st h else x_run 857 57 ls st h := xe_ic_eq ec857 dX8_isAhead_54 rfl
theorem e857_57 {ls st : List Value} {h : x_H} : x_run 857 57 ls st h = q_gr ls 0 (fun v => x_run 857 58 ls (.ref v :: st) h) := xe_aload_n ec857 dX8_isAhead_57
theorem e857_58 {ls st : List Value} {h : x_H} : x_run 857 58 ls st h = q_gi ls 1 (fun v => x_run 857 59 ls (.int v :: st) h) := xe_iload_n ec857 dX8_isAhead_58
theorem e857_59 {ls st : List Value} {h : x_H} : x_run 857 59 ls st h = x_run 857 61 ls (.int (q_i 8) :: st) h := xe_bipush ec857 dX8_isAhead_59 (by decide)
theorem e857_61 {ls st : List Value} {h : x_H} {b : Nat} {a1 a2 : Value}: x_run 857 61 ls (a2 :: a1 :: .ref b :: st) h = if q_rcv h b 10 = true then (if x_wt st ≤ 8 ∧ x_wt [.ref b, a1, a2] = 3 then q_cl (x_m 811 [.ref b, a1, a2] h) (fun v h' => x_run 857 64 ls (v.toList ++ st) h') else none) else none := xe_virt (r := [a1, a2]) ec857 dX8_isAhead_61 ek8_80 rfl (by decide +kernel) (by decide +kernel)
theorem e857_64 {ls st : List Value} {h : x_H} : x_run 857 64 ls st h = q_gr ls 0 (fun v => x_run 857 65 ls (.ref v :: st) h) := xe_aload_n ec857 dX8_isAhead_64
theorem e857_65 {ls st : List Value} {h : x_H} : x_run 857 65 ls st h = q_gi ls 2 (fun v => x_run 857 66 ls (.int v :: st) h) := xe_iload_n ec857 dX8_isAhead_65
theorem e857_66 {ls st : List Value} {h : x_H} : x_run 857 66 ls st h = x_run 857 68 ls (.int (q_i 8) :: st) h := xe_bipush ec857 dX8_isAhead_66 (by decide)
theorem e857_68 {ls st : List Value} {h : x_H} {b : Nat} {a1 a2 : Value}: x_run 857 68 ls (a2 :: a1 :: .ref b :: st) h = if q_rcv h b 10 = true then (if x_wt st ≤ 8 ∧ x_wt [.ref b, a1, a2] = 3 then q_cl (x_m 811 [.ref b, a1, a2] h) (fun v h' => x_run 857 71 ls (v.toList ++ st) h') else none) else none := xe_virt (r := [a1, a2]) ec857 dX8_isAhead_68 ek8_80 rfl (by decide +kernel) (by decide +kernel)
theorem e857_71 {ls st : List Value} {h : x_H} {x y : Int32}: x_run 857 71 ls (.int y :: .int x :: st) h = if x ≤ y then x_run 857 78 ls st h else x_run 857 74 ls st h := xe_ic_le ec857 dX8_isAhead_71 rfl
theorem e857_74 {ls st : List Value} {h : x_H} : x_run 857 74 ls st h = x_run 857 75 ls (.int (q_i 1) :: st) h := xe_iconst ec857 dX8_isAhead_74
theorem e857_75 {ls st : List Value} {h : x_H} : x_run 857 75 ls st h = x_run 857 92 ls st h := xe_goto ec857 dX8_isAhead_75 rfl
theorem e857_78 {ls st : List Value} {h : x_H} : x_run 857 78 ls st h = x_run 857 79 ls (.int (q_i 0) :: st) h := xe_iconst ec857 dX8_isAhead_78
theorem e857_79 {ls st : List Value} {h : x_H} : x_run 857 79 ls st h = x_run 857 92 ls st h := xe_goto ec857 dX8_isAhead_79 rfl
theorem e857_82 {ls st : List Value} {h : x_H} : x_run 857 82 ls st h = q_gi ls 1 (fun v => x_run 857 83 ls (.int v :: st) h) := xe_iload_n ec857 dX8_isAhead_82
theorem e857_83 {ls st : List Value} {h : x_H} : x_run 857 83 ls st h = q_gi ls 2 (fun v => x_run 857 84 ls (.int v :: st) h) := xe_iload_n ec857 dX8_isAhead_83
theorem e857_84 {ls st : List Value} {h : x_H} {x y : Int32}: x_run 857 84 ls (.int y :: .int x :: st) h = if y ≤ x then x_run 857 91 ls st h else x_run 857 87 ls st h := xe_ic_ge ec857 dX8_isAhead_84 rfl
theorem e857_87 {ls st : List Value} {h : x_H} : x_run 857 87 ls st h = x_run 857 88 ls (.int (q_i 1) :: st) h := xe_iconst ec857 dX8_isAhead_87
theorem e857_88 {ls st : List Value} {h : x_H} : x_run 857 88 ls st h = x_run 857 92 ls st h := xe_goto ec857 dX8_isAhead_88 rfl
theorem e857_91 {ls st : List Value} {h : x_H} : x_run 857 91 ls st h = x_run 857 92 ls (.int (q_i 0) :: st) h := xe_iconst ec857 dX8_isAhead_91
theorem e857_92 {ls : List Value} {h : x_H} {x : Int32} : x_run 857 92 ls [.int x] h = if narrow .boolean (.int x) = .int x then some (.inl (some (.int x)), h) else none := xe_ireturn ec857 dX8_isAhead_92 rfl
theorem ec858 : x_code 858 = cX8_ranked := rfl
theorem e858_0 {ls st : List Value} {h : x_H} : x_run 858 0 ls st h = q_gr ls 0 (fun v => x_run 858 1 ls (.ref v :: st) h) := xe_aload_n ec858 dX8_ranked_0
theorem e858_1 {ls st : List Value} {h : x_H} : x_run 858 1 ls st h = q_gr ls 0 (fun v => x_run 858 2 ls (.ref v :: st) h) := xe_aload_n ec858 dX8_ranked_1
theorem e858_2 {ls st : List Value} {h : x_H} : x_run 858 2 ls st h = q_gi ls 1 (fun v => x_run 858 3 ls (.int v :: st) h) := xe_iload_n ec858 dX8_ranked_2
theorem e858_3 {ls st : List Value} {h : x_H} {b : Nat} {a1 : Value}: x_run 858 3 ls (a1 :: .ref b :: st) h = if q_rcv h b 10 = true then (if x_wt st ≤ 8 ∧ x_wt [.ref b, a1] = 2 then q_cl (x_m 810 [.ref b, a1] h) (fun v h' => x_run 858 6 ls (v.toList ++ st) h') else none) else none := xe_virt (r := [a1]) ec858 dX8_ranked_3 ek8_112 rfl (by decide +kernel) (by decide +kernel)
theorem e858_6 {ls st : List Value} {h : x_H} {x : Int32}: x_run 858 6 ls (.int x :: st) h = if x = 0 then x_run 858 13 ls st h else x_run 858 9 ls st h := xe_if_eq ec858 dX8_ranked_6 rfl
theorem e858_9 {ls st : List Value} {h : x_H} : x_run 858 9 ls st h = x_run 858 10 ls (.int (q_i 0) :: st) h := xe_iconst ec858 dX8_ranked_9
theorem e858_10 {ls st : List Value} {h : x_H} : x_run 858 10 ls st h = x_run 858 14 ls st h := xe_goto ec858 dX8_ranked_10 rfl
theorem e858_13 {ls st : List Value} {h : x_H} : x_run 858 13 ls st h = x_run 858 14 ls (.int (q_i 1) :: st) h := xe_iconst ec858 dX8_ranked_13
theorem e858_14 {ls st : List Value} {h : x_H} {b : Nat} {a1 : Value}: x_run 858 14 ls (a1 :: .ref b :: st) h = if q_rcv h b 10 = true then (if x_wt st ≤ 8 ∧ x_wt [.ref b, a1] = 2 then q_cl (x_m 802 [.ref b, a1] h) (fun v h' => x_run 858 17 ls (v.toList ++ st) h') else none) else none := xe_virt (r := [a1]) ec858 dX8_ranked_14 ek8_183 rfl (by decide +kernel) (by decide +kernel)
theorem e858_17 {ls st : List Value} {h : x_H} {x : Int32}: x_run 858 17 ls (.int x :: st) h = if x = 0 then x_run 858 22 ls st h else x_run 858 20 ls st h := xe_if_eq ec858 dX8_ranked_17 rfl
theorem e858_20 {ls st : List Value} {h : x_H} : x_run 858 20 ls st h = x_run 858 21 ls (.int (q_i 0) :: st) h := xe_iconst ec858 dX8_ranked_20
theorem e858_21 {ls : List Value} {h : x_H} {x : Int32} : x_run 858 21 ls [.int x] h = if narrow .int (.int x) = .int x then some (.inl (some (.int x)), h) else none := xe_ireturn ec858 dX8_ranked_21 rfl
theorem e858_22 {ls st : List Value} {h : x_H} : x_run 858 22 ls st h = x_run 858 23 ls (.int (q_i 0) :: st) h := xe_iconst ec858 dX8_ranked_22
theorem e858_23 {ls st : List Value} {h : x_H} {x : Int32}: x_run 858 23 ls (.int x :: st) h = q_ls ls 2 (.int x) (fun ls' => x_run 858 24 ls' st h) := xe_istore_n ec858 dX8_ranked_23
theorem e858_24 {ls st : List Value} {h : x_H} : x_run 858 24 ls st h = q_gi ls 2 (fun v => x_run 858 25 ls (.int v :: st) h) := xe_iload_n ec858 dX8_ranked_24
theorem e858_25 {ls st : List Value} {h : x_H} : x_run 858 25 ls st h = q_gr ls 0 (fun v => x_run 858 26 ls (.ref v :: st) h) := xe_aload_n ec858 dX8_ranked_25
theorem e858_26 {ls st : List Value} {h : x_H} {a : Nat}: x_run 858 26 ls (.ref a :: st) h = q_gf h a 10 0 (fun v => x_run 858 29 ls (v :: st) h) := xe_getfield ec858 dX8_ranked_26 ef8_7
theorem e858_29 {ls st : List Value} {h : x_H} : x_run 858 29 ls st h = x_run 858 30 ls (.int (q_i 0) :: st) h := xe_iconst ec858 dX8_ranked_29
theorem e858_30 {ls st : List Value} {h : x_H} {x : Int32} {a : Nat}: x_run 858 30 ls (.int x :: .ref a :: st) h = q_ra h a 0 x (fun v => x_run 858 31 ls (.int v :: st) h) := xe_iaload ec858 dX8_ranked_30
theorem e858_31 {ls st : List Value} {h : x_H} {x y : Int32}: x_run 858 31 ls (.int y :: .int x :: st) h = if y ≤ x then x_run 858 87 ls st h else x_run 858 34 ls st h := xe_ic_ge ec858 dX8_ranked_31 rfl
theorem e858_34 {ls st : List Value} {h : x_H} : x_run 858 34 ls st h = x_run 858 35 ls (.int (q_i 0) :: st) h := xe_iconst ec858 dX8_ranked_34
theorem e858_35 {ls st : List Value} {h : x_H} {x : Int32}: x_run 858 35 ls (.int x :: st) h = q_ls ls 3 (.int x) (fun ls' => x_run 858 36 ls' st h) := xe_istore_n ec858 dX8_ranked_35
theorem e858_36 {ls st : List Value} {h : x_H} : x_run 858 36 ls st h = x_run 858 37 ls (.int (q_i 0) :: st) h := xe_iconst ec858 dX8_ranked_36
theorem e858_37 {ls st : List Value} {h : x_H} {x : Int32}: x_run 858 37 ls (.int x :: st) h = q_ls ls 4 (.int x) (fun ls' => x_run 858 39 ls' st h) := xe_istore ec858 dX8_ranked_37
theorem e858_39 {ls st : List Value} {h : x_H} : x_run 858 39 ls st h = q_gi ls 4 (fun v => x_run 858 41 ls (.int v :: st) h) := xe_iload ec858 dX8_ranked_39
theorem e858_41 {ls st : List Value} {h : x_H} : x_run 858 41 ls st h = q_gr ls 0 (fun v => x_run 858 42 ls (.ref v :: st) h) := xe_aload_n ec858 dX8_ranked_41
theorem e858_42 {ls st : List Value} {h : x_H} {a : Nat}: x_run 858 42 ls (.ref a :: st) h = q_gf h a 10 0 (fun v => x_run 858 45 ls (v :: st) h) := xe_getfield ec858 dX8_ranked_42 ef8_7
theorem e858_45 {ls st : List Value} {h : x_H} : x_run 858 45 ls st h = x_run 858 46 ls (.int (q_i 0) :: st) h := xe_iconst ec858 dX8_ranked_45
theorem e858_46 {ls st : List Value} {h : x_H} {x : Int32} {a : Nat}: x_run 858 46 ls (.int x :: .ref a :: st) h = q_ra h a 0 x (fun v => x_run 858 47 ls (.int v :: st) h) := xe_iaload ec858 dX8_ranked_46
theorem e858_47 {ls st : List Value} {h : x_H} {x y : Int32}: x_run 858 47 ls (.int y :: .int x :: st) h = if y ≤ x then x_run 858 74 ls st h else x_run 858 50 ls st h := xe_ic_ge ec858 dX8_ranked_47 rfl
theorem e858_50 {ls st : List Value} {h : x_H} : x_run 858 50 ls st h = q_gi ls 3 (fun v => x_run 858 51 ls (.int v :: st) h) := xe_iload_n ec858 dX8_ranked_50
theorem e858_51 {ls st : List Value} {h : x_H} : x_run 858 51 ls st h = q_gr ls 0 (fun v => x_run 858 52 ls (.ref v :: st) h) := xe_aload_n ec858 dX8_ranked_51
theorem e858_52 {ls st : List Value} {h : x_H} : x_run 858 52 ls st h = q_gi ls 4 (fun v => x_run 858 54 ls (.int v :: st) h) := xe_iload ec858 dX8_ranked_52
theorem e858_54 {ls st : List Value} {h : x_H} : x_run 858 54 ls st h = q_gi ls 2 (fun v => x_run 858 55 ls (.int v :: st) h) := xe_iload_n ec858 dX8_ranked_54
theorem e858_55 {ls st : List Value} {h : x_H} {b : Nat} {a1 a2 : Value}: x_run 858 55 ls (a2 :: a1 :: .ref b :: st) h = if q_rcv h b 10 = true then (if x_wt st ≤ 8 ∧ x_wt [.ref b, a1, a2] = 3 then q_cl (x_m 857 [.ref b, a1, a2] h) (fun v h' => x_run 858 58 ls (v.toList ++ st) h') else none) else none := xe_virt (r := [a1, a2]) ec858 dX8_ranked_55 ek8_189 rfl (by decide +kernel) (by decide +kernel)
theorem e858_58 {ls st : List Value} {h : x_H} {x : Int32}: x_run 858 58 ls (.int x :: st) h = if x = 0 then x_run 858 65 ls st h else x_run 858 61 ls st h := xe_if_eq ec858 dX8_ranked_58 rfl
theorem e858_61 {ls st : List Value} {h : x_H} : x_run 858 61 ls st h = x_run 858 62 ls (.int (q_i 1) :: st) h := xe_iconst ec858 dX8_ranked_61
theorem e858_62 {ls st : List Value} {h : x_H} : x_run 858 62 ls st h = x_run 858 66 ls st h := xe_goto ec858 dX8_ranked_62 rfl
theorem e858_65 {ls st : List Value} {h : x_H} : x_run 858 65 ls st h = x_run 858 66 ls (.int (q_i 0) :: st) h := xe_iconst ec858 dX8_ranked_65
theorem e858_66 {ls st : List Value} {h : x_H} {x y : Int32}: x_run 858 66 ls (.int y :: .int x :: st) h = x_run 858 67 ls (.int (x + y) :: st) h := xe_iadd ec858 dX8_ranked_66
theorem e858_67 {ls st : List Value} {h : x_H} {x : Int32}: x_run 858 67 ls (.int x :: st) h = q_ls ls 3 (.int x) (fun ls' => x_run 858 68 ls' st h) := xe_istore_n ec858 dX8_ranked_67
theorem e858_68 {ls st : List Value} {h : x_H} : x_run 858 68 ls st h = q_gi ls 4 (fun v => if x_nd ls 4 = true then x_run 858 71 (ls.set 4 (.int (v + q_i 1))) st h else none) := xe_iinc ec858 dX8_ranked_68
theorem e858_71 {ls st : List Value} {h : x_H} : x_run 858 71 ls st h = x_run 858 39 ls st h := xe_goto ec858 dX8_ranked_71 rfl
theorem e858_74 {ls st : List Value} {h : x_H} : x_run 858 74 ls st h = q_gi ls 3 (fun v => x_run 858 75 ls (.int v :: st) h) := xe_iload_n ec858 dX8_ranked_74
theorem e858_75 {ls st : List Value} {h : x_H} : x_run 858 75 ls st h = q_gi ls 1 (fun v => x_run 858 76 ls (.int v :: st) h) := xe_iload_n ec858 dX8_ranked_75
theorem e858_76 {ls st : List Value} {h : x_H} {x y : Int32}: x_run 858 76 ls (.int y :: .int x :: st) h = if ¬ x = y then x_run 858 81 ls st h else x_run 858 79 ls st h := xe_ic_ne ec858 dX8_ranked_76 rfl
theorem e858_79 {ls st : List Value} {h : x_H} : x_run 858 79 ls st h = q_gi ls 2 (fun v => x_run 858 80 ls (.int v :: st) h) := xe_iload_n ec858 dX8_ranked_79
theorem e858_80 {ls : List Value} {h : x_H} {x : Int32} : x_run 858 80 ls [.int x] h = if narrow .int (.int x) = .int x then some (.inl (some (.int x)), h) else none := xe_ireturn ec858 dX8_ranked_80 rfl
theorem e858_81 {ls st : List Value} {h : x_H} : x_run 858 81 ls st h = q_gi ls 2 (fun v => if x_nd ls 2 = true then x_run 858 84 (ls.set 2 (.int (v + q_i 1))) st h else none) := xe_iinc ec858 dX8_ranked_81
theorem e858_84 {ls st : List Value} {h : x_H} : x_run 858 84 ls st h = x_run 858 24 ls st h := xe_goto ec858 dX8_ranked_84 rfl
theorem e858_87 {ls st : List Value} {h : x_H} : x_run 858 87 ls st h = x_run 858 88 ls (.int (q_i 0) :: st) h := xe_iconst ec858 dX8_ranked_87
theorem e858_88 {ls : List Value} {h : x_H} {x : Int32} : x_run 858 88 ls [.int x] h = if narrow .int (.int x) = .int x then some (.inl (some (.int x)), h) else none := xe_ireturn ec858 dX8_ranked_88 rfl
theorem ec859 : x_code 859 = cX8_append := rfl
theorem e859_0 {ls st : List Value} {h : x_H} : x_run 859 0 ls st h = q_gr ls 0 (fun v => x_run 859 1 ls (.ref v :: st) h) := xe_aload_n ec859 dX8_append_0
theorem e859_1 {ls st : List Value} {h : x_H} : x_run 859 1 ls st h = q_gr ls 0 (fun v => x_run 859 2 ls (.ref v :: st) h) := xe_aload_n ec859 dX8_append_1
theorem e859_2 {ls st : List Value} {h : x_H} {a : Nat}: x_run 859 2 ls (.ref a :: st) h = q_gf h a 10 12 (fun v => x_run 859 5 ls (v :: st) h) := xe_getfield ec859 dX8_append_2 ef8_192
theorem e859_5 {ls st : List Value} {h : x_H} : x_run 859 5 ls st h = x_run 859 7 ls (.int (q_i 60) :: st) h := xe_bipush ec859 dX8_append_5 (by decide)
theorem e859_7 {ls st : List Value} {h : x_H} {x y : Int32}: x_run 859 7 ls (.int y :: .int x :: st) h = if ¬ x = y then x_run 859 14 ls st h else x_run 859 10 ls st h := xe_ic_ne ec859 dX8_append_7 rfl
theorem e859_10 {ls st : List Value} {h : x_H} : x_run 859 10 ls st h = x_run 859 11 ls (.int (q_i 1) :: st) h := xe_iconst ec859 dX8_append_10
theorem e859_11 {ls st : List Value} {h : x_H} : x_run 859 11 ls st h = x_run 859 15 ls st h := xe_goto ec859 dX8_append_11 rfl
theorem e859_14 {ls st : List Value} {h : x_H} : x_run 859 14 ls st h = x_run 859 15 ls (.int (q_i 0) :: st) h := xe_iconst ec859 dX8_append_14
theorem e859_15 {ls st : List Value} {h : x_H} {b : Nat} {a1 : Value}: x_run 859 15 ls (a1 :: .ref b :: st) h = if q_rcv h b 10 = true then (if x_wt st ≤ 8 ∧ x_wt [.ref b, a1] = 2 then q_cl (x_m 802 [.ref b, a1] h) (fun v h' => x_run 859 18 ls (v.toList ++ st) h') else none) else none := xe_virt (r := [a1]) ec859 dX8_append_15 ek8_183 rfl (by decide +kernel) (by decide +kernel)
theorem e859_18 {ls st : List Value} {h : x_H} {x : Int32}: x_run 859 18 ls (.int x :: st) h = if x = 0 then x_run 859 23 ls st h else x_run 859 21 ls st h := xe_if_eq ec859 dX8_append_18 rfl
theorem e859_21 {ls st : List Value} {h : x_H} : x_run 859 21 ls st h = x_run 859 22 ls (.int (q_i 0) :: st) h := xe_iconst ec859 dX8_append_21
theorem e859_22 {ls : List Value} {h : x_H} {x : Int32} : x_run 859 22 ls [.int x] h = if narrow .int (.int x) = .int x then some (.inl (some (.int x)), h) else none := xe_ireturn ec859 dX8_append_22 rfl
theorem e859_23 {ls st : List Value} {h : x_H} : x_run 859 23 ls st h = q_gr ls 0 (fun v => x_run 859 24 ls (.ref v :: st) h) := xe_aload_n ec859 dX8_append_23
theorem e859_24 {ls st : List Value} {h : x_H} {a : Nat}: x_run 859 24 ls (.ref a :: st) h = q_gf h a 10 11 (fun v => x_run 859 27 ls (v :: st) h) := xe_getfield ec859 dX8_append_24 ef8_22
theorem e859_27 {ls st : List Value} {h : x_H} : x_run 859 27 ls st h = q_gr ls 0 (fun v => x_run 859 28 ls (.ref v :: st) h) := xe_aload_n ec859 dX8_append_27
theorem e859_28 {ls st : List Value} {h : x_H} {a : Nat}: x_run 859 28 ls (.ref a :: st) h = q_gf h a 10 12 (fun v => x_run 859 31 ls (v :: st) h) := xe_getfield ec859 dX8_append_28 ef8_192
theorem e859_31 {ls st : List Value} {h : x_H} : x_run 859 31 ls st h = q_gi ls 1 (fun v => x_run 859 32 ls (.int v :: st) h) := xe_iload_n ec859 dX8_append_31
theorem e859_32 {ls st : List Value} {h : x_H} {x y : Int32} {a : Nat}: x_run 859 32 ls (.int y :: .int x :: .ref a :: st) h = q_wa h a 0 x y (fun h' => x_run 859 33 ls st h') := xe_iastore ec859 dX8_append_32
theorem e859_33 {ls st : List Value} {h : x_H} : x_run 859 33 ls st h = q_gr ls 0 (fun v => x_run 859 34 ls (.ref v :: st) h) := xe_aload_n ec859 dX8_append_33
theorem e859_34 {ls st : List Value} {h : x_H} {v : Value} (hv : v.category = 1): x_run 859 34 ls (v :: st) h = x_run 859 35 ls (v :: v :: st) h := xe_dup ec859 dX8_append_34 hv
theorem e859_35 {ls st : List Value} {h : x_H} {a : Nat}: x_run 859 35 ls (.ref a :: st) h = q_gf h a 10 12 (fun v => x_run 859 38 ls (v :: st) h) := xe_getfield ec859 dX8_append_35 ef8_192
theorem e859_38 {ls st : List Value} {h : x_H} : x_run 859 38 ls st h = x_run 859 39 ls (.int (q_i 1) :: st) h := xe_iconst ec859 dX8_append_38
theorem e859_39 {ls st : List Value} {h : x_H} {x y : Int32}: x_run 859 39 ls (.int y :: .int x :: st) h = x_run 859 40 ls (.int (x + y) :: st) h := xe_iadd ec859 dX8_append_39
theorem e859_40 {ls st : List Value} {h : x_H} {v : Value} {a : Nat}: x_run 859 40 ls (v :: .ref a :: st) h = if x_fit (x_ty 10 12) v = true then q_pf h a 10 12 v (fun h' => x_run 859 43 ls st h') else none := xe_putfield ec859 dX8_append_40 ef8_192 (by decide +kernel)
theorem e859_43 {ls st : List Value} {h : x_H} : x_run 859 43 ls st h = q_gr ls 0 (fun v => x_run 859 44 ls (.ref v :: st) h) := xe_aload_n ec859 dX8_append_43
theorem e859_44 {ls st : List Value} {h : x_H} {a : Nat}: x_run 859 44 ls (.ref a :: st) h = q_gf h a 10 12 (fun v => x_run 859 47 ls (v :: st) h) := xe_getfield ec859 dX8_append_44 ef8_192
theorem e859_47 {ls : List Value} {h : x_H} {x : Int32} : x_run 859 47 ls [.int x] h = if narrow .int (.int x) = .int x then some (.inl (some (.int x)), h) else none := xe_ireturn ec859 dX8_append_47 rfl
theorem ec860 : x_code 860 = cX8_here := rfl
theorem e860_0 {ls st : List Value} {h : x_H} : x_run 860 0 ls st h = q_gr ls 0 (fun v => x_run 860 1 ls (.ref v :: st) h) := xe_aload_n ec860 dX8_here_0
theorem e860_1 {ls st : List Value} {h : x_H} {a : Nat}: x_run 860 1 ls (.ref a :: st) h = q_gf h a 10 20 (fun v => x_run 860 4 ls (v :: st) h) := xe_getfield ec860 dX8_here_1 ef8_195
theorem e860_4 {ls st : List Value} {h : x_H} : x_run 860 4 ls st h = q_gr ls 0 (fun v => x_run 860 5 ls (.ref v :: st) h) := xe_aload_n ec860 dX8_here_4
theorem e860_5 {ls st : List Value} {h : x_H} {a : Nat}: x_run 860 5 ls (.ref a :: st) h = q_gf h a 10 12 (fun v => x_run 860 8 ls (v :: st) h) := xe_getfield ec860 dX8_here_5 ef8_192
theorem e860_8 {ls st : List Value} {h : x_H} {x y : Int32}: x_run 860 8 ls (.int y :: .int x :: st) h = if y ≤ x then x_run 860 23 ls st h else x_run 860 11 ls st h := xe_ic_ge ec860 dX8_here_8 rfl
theorem e860_11 {ls st : List Value} {h : x_H} : x_run 860 11 ls st h = q_gr ls 0 (fun v => x_run 860 12 ls (.ref v :: st) h) := xe_aload_n ec860 dX8_here_11
theorem e860_12 {ls st : List Value} {h : x_H} {a : Nat}: x_run 860 12 ls (.ref a :: st) h = q_gf h a 10 11 (fun v => x_run 860 15 ls (v :: st) h) := xe_getfield ec860 dX8_here_12 ef8_22
theorem e860_15 {ls st : List Value} {h : x_H} : x_run 860 15 ls st h = q_gr ls 0 (fun v => x_run 860 16 ls (.ref v :: st) h) := xe_aload_n ec860 dX8_here_15
theorem e860_16 {ls st : List Value} {h : x_H} {a : Nat}: x_run 860 16 ls (.ref a :: st) h = q_gf h a 10 20 (fun v => x_run 860 19 ls (v :: st) h) := xe_getfield ec860 dX8_here_16 ef8_195
theorem e860_19 {ls st : List Value} {h : x_H} {x : Int32} {a : Nat}: x_run 860 19 ls (.int x :: .ref a :: st) h = q_ra h a 0 x (fun v => x_run 860 20 ls (.int v :: st) h) := xe_iaload ec860 dX8_here_19
theorem e860_20 {ls st : List Value} {h : x_H} : x_run 860 20 ls st h = x_run 860 24 ls st h := xe_goto ec860 dX8_here_20 rfl
theorem e860_23 {ls st : List Value} {h : x_H} : x_run 860 23 ls st h = x_run 860 24 ls (.int (q_i (-1)) :: st) h := xe_iconst ec860 dX8_here_23
theorem e860_24 {ls : List Value} {h : x_H} {x : Int32} : x_run 860 24 ls [.int x] h = if narrow .int (.int x) = .int x then some (.inl (some (.int x)), h) else none := xe_ireturn ec860 dX8_here_24 rfl
theorem ec861 : x_code 861 = cX8_skips := rfl
theorem e861_0 {ls st : List Value} {h : x_H} : x_run 861 0 ls st h = q_gr ls 0 (fun v => x_run 861 1 ls (.ref v :: st) h) := xe_aload_n ec861 dX8_skips_0
theorem e861_1 {ls st : List Value} {h : x_H} {b : Nat}: x_run 861 1 ls (.ref b :: st) h = if q_rcv h b 10 = true then (if x_wt st ≤ 8 ∧ x_wt [.ref b] = 1 then q_cl (x_m 860 [.ref b] h) (fun v h' => x_run 861 4 ls (v.toList ++ st) h') else none) else none := xe_virt (r := []) ec861 dX8_skips_1 ek8_198 rfl (by decide +kernel) (by decide +kernel)
theorem e861_4 {ls st : List Value} {h : x_H} : x_run 861 4 ls st h = q_gi ls 1 (fun v => x_run 861 5 ls (.int v :: st) h) := xe_iload_n ec861 dX8_skips_4
theorem e861_5 {ls st : List Value} {h : x_H} {x y : Int32}: x_run 861 5 ls (.int y :: .int x :: st) h = if x = y then x_run 861 10 ls st h else x_run 861 8 ls st h := xe_ic_eq ec861 dX8_skips_5 rfl
theorem e861_8 {ls st : List Value} {h : x_H} : x_run 861 8 ls st h = x_run 861 9 ls (.int (q_i 0) :: st) h := xe_iconst ec861 dX8_skips_8
theorem e861_9 {ls : List Value} {h : x_H} {x : Int32} : x_run 861 9 ls [.int x] h = if narrow .boolean (.int x) = .int x then some (.inl (some (.int x)), h) else none := xe_ireturn ec861 dX8_skips_9 rfl
theorem e861_10 {ls st : List Value} {h : x_H} : x_run 861 10 ls st h = q_gr ls 0 (fun v => x_run 861 11 ls (.ref v :: st) h) := xe_aload_n ec861 dX8_skips_10
theorem e861_11 {ls st : List Value} {h : x_H} {v : Value} (hv : v.category = 1): x_run 861 11 ls (v :: st) h = x_run 861 12 ls (v :: v :: st) h := xe_dup ec861 dX8_skips_11 hv
theorem e861_12 {ls st : List Value} {h : x_H} {a : Nat}: x_run 861 12 ls (.ref a :: st) h = q_gf h a 10 20 (fun v => x_run 861 15 ls (v :: st) h) := xe_getfield ec861 dX8_skips_12 ef8_195
theorem e861_15 {ls st : List Value} {h : x_H} : x_run 861 15 ls st h = x_run 861 16 ls (.int (q_i 1) :: st) h := xe_iconst ec861 dX8_skips_15
theorem e861_16 {ls st : List Value} {h : x_H} {x y : Int32}: x_run 861 16 ls (.int y :: .int x :: st) h = x_run 861 17 ls (.int (x + y) :: st) h := xe_iadd ec861 dX8_skips_16
theorem e861_17 {ls st : List Value} {h : x_H} {v : Value} {a : Nat}: x_run 861 17 ls (v :: .ref a :: st) h = if x_fit (x_ty 10 20) v = true then q_pf h a 10 20 v (fun h' => x_run 861 20 ls st h') else none := xe_putfield ec861 dX8_skips_17 ef8_195 (by decide +kernel)
theorem e861_20 {ls st : List Value} {h : x_H} : x_run 861 20 ls st h = x_run 861 21 ls (.int (q_i 1) :: st) h := xe_iconst ec861 dX8_skips_20
theorem e861_21 {ls : List Value} {h : x_H} {x : Int32} : x_run 861 21 ls [.int x] h = if narrow .boolean (.int x) = .int x then some (.inl (some (.int x)), h) else none := xe_ireturn ec861 dX8_skips_21 rfl
theorem ec862 : x_code 862 = cX8_figures := rfl
theorem e862_0 {ls st : List Value} {h : x_H} : x_run 862 0 ls st h = x_run 862 1 ls (.int (q_i 0) :: st) h := xe_iconst ec862 dX8_figures_0
theorem e862_1 {ls st : List Value} {h : x_H} {x : Int32}: x_run 862 1 ls (.int x :: st) h = q_ls ls 3 (.int x) (fun ls' => x_run 862 2 ls' st h) := xe_istore_n ec862 dX8_figures_1
theorem e862_2 {ls st : List Value} {h : x_H} : x_run 862 2 ls st h = q_gi ls 3 (fun v => x_run 862 3 ls (.int v :: st) h) := xe_iload_n ec862 dX8_figures_2
theorem e862_3 {ls st : List Value} {h : x_H} : x_run 862 3 ls st h = q_gi ls 2 (fun v => x_run 862 4 ls (.int v :: st) h) := xe_iload_n ec862 dX8_figures_3
theorem e862_4 {ls st : List Value} {h : x_H} {x y : Int32}: x_run 862 4 ls (.int y :: .int x :: st) h = if y ≤ x then x_run 862 54 ls st h else x_run 862 7 ls st h := xe_ic_ge ec862 dX8_figures_4 rfl
theorem e862_7 {ls st : List Value} {h : x_H} : x_run 862 7 ls st h = q_gr ls 0 (fun v => x_run 862 8 ls (.ref v :: st) h) := xe_aload_n ec862 dX8_figures_7
theorem e862_8 {ls st : List Value} {h : x_H} {b : Nat}: x_run 862 8 ls (.ref b :: st) h = if q_rcv h b 10 = true then (if x_wt st ≤ 8 ∧ x_wt [.ref b] = 1 then q_cl (x_m 860 [.ref b] h) (fun v h' => x_run 862 11 ls (v.toList ++ st) h') else none) else none := xe_virt (r := []) ec862 dX8_figures_8 ek8_198 rfl (by decide +kernel) (by decide +kernel)
theorem e862_11 {ls st : List Value} {h : x_H} : x_run 862 11 ls st h = x_run 862 13 ls (.int (q_i 48) :: st) h := xe_bipush ec862 dX8_figures_11 (by decide)
theorem e862_13 {ls st : List Value} {h : x_H} : x_run 862 13 ls st h = x_run 862 15 ls (.int (q_i 57) :: st) h := xe_bipush ec862 dX8_figures_13 (by decide)
theorem e862_15 {ls st : List Value} {h : x_H} {a1 a2 a3 : Value}: x_run 862 15 ls (a3 :: a2 :: a1 :: st) h = if x_wt st ≤ 8 ∧ x_wt [a1, a2, a3] = 3 then q_cl (x_m 804 [a1, a2, a3] h) (fun v h' => x_run 862 18 ls (v.toList ++ st) h') else none := xe_stat (args := [a1, a2, a3]) ec862 dX8_figures_15 ek8_68 (by decide) rfl (by decide +kernel) (by decide +kernel)
theorem e862_18 {ls st : List Value} {h : x_H} {x : Int32}: x_run 862 18 ls (.int x :: st) h = if ¬ x = 0 then x_run 862 23 ls st h else x_run 862 21 ls st h := xe_if_ne ec862 dX8_figures_18 rfl
theorem e862_21 {ls st : List Value} {h : x_H} : x_run 862 21 ls st h = x_run 862 22 ls (.int (q_i 0) :: st) h := xe_iconst ec862 dX8_figures_21
theorem e862_22 {ls : List Value} {h : x_H} {x : Int32} : x_run 862 22 ls [.int x] h = if narrow .boolean (.int x) = .int x then some (.inl (some (.int x)), h) else none := xe_ireturn ec862 dX8_figures_22 rfl
theorem e862_23 {ls st : List Value} {h : x_H} : x_run 862 23 ls st h = q_gr ls 0 (fun v => x_run 862 24 ls (.ref v :: st) h) := xe_aload_n ec862 dX8_figures_23
theorem e862_24 {ls st : List Value} {h : x_H} {a : Nat}: x_run 862 24 ls (.ref a :: st) h = q_gf h a 10 21 (fun v => x_run 862 27 ls (v :: st) h) := xe_getfield ec862 dX8_figures_24 ef8_42
theorem e862_27 {ls st : List Value} {h : x_H} : x_run 862 27 ls st h = q_gi ls 1 (fun v => x_run 862 28 ls (.int v :: st) h) := xe_iload_n ec862 dX8_figures_27
theorem e862_28 {ls st : List Value} {h : x_H} : x_run 862 28 ls st h = q_gi ls 3 (fun v => x_run 862 29 ls (.int v :: st) h) := xe_iload_n ec862 dX8_figures_28
theorem e862_29 {ls st : List Value} {h : x_H} {x y : Int32}: x_run 862 29 ls (.int y :: .int x :: st) h = x_run 862 30 ls (.int (x + y) :: st) h := xe_iadd ec862 dX8_figures_29
theorem e862_30 {ls st : List Value} {h : x_H} : x_run 862 30 ls st h = q_gr ls 0 (fun v => x_run 862 31 ls (.ref v :: st) h) := xe_aload_n ec862 dX8_figures_30
theorem e862_31 {ls st : List Value} {h : x_H} {b : Nat}: x_run 862 31 ls (.ref b :: st) h = if q_rcv h b 10 = true then (if x_wt st ≤ 8 ∧ x_wt [.ref b] = 1 then q_cl (x_m 860 [.ref b] h) (fun v h' => x_run 862 34 ls (v.toList ++ st) h') else none) else none := xe_virt (r := []) ec862 dX8_figures_31 ek8_198 rfl (by decide +kernel) (by decide +kernel)
theorem e862_34 {ls st : List Value} {h : x_H} : x_run 862 34 ls st h = x_run 862 36 ls (.int (q_i 48) :: st) h := xe_bipush ec862 dX8_figures_34 (by decide)
theorem e862_36 {ls st : List Value} {h : x_H} {x y : Int32}: x_run 862 36 ls (.int y :: .int x :: st) h = x_run 862 37 ls (.int (x - y) :: st) h := xe_isub ec862 dX8_figures_36
theorem e862_37 {ls st : List Value} {h : x_H} {x y : Int32} {a : Nat}: x_run 862 37 ls (.int y :: .int x :: .ref a :: st) h = q_wa h a 0 x y (fun h' => x_run 862 38 ls st h') := xe_iastore ec862 dX8_figures_37
theorem e862_38 {ls st : List Value} {h : x_H} : x_run 862 38 ls st h = q_gr ls 0 (fun v => x_run 862 39 ls (.ref v :: st) h) := xe_aload_n ec862 dX8_figures_38
theorem e862_39 {ls st : List Value} {h : x_H} {v : Value} (hv : v.category = 1): x_run 862 39 ls (v :: st) h = x_run 862 40 ls (v :: v :: st) h := xe_dup ec862 dX8_figures_39 hv
theorem e862_40 {ls st : List Value} {h : x_H} {a : Nat}: x_run 862 40 ls (.ref a :: st) h = q_gf h a 10 20 (fun v => x_run 862 43 ls (v :: st) h) := xe_getfield ec862 dX8_figures_40 ef8_195
theorem e862_43 {ls st : List Value} {h : x_H} : x_run 862 43 ls st h = x_run 862 44 ls (.int (q_i 1) :: st) h := xe_iconst ec862 dX8_figures_43
theorem e862_44 {ls st : List Value} {h : x_H} {x y : Int32}: x_run 862 44 ls (.int y :: .int x :: st) h = x_run 862 45 ls (.int (x + y) :: st) h := xe_iadd ec862 dX8_figures_44
theorem e862_45 {ls st : List Value} {h : x_H} {v : Value} {a : Nat}: x_run 862 45 ls (v :: .ref a :: st) h = if x_fit (x_ty 10 20) v = true then q_pf h a 10 20 v (fun h' => x_run 862 48 ls st h') else none := xe_putfield ec862 dX8_figures_45 ef8_195 (by decide +kernel)
theorem e862_48 {ls st : List Value} {h : x_H} : x_run 862 48 ls st h = q_gi ls 3 (fun v => if x_nd ls 3 = true then x_run 862 51 (ls.set 3 (.int (v + q_i 1))) st h else none) := xe_iinc ec862 dX8_figures_48
theorem e862_51 {ls st : List Value} {h : x_H} : x_run 862 51 ls st h = x_run 862 2 ls st h := xe_goto ec862 dX8_figures_51 rfl
theorem e862_54 {ls st : List Value} {h : x_H} : x_run 862 54 ls st h = x_run 862 55 ls (.int (q_i 1) :: st) h := xe_iconst ec862 dX8_figures_54
theorem e862_55 {ls : List Value} {h : x_H} {x : Int32} : x_run 862 55 ls [.int x] h = if narrow .boolean (.int x) = .int x then some (.inl (some (.int x)), h) else none := xe_ireturn ec862 dX8_figures_55 rfl
theorem ec863 : x_code 863 = cX8_commandHere := rfl
theorem e863_0 {ls st : List Value} {h : x_H} : x_run 863 0 ls st h = x_run 863 1 ls (.int (q_i 4) :: st) h := xe_iconst ec863 dX8_commandHere_0
theorem e863_1 {ls st : List Value} {h : x_H} : x_run 863 1 ls st h = q_gr ls 0 (fun v => x_run 863 2 ls (.ref v :: st) h) := xe_aload_n ec863 dX8_commandHere_1
theorem e863_2 {ls st : List Value} {h : x_H} {a : Nat}: x_run 863 2 ls (.ref a :: st) h = q_gf h a 10 22 (fun v => x_run 863 5 ls (v :: st) h) := xe_getfield ec863 dX8_commandHere_2 ef8_201
theorem e863_5 {ls st : List Value} {h : x_H} {x y : Int32}: x_run 863 5 ls (.int y :: .int x :: st) h = x_run 863 6 ls (.int (x * y) :: st) h := xe_imul ec863 dX8_commandHere_5
theorem e863_6 {ls st : List Value} {h : x_H} {x : Int32}: x_run 863 6 ls (.int x :: st) h = q_ls ls 1 (.int x) (fun ls' => x_run 863 7 ls' st h) := xe_istore_n ec863 dX8_commandHere_6
theorem e863_7 {ls st : List Value} {h : x_H} : x_run 863 7 ls st h = q_gr ls 0 (fun v => x_run 863 8 ls (.ref v :: st) h) := xe_aload_n ec863 dX8_commandHere_7
theorem e863_8 {ls st : List Value} {h : x_H} {a : Nat}: x_run 863 8 ls (.ref a :: st) h = q_gf h a 10 21 (fun v => x_run 863 11 ls (v :: st) h) := xe_getfield ec863 dX8_commandHere_8 ef8_42
theorem e863_11 {ls st : List Value} {h : x_H} : x_run 863 11 ls st h = q_gi ls 1 (fun v => x_run 863 12 ls (.int v :: st) h) := xe_iload_n ec863 dX8_commandHere_11
theorem e863_12 {ls st : List Value} {h : x_H} : x_run 863 12 ls st h = q_gr ls 0 (fun v => x_run 863 13 ls (.ref v :: st) h) := xe_aload_n ec863 dX8_commandHere_12
theorem e863_13 {ls st : List Value} {h : x_H} {b : Nat}: x_run 863 13 ls (.ref b :: st) h = if q_rcv h b 10 = true then (if x_wt st ≤ 8 ∧ x_wt [.ref b] = 1 then q_cl (x_m 860 [.ref b] h) (fun v h' => x_run 863 16 ls (v.toList ++ st) h') else none) else none := xe_virt (r := []) ec863 dX8_commandHere_13 ek8_198 rfl (by decide +kernel) (by decide +kernel)
theorem e863_16 {ls st : List Value} {h : x_H} {x y : Int32} {a : Nat}: x_run 863 16 ls (.int y :: .int x :: .ref a :: st) h = q_wa h a 0 x y (fun h' => x_run 863 17 ls st h') := xe_iastore ec863 dX8_commandHere_16
theorem e863_17 {ls st : List Value} {h : x_H} : x_run 863 17 ls st h = q_gr ls 0 (fun v => x_run 863 18 ls (.ref v :: st) h) := xe_aload_n ec863 dX8_commandHere_17
theorem e863_18 {ls st : List Value} {h : x_H} : x_run 863 18 ls st h = x_run 863 20 ls (.int (q_i 112) :: st) h := xe_bipush ec863 dX8_commandHere_18 (by decide)
theorem e863_20 {ls st : List Value} {h : x_H} {b : Nat} {a1 : Value}: x_run 863 20 ls (a1 :: .ref b :: st) h = if q_rcv h b 10 = true then (if x_wt st ≤ 8 ∧ x_wt [.ref b, a1] = 2 then q_cl (x_m 861 [.ref b, a1] h) (fun v h' => x_run 863 23 ls (v.toList ++ st) h') else none) else none := xe_virt (r := [a1]) ec863 dX8_commandHere_20 ek8_204 rfl (by decide +kernel) (by decide +kernel)
theorem e863_23 {ls st : List Value} {h : x_H} {x : Int32}: x_run 863 23 ls (.int x :: st) h = if x = 0 then x_run 863 63 ls st h else x_run 863 26 ls st h := xe_if_eq ec863 dX8_commandHere_23 rfl
theorem e863_26 {ls st : List Value} {h : x_H} : x_run 863 26 ls st h = q_gr ls 0 (fun v => x_run 863 27 ls (.ref v :: st) h) := xe_aload_n ec863 dX8_commandHere_26
theorem e863_27 {ls st : List Value} {h : x_H} : x_run 863 27 ls st h = q_gi ls 1 (fun v => x_run 863 28 ls (.int v :: st) h) := xe_iload_n ec863 dX8_commandHere_27
theorem e863_28 {ls st : List Value} {h : x_H} : x_run 863 28 ls st h = x_run 863 29 ls (.int (q_i 1) :: st) h := xe_iconst ec863 dX8_commandHere_28
theorem e863_29 {ls st : List Value} {h : x_H} {x y : Int32}: x_run 863 29 ls (.int y :: .int x :: st) h = x_run 863 30 ls (.int (x + y) :: st) h := xe_iadd ec863 dX8_commandHere_29
theorem e863_30 {ls st : List Value} {h : x_H} : x_run 863 30 ls st h = x_run 863 31 ls (.int (q_i 1) :: st) h := xe_iconst ec863 dX8_commandHere_30
theorem e863_31 {ls st : List Value} {h : x_H} {b : Nat} {a1 a2 : Value}: x_run 863 31 ls (a2 :: a1 :: .ref b :: st) h = if q_rcv h b 10 = true then (if x_wt st ≤ 8 ∧ x_wt [.ref b, a1, a2] = 3 then q_cl (x_m 862 [.ref b, a1, a2] h) (fun v h' => x_run 863 34 ls (v.toList ++ st) h') else none) else none := xe_virt (r := [a1, a2]) ec863 dX8_commandHere_31 ek8_207 rfl (by decide +kernel) (by decide +kernel)
theorem e863_34 {ls st : List Value} {h : x_H} {x : Int32}: x_run 863 34 ls (.int x :: st) h = if x = 0 then x_run 863 61 ls st h else x_run 863 37 ls st h := xe_if_eq ec863 dX8_commandHere_34 rfl
theorem e863_37 {ls st : List Value} {h : x_H} : x_run 863 37 ls st h = q_gr ls 0 (fun v => x_run 863 38 ls (.ref v :: st) h) := xe_aload_n ec863 dX8_commandHere_37
theorem e863_38 {ls st : List Value} {h : x_H} : x_run 863 38 ls st h = x_run 863 40 ls (.int (q_i 64) :: st) h := xe_bipush ec863 dX8_commandHere_38 (by decide)
theorem e863_40 {ls st : List Value} {h : x_H} {b : Nat} {a1 : Value}: x_run 863 40 ls (a1 :: .ref b :: st) h = if q_rcv h b 10 = true then (if x_wt st ≤ 8 ∧ x_wt [.ref b, a1] = 2 then q_cl (x_m 861 [.ref b, a1] h) (fun v h' => x_run 863 43 ls (v.toList ++ st) h') else none) else none := xe_virt (r := [a1]) ec863 dX8_commandHere_40 ek8_204 rfl (by decide +kernel) (by decide +kernel)
theorem e863_43 {ls st : List Value} {h : x_H} {x : Int32}: x_run 863 43 ls (.int x :: st) h = if x = 0 then x_run 863 61 ls st h else x_run 863 46 ls st h := xe_if_eq ec863 dX8_commandHere_43 rfl
theorem e863_46 {ls st : List Value} {h : x_H} : x_run 863 46 ls st h = q_gr ls 0 (fun v => x_run 863 47 ls (.ref v :: st) h) := xe_aload_n ec863 dX8_commandHere_46
theorem e863_47 {ls st : List Value} {h : x_H} : x_run 863 47 ls st h = q_gi ls 1 (fun v => x_run 863 48 ls (.int v :: st) h) := xe_iload_n ec863 dX8_commandHere_47
theorem e863_48 {ls st : List Value} {h : x_H} : x_run 863 48 ls st h = x_run 863 49 ls (.int (q_i 2) :: st) h := xe_iconst ec863 dX8_commandHere_48
theorem e863_49 {ls st : List Value} {h : x_H} {x y : Int32}: x_run 863 49 ls (.int y :: .int x :: st) h = x_run 863 50 ls (.int (x + y) :: st) h := xe_iadd ec863 dX8_commandHere_49
theorem e863_50 {ls st : List Value} {h : x_H} : x_run 863 50 ls st h = x_run 863 51 ls (.int (q_i 2) :: st) h := xe_iconst ec863 dX8_commandHere_50
theorem e863_51 {ls st : List Value} {h : x_H} {b : Nat} {a1 a2 : Value}: x_run 863 51 ls (a2 :: a1 :: .ref b :: st) h = if q_rcv h b 10 = true then (if x_wt st ≤ 8 ∧ x_wt [.ref b, a1, a2] = 3 then q_cl (x_m 862 [.ref b, a1, a2] h) (fun v h' => x_run 863 54 ls (v.toList ++ st) h') else none) else none := xe_virt (r := [a1, a2]) ec863 dX8_commandHere_51 ek8_207 rfl (by decide +kernel) (by decide +kernel)
theorem e863_54 {ls st : List Value} {h : x_H} {x : Int32}: x_run 863 54 ls (.int x :: st) h = if x = 0 then x_run 863 61 ls st h else x_run 863 57 ls st h := xe_if_eq ec863 dX8_commandHere_54 rfl
theorem e863_57 {ls st : List Value} {h : x_H} : x_run 863 57 ls st h = x_run 863 58 ls (.int (q_i 1) :: st) h := xe_iconst ec863 dX8_commandHere_57
theorem e863_58 {ls st : List Value} {h : x_H} : x_run 863 58 ls st h = x_run 863 62 ls st h := xe_goto ec863 dX8_commandHere_58 rfl
theorem e863_61 {ls st : List Value} {h : x_H} : x_run 863 61 ls st h = x_run 863 62 ls (.int (q_i 0) :: st) h := xe_iconst ec863 dX8_commandHere_61
theorem e863_62 {ls : List Value} {h : x_H} {x : Int32} : x_run 863 62 ls [.int x] h = if narrow .boolean (.int x) = .int x then some (.inl (some (.int x)), h) else none := xe_ireturn ec863 dX8_commandHere_62 rfl
theorem e863_63 {ls st : List Value} {h : x_H} : x_run 863 63 ls st h = q_gr ls 0 (fun v => x_run 863 64 ls (.ref v :: st) h) := xe_aload_n ec863 dX8_commandHere_63
theorem e863_64 {ls st : List Value} {h : x_H} : x_run 863 64 ls st h = x_run 863 66 ls (.int (q_i 119) :: st) h := xe_bipush ec863 dX8_commandHere_64 (by decide)
theorem e863_66 {ls st : List Value} {h : x_H} {b : Nat} {a1 : Value}: x_run 863 66 ls (a1 :: .ref b :: st) h = if q_rcv h b 10 = true then (if x_wt st ≤ 8 ∧ x_wt [.ref b, a1] = 2 then q_cl (x_m 861 [.ref b, a1] h) (fun v h' => x_run 863 69 ls (v.toList ++ st) h') else none) else none := xe_virt (r := [a1]) ec863 dX8_commandHere_66 ek8_204 rfl (by decide +kernel) (by decide +kernel)
theorem e863_69 {ls st : List Value} {h : x_H} {x : Int32}: x_run 863 69 ls (.int x :: st) h = if x = 0 then x_run 863 81 ls st h else x_run 863 72 ls st h := xe_if_eq ec863 dX8_commandHere_69 rfl
theorem e863_72 {ls st : List Value} {h : x_H} : x_run 863 72 ls st h = q_gr ls 0 (fun v => x_run 863 73 ls (.ref v :: st) h) := xe_aload_n ec863 dX8_commandHere_72
theorem e863_73 {ls st : List Value} {h : x_H} : x_run 863 73 ls st h = q_gi ls 1 (fun v => x_run 863 74 ls (.int v :: st) h) := xe_iload_n ec863 dX8_commandHere_73
theorem e863_74 {ls st : List Value} {h : x_H} : x_run 863 74 ls st h = x_run 863 75 ls (.int (q_i 1) :: st) h := xe_iconst ec863 dX8_commandHere_74
theorem e863_75 {ls st : List Value} {h : x_H} {x y : Int32}: x_run 863 75 ls (.int y :: .int x :: st) h = x_run 863 76 ls (.int (x + y) :: st) h := xe_iadd ec863 dX8_commandHere_75
theorem e863_76 {ls st : List Value} {h : x_H} : x_run 863 76 ls st h = x_run 863 77 ls (.int (q_i 3) :: st) h := xe_iconst ec863 dX8_commandHere_76
theorem e863_77 {ls st : List Value} {h : x_H} {b : Nat} {a1 a2 : Value}: x_run 863 77 ls (a2 :: a1 :: .ref b :: st) h = if q_rcv h b 10 = true then (if x_wt st ≤ 8 ∧ x_wt [.ref b, a1, a2] = 3 then q_cl (x_m 862 [.ref b, a1, a2] h) (fun v h' => x_run 863 80 ls (v.toList ++ st) h') else none) else none := xe_virt (r := [a1, a2]) ec863 dX8_commandHere_77 ek8_207 rfl (by decide +kernel) (by decide +kernel)
theorem e863_80 {ls : List Value} {h : x_H} {x : Int32} : x_run 863 80 ls [.int x] h = if narrow .boolean (.int x) = .int x then some (.inl (some (.int x)), h) else none := xe_ireturn ec863 dX8_commandHere_80 rfl
theorem e863_81 {ls st : List Value} {h : x_H} : x_run 863 81 ls st h = q_gr ls 0 (fun v => x_run 863 82 ls (.ref v :: st) h) := xe_aload_n ec863 dX8_commandHere_81
theorem e863_82 {ls st : List Value} {h : x_H} : x_run 863 82 ls st h = x_run 863 84 ls (.int (q_i 114) :: st) h := xe_bipush ec863 dX8_commandHere_82 (by decide)
theorem e863_84 {ls st : List Value} {h : x_H} {b : Nat} {a1 : Value}: x_run 863 84 ls (a1 :: .ref b :: st) h = if q_rcv h b 10 = true then (if x_wt st ≤ 8 ∧ x_wt [.ref b, a1] = 2 then q_cl (x_m 861 [.ref b, a1] h) (fun v h' => x_run 863 87 ls (v.toList ++ st) h') else none) else none := xe_virt (r := [a1]) ec863 dX8_commandHere_84 ek8_204 rfl (by decide +kernel) (by decide +kernel)
theorem e863_87 {ls st : List Value} {h : x_H} {x : Int32}: x_run 863 87 ls (.int x :: st) h = if ¬ x = 0 then x_run 863 108 ls st h else x_run 863 90 ls st h := xe_if_ne ec863 dX8_commandHere_87 rfl
theorem e863_90 {ls st : List Value} {h : x_H} : x_run 863 90 ls st h = q_gr ls 0 (fun v => x_run 863 91 ls (.ref v :: st) h) := xe_aload_n ec863 dX8_commandHere_90
theorem e863_91 {ls st : List Value} {h : x_H} : x_run 863 91 ls st h = x_run 863 93 ls (.int (q_i 104) :: st) h := xe_bipush ec863 dX8_commandHere_91 (by decide)
theorem e863_93 {ls st : List Value} {h : x_H} {b : Nat} {a1 : Value}: x_run 863 93 ls (a1 :: .ref b :: st) h = if q_rcv h b 10 = true then (if x_wt st ≤ 8 ∧ x_wt [.ref b, a1] = 2 then q_cl (x_m 861 [.ref b, a1] h) (fun v h' => x_run 863 96 ls (v.toList ++ st) h') else none) else none := xe_virt (r := [a1]) ec863 dX8_commandHere_93 ek8_204 rfl (by decide +kernel) (by decide +kernel)
theorem e863_96 {ls st : List Value} {h : x_H} {x : Int32}: x_run 863 96 ls (.int x :: st) h = if ¬ x = 0 then x_run 863 108 ls st h else x_run 863 99 ls st h := xe_if_ne ec863 dX8_commandHere_96 rfl
theorem e863_99 {ls st : List Value} {h : x_H} : x_run 863 99 ls st h = q_gr ls 0 (fun v => x_run 863 100 ls (.ref v :: st) h) := xe_aload_n ec863 dX8_commandHere_99
theorem e863_100 {ls st : List Value} {h : x_H} : x_run 863 100 ls st h = x_run 863 102 ls (.int (q_i 120) :: st) h := xe_bipush ec863 dX8_commandHere_100 (by decide)
theorem e863_102 {ls st : List Value} {h : x_H} {b : Nat} {a1 : Value}: x_run 863 102 ls (a1 :: .ref b :: st) h = if q_rcv h b 10 = true then (if x_wt st ≤ 8 ∧ x_wt [.ref b, a1] = 2 then q_cl (x_m 861 [.ref b, a1] h) (fun v h' => x_run 863 105 ls (v.toList ++ st) h') else none) else none := xe_virt (r := [a1]) ec863 dX8_commandHere_102 ek8_204 rfl (by decide +kernel) (by decide +kernel)
theorem e863_105 {ls st : List Value} {h : x_H} {x : Int32}: x_run 863 105 ls (.int x :: st) h = if x = 0 then x_run 863 123 ls st h else x_run 863 108 ls st h := xe_if_eq ec863 dX8_commandHere_105 rfl
theorem e863_108 {ls st : List Value} {h : x_H} : x_run 863 108 ls st h = q_gr ls 0 (fun v => x_run 863 109 ls (.ref v :: st) h) := xe_aload_n ec863 dX8_commandHere_108
theorem e863_109 {ls st : List Value} {h : x_H} : x_run 863 109 ls st h = q_gi ls 1 (fun v => x_run 863 110 ls (.int v :: st) h) := xe_iload_n ec863 dX8_commandHere_109
theorem e863_110 {ls st : List Value} {h : x_H} : x_run 863 110 ls st h = x_run 863 111 ls (.int (q_i 1) :: st) h := xe_iconst ec863 dX8_commandHere_110
theorem e863_111 {ls st : List Value} {h : x_H} {x y : Int32}: x_run 863 111 ls (.int y :: .int x :: st) h = x_run 863 112 ls (.int (x + y) :: st) h := xe_iadd ec863 dX8_commandHere_111
theorem e863_112 {ls st : List Value} {h : x_H} : x_run 863 112 ls st h = x_run 863 113 ls (.int (q_i 1) :: st) h := xe_iconst ec863 dX8_commandHere_112
theorem e863_113 {ls st : List Value} {h : x_H} {b : Nat} {a1 a2 : Value}: x_run 863 113 ls (a2 :: a1 :: .ref b :: st) h = if q_rcv h b 10 = true then (if x_wt st ≤ 8 ∧ x_wt [.ref b, a1, a2] = 3 then q_cl (x_m 862 [.ref b, a1, a2] h) (fun v h' => x_run 863 116 ls (v.toList ++ st) h') else none) else none := xe_virt (r := [a1, a2]) ec863 dX8_commandHere_113 ek8_207 rfl (by decide +kernel) (by decide +kernel)
theorem e863_116 {ls st : List Value} {h : x_H} {x : Int32}: x_run 863 116 ls (.int x :: st) h = if x = 0 then x_run 863 123 ls st h else x_run 863 119 ls st h := xe_if_eq ec863 dX8_commandHere_116 rfl
theorem e863_119 {ls st : List Value} {h : x_H} : x_run 863 119 ls st h = x_run 863 120 ls (.int (q_i 1) :: st) h := xe_iconst ec863 dX8_commandHere_119
theorem e863_120 {ls st : List Value} {h : x_H} : x_run 863 120 ls st h = x_run 863 124 ls st h := xe_goto ec863 dX8_commandHere_120 rfl
theorem e863_123 {ls st : List Value} {h : x_H} : x_run 863 123 ls st h = x_run 863 124 ls (.int (q_i 0) :: st) h := xe_iconst ec863 dX8_commandHere_123
theorem e863_124 {ls : List Value} {h : x_H} {x : Int32} : x_run 863 124 ls [.int x] h = if narrow .boolean (.int x) = .int x then some (.inl (some (.int x)), h) else none := xe_ireturn ec863 dX8_commandHere_124 rfl
theorem ec864 : x_code 864 = cX8_isText := rfl
theorem e864_0 {ls st : List Value} {h : x_H} : x_run 864 0 ls st h = q_gr ls 0 (fun v => x_run 864 1 ls (.ref v :: st) h) := xe_aload_n ec864 dX8_isText_0
theorem e864_1 {ls st : List Value} {h : x_H} : x_run 864 1 ls st h = x_run 864 2 ls (.int (q_i 0) :: st) h := xe_iconst ec864 dX8_isText_1
theorem e864_2 {ls st : List Value} {h : x_H} {v : Value} {a : Nat}: x_run 864 2 ls (v :: .ref a :: st) h = if x_fit (x_ty 10 20) v = true then q_pf h a 10 20 v (fun h' => x_run 864 5 ls st h') else none := xe_putfield ec864 dX8_isText_2 ef8_195 (by decide +kernel)
theorem e864_5 {ls st : List Value} {h : x_H} : x_run 864 5 ls st h = q_gr ls 0 (fun v => x_run 864 6 ls (.ref v :: st) h) := xe_aload_n ec864 dX8_isText_5
theorem e864_6 {ls st : List Value} {h : x_H} : x_run 864 6 ls st h = x_run 864 7 ls (.int (q_i 0) :: st) h := xe_iconst ec864 dX8_isText_6
theorem e864_7 {ls st : List Value} {h : x_H} {v : Value} {a : Nat}: x_run 864 7 ls (v :: .ref a :: st) h = if x_fit (x_ty 10 22) v = true then q_pf h a 10 22 v (fun h' => x_run 864 10 ls st h') else none := xe_putfield ec864 dX8_isText_7 ef8_201 (by decide +kernel)
theorem e864_10 {ls st : List Value} {h : x_H} : x_run 864 10 ls st h = q_gr ls 0 (fun v => x_run 864 11 ls (.ref v :: st) h) := xe_aload_n ec864 dX8_isText_10
theorem e864_11 {ls st : List Value} {h : x_H} {b : Nat}: x_run 864 11 ls (.ref b :: st) h = if q_rcv h b 10 = true then (if x_wt st ≤ 8 ∧ x_wt [.ref b] = 1 then q_cl (x_m 863 [.ref b] h) (fun v h' => x_run 864 14 ls (v.toList ++ st) h') else none) else none := xe_virt (r := []) ec864 dX8_isText_11 ek8_210 rfl (by decide +kernel) (by decide +kernel)
theorem e864_14 {ls st : List Value} {h : x_H} {x : Int32}: x_run 864 14 ls (.int x :: st) h = if ¬ x = 0 then x_run 864 19 ls st h else x_run 864 17 ls st h := xe_if_ne ec864 dX8_isText_14 rfl
theorem e864_17 {ls st : List Value} {h : x_H} : x_run 864 17 ls st h = x_run 864 18 ls (.int (q_i 0) :: st) h := xe_iconst ec864 dX8_isText_17
theorem e864_18 {ls : List Value} {h : x_H} {x : Int32} : x_run 864 18 ls [.int x] h = if narrow .boolean (.int x) = .int x then some (.inl (some (.int x)), h) else none := xe_ireturn ec864 dX8_isText_18 rfl
theorem e864_19 {ls st : List Value} {h : x_H} : x_run 864 19 ls st h = q_gr ls 0 (fun v => x_run 864 20 ls (.ref v :: st) h) := xe_aload_n ec864 dX8_isText_19
theorem e864_20 {ls st : List Value} {h : x_H} {v : Value} (hv : v.category = 1): x_run 864 20 ls (v :: st) h = x_run 864 21 ls (v :: v :: st) h := xe_dup ec864 dX8_isText_20 hv
theorem e864_21 {ls st : List Value} {h : x_H} {a : Nat}: x_run 864 21 ls (.ref a :: st) h = q_gf h a 10 22 (fun v => x_run 864 24 ls (v :: st) h) := xe_getfield ec864 dX8_isText_21 ef8_201
theorem e864_24 {ls st : List Value} {h : x_H} : x_run 864 24 ls st h = x_run 864 25 ls (.int (q_i 1) :: st) h := xe_iconst ec864 dX8_isText_24
theorem e864_25 {ls st : List Value} {h : x_H} {x y : Int32}: x_run 864 25 ls (.int y :: .int x :: st) h = x_run 864 26 ls (.int (x + y) :: st) h := xe_iadd ec864 dX8_isText_25
theorem e864_26 {ls st : List Value} {h : x_H} {v : Value} {a : Nat}: x_run 864 26 ls (v :: .ref a :: st) h = if x_fit (x_ty 10 22) v = true then q_pf h a 10 22 v (fun h' => x_run 864 29 ls st h') else none := xe_putfield ec864 dX8_isText_26 ef8_201 (by decide +kernel)
theorem e864_29 {ls st : List Value} {h : x_H} : x_run 864 29 ls st h = q_gr ls 0 (fun v => x_run 864 30 ls (.ref v :: st) h) := xe_aload_n ec864 dX8_isText_29
theorem e864_30 {ls st : List Value} {h : x_H} : x_run 864 30 ls st h = x_run 864 32 ls (.int (q_i 59) :: st) h := xe_bipush ec864 dX8_isText_30 (by decide)
theorem e864_32 {ls st : List Value} {h : x_H} {b : Nat} {a1 : Value}: x_run 864 32 ls (a1 :: .ref b :: st) h = if q_rcv h b 10 = true then (if x_wt st ≤ 8 ∧ x_wt [.ref b, a1] = 2 then q_cl (x_m 861 [.ref b, a1] h) (fun v h' => x_run 864 35 ls (v.toList ++ st) h') else none) else none := xe_virt (r := [a1]) ec864 dX8_isText_32 ek8_204 rfl (by decide +kernel) (by decide +kernel)
theorem e864_35 {ls st : List Value} {h : x_H} {x : Int32}: x_run 864 35 ls (.int x :: st) h = if ¬ x = 0 then x_run 864 10 ls st h else x_run 864 38 ls st h := xe_if_ne ec864 dX8_isText_35 rfl
theorem e864_38 {ls st : List Value} {h : x_H} : x_run 864 38 ls st h = q_gr ls 0 (fun v => x_run 864 39 ls (.ref v :: st) h) := xe_aload_n ec864 dX8_isText_38
theorem e864_39 {ls st : List Value} {h : x_H} {a : Nat}: x_run 864 39 ls (.ref a :: st) h = q_gf h a 10 20 (fun v => x_run 864 42 ls (v :: st) h) := xe_getfield ec864 dX8_isText_39 ef8_195
theorem e864_42 {ls st : List Value} {h : x_H} : x_run 864 42 ls st h = q_gr ls 0 (fun v => x_run 864 43 ls (.ref v :: st) h) := xe_aload_n ec864 dX8_isText_42
theorem e864_43 {ls st : List Value} {h : x_H} {a : Nat}: x_run 864 43 ls (.ref a :: st) h = q_gf h a 10 12 (fun v => x_run 864 46 ls (v :: st) h) := xe_getfield ec864 dX8_isText_43 ef8_192
theorem e864_46 {ls st : List Value} {h : x_H} {x y : Int32}: x_run 864 46 ls (.int y :: .int x :: st) h = if ¬ x = y then x_run 864 53 ls st h else x_run 864 49 ls st h := xe_ic_ne ec864 dX8_isText_46 rfl
theorem e864_49 {ls st : List Value} {h : x_H} : x_run 864 49 ls st h = x_run 864 50 ls (.int (q_i 1) :: st) h := xe_iconst ec864 dX8_isText_49
theorem e864_50 {ls st : List Value} {h : x_H} : x_run 864 50 ls st h = x_run 864 54 ls st h := xe_goto ec864 dX8_isText_50 rfl
theorem e864_53 {ls st : List Value} {h : x_H} : x_run 864 53 ls st h = x_run 864 54 ls (.int (q_i 0) :: st) h := xe_iconst ec864 dX8_isText_53
theorem e864_54 {ls : List Value} {h : x_H} {x : Int32} : x_run 864 54 ls [.int x] h = if narrow .boolean (.int x) = .int x then some (.inl (some (.int x)), h) else none := xe_ireturn ec864 dX8_isText_54 rfl
theorem ec865 : x_code 865 = cX8_carries := rfl
theorem e865_0 {ls st : List Value} {h : x_H} : x_run 865 0 ls st h = q_gr ls 0 (fun v => x_run 865 1 ls (.ref v :: st) h) := xe_aload_n ec865 dX8_carries_0
theorem e865_1 {ls st : List Value} {h : x_H} {a : Nat}: x_run 865 1 ls (.ref a :: st) h = q_gf h a 10 21 (fun v => x_run 865 4 ls (v :: st) h) := xe_getfield ec865 dX8_carries_1 ef8_42
theorem e865_4 {ls st : List Value} {h : x_H} : x_run 865 4 ls st h = q_gi ls 1 (fun v => x_run 865 5 ls (.int v :: st) h) := xe_iload_n ec865 dX8_carries_4
theorem e865_5 {ls st : List Value} {h : x_H} {x : Int32} {a : Nat}: x_run 865 5 ls (.int x :: .ref a :: st) h = q_ra h a 0 x (fun v => x_run 865 6 ls (.int v :: st) h) := xe_iaload ec865 dX8_carries_5
theorem e865_6 {ls st : List Value} {h : x_H} {x : Int32}: x_run 865 6 ls (.int x :: st) h = q_so 6 (some (Op.lookupswitch.offset (#[(104, 113), (112, 42), (114, 100), (119, 71)] : Array (Int × Int)).toList 126 x.toInt)) (fun t => x_run 865 t ls st h) := xe_lsw ec865 dX8_carries_6 (by decide)
theorem e865_48 {ls st : List Value} {h : x_H} : x_run 865 48 ls st h = q_gr ls 0 (fun v => x_run 865 49 ls (.ref v :: st) h) := xe_aload_n ec865 dX8_carries_48
theorem e865_49 {ls st : List Value} {h : x_H} : x_run 865 49 ls st h = q_gr ls 0 (fun v => x_run 865 50 ls (.ref v :: st) h) := xe_aload_n ec865 dX8_carries_49
theorem e865_50 {ls st : List Value} {h : x_H} {a : Nat}: x_run 865 50 ls (.ref a :: st) h = q_gf h a 10 21 (fun v => x_run 865 53 ls (v :: st) h) := xe_getfield ec865 dX8_carries_50 ef8_42
theorem e865_53 {ls st : List Value} {h : x_H} : x_run 865 53 ls st h = q_gi ls 1 (fun v => x_run 865 54 ls (.int v :: st) h) := xe_iload_n ec865 dX8_carries_53
theorem e865_54 {ls st : List Value} {h : x_H} : x_run 865 54 ls st h = x_run 865 55 ls (.int (q_i 1) :: st) h := xe_iconst ec865 dX8_carries_54
theorem e865_55 {ls st : List Value} {h : x_H} {x y : Int32}: x_run 865 55 ls (.int y :: .int x :: st) h = x_run 865 56 ls (.int (x + y) :: st) h := xe_iadd ec865 dX8_carries_55
theorem e865_56 {ls st : List Value} {h : x_H} {x : Int32} {a : Nat}: x_run 865 56 ls (.int x :: .ref a :: st) h = q_ra h a 0 x (fun v => x_run 865 57 ls (.int v :: st) h) := xe_iaload ec865 dX8_carries_56
theorem e865_57 {ls st : List Value} {h : x_H} : x_run 865 57 ls st h = q_gr ls 0 (fun v => x_run 865 58 ls (.ref v :: st) h) := xe_aload_n ec865 dX8_carries_57
theorem e865_58 {ls st : List Value} {h : x_H} {a : Nat}: x_run 865 58 ls (.ref a :: st) h = q_gf h a 10 21 (fun v => x_run 865 61 ls (v :: st) h) := xe_getfield ec865 dX8_carries_58 ef8_42
theorem e865_61 {ls st : List Value} {h : x_H} : x_run 865 61 ls st h = q_gi ls 1 (fun v => x_run 865 62 ls (.int v :: st) h) := xe_iload_n ec865 dX8_carries_61
theorem e865_62 {ls st : List Value} {h : x_H} : x_run 865 62 ls st h = x_run 865 63 ls (.int (q_i 2) :: st) h := xe_iconst ec865 dX8_carries_62
theorem e865_63 {ls st : List Value} {h : x_H} {x y : Int32}: x_run 865 63 ls (.int y :: .int x :: st) h = x_run 865 64 ls (.int (x + y) :: st) h := xe_iadd ec865 dX8_carries_63
theorem e865_64 {ls st : List Value} {h : x_H} {x : Int32} {a : Nat}: x_run 865 64 ls (.int x :: .ref a :: st) h = q_ra h a 0 x (fun v => x_run 865 65 ls (.int v :: st) h) := xe_iaload ec865 dX8_carries_64
theorem e865_65 {ls st : List Value} {h : x_H} : x_run 865 65 ls st h = q_gr ls 0 (fun v => x_run 865 66 ls (.ref v :: st) h) := xe_aload_n ec865 dX8_carries_65
theorem e865_66 {ls st : List Value} {h : x_H} {a : Nat}: x_run 865 66 ls (.ref a :: st) h = q_gf h a 10 21 (fun v => x_run 865 69 ls (v :: st) h) := xe_getfield ec865 dX8_carries_66 ef8_42
theorem e865_69 {ls st : List Value} {h : x_H} : x_run 865 69 ls st h = q_gi ls 1 (fun v => x_run 865 70 ls (.int v :: st) h) := xe_iload_n ec865 dX8_carries_69
theorem e865_70 {ls st : List Value} {h : x_H} : x_run 865 70 ls st h = x_run 865 71 ls (.int (q_i 3) :: st) h := xe_iconst ec865 dX8_carries_70
theorem e865_71 {ls st : List Value} {h : x_H} {x y : Int32}: x_run 865 71 ls (.int y :: .int x :: st) h = x_run 865 72 ls (.int (x + y) :: st) h := xe_iadd ec865 dX8_carries_71
theorem e865_72 {ls st : List Value} {h : x_H} {x : Int32} {a : Nat}: x_run 865 72 ls (.int x :: .ref a :: st) h = q_ra h a 0 x (fun v => x_run 865 73 ls (.int v :: st) h) := xe_iaload ec865 dX8_carries_72
theorem e865_73 {ls st : List Value} {h : x_H} {b : Nat} {a1 a2 a3 : Value}: x_run 865 73 ls (a3 :: a2 :: a1 :: .ref b :: st) h = if q_rcv h b 10 = true then (if x_wt st ≤ 8 ∧ x_wt [.ref b, a1, a2, a3] = 4 then q_cl (x_m 821 [.ref b, a1, a2, a3] h) (fun v h' => x_run 865 76 ls (v.toList ++ st) h') else none) else none := xe_virt (r := [a1, a2, a3]) ec865 dX8_carries_73 ek8_214 rfl (by decide +kernel) (by decide +kernel)
theorem e865_76 {ls : List Value} {h : x_H} {x : Int32} : x_run 865 76 ls [.int x] h = if narrow .int (.int x) = .int x then some (.inl (some (.int x)), h) else none := xe_ireturn ec865 dX8_carries_76 rfl
theorem e865_77 {ls st : List Value} {h : x_H} : x_run 865 77 ls st h = q_gr ls 0 (fun v => x_run 865 78 ls (.ref v :: st) h) := xe_aload_n ec865 dX8_carries_77
theorem e865_78 {ls st : List Value} {h : x_H} : x_run 865 78 ls st h = q_gr ls 0 (fun v => x_run 865 79 ls (.ref v :: st) h) := xe_aload_n ec865 dX8_carries_78
theorem e865_79 {ls st : List Value} {h : x_H} {a : Nat}: x_run 865 79 ls (.ref a :: st) h = q_gf h a 10 21 (fun v => x_run 865 82 ls (v :: st) h) := xe_getfield ec865 dX8_carries_79 ef8_42
theorem e865_82 {ls st : List Value} {h : x_H} : x_run 865 82 ls st h = q_gi ls 1 (fun v => x_run 865 83 ls (.int v :: st) h) := xe_iload_n ec865 dX8_carries_82
theorem e865_83 {ls st : List Value} {h : x_H} : x_run 865 83 ls st h = x_run 865 84 ls (.int (q_i 1) :: st) h := xe_iconst ec865 dX8_carries_83
theorem e865_84 {ls st : List Value} {h : x_H} {x y : Int32}: x_run 865 84 ls (.int y :: .int x :: st) h = x_run 865 85 ls (.int (x + y) :: st) h := xe_iadd ec865 dX8_carries_84
theorem e865_85 {ls st : List Value} {h : x_H} {x : Int32} {a : Nat}: x_run 865 85 ls (.int x :: .ref a :: st) h = q_ra h a 0 x (fun v => x_run 865 86 ls (.int v :: st) h) := xe_iaload ec865 dX8_carries_85
theorem e865_86 {ls st : List Value} {h : x_H} : x_run 865 86 ls st h = q_gr ls 0 (fun v => x_run 865 87 ls (.ref v :: st) h) := xe_aload_n ec865 dX8_carries_86
theorem e865_87 {ls st : List Value} {h : x_H} {a : Nat}: x_run 865 87 ls (.ref a :: st) h = q_gf h a 10 21 (fun v => x_run 865 90 ls (v :: st) h) := xe_getfield ec865 dX8_carries_87 ef8_42
theorem e865_90 {ls st : List Value} {h : x_H} : x_run 865 90 ls st h = q_gi ls 1 (fun v => x_run 865 91 ls (.int v :: st) h) := xe_iload_n ec865 dX8_carries_90
theorem e865_91 {ls st : List Value} {h : x_H} : x_run 865 91 ls st h = x_run 865 92 ls (.int (q_i 2) :: st) h := xe_iconst ec865 dX8_carries_91
theorem e865_92 {ls st : List Value} {h : x_H} {x y : Int32}: x_run 865 92 ls (.int y :: .int x :: st) h = x_run 865 93 ls (.int (x + y) :: st) h := xe_iadd ec865 dX8_carries_92
theorem e865_93 {ls st : List Value} {h : x_H} {x : Int32} {a : Nat}: x_run 865 93 ls (.int x :: .ref a :: st) h = q_ra h a 0 x (fun v => x_run 865 94 ls (.int v :: st) h) := xe_iaload ec865 dX8_carries_93
theorem e865_94 {ls st : List Value} {h : x_H} : x_run 865 94 ls st h = q_gr ls 0 (fun v => x_run 865 95 ls (.ref v :: st) h) := xe_aload_n ec865 dX8_carries_94
theorem e865_95 {ls st : List Value} {h : x_H} {a : Nat}: x_run 865 95 ls (.ref a :: st) h = q_gf h a 10 21 (fun v => x_run 865 98 ls (v :: st) h) := xe_getfield ec865 dX8_carries_95 ef8_42
theorem e865_98 {ls st : List Value} {h : x_H} : x_run 865 98 ls st h = q_gi ls 1 (fun v => x_run 865 99 ls (.int v :: st) h) := xe_iload_n ec865 dX8_carries_98
theorem e865_99 {ls st : List Value} {h : x_H} : x_run 865 99 ls st h = x_run 865 100 ls (.int (q_i 3) :: st) h := xe_iconst ec865 dX8_carries_99
theorem e865_100 {ls st : List Value} {h : x_H} {x y : Int32}: x_run 865 100 ls (.int y :: .int x :: st) h = x_run 865 101 ls (.int (x + y) :: st) h := xe_iadd ec865 dX8_carries_100
theorem e865_101 {ls st : List Value} {h : x_H} {x : Int32} {a : Nat}: x_run 865 101 ls (.int x :: .ref a :: st) h = q_ra h a 0 x (fun v => x_run 865 102 ls (.int v :: st) h) := xe_iaload ec865 dX8_carries_101
theorem e865_102 {ls st : List Value} {h : x_H} {b : Nat} {a1 a2 a3 : Value}: x_run 865 102 ls (a3 :: a2 :: a1 :: .ref b :: st) h = if q_rcv h b 10 = true then (if x_wt st ≤ 8 ∧ x_wt [.ref b, a1, a2, a3] = 4 then q_cl (x_m 823 [.ref b, a1, a2, a3] h) (fun v h' => x_run 865 105 ls (v.toList ++ st) h') else none) else none := xe_virt (r := [a1, a2, a3]) ec865 dX8_carries_102 ek8_217 rfl (by decide +kernel) (by decide +kernel)
theorem e865_105 {ls : List Value} {h : x_H} {x : Int32} : x_run 865 105 ls [.int x] h = if narrow .int (.int x) = .int x then some (.inl (some (.int x)), h) else none := xe_ireturn ec865 dX8_carries_105 rfl
theorem e865_106 {ls st : List Value} {h : x_H} : x_run 865 106 ls st h = q_gr ls 0 (fun v => x_run 865 107 ls (.ref v :: st) h) := xe_aload_n ec865 dX8_carries_106
theorem e865_107 {ls st : List Value} {h : x_H} : x_run 865 107 ls st h = q_gr ls 0 (fun v => x_run 865 108 ls (.ref v :: st) h) := xe_aload_n ec865 dX8_carries_107
theorem e865_108 {ls st : List Value} {h : x_H} {a : Nat}: x_run 865 108 ls (.ref a :: st) h = q_gf h a 10 21 (fun v => x_run 865 111 ls (v :: st) h) := xe_getfield ec865 dX8_carries_108 ef8_42
theorem e865_111 {ls st : List Value} {h : x_H} : x_run 865 111 ls st h = q_gi ls 1 (fun v => x_run 865 112 ls (.int v :: st) h) := xe_iload_n ec865 dX8_carries_111
theorem e865_112 {ls st : List Value} {h : x_H} : x_run 865 112 ls st h = x_run 865 113 ls (.int (q_i 1) :: st) h := xe_iconst ec865 dX8_carries_112
theorem e865_113 {ls st : List Value} {h : x_H} {x y : Int32}: x_run 865 113 ls (.int y :: .int x :: st) h = x_run 865 114 ls (.int (x + y) :: st) h := xe_iadd ec865 dX8_carries_113
theorem e865_114 {ls st : List Value} {h : x_H} {x : Int32} {a : Nat}: x_run 865 114 ls (.int x :: .ref a :: st) h = q_ra h a 0 x (fun v => x_run 865 115 ls (.int v :: st) h) := xe_iaload ec865 dX8_carries_114
theorem e865_115 {ls st : List Value} {h : x_H} {b : Nat} {a1 : Value}: x_run 865 115 ls (a1 :: .ref b :: st) h = if q_rcv h b 10 = true then (if x_wt st ≤ 8 ∧ x_wt [.ref b, a1] = 2 then q_cl (x_m 840 [.ref b, a1] h) (fun v h' => x_run 865 118 ls (v.toList ++ st) h') else none) else none := xe_virt (r := [a1]) ec865 dX8_carries_115 ek8_220 rfl (by decide +kernel) (by decide +kernel)
theorem e865_118 {ls : List Value} {h : x_H} {x : Int32} : x_run 865 118 ls [.int x] h = if narrow .int (.int x) = .int x then some (.inl (some (.int x)), h) else none := xe_ireturn ec865 dX8_carries_118 rfl
theorem e865_119 {ls st : List Value} {h : x_H} : x_run 865 119 ls st h = q_gr ls 0 (fun v => x_run 865 120 ls (.ref v :: st) h) := xe_aload_n ec865 dX8_carries_119
theorem e865_120 {ls st : List Value} {h : x_H} : x_run 865 120 ls st h = q_gr ls 0 (fun v => x_run 865 121 ls (.ref v :: st) h) := xe_aload_n ec865 dX8_carries_120
theorem e865_121 {ls st : List Value} {h : x_H} {a : Nat}: x_run 865 121 ls (.ref a :: st) h = q_gf h a 10 21 (fun v => x_run 865 124 ls (v :: st) h) := xe_getfield ec865 dX8_carries_121 ef8_42
theorem e865_124 {ls st : List Value} {h : x_H} : x_run 865 124 ls st h = q_gi ls 1 (fun v => x_run 865 125 ls (.int v :: st) h) := xe_iload_n ec865 dX8_carries_124
theorem e865_125 {ls st : List Value} {h : x_H} : x_run 865 125 ls st h = x_run 865 126 ls (.int (q_i 1) :: st) h := xe_iconst ec865 dX8_carries_125
theorem e865_126 {ls st : List Value} {h : x_H} {x y : Int32}: x_run 865 126 ls (.int y :: .int x :: st) h = x_run 865 127 ls (.int (x + y) :: st) h := xe_iadd ec865 dX8_carries_126
theorem e865_127 {ls st : List Value} {h : x_H} {x : Int32} {a : Nat}: x_run 865 127 ls (.int x :: .ref a :: st) h = q_ra h a 0 x (fun v => x_run 865 128 ls (.int v :: st) h) := xe_iaload ec865 dX8_carries_127
theorem e865_128 {ls st : List Value} {h : x_H} {b : Nat} {a1 : Value}: x_run 865 128 ls (a1 :: .ref b :: st) h = if q_rcv h b 10 = true then (if x_wt st ≤ 8 ∧ x_wt [.ref b, a1] = 2 then q_cl (x_m 841 [.ref b, a1] h) (fun v h' => x_run 865 131 ls (v.toList ++ st) h') else none) else none := xe_virt (r := [a1]) ec865 dX8_carries_128 ek8_223 rfl (by decide +kernel) (by decide +kernel)
theorem e865_131 {ls : List Value} {h : x_H} {x : Int32} : x_run 865 131 ls [.int x] h = if narrow .int (.int x) = .int x then some (.inl (some (.int x)), h) else none := xe_ireturn ec865 dX8_carries_131 rfl
theorem e865_132 {ls st : List Value} {h : x_H} : x_run 865 132 ls st h = q_gr ls 0 (fun v => x_run 865 133 ls (.ref v :: st) h) := xe_aload_n ec865 dX8_carries_132
theorem e865_133 {ls st : List Value} {h : x_H} : x_run 865 133 ls st h = q_gr ls 0 (fun v => x_run 865 134 ls (.ref v :: st) h) := xe_aload_n ec865 dX8_carries_133
theorem e865_134 {ls st : List Value} {h : x_H} {a : Nat}: x_run 865 134 ls (.ref a :: st) h = q_gf h a 10 21 (fun v => x_run 865 137 ls (v :: st) h) := xe_getfield ec865 dX8_carries_134 ef8_42
theorem e865_137 {ls st : List Value} {h : x_H} : x_run 865 137 ls st h = q_gi ls 1 (fun v => x_run 865 138 ls (.int v :: st) h) := xe_iload_n ec865 dX8_carries_137
theorem e865_138 {ls st : List Value} {h : x_H} : x_run 865 138 ls st h = x_run 865 139 ls (.int (q_i 1) :: st) h := xe_iconst ec865 dX8_carries_138
theorem e865_139 {ls st : List Value} {h : x_H} {x y : Int32}: x_run 865 139 ls (.int y :: .int x :: st) h = x_run 865 140 ls (.int (x + y) :: st) h := xe_iadd ec865 dX8_carries_139
theorem e865_140 {ls st : List Value} {h : x_H} {x : Int32} {a : Nat}: x_run 865 140 ls (.int x :: .ref a :: st) h = q_ra h a 0 x (fun v => x_run 865 141 ls (.int v :: st) h) := xe_iaload ec865 dX8_carries_140
theorem e865_141 {ls st : List Value} {h : x_H} {b : Nat} {a1 : Value}: x_run 865 141 ls (a1 :: .ref b :: st) h = if q_rcv h b 10 = true then (if x_wt st ≤ 8 ∧ x_wt [.ref b, a1] = 2 then q_cl (x_m 842 [.ref b, a1] h) (fun v h' => x_run 865 144 ls (v.toList ++ st) h') else none) else none := xe_virt (r := [a1]) ec865 dX8_carries_141 ek8_226 rfl (by decide +kernel) (by decide +kernel)
theorem e865_144 {ls : List Value} {h : x_H} {x : Int32} : x_run 865 144 ls [.int x] h = if narrow .int (.int x) = .int x then some (.inl (some (.int x)), h) else none := xe_ireturn ec865 dX8_carries_144 rfl
theorem ec866 : x_code 866 = cX8_commands := rfl
theorem e866_0 {ls st : List Value} {h : x_H} : x_run 866 0 ls st h = q_gr ls 0 (fun v => x_run 866 1 ls (.ref v :: st) h) := xe_aload_n ec866 dX8_commands_0
theorem e866_1 {ls st : List Value} {h : x_H} {b : Nat}: x_run 866 1 ls (.ref b :: st) h = if q_rcv h b 10 = true then (if x_wt st ≤ 8 ∧ x_wt [.ref b] = 1 then q_cl (x_m 864 [.ref b] h) (fun v h' => x_run 866 4 ls (v.toList ++ st) h') else none) else none := xe_virt (r := []) ec866 dX8_commands_1 ek8_229 rfl (by decide +kernel) (by decide +kernel)
theorem e866_4 {ls st : List Value} {h : x_H} {x : Int32}: x_run 866 4 ls (.int x :: st) h = q_ls ls 1 (.int x) (fun ls' => x_run 866 5 ls' st h) := xe_istore_n ec866 dX8_commands_4
theorem e866_5 {ls st : List Value} {h : x_H} : x_run 866 5 ls st h = q_gr ls 0 (fun v => x_run 866 6 ls (.ref v :: st) h) := xe_aload_n ec866 dX8_commands_5
theorem e866_6 {ls st : List Value} {h : x_H} : x_run 866 6 ls st h = q_gi ls 1 (fun v => x_run 866 7 ls (.int v :: st) h) := xe_iload_n ec866 dX8_commands_6
theorem e866_7 {ls st : List Value} {h : x_H} {x : Int32}: x_run 866 7 ls (.int x :: st) h = if x = 0 then x_run 866 14 ls st h else x_run 866 10 ls st h := xe_if_eq ec866 dX8_commands_7 rfl
theorem e866_10 {ls st : List Value} {h : x_H} : x_run 866 10 ls st h = x_run 866 11 ls (.int (q_i (-1)) :: st) h := xe_iconst ec866 dX8_commands_10
theorem e866_11 {ls st : List Value} {h : x_H} : x_run 866 11 ls st h = x_run 866 18 ls st h := xe_goto ec866 dX8_commands_11 rfl
theorem e866_14 {ls st : List Value} {h : x_H} : x_run 866 14 ls st h = q_gr ls 0 (fun v => x_run 866 15 ls (.ref v :: st) h) := xe_aload_n ec866 dX8_commands_14
theorem e866_15 {ls st : List Value} {h : x_H} {a : Nat}: x_run 866 15 ls (.ref a :: st) h = q_gf h a 10 20 (fun v => x_run 866 18 ls (v :: st) h) := xe_getfield ec866 dX8_commands_15 ef8_195
theorem e866_18 {ls st : List Value} {h : x_H} {v : Value} {a : Nat}: x_run 866 18 ls (v :: .ref a :: st) h = if x_fit (x_ty 10 13) v = true then q_pf h a 10 13 v (fun h' => x_run 866 21 ls st h') else none := xe_putfield ec866 dX8_commands_18 ef8_25 (by decide +kernel)
theorem e866_21 {ls st : List Value} {h : x_H} : x_run 866 21 ls st h = q_gr ls 0 (fun v => x_run 866 22 ls (.ref v :: st) h) := xe_aload_n ec866 dX8_commands_21
theorem e866_22 {ls st : List Value} {h : x_H} : x_run 866 22 ls st h = x_run 866 23 ls (.int (q_i 0) :: st) h := xe_iconst ec866 dX8_commands_22
theorem e866_23 {ls st : List Value} {h : x_H} {v : Value} {a : Nat}: x_run 866 23 ls (v :: .ref a :: st) h = if x_fit (x_ty 10 12) v = true then q_pf h a 10 12 v (fun h' => x_run 866 26 ls st h') else none := xe_putfield ec866 dX8_commands_23 ef8_192 (by decide +kernel)
theorem e866_26 {ls st : List Value} {h : x_H} : x_run 866 26 ls st h = q_gr ls 0 (fun v => x_run 866 27 ls (.ref v :: st) h) := xe_aload_n ec866 dX8_commands_26
theorem e866_27 {ls st : List Value} {h : x_H} : x_run 866 27 ls st h = q_gi ls 1 (fun v => x_run 866 28 ls (.int v :: st) h) := xe_iload_n ec866 dX8_commands_27
theorem e866_28 {ls st : List Value} {h : x_H} {x : Int32}: x_run 866 28 ls (.int x :: st) h = if x = 0 then x_run 866 35 ls st h else x_run 866 31 ls st h := xe_if_eq ec866 dX8_commands_28 rfl
theorem e866_31 {ls st : List Value} {h : x_H} : x_run 866 31 ls st h = x_run 866 32 ls (.int (q_i 0) :: st) h := xe_iconst ec866 dX8_commands_31
theorem e866_32 {ls st : List Value} {h : x_H} : x_run 866 32 ls st h = x_run 866 36 ls st h := xe_goto ec866 dX8_commands_32 rfl
theorem e866_35 {ls st : List Value} {h : x_H} : x_run 866 35 ls st h = x_run 866 36 ls (.int (q_i 1) :: st) h := xe_iconst ec866 dX8_commands_35
theorem e866_36 {ls st : List Value} {h : x_H} {b : Nat} {a1 : Value}: x_run 866 36 ls (a1 :: .ref b :: st) h = if q_rcv h b 10 = true then (if x_wt st ≤ 8 ∧ x_wt [.ref b, a1] = 2 then q_cl (x_m 802 [.ref b, a1] h) (fun v h' => x_run 866 39 ls (v.toList ++ st) h') else none) else none := xe_virt (r := [a1]) ec866 dX8_commands_36 ek8_183 rfl (by decide +kernel) (by decide +kernel)
theorem e866_39 {ls st : List Value} {h : x_H} {x : Int32}: x_run 866 39 ls (.int x :: st) h = if x = 0 then x_run 866 44 ls st h else x_run 866 42 ls st h := xe_if_eq ec866 dX8_commands_39 rfl
theorem e866_42 {ls st : List Value} {h : x_H} : x_run 866 42 ls st h = x_run 866 43 ls (.int (q_i 0) :: st) h := xe_iconst ec866 dX8_commands_42
theorem e866_43 {ls : List Value} {h : x_H} {x : Int32} : x_run 866 43 ls [.int x] h = if narrow .int (.int x) = .int x then some (.inl (some (.int x)), h) else none := xe_ireturn ec866 dX8_commands_43 rfl
theorem e866_44 {ls st : List Value} {h : x_H} : x_run 866 44 ls st h = q_gr ls 0 (fun v => x_run 866 45 ls (.ref v :: st) h) := xe_aload_n ec866 dX8_commands_44
theorem e866_45 {ls st : List Value} {h : x_H} {a : Nat}: x_run 866 45 ls (.ref a :: st) h = q_gf h a 10 0 (fun v => x_run 866 48 ls (v :: st) h) := xe_getfield ec866 dX8_commands_45 ef8_7
theorem e866_48 {ls st : List Value} {h : x_H} : x_run 866 48 ls st h = x_run 866 49 ls (.int (q_i 0) :: st) h := xe_iconst ec866 dX8_commands_48
theorem e866_49 {ls st : List Value} {h : x_H} : x_run 866 49 ls st h = q_gr ls 0 (fun v => x_run 866 50 ls (.ref v :: st) h) := xe_aload_n ec866 dX8_commands_49
theorem e866_50 {ls st : List Value} {h : x_H} {a : Nat}: x_run 866 50 ls (.ref a :: st) h = q_gf h a 10 3 (fun v => x_run 866 53 ls (v :: st) h) := xe_getfield ec866 dX8_commands_50 ef8_19
theorem e866_53 {ls st : List Value} {h : x_H} : x_run 866 53 ls st h = x_run 866 54 ls (.int (q_i 0) :: st) h := xe_iconst ec866 dX8_commands_53
theorem e866_54 {ls st : List Value} {h : x_H} {a1 a2 a3 a4 : Value}: x_run 866 54 ls (a4 :: a3 :: a2 :: a1 :: st) h = if x_wt st ≤ 8 ∧ x_wt [a1, a2, a3, a4] = 4 then q_cl (x_m 805 [a1, a2, a3, a4] h) (fun v h' => x_run 866 57 ls (v.toList ++ st) h') else none := xe_stat (args := [a1, a2, a3, a4]) ec866 dX8_commands_54 ek8_64 (by decide) rfl (by decide +kernel) (by decide +kernel)
theorem e866_57 {ls st : List Value} {h : x_H} : x_run 866 57 ls st h = q_gr ls 0 (fun v => x_run 866 58 ls (.ref v :: st) h) := xe_aload_n ec866 dX8_commands_57
theorem e866_58 {ls st : List Value} {h : x_H} : x_run 866 58 ls st h = x_run 866 59 ls (.int (q_i 1) :: st) h := xe_iconst ec866 dX8_commands_58
theorem e866_59 {ls st : List Value} {h : x_H} {v : Value} {a : Nat}: x_run 866 59 ls (v :: .ref a :: st) h = if x_fit (x_ty 10 6) v = true then q_pf h a 10 6 v (fun h' => x_run 866 62 ls st h') else none := xe_putfield ec866 dX8_commands_59 ef8_57 (by decide +kernel)
theorem e866_62 {ls st : List Value} {h : x_H} : x_run 866 62 ls st h = x_run 866 63 ls (.int (q_i 0) :: st) h := xe_iconst ec866 dX8_commands_62
theorem e866_63 {ls st : List Value} {h : x_H} {x : Int32}: x_run 866 63 ls (.int x :: st) h = q_ls ls 2 (.int x) (fun ls' => x_run 866 64 ls' st h) := xe_istore_n ec866 dX8_commands_63
theorem e866_64 {ls st : List Value} {h : x_H} : x_run 866 64 ls st h = x_run 866 65 ls (.int (q_i 0) :: st) h := xe_iconst ec866 dX8_commands_64
theorem e866_65 {ls st : List Value} {h : x_H} {x : Int32}: x_run 866 65 ls (.int x :: st) h = q_ls ls 3 (.int x) (fun ls' => x_run 866 66 ls' st h) := xe_istore_n ec866 dX8_commands_65
theorem e866_66 {ls st : List Value} {h : x_H} : x_run 866 66 ls st h = q_gi ls 2 (fun v => x_run 866 67 ls (.int v :: st) h) := xe_iload_n ec866 dX8_commands_66
theorem e866_67 {ls st : List Value} {h : x_H} : x_run 866 67 ls st h = q_gr ls 0 (fun v => x_run 866 68 ls (.ref v :: st) h) := xe_aload_n ec866 dX8_commands_67
theorem e866_68 {ls st : List Value} {h : x_H} {a : Nat}: x_run 866 68 ls (.ref a :: st) h = q_gf h a 10 22 (fun v => x_run 866 71 ls (v :: st) h) := xe_getfield ec866 dX8_commands_68 ef8_201
theorem e866_71 {ls st : List Value} {h : x_H} {x y : Int32}: x_run 866 71 ls (.int y :: .int x :: st) h = if y ≤ x then x_run 866 95 ls st h else x_run 866 74 ls st h := xe_ic_ge ec866 dX8_commands_71 rfl
theorem e866_74 {ls st : List Value} {h : x_H} : x_run 866 74 ls st h = q_gr ls 0 (fun v => x_run 866 75 ls (.ref v :: st) h) := xe_aload_n ec866 dX8_commands_74
theorem e866_75 {ls st : List Value} {h : x_H} {a : Nat}: x_run 866 75 ls (.ref a :: st) h = q_gf h a 10 7 (fun v => x_run 866 78 ls (v :: st) h) := xe_getfield ec866 dX8_commands_75 ef8_45
theorem e866_78 {ls st : List Value} {h : x_H} {x : Int32}: x_run 866 78 ls (.int x :: st) h = if ¬ x = 0 then x_run 866 95 ls st h else x_run 866 81 ls st h := xe_if_ne ec866 dX8_commands_78 rfl
theorem e866_81 {ls st : List Value} {h : x_H} : x_run 866 81 ls st h = q_gr ls 0 (fun v => x_run 866 82 ls (.ref v :: st) h) := xe_aload_n ec866 dX8_commands_81
theorem e866_82 {ls st : List Value} {h : x_H} : x_run 866 82 ls st h = x_run 866 83 ls (.int (q_i 4) :: st) h := xe_iconst ec866 dX8_commands_82
theorem e866_83 {ls st : List Value} {h : x_H} : x_run 866 83 ls st h = q_gi ls 2 (fun v => x_run 866 84 ls (.int v :: st) h) := xe_iload_n ec866 dX8_commands_83
theorem e866_84 {ls st : List Value} {h : x_H} {x y : Int32}: x_run 866 84 ls (.int y :: .int x :: st) h = x_run 866 85 ls (.int (x * y) :: st) h := xe_imul ec866 dX8_commands_84
theorem e866_85 {ls st : List Value} {h : x_H} {b : Nat} {a1 : Value}: x_run 866 85 ls (a1 :: .ref b :: st) h = if q_rcv h b 10 = true then (if x_wt st ≤ 8 ∧ x_wt [.ref b, a1] = 2 then q_cl (x_m 865 [.ref b, a1] h) (fun v h' => x_run 866 88 ls (v.toList ++ st) h') else none) else none := xe_virt (r := [a1]) ec866 dX8_commands_85 ek8_232 rfl (by decide +kernel) (by decide +kernel)
theorem e866_88 {ls st : List Value} {h : x_H} {x : Int32}: x_run 866 88 ls (.int x :: st) h = q_ls ls 3 (.int x) (fun ls' => x_run 866 89 ls' st h) := xe_istore_n ec866 dX8_commands_88
theorem e866_89 {ls st : List Value} {h : x_H} : x_run 866 89 ls st h = q_gi ls 2 (fun v => if x_nd ls 2 = true then x_run 866 92 (ls.set 2 (.int (v + q_i 1))) st h else none) := xe_iinc ec866 dX8_commands_89
theorem e866_92 {ls st : List Value} {h : x_H} : x_run 866 92 ls st h = x_run 866 66 ls st h := xe_goto ec866 dX8_commands_92 rfl
theorem e866_95 {ls st : List Value} {h : x_H} : x_run 866 95 ls st h = q_gr ls 0 (fun v => x_run 866 96 ls (.ref v :: st) h) := xe_aload_n ec866 dX8_commands_95
theorem e866_96 {ls st : List Value} {h : x_H} : x_run 866 96 ls st h = x_run 866 97 ls (.int (q_i 0) :: st) h := xe_iconst ec866 dX8_commands_96
theorem e866_97 {ls st : List Value} {h : x_H} {v : Value} {a : Nat}: x_run 866 97 ls (v :: .ref a :: st) h = if x_fit (x_ty 10 6) v = true then q_pf h a 10 6 v (fun h' => x_run 866 100 ls st h') else none := xe_putfield ec866 dX8_commands_97 ef8_57 (by decide +kernel)
theorem e866_100 {ls st : List Value} {h : x_H} : x_run 866 100 ls st h = q_gr ls 0 (fun v => x_run 866 101 ls (.ref v :: st) h) := xe_aload_n ec866 dX8_commands_100
theorem e866_101 {ls st : List Value} {h : x_H} {a : Nat}: x_run 866 101 ls (.ref a :: st) h = q_gf h a 10 7 (fun v => x_run 866 104 ls (v :: st) h) := xe_getfield ec866 dX8_commands_101 ef8_45
theorem e866_104 {ls st : List Value} {h : x_H} {x : Int32}: x_run 866 104 ls (.int x :: st) h = if x ≤ 0 then x_run 866 142 ls st h else x_run 866 107 ls st h := xe_if_le ec866 dX8_commands_104 rfl
theorem e866_107 {ls st : List Value} {h : x_H} : x_run 866 107 ls st h = q_gr ls 0 (fun v => x_run 866 108 ls (.ref v :: st) h) := xe_aload_n ec866 dX8_commands_107
theorem e866_108 {ls st : List Value} {h : x_H} {a : Nat}: x_run 866 108 ls (.ref a :: st) h = q_gf h a 10 3 (fun v => x_run 866 111 ls (v :: st) h) := xe_getfield ec866 dX8_commands_108 ef8_19
theorem e866_111 {ls st : List Value} {h : x_H} : x_run 866 111 ls st h = x_run 866 112 ls (.int (q_i 0) :: st) h := xe_iconst ec866 dX8_commands_111
theorem e866_112 {ls st : List Value} {h : x_H} : x_run 866 112 ls st h = q_gr ls 0 (fun v => x_run 866 113 ls (.ref v :: st) h) := xe_aload_n ec866 dX8_commands_112
theorem e866_113 {ls st : List Value} {h : x_H} {a : Nat}: x_run 866 113 ls (.ref a :: st) h = q_gf h a 10 0 (fun v => x_run 866 116 ls (v :: st) h) := xe_getfield ec866 dX8_commands_113 ef8_7
theorem e866_116 {ls st : List Value} {h : x_H} : x_run 866 116 ls st h = x_run 866 117 ls (.int (q_i 0) :: st) h := xe_iconst ec866 dX8_commands_116
theorem e866_117 {ls st : List Value} {h : x_H} {a1 a2 a3 a4 : Value}: x_run 866 117 ls (a4 :: a3 :: a2 :: a1 :: st) h = if x_wt st ≤ 8 ∧ x_wt [a1, a2, a3, a4] = 4 then q_cl (x_m 805 [a1, a2, a3, a4] h) (fun v h' => x_run 866 120 ls (v.toList ++ st) h') else none := xe_stat (args := [a1, a2, a3, a4]) ec866 dX8_commands_117 ek8_64 (by decide) rfl (by decide +kernel) (by decide +kernel)
theorem e866_120 {ls st : List Value} {h : x_H} : x_run 866 120 ls st h = q_gr ls 0 (fun v => x_run 866 121 ls (.ref v :: st) h) := xe_aload_n ec866 dX8_commands_120
theorem e866_121 {ls st : List Value} {h : x_H} : x_run 866 121 ls st h = q_gi ls 2 (fun v => x_run 866 122 ls (.int v :: st) h) := xe_iload_n ec866 dX8_commands_121
theorem e866_122 {ls st : List Value} {h : x_H} : x_run 866 122 ls st h = x_run 866 123 ls (.int (q_i 1) :: st) h := xe_iconst ec866 dX8_commands_122
theorem e866_123 {ls st : List Value} {h : x_H} {x y : Int32}: x_run 866 123 ls (.int y :: .int x :: st) h = x_run 866 124 ls (.int (x - y) :: st) h := xe_isub ec866 dX8_commands_123
theorem e866_124 {ls st : List Value} {h : x_H} {v : Value} {a : Nat}: x_run 866 124 ls (v :: .ref a :: st) h = if x_fit (x_ty 10 10) v = true then q_pf h a 10 10 v (fun h' => x_run 866 127 ls st h') else none := xe_putfield ec866 dX8_commands_124 ef8_54 (by decide +kernel)
theorem e866_127 {ls st : List Value} {h : x_H} : x_run 866 127 ls st h = q_gr ls 0 (fun v => x_run 866 128 ls (.ref v :: st) h) := xe_aload_n ec866 dX8_commands_127
theorem e866_128 {ls st : List Value} {h : x_H} : x_run 866 128 ls st h = x_run 866 129 ls (.int (q_i 2) :: st) h := xe_iconst ec866 dX8_commands_128
theorem e866_129 {ls st : List Value} {h : x_H} {v : Value} {a : Nat}: x_run 866 129 ls (v :: .ref a :: st) h = if x_fit (x_ty 10 7) v = true then q_pf h a 10 7 v (fun h' => x_run 866 132 ls st h') else none := xe_putfield ec866 dX8_commands_129 ef8_45 (by decide +kernel)
theorem e866_132 {ls st : List Value} {h : x_H} : x_run 866 132 ls st h = q_gi ls 3 (fun v => x_run 866 133 ls (.int v :: st) h) := xe_iload_n ec866 dX8_commands_132
theorem e866_133 {ls st : List Value} {h : x_H} {x : Int32}: x_run 866 133 ls (.int x :: st) h = if 0 ≤ x then x_run 866 140 ls st h else x_run 866 136 ls st h := xe_if_ge ec866 dX8_commands_133 rfl
theorem e866_136 {ls st : List Value} {h : x_H} : x_run 866 136 ls st h = q_gi ls 3 (fun v => x_run 866 137 ls (.int v :: st) h) := xe_iload_n ec866 dX8_commands_136
theorem e866_137 {ls st : List Value} {h : x_H} : x_run 866 137 ls st h = x_run 866 141 ls st h := xe_goto ec866 dX8_commands_137 rfl
theorem e866_140 {ls st : List Value} {h : x_H} : x_run 866 140 ls st h = x_run 866 141 ls (.int (q_i 0) :: st) h := xe_iconst ec866 dX8_commands_140
theorem e866_141 {ls : List Value} {h : x_H} {x : Int32} : x_run 866 141 ls [.int x] h = if narrow .int (.int x) = .int x then some (.inl (some (.int x)), h) else none := xe_ireturn ec866 dX8_commands_141 rfl
theorem e866_142 {ls st : List Value} {h : x_H} : x_run 866 142 ls st h = q_gr ls 0 (fun v => x_run 866 143 ls (.ref v :: st) h) := xe_aload_n ec866 dX8_commands_142
theorem e866_143 {ls st : List Value} {h : x_H} : x_run 866 143 ls st h = q_gr ls 0 (fun v => x_run 866 144 ls (.ref v :: st) h) := xe_aload_n ec866 dX8_commands_143
theorem e866_144 {ls st : List Value} {h : x_H} {a : Nat}: x_run 866 144 ls (.ref a :: st) h = q_gf h a 10 3 (fun v => x_run 866 147 ls (v :: st) h) := xe_getfield ec866 dX8_commands_144 ef8_19
theorem e866_147 {ls st : List Value} {h : x_H} {b : Nat} {a1 : Value}: x_run 866 147 ls (a1 :: .ref b :: st) h = if q_rcv h b 10 = true then (if x_wt st ≤ 8 ∧ x_wt [.ref b, a1] = 2 then q_cl (x_m 806 [.ref b, a1] h) (fun v h' => x_run 866 150 ls (v.toList ++ st) h') else none) else none := xe_virt (r := [a1]) ec866 dX8_commands_147 ek8_104 rfl (by decide +kernel) (by decide +kernel)
theorem e866_150 {ls st : List Value} {h : x_H} : x_run 866 150 ls st h = q_gr ls 0 (fun v => x_run 866 151 ls (.ref v :: st) h) := xe_aload_n ec866 dX8_commands_150
theorem e866_151 {ls st : List Value} {h : x_H} {a : Nat}: x_run 866 151 ls (.ref a :: st) h = q_gf h a 10 22 (fun v => x_run 866 154 ls (v :: st) h) := xe_getfield ec866 dX8_commands_151 ef8_201
theorem e866_154 {ls : List Value} {h : x_H} {x : Int32} : x_run 866 154 ls [.int x] h = if narrow .int (.int x) = .int x then some (.inl (some (.int x)), h) else none := xe_ireturn ec866 dX8_commands_154 rfl
theorem ec867 : x_code 867 = cX8_faultPosition := rfl
theorem e867_0 {ls st : List Value} {h : x_H} : x_run 867 0 ls st h = q_gr ls 0 (fun v => x_run 867 1 ls (.ref v :: st) h) := xe_aload_n ec867 dX8_faultPosition_0
theorem e867_1 {ls st : List Value} {h : x_H} : x_run 867 1 ls st h = x_run 867 2 ls (.int (q_i 0) :: st) h := xe_iconst ec867 dX8_faultPosition_1
theorem e867_2 {ls st : List Value} {h : x_H} {v : Value} {a : Nat}: x_run 867 2 ls (v :: .ref a :: st) h = if x_fit (x_ty 10 7) v = true then q_pf h a 10 7 v (fun h' => x_run 867 5 ls st h') else none := xe_putfield ec867 dX8_faultPosition_2 ef8_45 (by decide +kernel)
theorem e867_5 {ls st : List Value} {h : x_H} : x_run 867 5 ls st h = q_gr ls 0 (fun v => x_run 867 6 ls (.ref v :: st) h) := xe_aload_n ec867 dX8_faultPosition_5
theorem e867_6 {ls st : List Value} {h : x_H} {a : Nat}: x_run 867 6 ls (.ref a :: st) h = q_gf h a 10 13 (fun v => x_run 867 9 ls (v :: st) h) := xe_getfield ec867 dX8_faultPosition_6 ef8_25
theorem e867_9 {ls : List Value} {h : x_H} {x : Int32} : x_run 867 9 ls [.int x] h = if narrow .int (.int x) = .int x then some (.inl (some (.int x)), h) else none := xe_ireturn ec867 dX8_faultPosition_9 rfl
theorem ec868 : x_code 868 = cX8_reason := rfl
theorem e868_0 {ls st : List Value} {h : x_H} : x_run 868 0 ls st h = q_gr ls 0 (fun v => x_run 868 1 ls (.ref v :: st) h) := xe_aload_n ec868 dX8_reason_0
theorem e868_1 {ls st : List Value} {h : x_H} : x_run 868 1 ls st h = q_gi ls 1 (fun v => x_run 868 2 ls (.int v :: st) h) := xe_iload_n ec868 dX8_reason_1
theorem e868_2 {ls st : List Value} {h : x_H} : x_run 868 2 ls st h = x_run 868 3 ls (.int (q_i 0) :: st) h := xe_iconst ec868 dX8_reason_2
theorem e868_3 {ls st : List Value} {h : x_H} : x_run 868 3 ls st h = x_run 868 4 ls (.int (q_i 2) :: st) h := xe_iconst ec868 dX8_reason_3
theorem e868_4 {ls st : List Value} {h : x_H} {a1 a2 a3 : Value}: x_run 868 4 ls (a3 :: a2 :: a1 :: st) h = if x_wt st ≤ 8 ∧ x_wt [a1, a2, a3] = 3 then q_cl (x_m 804 [a1, a2, a3] h) (fun v h' => x_run 868 7 ls (v.toList ++ st) h') else none := xe_stat (args := [a1, a2, a3]) ec868 dX8_reason_4 ek8_68 (by decide) rfl (by decide +kernel) (by decide +kernel)
theorem e868_7 {ls st : List Value} {h : x_H} {x : Int32}: x_run 868 7 ls (.int x :: st) h = if ¬ x = 0 then x_run 868 14 ls st h else x_run 868 10 ls st h := xe_if_ne ec868 dX8_reason_7 rfl
theorem e868_10 {ls st : List Value} {h : x_H} : x_run 868 10 ls st h = x_run 868 11 ls (.int (q_i 1) :: st) h := xe_iconst ec868 dX8_reason_10
theorem e868_11 {ls st : List Value} {h : x_H} : x_run 868 11 ls st h = x_run 868 26 ls st h := xe_goto ec868 dX8_reason_11 rfl
theorem e868_14 {ls st : List Value} {h : x_H} : x_run 868 14 ls st h = q_gr ls 0 (fun v => x_run 868 15 ls (.ref v :: st) h) := xe_aload_n ec868 dX8_reason_14
theorem e868_15 {ls st : List Value} {h : x_H} {a : Nat}: x_run 868 15 ls (.ref a :: st) h = q_gf h a 10 8 (fun v => x_run 868 18 ls (v :: st) h) := xe_getfield ec868 dX8_reason_15 ef8_48
theorem e868_18 {ls st : List Value} {h : x_H} {x : Int32}: x_run 868 18 ls (.int x :: st) h = if ¬ x = 0 then x_run 868 25 ls st h else x_run 868 21 ls st h := xe_if_ne ec868 dX8_reason_18 rfl
theorem e868_21 {ls st : List Value} {h : x_H} : x_run 868 21 ls st h = x_run 868 22 ls (.int (q_i 2) :: st) h := xe_iconst ec868 dX8_reason_21
theorem e868_22 {ls st : List Value} {h : x_H} : x_run 868 22 ls st h = x_run 868 26 ls st h := xe_goto ec868 dX8_reason_22 rfl
theorem e868_25 {ls st : List Value} {h : x_H} : x_run 868 25 ls st h = x_run 868 26 ls (.int (q_i 0) :: st) h := xe_iconst ec868 dX8_reason_25
theorem e868_26 {ls st : List Value} {h : x_H} {b : Nat} {a1 : Value}: x_run 868 26 ls (a1 :: .ref b :: st) h = if q_rcv h b 10 = true then (if x_wt st ≤ 8 ∧ x_wt [.ref b, a1] = 2 then q_cl (x_m 802 [.ref b, a1] h) (fun v h' => x_run 868 29 ls (v.toList ++ st) h') else none) else none := xe_virt (r := [a1]) ec868 dX8_reason_26 ek8_183 rfl (by decide +kernel) (by decide +kernel)
theorem e868_29 {ls st : List Value} {h : x_H} {x : Int32}: x_run 868 29 ls (.int x :: st) h = if x = 0 then x_run 868 34 ls st h else x_run 868 32 ls st h := xe_if_eq ec868 dX8_reason_29 rfl
theorem e868_32 {ls st : List Value} {h : x_H} : x_run 868 32 ls st h = x_run 868 33 ls (.int (q_i 0) :: st) h := xe_iconst ec868 dX8_reason_32
theorem e868_33 {ls : List Value} {h : x_H} {x : Int32} : x_run 868 33 ls [.int x] h = if narrow .int (.int x) = .int x then some (.inl (some (.int x)), h) else none := xe_ireturn ec868 dX8_reason_33 rfl
theorem e868_34 {ls st : List Value} {h : x_H} : x_run 868 34 ls st h = q_gi ls 1 (fun v => x_run 868 35 ls (.int v :: st) h) := xe_iload_n ec868 dX8_reason_34
theorem e868_35 {ls st : List Value} {h : x_H} {x : Int32}: x_run 868 35 ls (.int x :: st) h = if ¬ x = 0 then x_run 868 45 ls st h else x_run 868 38 ls st h := xe_if_ne ec868 dX8_reason_35 rfl
theorem e868_38 {ls st : List Value} {h : x_H} : x_run 868 38 ls st h = q_gr ls 0 (fun v => x_run 868 39 ls (.ref v :: st) h) := xe_aload_n ec868 dX8_reason_38
theorem e868_39 {ls st : List Value} {h : x_H} {a : Nat}: x_run 868 39 ls (.ref a :: st) h = q_gf h a 10 8 (fun v => x_run 868 42 ls (v :: st) h) := xe_getfield ec868 dX8_reason_39 ef8_48
theorem e868_42 {ls st : List Value} {h : x_H} : x_run 868 42 ls st h = x_run 868 61 ls st h := xe_goto ec868 dX8_reason_42 rfl
theorem e868_45 {ls st : List Value} {h : x_H} : x_run 868 45 ls st h = q_gi ls 1 (fun v => x_run 868 46 ls (.int v :: st) h) := xe_iload_n ec868 dX8_reason_45
theorem e868_46 {ls st : List Value} {h : x_H} : x_run 868 46 ls st h = x_run 868 47 ls (.int (q_i 1) :: st) h := xe_iconst ec868 dX8_reason_46
theorem e868_47 {ls st : List Value} {h : x_H} {x y : Int32}: x_run 868 47 ls (.int y :: .int x :: st) h = if ¬ x = y then x_run 868 57 ls st h else x_run 868 50 ls st h := xe_ic_ne ec868 dX8_reason_47 rfl
theorem e868_50 {ls st : List Value} {h : x_H} : x_run 868 50 ls st h = q_gr ls 0 (fun v => x_run 868 51 ls (.ref v :: st) h) := xe_aload_n ec868 dX8_reason_50
theorem e868_51 {ls st : List Value} {h : x_H} {a : Nat}: x_run 868 51 ls (.ref a :: st) h = q_gf h a 10 9 (fun v => x_run 868 54 ls (v :: st) h) := xe_getfield ec868 dX8_reason_51 ef8_51
theorem e868_54 {ls st : List Value} {h : x_H} : x_run 868 54 ls st h = x_run 868 61 ls st h := xe_goto ec868 dX8_reason_54 rfl
theorem e868_57 {ls st : List Value} {h : x_H} : x_run 868 57 ls st h = q_gr ls 0 (fun v => x_run 868 58 ls (.ref v :: st) h) := xe_aload_n ec868 dX8_reason_57
theorem e868_58 {ls st : List Value} {h : x_H} {a : Nat}: x_run 868 58 ls (.ref a :: st) h = q_gf h a 10 10 (fun v => x_run 868 61 ls (v :: st) h) := xe_getfield ec868 dX8_reason_58 ef8_54
theorem e868_61 {ls : List Value} {h : x_H} {x : Int32} : x_run 868 61 ls [.int x] h = if narrow .int (.int x) = .int x then some (.inl (some (.int x)), h) else none := xe_ireturn ec868 dX8_reason_61 rfl
theorem ec869 : x_code 869 = cX8_writes := rfl
theorem e869_0 {ls st : List Value} {h : x_H} : x_run 869 0 ls st h = q_gr ls 0 (fun v => x_run 869 1 ls (.ref v :: st) h) := xe_aload_n ec869 dX8_writes_0
theorem e869_1 {ls st : List Value} {h : x_H} {a : Nat}: x_run 869 1 ls (.ref a :: st) h = q_gf h a 10 14 (fun v => x_run 869 4 ls (v :: st) h) := xe_getfield ec869 dX8_writes_1 ef8_29
theorem e869_4 {ls st : List Value} {h : x_H} : x_run 869 4 ls st h = q_gr ls 0 (fun v => x_run 869 5 ls (.ref v :: st) h) := xe_aload_n ec869 dX8_writes_4
theorem e869_5 {ls st : List Value} {h : x_H} {a : Nat}: x_run 869 5 ls (.ref a :: st) h = q_gf h a 10 15 (fun v => x_run 869 8 ls (v :: st) h) := xe_getfield ec869 dX8_writes_5 ef8_235
theorem e869_8 {ls st : List Value} {h : x_H} : x_run 869 8 ls st h = q_gi ls 1 (fun v => x_run 869 9 ls (.int v :: st) h) := xe_iload_n ec869 dX8_writes_8
theorem e869_9 {ls st : List Value} {h : x_H} {x : Int32}: x_run 869 9 ls (.int x :: st) h = x_run 869 10 ls (.int (x.toUInt32 % 65536).toInt32 :: st) h := xe_i2c ec869 dX8_writes_9
theorem e869_10 {ls st : List Value} {h : x_H} {x y : Int32} {a : Nat}: x_run 869 10 ls (.int y :: .int x :: .ref a :: st) h = q_wa h a 2 x (vp_nar .char y) (fun h' => x_run 869 11 ls st h') := xe_castore ec869 dX8_writes_10
theorem e869_11 {ls st : List Value} {h : x_H} : x_run 869 11 ls st h = q_gr ls 0 (fun v => x_run 869 12 ls (.ref v :: st) h) := xe_aload_n ec869 dX8_writes_11
theorem e869_12 {ls st : List Value} {h : x_H} {v : Value} (hv : v.category = 1): x_run 869 12 ls (v :: st) h = x_run 869 13 ls (v :: v :: st) h := xe_dup ec869 dX8_writes_12 hv
theorem e869_13 {ls st : List Value} {h : x_H} {a : Nat}: x_run 869 13 ls (.ref a :: st) h = q_gf h a 10 15 (fun v => x_run 869 16 ls (v :: st) h) := xe_getfield ec869 dX8_writes_13 ef8_235
theorem e869_16 {ls st : List Value} {h : x_H} : x_run 869 16 ls st h = x_run 869 17 ls (.int (q_i 1) :: st) h := xe_iconst ec869 dX8_writes_16
theorem e869_17 {ls st : List Value} {h : x_H} {x y : Int32}: x_run 869 17 ls (.int y :: .int x :: st) h = x_run 869 18 ls (.int (x + y) :: st) h := xe_iadd ec869 dX8_writes_17
theorem e869_18 {ls st : List Value} {h : x_H} {v : Value} {a : Nat}: x_run 869 18 ls (v :: .ref a :: st) h = if x_fit (x_ty 10 15) v = true then q_pf h a 10 15 v (fun h' => x_run 869 21 ls st h') else none := xe_putfield ec869 dX8_writes_18 ef8_235 (by decide +kernel)
theorem e869_21 {ls : List Value} {h : x_H} : x_run 869 21 ls [] h = some (.inl (none), h) := xe_return ec869 dX8_writes_21 rfl
theorem ec870 : x_code 870 = cX8_line := rfl
theorem e870_0 {ls st : List Value} {h : x_H} : x_run 870 0 ls st h = q_gr ls 0 (fun v => x_run 870 1 ls (.ref v :: st) h) := xe_aload_n ec870 dX8_line_0
theorem e870_1 {ls st : List Value} {h : x_H} : x_run 870 1 ls st h = q_gi ls 1 (fun v => x_run 870 2 ls (.int v :: st) h) := xe_iload_n ec870 dX8_line_1
theorem e870_2 {ls st : List Value} {h : x_H} : x_run 870 2 ls st h = x_run 870 3 ls (.int (q_i 0) :: st) h := xe_iconst ec870 dX8_line_2
theorem e870_3 {ls st : List Value} {h : x_H} : x_run 870 3 ls st h = q_gi ls 2 (fun v => x_run 870 4 ls (.int v :: st) h) := xe_iload_n ec870 dX8_line_3
theorem e870_4 {ls st : List Value} {h : x_H} {a1 a2 a3 : Value}: x_run 870 4 ls (a3 :: a2 :: a1 :: st) h = if x_wt st ≤ 8 ∧ x_wt [a1, a2, a3] = 3 then q_cl (x_m 808 [a1, a2, a3] h) (fun v h' => x_run 870 7 ls (v.toList ++ st) h') else none := xe_stat (args := [a1, a2, a3]) ec870 dX8_line_4 ek8_119 (by decide) rfl (by decide +kernel) (by decide +kernel)
theorem e870_7 {ls st : List Value} {h : x_H} {x : Int32}: x_run 870 7 ls (.int x :: st) h = if x = 0 then x_run 870 14 ls st h else x_run 870 10 ls st h := xe_if_eq ec870 dX8_line_7 rfl
theorem e870_10 {ls st : List Value} {h : x_H} : x_run 870 10 ls st h = x_run 870 11 ls (.int (q_i 0) :: st) h := xe_iconst ec870 dX8_line_10
theorem e870_11 {ls st : List Value} {h : x_H} : x_run 870 11 ls st h = x_run 870 15 ls st h := xe_goto ec870 dX8_line_11 rfl
theorem e870_14 {ls st : List Value} {h : x_H} : x_run 870 14 ls st h = x_run 870 15 ls (.int (q_i 1) :: st) h := xe_iconst ec870 dX8_line_14
theorem e870_15 {ls st : List Value} {h : x_H} {b : Nat} {a1 : Value}: x_run 870 15 ls (a1 :: .ref b :: st) h = if q_rcv h b 10 = true then (if x_wt st ≤ 8 ∧ x_wt [.ref b, a1] = 2 then q_cl (x_m 802 [.ref b, a1] h) (fun v h' => x_run 870 18 ls (v.toList ++ st) h') else none) else none := xe_virt (r := [a1]) ec870 dX8_line_15 ek8_183 rfl (by decide +kernel) (by decide +kernel)
theorem e870_18 {ls st : List Value} {h : x_H} {x : Int32}: x_run 870 18 ls (.int x :: st) h = if x = 0 then x_run 870 23 ls st h else x_run 870 21 ls st h := xe_if_eq ec870 dX8_line_18 rfl
theorem e870_21 {ls st : List Value} {h : x_H} : x_run 870 21 ls st h = x_run 870 22 ls (.int (q_i 0) :: st) h := xe_iconst ec870 dX8_line_21
theorem e870_22 {ls : List Value} {h : x_H} {x : Int32} : x_run 870 22 ls [.int x] h = if narrow .int (.int x) = .int x then some (.inl (some (.int x)), h) else none := xe_ireturn ec870 dX8_line_22 rfl
theorem e870_23 {ls st : List Value} {h : x_H} : x_run 870 23 ls st h = q_gr ls 0 (fun v => x_run 870 24 ls (.ref v :: st) h) := xe_aload_n ec870 dX8_line_23
theorem e870_24 {ls st : List Value} {h : x_H} : x_run 870 24 ls st h = x_run 870 25 ls (.int (q_i 0) :: st) h := xe_iconst ec870 dX8_line_24
theorem e870_25 {ls st : List Value} {h : x_H} {v : Value} {a : Nat}: x_run 870 25 ls (v :: .ref a :: st) h = if x_fit (x_ty 10 15) v = true then q_pf h a 10 15 v (fun h' => x_run 870 28 ls st h') else none := xe_putfield ec870 dX8_line_25 ef8_235 (by decide +kernel)
theorem e870_28 {ls st : List Value} {h : x_H} : x_run 870 28 ls st h = x_run 870 29 ls (.int (q_i 0) :: st) h := xe_iconst ec870 dX8_line_28
theorem e870_29 {ls st : List Value} {h : x_H} {x : Int32}: x_run 870 29 ls (.int x :: st) h = q_ls ls 3 (.int x) (fun ls' => x_run 870 30 ls' st h) := xe_istore_n ec870 dX8_line_29
theorem e870_30 {ls st : List Value} {h : x_H} : x_run 870 30 ls st h = q_gi ls 3 (fun v => x_run 870 31 ls (.int v :: st) h) := xe_iload_n ec870 dX8_line_30
theorem e870_31 {ls st : List Value} {h : x_H} : x_run 870 31 ls st h = x_run 870 33 ls (.int (q_i 8) :: st) h := xe_bipush ec870 dX8_line_31 (by decide)
theorem e870_33 {ls st : List Value} {h : x_H} {x y : Int32}: x_run 870 33 ls (.int y :: .int x :: st) h = if y ≤ x then x_run 870 130 ls st h else x_run 870 36 ls st h := xe_ic_ge ec870 dX8_line_33 rfl
theorem e870_36 {ls st : List Value} {h : x_H} : x_run 870 36 ls st h = q_gi ls 1 (fun v => x_run 870 37 ls (.int v :: st) h) := xe_iload_n ec870 dX8_line_36
theorem e870_37 {ls st : List Value} {h : x_H} : x_run 870 37 ls st h = q_gi ls 3 (fun v => x_run 870 38 ls (.int v :: st) h) := xe_iload_n ec870 dX8_line_37
theorem e870_38 {ls st : List Value} {h : x_H} : x_run 870 38 ls st h = q_gi ls 2 (fun v => x_run 870 39 ls (.int v :: st) h) := xe_iload_n ec870 dX8_line_38
theorem e870_39 {ls st : List Value} {h : x_H} {a1 a2 a3 : Value}: x_run 870 39 ls (a3 :: a2 :: a1 :: st) h = if x_wt st ≤ 8 ∧ x_wt [a1, a2, a3] = 3 then q_cl (x_m 809 [a1, a2, a3] h) (fun v h' => x_run 870 42 ls (v.toList ++ st) h') else none := xe_stat (args := [a1, a2, a3]) ec870 dX8_line_39 ek8_115 (by decide) rfl (by decide +kernel) (by decide +kernel)
theorem e870_42 {ls st : List Value} {h : x_H} {x : Int32}: x_run 870 42 ls (.int x :: st) h = q_ls ls 4 (.int x) (fun ls' => x_run 870 44 ls' st h) := xe_istore ec870 dX8_line_42
theorem e870_44 {ls st : List Value} {h : x_H} : x_run 870 44 ls st h = q_gr ls 0 (fun v => x_run 870 45 ls (.ref v :: st) h) := xe_aload_n ec870 dX8_line_44
theorem e870_45 {ls st : List Value} {h : x_H} : x_run 870 45 ls st h = q_gr ls 0 (fun v => x_run 870 46 ls (.ref v :: st) h) := xe_aload_n ec870 dX8_line_45
theorem e870_46 {ls st : List Value} {h : x_H} : x_run 870 46 ls st h = q_gi ls 4 (fun v => x_run 870 48 ls (.int v :: st) h) := xe_iload ec870 dX8_line_46
theorem e870_48 {ls st : List Value} {h : x_H} {b : Nat} {a1 : Value}: x_run 870 48 ls (a1 :: .ref b :: st) h = if q_rcv h b 10 = true then (if x_wt st ≤ 8 ∧ x_wt [.ref b, a1] = 2 then q_cl (x_m 813 [.ref b, a1] h) (fun v h' => x_run 870 51 ls (v.toList ++ st) h') else none) else none := xe_virt (r := [a1]) ec870 dX8_line_48 ek8_76 rfl (by decide +kernel) (by decide +kernel)
theorem e870_51 {ls st : List Value} {h : x_H} {x : Int32}: x_run 870 51 ls (.int x :: st) h = if ¬ x = 0 then x_run 870 59 ls st h else x_run 870 54 ls st h := xe_if_ne ec870 dX8_line_51 rfl
theorem e870_54 {ls st : List Value} {h : x_H} : x_run 870 54 ls st h = x_run 870 56 ls (.int (q_i 46) :: st) h := xe_bipush ec870 dX8_line_54 (by decide)
theorem e870_56 {ls st : List Value} {h : x_H} : x_run 870 56 ls st h = x_run 870 97 ls st h := xe_goto ec870 dX8_line_56 rfl
theorem e870_59 {ls st : List Value} {h : x_H} : x_run 870 59 ls st h = q_gr ls 0 (fun v => x_run 870 60 ls (.ref v :: st) h) := xe_aload_n ec870 dX8_line_59
theorem e870_60 {ls st : List Value} {h : x_H} : x_run 870 60 ls st h = q_gi ls 4 (fun v => x_run 870 62 ls (.int v :: st) h) := xe_iload ec870 dX8_line_60
theorem e870_62 {ls st : List Value} {h : x_H} {b : Nat} {a1 : Value}: x_run 870 62 ls (a1 :: .ref b :: st) h = if q_rcv h b 10 = true then (if x_wt st ≤ 8 ∧ x_wt [.ref b, a1] = 2 then q_cl (x_m 813 [.ref b, a1] h) (fun v h' => x_run 870 65 ls (v.toList ++ st) h') else none) else none := xe_virt (r := [a1]) ec870 dX8_line_62 ek8_76 rfl (by decide +kernel) (by decide +kernel)
theorem e870_65 {ls st : List Value} {h : x_H} : x_run 870 65 ls st h = x_run 870 66 ls (.int (q_i 1) :: st) h := xe_iconst ec870 dX8_line_65
theorem e870_66 {ls st : List Value} {h : x_H} {x y : Int32}: x_run 870 66 ls (.int y :: .int x :: st) h = if ¬ x = y then x_run 870 74 ls st h else x_run 870 69 ls st h := xe_ic_ne ec870 dX8_line_66 rfl
theorem e870_69 {ls st : List Value} {h : x_H} : x_run 870 69 ls st h = x_run 870 71 ls (.int (q_i 35) :: st) h := xe_bipush ec870 dX8_line_69 (by decide)
theorem e870_71 {ls st : List Value} {h : x_H} : x_run 870 71 ls st h = x_run 870 97 ls st h := xe_goto ec870 dX8_line_71 rfl
theorem e870_74 {ls st : List Value} {h : x_H} : x_run 870 74 ls st h = q_gr ls 0 (fun v => x_run 870 75 ls (.ref v :: st) h) := xe_aload_n ec870 dX8_line_74
theorem e870_75 {ls st : List Value} {h : x_H} : x_run 870 75 ls st h = q_gi ls 4 (fun v => x_run 870 77 ls (.int v :: st) h) := xe_iload ec870 dX8_line_75
theorem e870_77 {ls st : List Value} {h : x_H} {b : Nat} {a1 : Value}: x_run 870 77 ls (a1 :: .ref b :: st) h = if q_rcv h b 10 = true then (if x_wt st ≤ 8 ∧ x_wt [.ref b, a1] = 2 then q_cl (x_m 815 [.ref b, a1] h) (fun v h' => x_run 870 80 ls (v.toList ++ st) h') else none) else none := xe_virt (r := [a1]) ec870 dX8_line_77 ek8_93 rfl (by decide +kernel) (by decide +kernel)
theorem e870_80 {ls st : List Value} {h : x_H} {x : Int32}: x_run 870 80 ls (.int x :: st) h = if x = 0 then x_run 870 88 ls st h else x_run 870 83 ls st h := xe_if_eq ec870 dX8_line_80 rfl
theorem e870_83 {ls st : List Value} {h : x_H} : x_run 870 83 ls st h = x_run 870 85 ls (.int (q_i 65) :: st) h := xe_bipush ec870 dX8_line_83 (by decide)
theorem e870_85 {ls st : List Value} {h : x_H} : x_run 870 85 ls st h = x_run 870 90 ls st h := xe_goto ec870 dX8_line_85 rfl
theorem e870_88 {ls st : List Value} {h : x_H} : x_run 870 88 ls st h = x_run 870 90 ls (.int (q_i 97) :: st) h := xe_bipush ec870 dX8_line_88 (by decide)
theorem e870_90 {ls st : List Value} {h : x_H} : x_run 870 90 ls st h = q_gr ls 0 (fun v => x_run 870 91 ls (.ref v :: st) h) := xe_aload_n ec870 dX8_line_90
theorem e870_91 {ls st : List Value} {h : x_H} : x_run 870 91 ls st h = q_gi ls 4 (fun v => x_run 870 93 ls (.int v :: st) h) := xe_iload ec870 dX8_line_91
theorem e870_93 {ls st : List Value} {h : x_H} {b : Nat} {a1 : Value}: x_run 870 93 ls (a1 :: .ref b :: st) h = if q_rcv h b 10 = true then (if x_wt st ≤ 8 ∧ x_wt [.ref b, a1] = 2 then q_cl (x_m 814 [.ref b, a1] h) (fun v h' => x_run 870 96 ls (v.toList ++ st) h') else none) else none := xe_virt (r := [a1]) ec870 dX8_line_93 ek8_87 rfl (by decide +kernel) (by decide +kernel)
theorem e870_96 {ls st : List Value} {h : x_H} {x y : Int32}: x_run 870 96 ls (.int y :: .int x :: st) h = x_run 870 97 ls (.int (x + y) :: st) h := xe_iadd ec870 dX8_line_96
theorem e870_97 {ls st : List Value} {h : x_H} {b : Nat} {a1 : Value}: x_run 870 97 ls (a1 :: .ref b :: st) h = if q_rcv h b 10 = true then (if x_wt st ≤ 8 ∧ x_wt [.ref b, a1] = 2 then q_cl (x_m 869 [.ref b, a1] h) (fun v h' => x_run 870 100 ls (v.toList ++ st) h') else none) else none := xe_virt (r := [a1]) ec870 dX8_line_97 ek8_238 rfl (by decide +kernel) (by decide +kernel)
theorem e870_100 {ls st : List Value} {h : x_H} : x_run 870 100 ls st h = q_gr ls 0 (fun v => x_run 870 101 ls (.ref v :: st) h) := xe_aload_n ec870 dX8_line_100
theorem e870_101 {ls st : List Value} {h : x_H} {a : Nat}: x_run 870 101 ls (.ref a :: st) h = q_gf h a 10 0 (fun v => x_run 870 104 ls (v :: st) h) := xe_getfield ec870 dX8_line_101 ef8_7
theorem e870_104 {ls st : List Value} {h : x_H} : x_run 870 104 ls st h = x_run 870 107 ls (.int (q_i 151) :: st) h := xe_sipush ec870 dX8_line_104 (by decide)
theorem e870_107 {ls st : List Value} {h : x_H} : x_run 870 107 ls st h = q_gi ls 1 (fun v => x_run 870 108 ls (.int v :: st) h) := xe_iload_n ec870 dX8_line_107
theorem e870_108 {ls st : List Value} {h : x_H} : x_run 870 108 ls st h = q_gi ls 3 (fun v => x_run 870 109 ls (.int v :: st) h) := xe_iload_n ec870 dX8_line_108
theorem e870_109 {ls st : List Value} {h : x_H} : x_run 870 109 ls st h = x_run 870 110 ls (.int (q_i 0) :: st) h := xe_iconst ec870 dX8_line_109
theorem e870_110 {ls st : List Value} {h : x_H} {a1 a2 a3 : Value}: x_run 870 110 ls (a3 :: a2 :: a1 :: st) h = if x_wt st ≤ 8 ∧ x_wt [a1, a2, a3] = 3 then q_cl (x_m 809 [a1, a2, a3] h) (fun v h' => x_run 870 113 ls (v.toList ++ st) h') else none := xe_stat (args := [a1, a2, a3]) ec870 dX8_line_110 ek8_115 (by decide) rfl (by decide +kernel) (by decide +kernel)
theorem e870_113 {ls st : List Value} {h : x_H} {x y : Int32}: x_run 870 113 ls (.int y :: .int x :: st) h = x_run 870 114 ls (.int (x + y) :: st) h := xe_iadd ec870 dX8_line_113
theorem e870_114 {ls st : List Value} {h : x_H} {x : Int32} {a : Nat}: x_run 870 114 ls (.int x :: .ref a :: st) h = q_ra h a 0 x (fun v => x_run 870 115 ls (.int v :: st) h) := xe_iaload ec870 dX8_line_114
theorem e870_115 {ls st : List Value} {h : x_H} {x : Int32}: x_run 870 115 ls (.int x :: st) h = if x ≤ 0 then x_run 870 124 ls st h else x_run 870 118 ls st h := xe_if_le ec870 dX8_line_115 rfl
theorem e870_118 {ls st : List Value} {h : x_H} : x_run 870 118 ls st h = q_gr ls 0 (fun v => x_run 870 119 ls (.ref v :: st) h) := xe_aload_n ec870 dX8_line_118
theorem e870_119 {ls st : List Value} {h : x_H} : x_run 870 119 ls st h = x_run 870 121 ls (.int (q_i 111) :: st) h := xe_bipush ec870 dX8_line_119 (by decide)
theorem e870_121 {ls st : List Value} {h : x_H} {b : Nat} {a1 : Value}: x_run 870 121 ls (a1 :: .ref b :: st) h = if q_rcv h b 10 = true then (if x_wt st ≤ 8 ∧ x_wt [.ref b, a1] = 2 then q_cl (x_m 869 [.ref b, a1] h) (fun v h' => x_run 870 124 ls (v.toList ++ st) h') else none) else none := xe_virt (r := [a1]) ec870 dX8_line_121 ek8_238 rfl (by decide +kernel) (by decide +kernel)
theorem e870_124 {ls st : List Value} {h : x_H} : x_run 870 124 ls st h = q_gi ls 3 (fun v => if x_nd ls 3 = true then x_run 870 127 (ls.set 3 (.int (v + q_i 1))) st h else none) := xe_iinc ec870 dX8_line_124
theorem e870_127 {ls st : List Value} {h : x_H} : x_run 870 127 ls st h = x_run 870 30 ls st h := xe_goto ec870 dX8_line_127 rfl
theorem e870_130 {ls st : List Value} {h : x_H} : x_run 870 130 ls st h = q_gr ls 0 (fun v => x_run 870 131 ls (.ref v :: st) h) := xe_aload_n ec870 dX8_line_130
theorem e870_131 {ls st : List Value} {h : x_H} {a : Nat}: x_run 870 131 ls (.ref a :: st) h = q_gf h a 10 15 (fun v => x_run 870 134 ls (v :: st) h) := xe_getfield ec870 dX8_line_131 ef8_235
theorem e870_134 {ls : List Value} {h : x_H} {x : Int32} : x_run 870 134 ls [.int x] h = if narrow .int (.int x) = .int x then some (.inl (some (.int x)), h) else none := xe_ireturn ec870 dX8_line_134 rfl
theorem ec871 : x_code 871 = cX8_character := rfl
theorem e871_0 {ls st : List Value} {h : x_H} : x_run 871 0 ls st h = q_gr ls 0 (fun v => x_run 871 1 ls (.ref v :: st) h) := xe_aload_n ec871 dX8_character_0
theorem e871_1 {ls st : List Value} {h : x_H} : x_run 871 1 ls st h = q_gi ls 1 (fun v => x_run 871 2 ls (.int v :: st) h) := xe_iload_n ec871 dX8_character_1
theorem e871_2 {ls st : List Value} {h : x_H} : x_run 871 2 ls st h = x_run 871 3 ls (.int (q_i 0) :: st) h := xe_iconst ec871 dX8_character_2
theorem e871_3 {ls st : List Value} {h : x_H} : x_run 871 3 ls st h = q_gr ls 0 (fun v => x_run 871 4 ls (.ref v :: st) h) := xe_aload_n ec871 dX8_character_3
theorem e871_4 {ls st : List Value} {h : x_H} {a : Nat}: x_run 871 4 ls (.ref a :: st) h = q_gf h a 10 15 (fun v => x_run 871 7 ls (v :: st) h) := xe_getfield ec871 dX8_character_4 ef8_235
theorem e871_7 {ls st : List Value} {h : x_H} : x_run 871 7 ls st h = x_run 871 8 ls (.int (q_i 1) :: st) h := xe_iconst ec871 dX8_character_7
theorem e871_8 {ls st : List Value} {h : x_H} {x y : Int32}: x_run 871 8 ls (.int y :: .int x :: st) h = x_run 871 9 ls (.int (x - y) :: st) h := xe_isub ec871 dX8_character_8
theorem e871_9 {ls st : List Value} {h : x_H} {a1 a2 a3 : Value}: x_run 871 9 ls (a3 :: a2 :: a1 :: st) h = if x_wt st ≤ 8 ∧ x_wt [a1, a2, a3] = 3 then q_cl (x_m 804 [a1, a2, a3] h) (fun v h' => x_run 871 12 ls (v.toList ++ st) h') else none := xe_stat (args := [a1, a2, a3]) ec871 dX8_character_9 ek8_68 (by decide) rfl (by decide +kernel) (by decide +kernel)
theorem e871_12 {ls st : List Value} {h : x_H} {x : Int32}: x_run 871 12 ls (.int x :: st) h = if x = 0 then x_run 871 19 ls st h else x_run 871 15 ls st h := xe_if_eq ec871 dX8_character_12 rfl
theorem e871_15 {ls st : List Value} {h : x_H} : x_run 871 15 ls st h = x_run 871 16 ls (.int (q_i 0) :: st) h := xe_iconst ec871 dX8_character_15
theorem e871_16 {ls st : List Value} {h : x_H} : x_run 871 16 ls st h = x_run 871 20 ls st h := xe_goto ec871 dX8_character_16 rfl
theorem e871_19 {ls st : List Value} {h : x_H} : x_run 871 19 ls st h = x_run 871 20 ls (.int (q_i 1) :: st) h := xe_iconst ec871 dX8_character_19
theorem e871_20 {ls st : List Value} {h : x_H} {b : Nat} {a1 : Value}: x_run 871 20 ls (a1 :: .ref b :: st) h = if q_rcv h b 10 = true then (if x_wt st ≤ 8 ∧ x_wt [.ref b, a1] = 2 then q_cl (x_m 802 [.ref b, a1] h) (fun v h' => x_run 871 23 ls (v.toList ++ st) h') else none) else none := xe_virt (r := [a1]) ec871 dX8_character_20 ek8_183 rfl (by decide +kernel) (by decide +kernel)
theorem e871_23 {ls st : List Value} {h : x_H} {x : Int32}: x_run 871 23 ls (.int x :: st) h = if x = 0 then x_run 871 31 ls st h else x_run 871 26 ls st h := xe_if_eq ec871 dX8_character_23 rfl
theorem e871_26 {ls st : List Value} {h : x_H} : x_run 871 26 ls st h = x_run 871 28 ls (.int (q_i 32) :: st) h := xe_bipush ec871 dX8_character_26 (by decide)
theorem e871_28 {ls st : List Value} {h : x_H} : x_run 871 28 ls st h = x_run 871 37 ls st h := xe_goto ec871 dX8_character_28 rfl
theorem e871_31 {ls st : List Value} {h : x_H} : x_run 871 31 ls st h = q_gr ls 0 (fun v => x_run 871 32 ls (.ref v :: st) h) := xe_aload_n ec871 dX8_character_31
theorem e871_32 {ls st : List Value} {h : x_H} {a : Nat}: x_run 871 32 ls (.ref a :: st) h = q_gf h a 10 14 (fun v => x_run 871 35 ls (v :: st) h) := xe_getfield ec871 dX8_character_32 ef8_29
theorem e871_35 {ls st : List Value} {h : x_H} : x_run 871 35 ls st h = q_gi ls 1 (fun v => x_run 871 36 ls (.int v :: st) h) := xe_iload_n ec871 dX8_character_35
theorem e871_36 {ls st : List Value} {h : x_H} {x : Int32} {a : Nat}: x_run 871 36 ls (.int x :: .ref a :: st) h = q_ra h a 2 x (fun v => x_run 871 37 ls (.int v :: st) h) := xe_caload ec871 dX8_character_36
theorem e871_37 {ls : List Value} {h : x_H} {x : Int32} : x_run 871 37 ls [.int x] h = if narrow .char (.int x) = .int x then some (.inl (some (.int x)), h) else none := xe_ireturn ec871 dX8_character_37 rfl
theorem ec872 : x_code 872 = cX8_sumOf := rfl
theorem e872_0 {ls st : List Value} {h : x_H} : x_run 872 0 ls st h = x_run 872 1 ls (.int (q_i 0) :: st) h := xe_iconst ec872 dX8_sumOf_0
theorem e872_1 {ls st : List Value} {h : x_H} {x : Int32}: x_run 872 1 ls (.int x :: st) h = q_ls ls 2 (.int x) (fun ls' => x_run 872 2 ls' st h) := xe_istore_n ec872 dX8_sumOf_1
theorem e872_2 {ls st : List Value} {h : x_H} : x_run 872 2 ls st h = x_run 872 3 ls (.int (q_i 0) :: st) h := xe_iconst ec872 dX8_sumOf_2
theorem e872_3 {ls st : List Value} {h : x_H} {x : Int32}: x_run 872 3 ls (.int x :: st) h = q_ls ls 3 (.int x) (fun ls' => x_run 872 4 ls' st h) := xe_istore_n ec872 dX8_sumOf_3
theorem e872_4 {ls st : List Value} {h : x_H} : x_run 872 4 ls st h = q_gi ls 3 (fun v => x_run 872 5 ls (.int v :: st) h) := xe_iload_n ec872 dX8_sumOf_4
theorem e872_5 {ls st : List Value} {h : x_H} : x_run 872 5 ls st h = q_gr ls 0 (fun v => x_run 872 6 ls (.ref v :: st) h) := xe_aload_n ec872 dX8_sumOf_5
theorem e872_6 {ls st : List Value} {h : x_H} {a : Nat}: x_run 872 6 ls (.ref a :: st) h = q_gf h a 10 0 (fun v => x_run 872 9 ls (v :: st) h) := xe_getfield ec872 dX8_sumOf_6 ef8_7
theorem e872_9 {ls st : List Value} {h : x_H} : x_run 872 9 ls st h = x_run 872 10 ls (.int (q_i 0) :: st) h := xe_iconst ec872 dX8_sumOf_9
theorem e872_10 {ls st : List Value} {h : x_H} {x : Int32} {a : Nat}: x_run 872 10 ls (.int x :: .ref a :: st) h = q_ra h a 0 x (fun v => x_run 872 11 ls (.int v :: st) h) := xe_iaload ec872 dX8_sumOf_10
theorem e872_11 {ls st : List Value} {h : x_H} {x y : Int32}: x_run 872 11 ls (.int y :: .int x :: st) h = if y ≤ x then x_run 872 29 ls st h else x_run 872 14 ls st h := xe_ic_ge ec872 dX8_sumOf_11 rfl
theorem e872_14 {ls st : List Value} {h : x_H} : x_run 872 14 ls st h = q_gi ls 2 (fun v => x_run 872 15 ls (.int v :: st) h) := xe_iload_n ec872 dX8_sumOf_14
theorem e872_15 {ls st : List Value} {h : x_H} : x_run 872 15 ls st h = q_gr ls 0 (fun v => x_run 872 16 ls (.ref v :: st) h) := xe_aload_n ec872 dX8_sumOf_15
theorem e872_16 {ls st : List Value} {h : x_H} : x_run 872 16 ls st h = q_gi ls 3 (fun v => x_run 872 17 ls (.int v :: st) h) := xe_iload_n ec872 dX8_sumOf_16
theorem e872_17 {ls st : List Value} {h : x_H} : x_run 872 17 ls st h = q_gi ls 1 (fun v => x_run 872 18 ls (.int v :: st) h) := xe_iload_n ec872 dX8_sumOf_17
theorem e872_18 {ls st : List Value} {h : x_H} {b : Nat} {a1 a2 : Value}: x_run 872 18 ls (a2 :: a1 :: .ref b :: st) h = if q_rcv h b 10 = true then (if x_wt st ≤ 8 ∧ x_wt [.ref b, a1, a2] = 3 then q_cl (x_m 811 [.ref b, a1, a2] h) (fun v h' => x_run 872 21 ls (v.toList ++ st) h') else none) else none := xe_virt (r := [a1, a2]) ec872 dX8_sumOf_18 ek8_80 rfl (by decide +kernel) (by decide +kernel)
theorem e872_21 {ls st : List Value} {h : x_H} {x y : Int32}: x_run 872 21 ls (.int y :: .int x :: st) h = x_run 872 22 ls (.int (x + y) :: st) h := xe_iadd ec872 dX8_sumOf_21
theorem e872_22 {ls st : List Value} {h : x_H} {x : Int32}: x_run 872 22 ls (.int x :: st) h = q_ls ls 2 (.int x) (fun ls' => x_run 872 23 ls' st h) := xe_istore_n ec872 dX8_sumOf_22
theorem e872_23 {ls st : List Value} {h : x_H} : x_run 872 23 ls st h = q_gi ls 3 (fun v => if x_nd ls 3 = true then x_run 872 26 (ls.set 3 (.int (v + q_i 1))) st h else none) := xe_iinc ec872 dX8_sumOf_23
theorem e872_26 {ls st : List Value} {h : x_H} : x_run 872 26 ls st h = x_run 872 4 ls st h := xe_goto ec872 dX8_sumOf_26 rfl
theorem e872_29 {ls st : List Value} {h : x_H} : x_run 872 29 ls st h = q_gi ls 2 (fun v => x_run 872 30 ls (.int v :: st) h) := xe_iload_n ec872 dX8_sumOf_29
theorem e872_30 {ls : List Value} {h : x_H} {x : Int32} : x_run 872 30 ls [.int x] h = if narrow .int (.int x) = .int x then some (.inl (some (.int x)), h) else none := xe_ireturn ec872 dX8_sumOf_30 rfl
theorem ec873 : x_code 873 = cX8_freeMany := rfl
theorem e873_0 {ls st : List Value} {h : x_H} : x_run 873 0 ls st h = x_run 873 1 ls (.int (q_i 0) :: st) h := xe_iconst ec873 dX8_freeMany_0
theorem e873_1 {ls st : List Value} {h : x_H} {x : Int32}: x_run 873 1 ls (.int x :: st) h = q_ls ls 1 (.int x) (fun ls' => x_run 873 2 ls' st h) := xe_istore_n ec873 dX8_freeMany_1
theorem e873_2 {ls st : List Value} {h : x_H} : x_run 873 2 ls st h = x_run 873 3 ls (.int (q_i 0) :: st) h := xe_iconst ec873 dX8_freeMany_2
theorem e873_3 {ls st : List Value} {h : x_H} {x : Int32}: x_run 873 3 ls (.int x :: st) h = q_ls ls 2 (.int x) (fun ls' => x_run 873 4 ls' st h) := xe_istore_n ec873 dX8_freeMany_3
theorem e873_4 {ls st : List Value} {h : x_H} : x_run 873 4 ls st h = q_gi ls 2 (fun v => x_run 873 5 ls (.int v :: st) h) := xe_iload_n ec873 dX8_freeMany_4
theorem e873_5 {ls st : List Value} {h : x_H} : x_run 873 5 ls st h = x_run 873 7 ls (.int (q_i 96) :: st) h := xe_bipush ec873 dX8_freeMany_5 (by decide)
theorem e873_7 {ls st : List Value} {h : x_H} {x y : Int32}: x_run 873 7 ls (.int y :: .int x :: st) h = if y ≤ x then x_run 873 32 ls st h else x_run 873 10 ls st h := xe_ic_ge ec873 dX8_freeMany_7 rfl
theorem e873_10 {ls st : List Value} {h : x_H} : x_run 873 10 ls st h = q_gi ls 1 (fun v => x_run 873 11 ls (.int v :: st) h) := xe_iload_n ec873 dX8_freeMany_10
theorem e873_11 {ls st : List Value} {h : x_H} : x_run 873 11 ls st h = q_gr ls 0 (fun v => x_run 873 12 ls (.ref v :: st) h) := xe_aload_n ec873 dX8_freeMany_11
theorem e873_12 {ls st : List Value} {h : x_H} : x_run 873 12 ls st h = q_gi ls 2 (fun v => x_run 873 13 ls (.int v :: st) h) := xe_iload_n ec873 dX8_freeMany_12
theorem e873_13 {ls st : List Value} {h : x_H} {b : Nat} {a1 : Value}: x_run 873 13 ls (a1 :: .ref b :: st) h = if q_rcv h b 10 = true then (if x_wt st ≤ 8 ∧ x_wt [.ref b, a1] = 2 then q_cl (x_m 813 [.ref b, a1] h) (fun v h' => x_run 873 16 ls (v.toList ++ st) h') else none) else none := xe_virt (r := [a1]) ec873 dX8_freeMany_13 ek8_76 rfl (by decide +kernel) (by decide +kernel)
theorem e873_16 {ls st : List Value} {h : x_H} {x : Int32}: x_run 873 16 ls (.int x :: st) h = if ¬ x = 0 then x_run 873 23 ls st h else x_run 873 19 ls st h := xe_if_ne ec873 dX8_freeMany_16 rfl
theorem e873_19 {ls st : List Value} {h : x_H} : x_run 873 19 ls st h = x_run 873 20 ls (.int (q_i 1) :: st) h := xe_iconst ec873 dX8_freeMany_19
theorem e873_20 {ls st : List Value} {h : x_H} : x_run 873 20 ls st h = x_run 873 24 ls st h := xe_goto ec873 dX8_freeMany_20 rfl
theorem e873_23 {ls st : List Value} {h : x_H} : x_run 873 23 ls st h = x_run 873 24 ls (.int (q_i 0) :: st) h := xe_iconst ec873 dX8_freeMany_23
theorem e873_24 {ls st : List Value} {h : x_H} {x y : Int32}: x_run 873 24 ls (.int y :: .int x :: st) h = x_run 873 25 ls (.int (x + y) :: st) h := xe_iadd ec873 dX8_freeMany_24
theorem e873_25 {ls st : List Value} {h : x_H} {x : Int32}: x_run 873 25 ls (.int x :: st) h = q_ls ls 1 (.int x) (fun ls' => x_run 873 26 ls' st h) := xe_istore_n ec873 dX8_freeMany_25
theorem e873_26 {ls st : List Value} {h : x_H} : x_run 873 26 ls st h = q_gi ls 2 (fun v => if x_nd ls 2 = true then x_run 873 29 (ls.set 2 (.int (v + q_i 1))) st h else none) := xe_iinc ec873 dX8_freeMany_26
theorem e873_29 {ls st : List Value} {h : x_H} : x_run 873 29 ls st h = x_run 873 4 ls st h := xe_goto ec873 dX8_freeMany_29 rfl
theorem e873_32 {ls st : List Value} {h : x_H} : x_run 873 32 ls st h = q_gi ls 1 (fun v => x_run 873 33 ls (.int v :: st) h) := xe_iload_n ec873 dX8_freeMany_32
theorem e873_33 {ls : List Value} {h : x_H} {x : Int32} : x_run 873 33 ls [.int x] h = if narrow .int (.int x) = .int x then some (.inl (some (.int x)), h) else none := xe_ireturn ec873 dX8_freeMany_33 rfl
theorem ec874 : x_code 874 = cX8_wires := rfl
theorem e874_0 {ls st : List Value} {h : x_H} : x_run 874 0 ls st h = x_run 874 1 ls (.int (q_i 0) :: st) h := xe_iconst ec874 dX8_wires_0
theorem e874_1 {ls st : List Value} {h : x_H} {x : Int32}: x_run 874 1 ls (.int x :: st) h = q_ls ls 1 (.int x) (fun ls' => x_run 874 2 ls' st h) := xe_istore_n ec874 dX8_wires_1
theorem e874_2 {ls st : List Value} {h : x_H} : x_run 874 2 ls st h = x_run 874 3 ls (.int (q_i 0) :: st) h := xe_iconst ec874 dX8_wires_2
theorem e874_3 {ls st : List Value} {h : x_H} {x : Int32}: x_run 874 3 ls (.int x :: st) h = q_ls ls 2 (.int x) (fun ls' => x_run 874 4 ls' st h) := xe_istore_n ec874 dX8_wires_3
theorem e874_4 {ls st : List Value} {h : x_H} : x_run 874 4 ls st h = q_gi ls 2 (fun v => x_run 874 5 ls (.int v :: st) h) := xe_iload_n ec874 dX8_wires_4
theorem e874_5 {ls st : List Value} {h : x_H} : x_run 874 5 ls st h = x_run 874 7 ls (.int (q_i 96) :: st) h := xe_bipush ec874 dX8_wires_5 (by decide)
theorem e874_7 {ls st : List Value} {h : x_H} {x y : Int32}: x_run 874 7 ls (.int y :: .int x :: st) h = if y ≤ x then x_run 874 41 ls st h else x_run 874 10 ls st h := xe_ic_ge ec874 dX8_wires_7 rfl
theorem e874_10 {ls st : List Value} {h : x_H} : x_run 874 10 ls st h = q_gi ls 1 (fun v => x_run 874 11 ls (.int v :: st) h) := xe_iload_n ec874 dX8_wires_10
theorem e874_11 {ls st : List Value} {h : x_H} : x_run 874 11 ls st h = q_gr ls 0 (fun v => x_run 874 12 ls (.ref v :: st) h) := xe_aload_n ec874 dX8_wires_11
theorem e874_12 {ls st : List Value} {h : x_H} : x_run 874 12 ls st h = q_gi ls 2 (fun v => x_run 874 13 ls (.int v :: st) h) := xe_iload_n ec874 dX8_wires_12
theorem e874_13 {ls st : List Value} {h : x_H} {b : Nat} {a1 : Value}: x_run 874 13 ls (a1 :: .ref b :: st) h = if q_rcv h b 10 = true then (if x_wt st ≤ 8 ∧ x_wt [.ref b, a1] = 2 then q_cl (x_m 813 [.ref b, a1] h) (fun v h' => x_run 874 16 ls (v.toList ++ st) h') else none) else none := xe_virt (r := [a1]) ec874 dX8_wires_13 ek8_76 rfl (by decide +kernel) (by decide +kernel)
theorem e874_16 {ls st : List Value} {h : x_H} : x_run 874 16 ls st h = x_run 874 17 ls (.int (q_i 2) :: st) h := xe_iconst ec874 dX8_wires_16
theorem e874_17 {ls st : List Value} {h : x_H} {x y : Int32}: x_run 874 17 ls (.int y :: .int x :: st) h = if x < y then x_run 874 32 ls st h else x_run 874 20 ls st h := xe_ic_lt ec874 dX8_wires_17 rfl
theorem e874_20 {ls st : List Value} {h : x_H} : x_run 874 20 ls st h = q_gr ls 0 (fun v => x_run 874 21 ls (.ref v :: st) h) := xe_aload_n ec874 dX8_wires_20
theorem e874_21 {ls st : List Value} {h : x_H} : x_run 874 21 ls st h = q_gi ls 2 (fun v => x_run 874 22 ls (.int v :: st) h) := xe_iload_n ec874 dX8_wires_21
theorem e874_22 {ls st : List Value} {h : x_H} {b : Nat} {a1 : Value}: x_run 874 22 ls (a1 :: .ref b :: st) h = if q_rcv h b 10 = true then (if x_wt st ≤ 8 ∧ x_wt [.ref b, a1] = 2 then q_cl (x_m 815 [.ref b, a1] h) (fun v h' => x_run 874 25 ls (v.toList ++ st) h') else none) else none := xe_virt (r := [a1]) ec874 dX8_wires_22 ek8_93 rfl (by decide +kernel) (by decide +kernel)
theorem e874_25 {ls st : List Value} {h : x_H} {x : Int32}: x_run 874 25 ls (.int x :: st) h = if ¬ x = 0 then x_run 874 32 ls st h else x_run 874 28 ls st h := xe_if_ne ec874 dX8_wires_25 rfl
theorem e874_28 {ls st : List Value} {h : x_H} : x_run 874 28 ls st h = x_run 874 29 ls (.int (q_i 1) :: st) h := xe_iconst ec874 dX8_wires_28
theorem e874_29 {ls st : List Value} {h : x_H} : x_run 874 29 ls st h = x_run 874 33 ls st h := xe_goto ec874 dX8_wires_29 rfl
theorem e874_32 {ls st : List Value} {h : x_H} : x_run 874 32 ls st h = x_run 874 33 ls (.int (q_i 0) :: st) h := xe_iconst ec874 dX8_wires_32
theorem e874_33 {ls st : List Value} {h : x_H} {x y : Int32}: x_run 874 33 ls (.int y :: .int x :: st) h = x_run 874 34 ls (.int (x + y) :: st) h := xe_iadd ec874 dX8_wires_33
theorem e874_34 {ls st : List Value} {h : x_H} {x : Int32}: x_run 874 34 ls (.int x :: st) h = q_ls ls 1 (.int x) (fun ls' => x_run 874 35 ls' st h) := xe_istore_n ec874 dX8_wires_34
theorem e874_35 {ls st : List Value} {h : x_H} : x_run 874 35 ls st h = q_gi ls 2 (fun v => if x_nd ls 2 = true then x_run 874 38 (ls.set 2 (.int (v + q_i 1))) st h else none) := xe_iinc ec874 dX8_wires_35
theorem e874_38 {ls st : List Value} {h : x_H} : x_run 874 38 ls st h = x_run 874 4 ls st h := xe_goto ec874 dX8_wires_38 rfl
theorem e874_41 {ls st : List Value} {h : x_H} : x_run 874 41 ls st h = q_gi ls 1 (fun v => x_run 874 42 ls (.int v :: st) h) := xe_iload_n ec874 dX8_wires_41
theorem e874_42 {ls : List Value} {h : x_H} {x : Int32} : x_run 874 42 ls [.int x] h = if narrow .int (.int x) = .int x then some (.inl (some (.int x)), h) else none := xe_ireturn ec874 dX8_wires_42 rfl
theorem ec875 : x_code 875 = cX8_meanCost := rfl
theorem e875_0 {ls st : List Value} {h : x_H} : x_run 875 0 ls st h = q_gr ls 0 (fun v => x_run 875 1 ls (.ref v :: st) h) := xe_aload_n ec875 dX8_meanCost_0
theorem e875_1 {ls st : List Value} {h : x_H} : x_run 875 1 ls st h = q_gr ls 0 (fun v => x_run 875 2 ls (.ref v :: st) h) := xe_aload_n ec875 dX8_meanCost_1
theorem e875_2 {ls st : List Value} {h : x_H} : x_run 875 2 ls st h = x_run 875 4 ls (.int (q_i 6) :: st) h := xe_bipush ec875 dX8_meanCost_2 (by decide)
theorem e875_4 {ls st : List Value} {h : x_H} {b : Nat} {a1 : Value}: x_run 875 4 ls (a1 :: .ref b :: st) h = if q_rcv h b 10 = true then (if x_wt st ≤ 8 ∧ x_wt [.ref b, a1] = 2 then q_cl (x_m 872 [.ref b, a1] h) (fun v h' => x_run 875 7 ls (v.toList ++ st) h') else none) else none := xe_virt (r := [a1]) ec875 dX8_meanCost_4 ek8_241 rfl (by decide +kernel) (by decide +kernel)
theorem e875_7 {ls st : List Value} {h : x_H} {x : Int32}: x_run 875 7 ls (.int x :: st) h = if ¬ x = 0 then x_run 875 14 ls st h else x_run 875 10 ls st h := xe_if_ne ec875 dX8_meanCost_7 rfl
theorem e875_10 {ls st : List Value} {h : x_H} : x_run 875 10 ls st h = x_run 875 11 ls (.int (q_i 1) :: st) h := xe_iconst ec875 dX8_meanCost_10
theorem e875_11 {ls st : List Value} {h : x_H} : x_run 875 11 ls st h = x_run 875 15 ls st h := xe_goto ec875 dX8_meanCost_11 rfl
theorem e875_14 {ls st : List Value} {h : x_H} : x_run 875 14 ls st h = x_run 875 15 ls (.int (q_i 0) :: st) h := xe_iconst ec875 dX8_meanCost_14
theorem e875_15 {ls st : List Value} {h : x_H} {b : Nat} {a1 : Value}: x_run 875 15 ls (a1 :: .ref b :: st) h = if q_rcv h b 10 = true then (if x_wt st ≤ 8 ∧ x_wt [.ref b, a1] = 2 then q_cl (x_m 802 [.ref b, a1] h) (fun v h' => x_run 875 18 ls (v.toList ++ st) h') else none) else none := xe_virt (r := [a1]) ec875 dX8_meanCost_15 ek8_183 rfl (by decide +kernel) (by decide +kernel)
theorem e875_18 {ls st : List Value} {h : x_H} {x : Int32}: x_run 875 18 ls (.int x :: st) h = if x = 0 then x_run 875 25 ls st h else x_run 875 21 ls st h := xe_if_eq ec875 dX8_meanCost_18 rfl
theorem e875_21 {ls st : List Value} {h : x_H} : x_run 875 21 ls st h = x_run 875 22 ls (.float FP.fconst0 :: st) h := xe_fconst ec875 dX8_meanCost_21
theorem e875_22 {ls st : List Value} {h : x_H} : x_run 875 22 ls st h = x_run 875 40 ls st h := xe_goto ec875 dX8_meanCost_22 rfl
theorem e875_25 {ls st : List Value} {h : x_H} : x_run 875 25 ls st h = q_gr ls 0 (fun v => x_run 875 26 ls (.ref v :: st) h) := xe_aload_n ec875 dX8_meanCost_25
theorem e875_26 {ls st : List Value} {h : x_H} : x_run 875 26 ls st h = x_run 875 28 ls (.int (q_i 7) :: st) h := xe_bipush ec875 dX8_meanCost_26 (by decide)
theorem e875_28 {ls st : List Value} {h : x_H} {b : Nat} {a1 : Value}: x_run 875 28 ls (a1 :: .ref b :: st) h = if q_rcv h b 10 = true then (if x_wt st ≤ 8 ∧ x_wt [.ref b, a1] = 2 then q_cl (x_m 872 [.ref b, a1] h) (fun v h' => x_run 875 31 ls (v.toList ++ st) h') else none) else none := xe_virt (r := [a1]) ec875 dX8_meanCost_28 ek8_241 rfl (by decide +kernel) (by decide +kernel)
theorem e875_31 {ls st : List Value} {h : x_H} {x : Int32}: x_run 875 31 ls (.int x :: st) h = x_run 875 32 ls (.float (FP.i2f x) :: st) h := xe_i2f ec875 dX8_meanCost_31
theorem e875_32 {ls st : List Value} {h : x_H} : x_run 875 32 ls st h = q_gr ls 0 (fun v => x_run 875 33 ls (.ref v :: st) h) := xe_aload_n ec875 dX8_meanCost_32
theorem e875_33 {ls st : List Value} {h : x_H} : x_run 875 33 ls st h = x_run 875 35 ls (.int (q_i 6) :: st) h := xe_bipush ec875 dX8_meanCost_33 (by decide)
theorem e875_35 {ls st : List Value} {h : x_H} {b : Nat} {a1 : Value}: x_run 875 35 ls (a1 :: .ref b :: st) h = if q_rcv h b 10 = true then (if x_wt st ≤ 8 ∧ x_wt [.ref b, a1] = 2 then q_cl (x_m 872 [.ref b, a1] h) (fun v h' => x_run 875 38 ls (v.toList ++ st) h') else none) else none := xe_virt (r := [a1]) ec875 dX8_meanCost_35 ek8_241 rfl (by decide +kernel) (by decide +kernel)
theorem e875_38 {ls st : List Value} {h : x_H} {x : Int32}: x_run 875 38 ls (.int x :: st) h = x_run 875 39 ls (.float (FP.i2f x) :: st) h := xe_i2f ec875 dX8_meanCost_38
theorem e875_39 {ls st : List Value} {h : x_H} {v w : UInt32}: x_run 875 39 ls (.float v :: .float w :: st) h = if FP.fdiv w v &&& 0x7fffffff ≤ 0x7f800000 then x_run 875 40 ls (.float (FP.fdiv w v) :: st) h else none := xe_fdiv ec875 dX8_meanCost_39
theorem e875_40 {ls : List Value} {h : x_H} {u : UInt32} : x_run 875 40 ls [.float u] h = some (.inl (some (.float u)), h) := xe_freturn ec875 dX8_meanCost_40 rfl
theorem ec876 : x_code 876 = cX8_filledShare := rfl
theorem e876_0 {ls st : List Value} {h : x_H} : x_run 876 0 ls st h = q_gr ls 0 (fun v => x_run 876 1 ls (.ref v :: st) h) := xe_aload_n ec876 dX8_filledShare_0
theorem e876_1 {ls st : List Value} {h : x_H} : x_run 876 1 ls st h = x_run 876 2 ls (.int (q_i 0) :: st) h := xe_iconst ec876 dX8_filledShare_1
theorem e876_2 {ls st : List Value} {h : x_H} {v : Value} {a : Nat}: x_run 876 2 ls (v :: .ref a :: st) h = if x_fit (x_ty 10 7) v = true then q_pf h a 10 7 v (fun h' => x_run 876 5 ls st h') else none := xe_putfield ec876 dX8_filledShare_2 ef8_45 (by decide +kernel)
theorem e876_5 {ls st : List Value} {h : x_H} : x_run 876 5 ls st h = x_run 876 7 ls (.int (q_i 96) :: st) h := xe_bipush ec876 dX8_filledShare_5 (by decide)
theorem e876_7 {ls st : List Value} {h : x_H} : x_run 876 7 ls st h = q_gr ls 0 (fun v => x_run 876 8 ls (.ref v :: st) h) := xe_aload_n ec876 dX8_filledShare_7
theorem e876_8 {ls st : List Value} {h : x_H} {b : Nat}: x_run 876 8 ls (.ref b :: st) h = if q_rcv h b 10 = true then (if x_wt st ≤ 8 ∧ x_wt [.ref b] = 1 then q_cl (x_m 873 [.ref b] h) (fun v h' => x_run 876 11 ls (v.toList ++ st) h') else none) else none := xe_virt (r := []) ec876 dX8_filledShare_8 ek8_244 rfl (by decide +kernel) (by decide +kernel)
theorem e876_11 {ls st : List Value} {h : x_H} {x y : Int32}: x_run 876 11 ls (.int y :: .int x :: st) h = x_run 876 12 ls (.int (x - y) :: st) h := xe_isub ec876 dX8_filledShare_11
theorem e876_12 {ls st : List Value} {h : x_H} {x : Int32}: x_run 876 12 ls (.int x :: st) h = x_run 876 13 ls (.double (FP.i2d x) :: st) h := xe_i2d ec876 dX8_filledShare_12
theorem e876_13 {ls st : List Value} {h : x_H} : x_run 876 13 ls st h = x_run 876 16 ls (.double 4636455816377925632 :: st) h := xe_ldc2 ec876 dX8_filledShare_13 (by decide +kernel)
theorem e876_16 {ls st : List Value} {h : x_H} {v w : UInt64}: x_run 876 16 ls (.double v :: .double w :: st) h = if FP.ddiv w v &&& 0x7fffffffffffffff ≤ 0x7ff0000000000000 then x_run 876 17 ls (.double (FP.ddiv w v) :: st) h else none := xe_ddiv ec876 dX8_filledShare_16
theorem e876_17 {ls : List Value} {h : x_H} {u : UInt64} : x_run 876 17 ls [.double u] h = some (.inl (some (.double u)), h) := xe_dreturn ec876 dX8_filledShare_17 rfl
theorem ec877 : x_code 877 = cX8_account := rfl
theorem e877_0 {ls st : List Value} {h : x_H} : x_run 877 0 ls st h = q_gr ls 0 (fun v => x_run 877 1 ls (.ref v :: st) h) := xe_aload_n ec877 dX8_account_0
theorem e877_1 {ls st : List Value} {h : x_H} : x_run 877 1 ls st h = q_gi ls 1 (fun v => x_run 877 2 ls (.int v :: st) h) := xe_iload_n ec877 dX8_account_1
theorem e877_2 {ls st : List Value} {h : x_H} : x_run 877 2 ls st h = x_run 877 3 ls (.int (q_i 0) :: st) h := xe_iconst ec877 dX8_account_2
theorem e877_3 {ls st : List Value} {h : x_H} : x_run 877 3 ls st h = x_run 877 5 ls (.int (q_i 9) :: st) h := xe_bipush ec877 dX8_account_3 (by decide)
theorem e877_5 {ls st : List Value} {h : x_H} {a1 a2 a3 : Value}: x_run 877 5 ls (a3 :: a2 :: a1 :: st) h = if x_wt st ≤ 8 ∧ x_wt [a1, a2, a3] = 3 then q_cl (x_m 804 [a1, a2, a3] h) (fun v h' => x_run 877 8 ls (v.toList ++ st) h') else none := xe_stat (args := [a1, a2, a3]) ec877 dX8_account_5 ek8_68 (by decide) rfl (by decide +kernel) (by decide +kernel)
theorem e877_8 {ls st : List Value} {h : x_H} {x : Int32}: x_run 877 8 ls (.int x :: st) h = if x = 0 then x_run 877 15 ls st h else x_run 877 11 ls st h := xe_if_eq ec877 dX8_account_8 rfl
theorem e877_11 {ls st : List Value} {h : x_H} : x_run 877 11 ls st h = x_run 877 12 ls (.int (q_i 0) :: st) h := xe_iconst ec877 dX8_account_11
theorem e877_12 {ls st : List Value} {h : x_H} : x_run 877 12 ls st h = x_run 877 16 ls st h := xe_goto ec877 dX8_account_12 rfl
theorem e877_15 {ls st : List Value} {h : x_H} : x_run 877 15 ls st h = x_run 877 16 ls (.int (q_i 1) :: st) h := xe_iconst ec877 dX8_account_15
theorem e877_16 {ls st : List Value} {h : x_H} {b : Nat} {a1 : Value}: x_run 877 16 ls (a1 :: .ref b :: st) h = if q_rcv h b 10 = true then (if x_wt st ≤ 8 ∧ x_wt [.ref b, a1] = 2 then q_cl (x_m 802 [.ref b, a1] h) (fun v h' => x_run 877 19 ls (v.toList ++ st) h') else none) else none := xe_virt (r := [a1]) ec877 dX8_account_16 ek8_183 rfl (by decide +kernel) (by decide +kernel)
theorem e877_19 {ls st : List Value} {h : x_H} {x : Int32}: x_run 877 19 ls (.int x :: st) h = if x = 0 then x_run 877 24 ls st h else x_run 877 22 ls st h := xe_if_eq ec877 dX8_account_19 rfl
theorem e877_22 {ls st : List Value} {h : x_H} : x_run 877 22 ls st h = x_run 877 23 ls (.int (q_i 0) :: st) h := xe_iconst ec877 dX8_account_22
theorem e877_23 {ls : List Value} {h : x_H} {x : Int32} : x_run 877 23 ls [.int x] h = if narrow .int (.int x) = .int x then some (.inl (some (.int x)), h) else none := xe_ireturn ec877 dX8_account_23 rfl
theorem e877_24 {ls st : List Value} {h : x_H} : x_run 877 24 ls st h = q_gi ls 1 (fun v => x_run 877 25 ls (.int v :: st) h) := xe_iload_n ec877 dX8_account_24
theorem e877_25 {ls st : List Value} {h : x_H} {x : Int32}: x_run 877 25 ls (.int x :: st) h = q_so 25 (x_tsw 105 0 8 #[51, 58, 65, 71, 76, 81, 86, 93, 100] x) (fun t => x_run 877 t ls st h) := xe_tsw ec877 dX8_account_25
theorem e877_76 {ls st : List Value} {h : x_H} : x_run 877 76 ls st h = q_gr ls 0 (fun v => x_run 877 77 ls (.ref v :: st) h) := xe_aload_n ec877 dX8_account_76
theorem e877_77 {ls st : List Value} {h : x_H} {a : Nat}: x_run 877 77 ls (.ref a :: st) h = q_gf h a 10 0 (fun v => x_run 877 80 ls (v :: st) h) := xe_getfield ec877 dX8_account_77 ef8_7
theorem e877_80 {ls st : List Value} {h : x_H} : x_run 877 80 ls st h = x_run 877 81 ls (.int (q_i 0) :: st) h := xe_iconst ec877 dX8_account_80
theorem e877_81 {ls st : List Value} {h : x_H} {x : Int32} {a : Nat}: x_run 877 81 ls (.int x :: .ref a :: st) h = q_ra h a 0 x (fun v => x_run 877 82 ls (.int v :: st) h) := xe_iaload ec877 dX8_account_81
theorem e877_82 {ls : List Value} {h : x_H} {x : Int32} : x_run 877 82 ls [.int x] h = if narrow .int (.int x) = .int x then some (.inl (some (.int x)), h) else none := xe_ireturn ec877 dX8_account_82 rfl
theorem e877_83 {ls st : List Value} {h : x_H} : x_run 877 83 ls st h = q_gr ls 0 (fun v => x_run 877 84 ls (.ref v :: st) h) := xe_aload_n ec877 dX8_account_83
theorem e877_84 {ls st : List Value} {h : x_H} : x_run 877 84 ls st h = x_run 877 86 ls (.int (q_i 6) :: st) h := xe_bipush ec877 dX8_account_84 (by decide)
theorem e877_86 {ls st : List Value} {h : x_H} {b : Nat} {a1 : Value}: x_run 877 86 ls (a1 :: .ref b :: st) h = if q_rcv h b 10 = true then (if x_wt st ≤ 8 ∧ x_wt [.ref b, a1] = 2 then q_cl (x_m 872 [.ref b, a1] h) (fun v h' => x_run 877 89 ls (v.toList ++ st) h') else none) else none := xe_virt (r := [a1]) ec877 dX8_account_86 ek8_241 rfl (by decide +kernel) (by decide +kernel)
theorem e877_89 {ls : List Value} {h : x_H} {x : Int32} : x_run 877 89 ls [.int x] h = if narrow .int (.int x) = .int x then some (.inl (some (.int x)), h) else none := xe_ireturn ec877 dX8_account_89 rfl
theorem e877_90 {ls st : List Value} {h : x_H} : x_run 877 90 ls st h = q_gr ls 0 (fun v => x_run 877 91 ls (.ref v :: st) h) := xe_aload_n ec877 dX8_account_90
theorem e877_91 {ls st : List Value} {h : x_H} : x_run 877 91 ls st h = x_run 877 92 ls (.int (q_i 1) :: st) h := xe_iconst ec877 dX8_account_91
theorem e877_92 {ls st : List Value} {h : x_H} {b : Nat} {a1 : Value}: x_run 877 92 ls (a1 :: .ref b :: st) h = if q_rcv h b 10 = true then (if x_wt st ≤ 8 ∧ x_wt [.ref b, a1] = 2 then q_cl (x_m 872 [.ref b, a1] h) (fun v h' => x_run 877 95 ls (v.toList ++ st) h') else none) else none := xe_virt (r := [a1]) ec877 dX8_account_92 ek8_241 rfl (by decide +kernel) (by decide +kernel)
theorem e877_95 {ls : List Value} {h : x_H} {x : Int32} : x_run 877 95 ls [.int x] h = if narrow .int (.int x) = .int x then some (.inl (some (.int x)), h) else none := xe_ireturn ec877 dX8_account_95 rfl
theorem e877_96 {ls st : List Value} {h : x_H} : x_run 877 96 ls st h = q_gr ls 0 (fun v => x_run 877 97 ls (.ref v :: st) h) := xe_aload_n ec877 dX8_account_96
theorem e877_97 {ls st : List Value} {h : x_H} {b : Nat}: x_run 877 97 ls (.ref b :: st) h = if q_rcv h b 10 = true then (if x_wt st ≤ 8 ∧ x_wt [.ref b] = 1 then q_cl (x_m 822 [.ref b] h) (fun v h' => x_run 877 100 ls (v.toList ++ st) h') else none) else none := xe_virt (r := []) ec877 dX8_account_97 ek8_122 rfl (by decide +kernel) (by decide +kernel)
theorem e877_100 {ls : List Value} {h : x_H} {x : Int32} : x_run 877 100 ls [.int x] h = if narrow .int (.int x) = .int x then some (.inl (some (.int x)), h) else none := xe_ireturn ec877 dX8_account_100 rfl
theorem e877_101 {ls st : List Value} {h : x_H} : x_run 877 101 ls st h = q_gr ls 0 (fun v => x_run 877 102 ls (.ref v :: st) h) := xe_aload_n ec877 dX8_account_101
theorem e877_102 {ls st : List Value} {h : x_H} {b : Nat}: x_run 877 102 ls (.ref b :: st) h = if q_rcv h b 10 = true then (if x_wt st ≤ 8 ∧ x_wt [.ref b] = 1 then q_cl (x_m 873 [.ref b] h) (fun v h' => x_run 877 105 ls (v.toList ++ st) h') else none) else none := xe_virt (r := []) ec877 dX8_account_102 ek8_244 rfl (by decide +kernel) (by decide +kernel)
theorem e877_105 {ls : List Value} {h : x_H} {x : Int32} : x_run 877 105 ls [.int x] h = if narrow .int (.int x) = .int x then some (.inl (some (.int x)), h) else none := xe_ireturn ec877 dX8_account_105 rfl
theorem e877_106 {ls st : List Value} {h : x_H} : x_run 877 106 ls st h = q_gr ls 0 (fun v => x_run 877 107 ls (.ref v :: st) h) := xe_aload_n ec877 dX8_account_106
theorem e877_107 {ls st : List Value} {h : x_H} {b : Nat}: x_run 877 107 ls (.ref b :: st) h = if q_rcv h b 10 = true then (if x_wt st ≤ 8 ∧ x_wt [.ref b] = 1 then q_cl (x_m 874 [.ref b] h) (fun v h' => x_run 877 110 ls (v.toList ++ st) h') else none) else none := xe_virt (r := []) ec877 dX8_account_107 ek8_249 rfl (by decide +kernel) (by decide +kernel)
theorem e877_110 {ls : List Value} {h : x_H} {x : Int32} : x_run 877 110 ls [.int x] h = if narrow .int (.int x) = .int x then some (.inl (some (.int x)), h) else none := xe_ireturn ec877 dX8_account_110 rfl
theorem e877_111 {ls st : List Value} {h : x_H} : x_run 877 111 ls st h = q_gr ls 0 (fun v => x_run 877 112 ls (.ref v :: st) h) := xe_aload_n ec877 dX8_account_111
theorem e877_112 {ls st : List Value} {h : x_H} : x_run 877 112 ls st h = x_run 877 114 ls (.int (q_i 7) :: st) h := xe_bipush ec877 dX8_account_112 (by decide)
theorem e877_114 {ls st : List Value} {h : x_H} {b : Nat} {a1 : Value}: x_run 877 114 ls (a1 :: .ref b :: st) h = if q_rcv h b 10 = true then (if x_wt st ≤ 8 ∧ x_wt [.ref b, a1] = 2 then q_cl (x_m 872 [.ref b, a1] h) (fun v h' => x_run 877 117 ls (v.toList ++ st) h') else none) else none := xe_virt (r := [a1]) ec877 dX8_account_114 ek8_241 rfl (by decide +kernel) (by decide +kernel)
theorem e877_117 {ls : List Value} {h : x_H} {x : Int32} : x_run 877 117 ls [.int x] h = if narrow .int (.int x) = .int x then some (.inl (some (.int x)), h) else none := xe_ireturn ec877 dX8_account_117 rfl
theorem e877_118 {ls st : List Value} {h : x_H} : x_run 877 118 ls st h = q_gr ls 0 (fun v => x_run 877 119 ls (.ref v :: st) h) := xe_aload_n ec877 dX8_account_118
theorem e877_119 {ls st : List Value} {h : x_H} : x_run 877 119 ls st h = x_run 877 121 ls (.int (q_i 8) :: st) h := xe_bipush ec877 dX8_account_119 (by decide)
theorem e877_121 {ls st : List Value} {h : x_H} {b : Nat} {a1 : Value}: x_run 877 121 ls (a1 :: .ref b :: st) h = if q_rcv h b 10 = true then (if x_wt st ≤ 8 ∧ x_wt [.ref b, a1] = 2 then q_cl (x_m 872 [.ref b, a1] h) (fun v h' => x_run 877 124 ls (v.toList ++ st) h') else none) else none := xe_virt (r := [a1]) ec877 dX8_account_121 ek8_241 rfl (by decide +kernel) (by decide +kernel)
theorem e877_124 {ls : List Value} {h : x_H} {x : Int32} : x_run 877 124 ls [.int x] h = if narrow .int (.int x) = .int x then some (.inl (some (.int x)), h) else none := xe_ireturn ec877 dX8_account_124 rfl
theorem e877_125 {ls st : List Value} {h : x_H} : x_run 877 125 ls st h = q_gr ls 0 (fun v => x_run 877 126 ls (.ref v :: st) h) := xe_aload_n ec877 dX8_account_125
theorem e877_126 {ls st : List Value} {h : x_H} {a : Nat}: x_run 877 126 ls (.ref a :: st) h = q_gf h a 10 5 (fun v => x_run 877 129 ls (v :: st) h) := xe_getfield ec877 dX8_account_126 ef8_61
theorem e877_129 {ls : List Value} {h : x_H} {x : Int32} : x_run 877 129 ls [.int x] h = if narrow .int (.int x) = .int x then some (.inl (some (.int x)), h) else none := xe_ireturn ec877 dX8_account_129 rfl
theorem e877_130 {ls st : List Value} {h : x_H} : x_run 877 130 ls st h = q_gr ls 0 (fun v => x_run 877 131 ls (.ref v :: st) h) := xe_aload_n ec877 dX8_account_130
theorem e877_131 {ls st : List Value} {h : x_H} {a : Nat}: x_run 877 131 ls (.ref a :: st) h = q_gf h a 10 12 (fun v => x_run 877 134 ls (v :: st) h) := xe_getfield ec877 dX8_account_131 ef8_192
theorem e877_134 {ls : List Value} {h : x_H} {x : Int32} : x_run 877 134 ls [.int x] h = if narrow .int (.int x) = .int x then some (.inl (some (.int x)), h) else none := xe_ireturn ec877 dX8_account_134 rfl
theorem ec878 : x_code 878 = cX8_undo := rfl
theorem e878_0 {ls st : List Value} {h : x_H} : x_run 878 0 ls st h = q_gr ls 0 (fun v => x_run 878 1 ls (.ref v :: st) h) := xe_aload_n ec878 dX8_undo_0
theorem e878_1 {ls st : List Value} {h : x_H} : x_run 878 1 ls st h = q_gr ls 0 (fun v => x_run 878 2 ls (.ref v :: st) h) := xe_aload_n ec878 dX8_undo_1
theorem e878_2 {ls st : List Value} {h : x_H} {a : Nat}: x_run 878 2 ls (.ref a :: st) h = q_gf h a 10 5 (fun v => x_run 878 5 ls (v :: st) h) := xe_getfield ec878 dX8_undo_2 ef8_61
theorem e878_5 {ls st : List Value} {h : x_H} {x : Int32}: x_run 878 5 ls (.int x :: st) h = if ¬ x = 0 then x_run 878 12 ls st h else x_run 878 8 ls st h := xe_if_ne ec878 dX8_undo_5 rfl
theorem e878_8 {ls st : List Value} {h : x_H} : x_run 878 8 ls st h = x_run 878 9 ls (.int (q_i 1) :: st) h := xe_iconst ec878 dX8_undo_8
theorem e878_9 {ls st : List Value} {h : x_H} : x_run 878 9 ls st h = x_run 878 13 ls st h := xe_goto ec878 dX8_undo_9 rfl
theorem e878_12 {ls st : List Value} {h : x_H} : x_run 878 12 ls st h = x_run 878 13 ls (.int (q_i 0) :: st) h := xe_iconst ec878 dX8_undo_12
theorem e878_13 {ls st : List Value} {h : x_H} {b : Nat} {a1 : Value}: x_run 878 13 ls (a1 :: .ref b :: st) h = if q_rcv h b 10 = true then (if x_wt st ≤ 8 ∧ x_wt [.ref b, a1] = 2 then q_cl (x_m 802 [.ref b, a1] h) (fun v h' => x_run 878 16 ls (v.toList ++ st) h') else none) else none := xe_virt (r := [a1]) ec878 dX8_undo_13 ek8_183 rfl (by decide +kernel) (by decide +kernel)
theorem e878_16 {ls st : List Value} {h : x_H} {x : Int32}: x_run 878 16 ls (.int x :: st) h = if x = 0 then x_run 878 21 ls st h else x_run 878 19 ls st h := xe_if_eq ec878 dX8_undo_16 rfl
theorem e878_19 {ls st : List Value} {h : x_H} : x_run 878 19 ls st h = x_run 878 20 ls (.int (q_i 0) :: st) h := xe_iconst ec878 dX8_undo_19
theorem e878_20 {ls : List Value} {h : x_H} {x : Int32} : x_run 878 20 ls [.int x] h = if narrow .int (.int x) = .int x then some (.inl (some (.int x)), h) else none := xe_ireturn ec878 dX8_undo_20 rfl
theorem e878_21 {ls st : List Value} {h : x_H} : x_run 878 21 ls st h = q_gr ls 0 (fun v => x_run 878 22 ls (.ref v :: st) h) := xe_aload_n ec878 dX8_undo_21
theorem e878_22 {ls st : List Value} {h : x_H} {v : Value} (hv : v.category = 1): x_run 878 22 ls (v :: st) h = x_run 878 23 ls (v :: v :: st) h := xe_dup ec878 dX8_undo_22 hv
theorem e878_23 {ls st : List Value} {h : x_H} {a : Nat}: x_run 878 23 ls (.ref a :: st) h = q_gf h a 10 5 (fun v => x_run 878 26 ls (v :: st) h) := xe_getfield ec878 dX8_undo_23 ef8_61
theorem e878_26 {ls st : List Value} {h : x_H} : x_run 878 26 ls st h = x_run 878 27 ls (.int (q_i 1) :: st) h := xe_iconst ec878 dX8_undo_26
theorem e878_27 {ls st : List Value} {h : x_H} {x y : Int32}: x_run 878 27 ls (.int y :: .int x :: st) h = x_run 878 28 ls (.int (x - y) :: st) h := xe_isub ec878 dX8_undo_27
theorem e878_28 {ls st : List Value} {h : x_H} {v : Value} {a : Nat}: x_run 878 28 ls (v :: .ref a :: st) h = if x_fit (x_ty 10 5) v = true then q_pf h a 10 5 v (fun h' => x_run 878 31 ls st h') else none := xe_putfield ec878 dX8_undo_28 ef8_61 (by decide +kernel)
theorem e878_31 {ls st : List Value} {h : x_H} : x_run 878 31 ls st h = q_gr ls 0 (fun v => x_run 878 32 ls (.ref v :: st) h) := xe_aload_n ec878 dX8_undo_31
theorem e878_32 {ls st : List Value} {h : x_H} {a : Nat}: x_run 878 32 ls (.ref a :: st) h = q_gf h a 10 1 (fun v => x_run 878 35 ls (v :: st) h) := xe_getfield ec878 dX8_undo_32 ef8_13
theorem e878_35 {ls st : List Value} {h : x_H} : x_run 878 35 ls st h = x_run 878 38 ls (.int (q_i 199) :: st) h := xe_sipush ec878 dX8_undo_35 (by decide)
theorem e878_38 {ls st : List Value} {h : x_H} : x_run 878 38 ls st h = q_gr ls 0 (fun v => x_run 878 39 ls (.ref v :: st) h) := xe_aload_n ec878 dX8_undo_38
theorem e878_39 {ls st : List Value} {h : x_H} {a : Nat}: x_run 878 39 ls (.ref a :: st) h = q_gf h a 10 5 (fun v => x_run 878 42 ls (v :: st) h) := xe_getfield ec878 dX8_undo_39 ef8_61
theorem e878_42 {ls st : List Value} {h : x_H} {x y : Int32}: x_run 878 42 ls (.int y :: .int x :: st) h = x_run 878 43 ls (.int (x * y) :: st) h := xe_imul ec878 dX8_undo_42
theorem e878_43 {ls st : List Value} {h : x_H} : x_run 878 43 ls st h = q_gr ls 0 (fun v => x_run 878 44 ls (.ref v :: st) h) := xe_aload_n ec878 dX8_undo_43
theorem e878_44 {ls st : List Value} {h : x_H} {a : Nat}: x_run 878 44 ls (.ref a :: st) h = q_gf h a 10 0 (fun v => x_run 878 47 ls (v :: st) h) := xe_getfield ec878 dX8_undo_44 ef8_7
theorem e878_47 {ls st : List Value} {h : x_H} : x_run 878 47 ls st h = x_run 878 48 ls (.int (q_i 0) :: st) h := xe_iconst ec878 dX8_undo_47
theorem e878_48 {ls st : List Value} {h : x_H} {a1 a2 a3 a4 : Value}: x_run 878 48 ls (a4 :: a3 :: a2 :: a1 :: st) h = if x_wt st ≤ 8 ∧ x_wt [a1, a2, a3, a4] = 4 then q_cl (x_m 805 [a1, a2, a3, a4] h) (fun v h' => x_run 878 51 ls (v.toList ++ st) h') else none := xe_stat (args := [a1, a2, a3, a4]) ec878 dX8_undo_48 ek8_64 (by decide) rfl (by decide +kernel) (by decide +kernel)
theorem e878_51 {ls st : List Value} {h : x_H} : x_run 878 51 ls st h = q_gr ls 0 (fun v => x_run 878 52 ls (.ref v :: st) h) := xe_aload_n ec878 dX8_undo_51
theorem e878_52 {ls st : List Value} {h : x_H} {a : Nat}: x_run 878 52 ls (.ref a :: st) h = q_gf h a 10 5 (fun v => x_run 878 55 ls (v :: st) h) := xe_getfield ec878 dX8_undo_52 ef8_61
theorem e878_55 {ls : List Value} {h : x_H} {x : Int32} : x_run 878 55 ls [.int x] h = if narrow .int (.int x) = .int x then some (.inl (some (.int x)), h) else none := xe_ireturn ec878 dX8_undo_55 rfl
theorem ec879 : x_code 879 = cX8_save := rfl
theorem e879_0 {ls st : List Value} {h : x_H} : x_run 879 0 ls st h = q_gr ls 0 (fun v => x_run 879 1 ls (.ref v :: st) h) := xe_aload_n ec879 dX8_save_0
theorem e879_1 {ls st : List Value} {h : x_H} : x_run 879 1 ls st h = x_run 879 2 ls (.int (q_i 0) :: st) h := xe_iconst ec879 dX8_save_1
theorem e879_2 {ls st : List Value} {h : x_H} {v : Value} {a : Nat}: x_run 879 2 ls (v :: .ref a :: st) h = if x_fit (x_ty 10 7) v = true then q_pf h a 10 7 v (fun h' => x_run 879 5 ls st h') else none := xe_putfield ec879 dX8_save_2 ef8_45 (by decide +kernel)
theorem e879_5 {ls st : List Value} {h : x_H} : x_run 879 5 ls st h = q_gr ls 0 (fun v => x_run 879 6 ls (.ref v :: st) h) := xe_aload_n ec879 dX8_save_5
theorem e879_6 {ls st : List Value} {h : x_H} : x_run 879 6 ls st h = x_run 879 7 ls (.int (q_i 1) :: st) h := xe_iconst ec879 dX8_save_6
theorem e879_7 {ls st : List Value} {h : x_H} {v : Value} {a : Nat}: x_run 879 7 ls (v :: .ref a :: st) h = if x_fit (x_ty 10 4) v = true then q_pf h a 10 4 v (fun h' => x_run 879 10 ls st h') else none := xe_putfield ec879 dX8_save_7 ef8_252 (by decide +kernel)
theorem e879_10 {ls st : List Value} {h : x_H} : x_run 879 10 ls st h = q_gr ls 0 (fun v => x_run 879 11 ls (.ref v :: st) h) := xe_aload_n ec879 dX8_save_10
theorem e879_11 {ls st : List Value} {h : x_H} {a : Nat}: x_run 879 11 ls (.ref a :: st) h = q_gf h a 10 0 (fun v => x_run 879 14 ls (v :: st) h) := xe_getfield ec879 dX8_save_11 ef8_7
theorem e879_14 {ls st : List Value} {h : x_H} : x_run 879 14 ls st h = x_run 879 15 ls (.int (q_i 0) :: st) h := xe_iconst ec879 dX8_save_14
theorem e879_15 {ls st : List Value} {h : x_H} : x_run 879 15 ls st h = q_gr ls 0 (fun v => x_run 879 16 ls (.ref v :: st) h) := xe_aload_n ec879 dX8_save_15
theorem e879_16 {ls st : List Value} {h : x_H} {a : Nat}: x_run 879 16 ls (.ref a :: st) h = q_gf h a 10 2 (fun v => x_run 879 19 ls (v :: st) h) := xe_getfield ec879 dX8_save_16 ef8_16
theorem e879_19 {ls st : List Value} {h : x_H} : x_run 879 19 ls st h = x_run 879 20 ls (.int (q_i 0) :: st) h := xe_iconst ec879 dX8_save_19
theorem e879_20 {ls st : List Value} {h : x_H} {a1 a2 a3 a4 : Value}: x_run 879 20 ls (a4 :: a3 :: a2 :: a1 :: st) h = if x_wt st ≤ 8 ∧ x_wt [a1, a2, a3, a4] = 4 then q_cl (x_m 805 [a1, a2, a3, a4] h) (fun v h' => x_run 879 23 ls (v.toList ++ st) h') else none := xe_stat (args := [a1, a2, a3, a4]) ec879 dX8_save_20 ek8_64 (by decide) rfl (by decide +kernel) (by decide +kernel)
theorem e879_23 {ls st : List Value} {h : x_H} : x_run 879 23 ls st h = q_gr ls 0 (fun v => x_run 879 24 ls (.ref v :: st) h) := xe_aload_n ec879 dX8_save_23
theorem e879_24 {ls st : List Value} {h : x_H} {a : Nat}: x_run 879 24 ls (.ref a :: st) h = q_gf h a 10 0 (fun v => x_run 879 27 ls (v :: st) h) := xe_getfield ec879 dX8_save_24 ef8_7
theorem e879_27 {ls st : List Value} {h : x_H} : x_run 879 27 ls st h = x_run 879 28 ls (.int (q_i 0) :: st) h := xe_iconst ec879 dX8_save_27
theorem e879_28 {ls st : List Value} {h : x_H} {x : Int32} {a : Nat}: x_run 879 28 ls (.int x :: .ref a :: st) h = q_ra h a 0 x (fun v => x_run 879 29 ls (.int v :: st) h) := xe_iaload ec879 dX8_save_28
theorem e879_29 {ls : List Value} {h : x_H} {x : Int32} : x_run 879 29 ls [.int x] h = if narrow .int (.int x) = .int x then some (.inl (some (.int x)), h) else none := xe_ireturn ec879 dX8_save_29 rfl
theorem ec880 : x_code 880 = cX8_restore := rfl
theorem e880_0 {ls st : List Value} {h : x_H} : x_run 880 0 ls st h = q_gr ls 0 (fun v => x_run 880 1 ls (.ref v :: st) h) := xe_aload_n ec880 dX8_restore_0
theorem e880_1 {ls st : List Value} {h : x_H} : x_run 880 1 ls st h = q_gr ls 0 (fun v => x_run 880 2 ls (.ref v :: st) h) := xe_aload_n ec880 dX8_restore_1
theorem e880_2 {ls st : List Value} {h : x_H} {a : Nat}: x_run 880 2 ls (.ref a :: st) h = q_gf h a 10 4 (fun v => x_run 880 5 ls (v :: st) h) := xe_getfield ec880 dX8_restore_2 ef8_252
theorem e880_5 {ls st : List Value} {h : x_H} {x : Int32}: x_run 880 5 ls (.int x :: st) h = if x = 0 then x_run 880 12 ls st h else x_run 880 8 ls st h := xe_if_eq ec880 dX8_restore_5 rfl
theorem e880_8 {ls st : List Value} {h : x_H} : x_run 880 8 ls st h = x_run 880 9 ls (.int (q_i 0) :: st) h := xe_iconst ec880 dX8_restore_8
theorem e880_9 {ls st : List Value} {h : x_H} : x_run 880 9 ls st h = x_run 880 13 ls st h := xe_goto ec880 dX8_restore_9 rfl
theorem e880_12 {ls st : List Value} {h : x_H} : x_run 880 12 ls st h = x_run 880 13 ls (.int (q_i 1) :: st) h := xe_iconst ec880 dX8_restore_12
theorem e880_13 {ls st : List Value} {h : x_H} {b : Nat} {a1 : Value}: x_run 880 13 ls (a1 :: .ref b :: st) h = if q_rcv h b 10 = true then (if x_wt st ≤ 8 ∧ x_wt [.ref b, a1] = 2 then q_cl (x_m 802 [.ref b, a1] h) (fun v h' => x_run 880 16 ls (v.toList ++ st) h') else none) else none := xe_virt (r := [a1]) ec880 dX8_restore_13 ek8_183 rfl (by decide +kernel) (by decide +kernel)
theorem e880_16 {ls st : List Value} {h : x_H} {x : Int32}: x_run 880 16 ls (.int x :: st) h = if x = 0 then x_run 880 21 ls st h else x_run 880 19 ls st h := xe_if_eq ec880 dX8_restore_16 rfl
theorem e880_19 {ls st : List Value} {h : x_H} : x_run 880 19 ls st h = x_run 880 20 ls (.int (q_i 0) :: st) h := xe_iconst ec880 dX8_restore_19
theorem e880_20 {ls : List Value} {h : x_H} {x : Int32} : x_run 880 20 ls [.int x] h = if narrow .int (.int x) = .int x then some (.inl (some (.int x)), h) else none := xe_ireturn ec880 dX8_restore_20 rfl
theorem e880_21 {ls st : List Value} {h : x_H} : x_run 880 21 ls st h = q_gr ls 0 (fun v => x_run 880 22 ls (.ref v :: st) h) := xe_aload_n ec880 dX8_restore_21
theorem e880_22 {ls st : List Value} {h : x_H} {a : Nat}: x_run 880 22 ls (.ref a :: st) h = q_gf h a 10 2 (fun v => x_run 880 25 ls (v :: st) h) := xe_getfield ec880 dX8_restore_22 ef8_16
theorem e880_25 {ls st : List Value} {h : x_H} : x_run 880 25 ls st h = x_run 880 26 ls (.int (q_i 0) :: st) h := xe_iconst ec880 dX8_restore_25
theorem e880_26 {ls st : List Value} {h : x_H} : x_run 880 26 ls st h = q_gr ls 0 (fun v => x_run 880 27 ls (.ref v :: st) h) := xe_aload_n ec880 dX8_restore_26
theorem e880_27 {ls st : List Value} {h : x_H} {a : Nat}: x_run 880 27 ls (.ref a :: st) h = q_gf h a 10 0 (fun v => x_run 880 30 ls (v :: st) h) := xe_getfield ec880 dX8_restore_27 ef8_7
theorem e880_30 {ls st : List Value} {h : x_H} : x_run 880 30 ls st h = x_run 880 31 ls (.int (q_i 0) :: st) h := xe_iconst ec880 dX8_restore_30
theorem e880_31 {ls st : List Value} {h : x_H} {a1 a2 a3 a4 : Value}: x_run 880 31 ls (a4 :: a3 :: a2 :: a1 :: st) h = if x_wt st ≤ 8 ∧ x_wt [a1, a2, a3, a4] = 4 then q_cl (x_m 805 [a1, a2, a3, a4] h) (fun v h' => x_run 880 34 ls (v.toList ++ st) h') else none := xe_stat (args := [a1, a2, a3, a4]) ec880 dX8_restore_31 ek8_64 (by decide) rfl (by decide +kernel) (by decide +kernel)
theorem e880_34 {ls st : List Value} {h : x_H} : x_run 880 34 ls st h = q_gr ls 0 (fun v => x_run 880 35 ls (.ref v :: st) h) := xe_aload_n ec880 dX8_restore_34
theorem e880_35 {ls st : List Value} {h : x_H} : x_run 880 35 ls st h = x_run 880 36 ls (.int (q_i 0) :: st) h := xe_iconst ec880 dX8_restore_35
theorem e880_36 {ls st : List Value} {h : x_H} {v : Value} {a : Nat}: x_run 880 36 ls (v :: .ref a :: st) h = if x_fit (x_ty 10 5) v = true then q_pf h a 10 5 v (fun h' => x_run 880 39 ls st h') else none := xe_putfield ec880 dX8_restore_36 ef8_61 (by decide +kernel)
theorem e880_39 {ls st : List Value} {h : x_H} : x_run 880 39 ls st h = q_gr ls 0 (fun v => x_run 880 40 ls (.ref v :: st) h) := xe_aload_n ec880 dX8_restore_39
theorem e880_40 {ls st : List Value} {h : x_H} {a : Nat}: x_run 880 40 ls (.ref a :: st) h = q_gf h a 10 0 (fun v => x_run 880 43 ls (v :: st) h) := xe_getfield ec880 dX8_restore_40 ef8_7
theorem e880_43 {ls st : List Value} {h : x_H} : x_run 880 43 ls st h = x_run 880 44 ls (.int (q_i 0) :: st) h := xe_iconst ec880 dX8_restore_43
theorem e880_44 {ls st : List Value} {h : x_H} {x : Int32} {a : Nat}: x_run 880 44 ls (.int x :: .ref a :: st) h = q_ra h a 0 x (fun v => x_run 880 45 ls (.int v :: st) h) := xe_iaload ec880 dX8_restore_44
theorem e880_45 {ls : List Value} {h : x_H} {x : Int32} : x_run 880 45 ls [.int x] h = if narrow .int (.int x) = .int x then some (.inl (some (.int x)), h) else none := xe_ireturn ec880 dX8_restore_45 rfl
