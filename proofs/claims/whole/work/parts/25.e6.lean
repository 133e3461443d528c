theorem ec600 : x_code 600 = cX6_init := rfl
theorem e600_0 {ls st : List Value} {h : x_H} : x_run 600 0 ls st h = q_gr ls 0 (fun v => x_run 600 1 ls (.ref v :: st) h) := xe_aload_n ec600 dX6_init_0
theorem e600_1 {ls st : List Value} {h : x_H} {a : Nat}: x_run 600 1 ls (.ref a :: st) h = if x_wt st ≤ 8 then x_run 600 4 ls st h else none := xe_obj ec600 dX6_init_1 ek6_3
theorem e600_4 {ls st : List Value} {h : x_H} : x_run 600 4 ls st h = q_gr ls 0 (fun v => x_run 600 5 ls (.ref v :: st) h) := xe_aload_n ec600 dX6_init_4
theorem e600_5 {ls st : List Value} {h : x_H} : x_run 600 5 ls st h = x_run 600 7 ls (.int (q_i 16) :: st) h := xe_bipush ec600 dX6_init_5 (by decide)
theorem e600_7 {ls st : List Value} {h : x_H} {x : Int32}: x_run 600 7 ls (.int x :: st) h = q_na h x (fun n => .inl (2, List.replicate n 0)) (fun a h' => x_run 600 9 ls (.ref a :: st) h') := xe_newarray_char ec600 dX6_init_7
theorem e600_9 {ls st : List Value} {h : x_H} {v : Value} {a : Nat}: x_run 600 9 ls (v :: .ref a :: st) h = if x_fit (x_ty 8 0) v = true then q_pf h a 8 0 v (fun h' => x_run 600 12 ls st h') else none := xe_putfield ec600 dX6_init_9 ef6_9 (by decide +kernel)
theorem e600_12 {ls st : List Value} {h : x_H} : x_run 600 12 ls st h = q_gr ls 0 (fun v => x_run 600 13 ls (.ref v :: st) h) := xe_aload_n ec600 dX6_init_12
theorem e600_13 {ls st : List Value} {h : x_H} : x_run 600 13 ls st h = x_run 600 14 ls (.int (q_i 0) :: st) h := xe_iconst ec600 dX6_init_13
theorem e600_14 {ls st : List Value} {h : x_H} {v : Value} {a : Nat}: x_run 600 14 ls (v :: .ref a :: st) h = if x_fit (x_ty 8 1) v = true then q_pf h a 8 1 v (fun h' => x_run 600 17 ls st h') else none := xe_putfield ec600 dX6_init_14 ef6_15 (by decide +kernel)
theorem e600_17 {ls : List Value} {h : x_H} : x_run 600 17 ls [] h = some (.inl (none), h) := xe_return ec600 dX6_init_17 rfl
theorem ec601 : x_code 601 = cX6_write := rfl
theorem e601_0 {ls st : List Value} {h : x_H} : x_run 601 0 ls st h = q_gr ls 0 (fun v => x_run 601 1 ls (.ref v :: st) h) := xe_aload_n ec601 dX6_write_0
theorem e601_1 {ls st : List Value} {h : x_H} : x_run 601 1 ls st h = x_run 601 2 ls (.int (q_i 0) :: st) h := xe_iconst ec601 dX6_write_1
theorem e601_2 {ls st : List Value} {h : x_H} {v : Value} {a : Nat}: x_run 601 2 ls (v :: .ref a :: st) h = if x_fit (x_ty 8 1) v = true then q_pf h a 8 1 v (fun h' => x_run 601 5 ls st h') else none := xe_putfield ec601 dX6_write_2 ef6_15 (by decide +kernel)
theorem e601_5 {ls st : List Value} {h : x_H} : x_run 601 5 ls st h = q_gi ls 2 (fun v => x_run 601 6 ls (.int v :: st) h) := xe_iload_n ec601 dX6_write_5
theorem e601_6 {ls st : List Value} {h : x_H} {x : Int32}: x_run 601 6 ls (.int x :: st) h = q_ls ls 3 (.int x) (fun ls' => x_run 601 7 ls' st h) := xe_istore_n ec601 dX6_write_6
theorem e601_7 {ls st : List Value} {h : x_H} : x_run 601 7 ls st h = q_gi ls 3 (fun v => x_run 601 8 ls (.int v :: st) h) := xe_iload_n ec601 dX6_write_7
theorem e601_8 {ls st : List Value} {h : x_H} : x_run 601 8 ls st h = q_gi ls 2 (fun v => x_run 601 9 ls (.int v :: st) h) := xe_iload_n ec601 dX6_write_8
theorem e601_9 {ls st : List Value} {h : x_H} : x_run 601 9 ls st h = x_run 601 11 ls (.int (q_i 8) :: st) h := xe_bipush ec601 dX6_write_9 (by decide)
theorem e601_11 {ls st : List Value} {h : x_H} {x y : Int32}: x_run 601 11 ls (.int y :: .int x :: st) h = x_run 601 12 ls (.int (x + y) :: st) h := xe_iadd ec601 dX6_write_11
theorem e601_12 {ls st : List Value} {h : x_H} {x y : Int32}: x_run 601 12 ls (.int y :: .int x :: st) h = if y ≤ x then x_run 601 48 ls st h else x_run 601 15 ls st h := xe_ic_ge ec601 dX6_write_12 rfl
theorem e601_15 {ls st : List Value} {h : x_H} : x_run 601 15 ls st h = q_gr ls 0 (fun v => x_run 601 16 ls (.ref v :: st) h) := xe_aload_n ec601 dX6_write_15
theorem e601_16 {ls st : List Value} {h : x_H} : x_run 601 16 ls st h = q_gr ls 1 (fun v => x_run 601 17 ls (.ref v :: st) h) := xe_aload_n ec601 dX6_write_16
theorem e601_17 {ls st : List Value} {h : x_H} : x_run 601 17 ls st h = q_gi ls 3 (fun v => x_run 601 18 ls (.int v :: st) h) := xe_iload_n ec601 dX6_write_17
theorem e601_18 {ls st : List Value} {h : x_H} {a1 a2 : Value}: x_run 601 18 ls (a2 :: a1 :: st) h = if x_wt st ≤ 8 ∧ x_wt [a1, a2] = 2 then q_cl (x_m 603 [a1, a2] h) (fun v h' => x_run 601 21 ls (v.toList ++ st) h') else none := xe_stat (args := [a1, a2]) ec601 dX6_write_18 ek6_19 (by decide) rfl (by decide +kernel) (by decide +kernel)
theorem e601_21 {ls st : List Value} {h : x_H} {b : Nat} {a1 : Value}: x_run 601 21 ls (a1 :: .ref b :: st) h = if q_rcv h b 8 = true then (if x_wt st ≤ 8 ∧ x_wt [.ref b, a1] = 2 then q_cl (x_m 602 [.ref b, a1] h) (fun v h' => x_run 601 24 ls (v.toList ++ st) h') else none) else none := xe_virt (r := [a1]) ec601 dX6_write_21 ek6_23 rfl (by decide +kernel) (by decide +kernel)
theorem e601_24 {ls st : List Value} {h : x_H} : x_run 601 24 ls st h = q_gr ls 1 (fun v => x_run 601 25 ls (.ref v :: st) h) := xe_aload_n ec601 dX6_write_24
theorem e601_25 {ls st : List Value} {h : x_H} {a : Nat}: x_run 601 25 ls (.ref a :: st) h = q_gf h a 2 12 (fun v => x_run 601 28 ls (v :: st) h) := xe_getfield ec601 dX6_write_25 ef6_27
theorem e601_28 {ls st : List Value} {h : x_H} : x_run 601 28 ls st h = q_gi ls 3 (fun v => x_run 601 29 ls (.int v :: st) h) := xe_iload_n ec601 dX6_write_28
theorem e601_29 {ls st : List Value} {h : x_H} : x_run 601 29 ls st h = x_run 601 31 ls (.int (q_i 48) :: st) h := xe_bipush ec601 dX6_write_29 (by decide)
theorem e601_31 {ls st : List Value} {h : x_H} {x y : Int32}: x_run 601 31 ls (.int y :: .int x :: st) h = if y = 0 then none else x_run 601 32 ls (.int (x - (x / y) * y) :: st) h := xe_irem ec601 dX6_write_31
theorem e601_32 {ls st : List Value} {h : x_H} {x : Int32} {a : Nat}: x_run 601 32 ls (.int x :: .ref a :: st) h = q_ra h a 1 x (fun v => x_run 601 33 ls (.int v :: st) h) := xe_baload ec601 dX6_write_32
theorem e601_33 {ls st : List Value} {h : x_H} {x : Int32}: x_run 601 33 ls (.int x :: st) h = if x = 0 then x_run 601 42 ls st h else x_run 601 36 ls st h := xe_if_eq ec601 dX6_write_33 rfl
theorem e601_36 {ls st : List Value} {h : x_H} : x_run 601 36 ls st h = q_gr ls 0 (fun v => x_run 601 37 ls (.ref v :: st) h) := xe_aload_n ec601 dX6_write_36
theorem e601_37 {ls st : List Value} {h : x_H} : x_run 601 37 ls st h = x_run 601 39 ls (.int (q_i 111) :: st) h := xe_bipush ec601 dX6_write_37 (by decide)
theorem e601_39 {ls st : List Value} {h : x_H} {b : Nat} {a1 : Value}: x_run 601 39 ls (a1 :: .ref b :: st) h = if q_rcv h b 8 = true then (if x_wt st ≤ 8 ∧ x_wt [.ref b, a1] = 2 then q_cl (x_m 602 [.ref b, a1] h) (fun v h' => x_run 601 42 ls (v.toList ++ st) h') else none) else none := xe_virt (r := [a1]) ec601 dX6_write_39 ek6_23 rfl (by decide +kernel) (by decide +kernel)
theorem e601_42 {ls st : List Value} {h : x_H} : x_run 601 42 ls st h = q_gi ls 3 (fun v => if x_nd ls 3 = true then x_run 601 45 (ls.set 3 (.int (v + q_i 1))) st h else none) := xe_iinc ec601 dX6_write_42
theorem e601_45 {ls st : List Value} {h : x_H} : x_run 601 45 ls st h = x_run 601 7 ls st h := xe_goto ec601 dX6_write_45 rfl
theorem e601_48 {ls : List Value} {h : x_H} : x_run 601 48 ls [] h = some (.inl (none), h) := xe_return ec601 dX6_write_48 rfl
theorem ec602 : x_code 602 = cX6_add := rfl
theorem e602_0 {ls st : List Value} {h : x_H} : x_run 602 0 ls st h = q_gr ls 0 (fun v => x_run 602 1 ls (.ref v :: st) h) := xe_aload_n ec602 dX6_add_0
theorem e602_1 {ls st : List Value} {h : x_H} {a : Nat}: x_run 602 1 ls (.ref a :: st) h = q_gf h a 8 1 (fun v => x_run 602 4 ls (v :: st) h) := xe_getfield ec602 dX6_add_1 ef6_15
theorem e602_4 {ls st : List Value} {h : x_H} : x_run 602 4 ls st h = q_gr ls 0 (fun v => x_run 602 5 ls (.ref v :: st) h) := xe_aload_n ec602 dX6_add_4
theorem e602_5 {ls st : List Value} {h : x_H} {a : Nat}: x_run 602 5 ls (.ref a :: st) h = q_gf h a 8 0 (fun v => x_run 602 8 ls (v :: st) h) := xe_getfield ec602 dX6_add_5 ef6_9
theorem e602_8 {ls st : List Value} {h : x_H} {a : Nat}: x_run 602 8 ls (.ref a :: st) h = q_ln h a (fun v => x_run 602 9 ls (.int v :: st) h) := xe_arraylength ec602 dX6_add_8
theorem e602_9 {ls st : List Value} {h : x_H} {x y : Int32}: x_run 602 9 ls (.int y :: .int x :: st) h = if y ≤ x then x_run 602 32 ls st h else x_run 602 12 ls st h := xe_ic_ge ec602 dX6_add_9 rfl
theorem e602_12 {ls st : List Value} {h : x_H} : x_run 602 12 ls st h = q_gr ls 0 (fun v => x_run 602 13 ls (.ref v :: st) h) := xe_aload_n ec602 dX6_add_12
theorem e602_13 {ls st : List Value} {h : x_H} {a : Nat}: x_run 602 13 ls (.ref a :: st) h = q_gf h a 8 0 (fun v => x_run 602 16 ls (v :: st) h) := xe_getfield ec602 dX6_add_13 ef6_9
theorem e602_16 {ls st : List Value} {h : x_H} : x_run 602 16 ls st h = q_gr ls 0 (fun v => x_run 602 17 ls (.ref v :: st) h) := xe_aload_n ec602 dX6_add_16
theorem e602_17 {ls st : List Value} {h : x_H} {a : Nat}: x_run 602 17 ls (.ref a :: st) h = q_gf h a 8 1 (fun v => x_run 602 20 ls (v :: st) h) := xe_getfield ec602 dX6_add_17 ef6_15
theorem e602_20 {ls st : List Value} {h : x_H} : x_run 602 20 ls st h = q_gi ls 1 (fun v => x_run 602 21 ls (.int v :: st) h) := xe_iload_n ec602 dX6_add_20
theorem e602_21 {ls st : List Value} {h : x_H} {x y : Int32} {a : Nat}: x_run 602 21 ls (.int y :: .int x :: .ref a :: st) h = q_wa h a 2 x (vp_nar .char y) (fun h' => x_run 602 22 ls st h') := xe_castore ec602 dX6_add_21
theorem e602_22 {ls st : List Value} {h : x_H} : x_run 602 22 ls st h = q_gr ls 0 (fun v => x_run 602 23 ls (.ref v :: st) h) := xe_aload_n ec602 dX6_add_22
theorem e602_23 {ls st : List Value} {h : x_H} {v : Value} (hv : v.category = 1): x_run 602 23 ls (v :: st) h = x_run 602 24 ls (v :: v :: st) h := xe_dup ec602 dX6_add_23 hv
theorem e602_24 {ls st : List Value} {h : x_H} {a : Nat}: x_run 602 24 ls (.ref a :: st) h = q_gf h a 8 1 (fun v => x_run 602 27 ls (v :: st) h) := xe_getfield ec602 dX6_add_24 ef6_15
theorem e602_27 {ls st : List Value} {h : x_H} : x_run 602 27 ls st h = x_run 602 28 ls (.int (q_i 1) :: st) h := xe_iconst ec602 dX6_add_27
theorem e602_28 {ls st : List Value} {h : x_H} {x y : Int32}: x_run 602 28 ls (.int y :: .int x :: st) h = x_run 602 29 ls (.int (x + y) :: st) h := xe_iadd ec602 dX6_add_28
theorem e602_29 {ls st : List Value} {h : x_H} {v : Value} {a : Nat}: x_run 602 29 ls (v :: .ref a :: st) h = if x_fit (x_ty 8 1) v = true then q_pf h a 8 1 v (fun h' => x_run 602 32 ls st h') else none := xe_putfield ec602 dX6_add_29 ef6_15 (by decide +kernel)
theorem e602_32 {ls : List Value} {h : x_H} : x_run 602 32 ls [] h = some (.inl (none), h) := xe_return ec602 dX6_add_32 rfl
theorem ec603 : x_code 603 = cX6_signOf := rfl
theorem e603_0 {ls st : List Value} {h : x_H} : x_run 603 0 ls st h = q_gr ls 0 (fun v => x_run 603 1 ls (.ref v :: st) h) := xe_aload_n ec603 dX6_signOf_0
theorem e603_1 {ls st : List Value} {h : x_H} {a : Nat}: x_run 603 1 ls (.ref a :: st) h = q_gf h a 2 10 (fun v => x_run 603 4 ls (v :: st) h) := xe_getfield ec603 dX6_signOf_1 ef6_33
theorem e603_4 {ls st : List Value} {h : x_H} : x_run 603 4 ls st h = q_gi ls 1 (fun v => x_run 603 5 ls (.int v :: st) h) := xe_iload_n ec603 dX6_signOf_4
theorem e603_5 {ls st : List Value} {h : x_H} {x : Int32} {a : Nat}: x_run 603 5 ls (.int x :: .ref a :: st) h = q_ra h a 0 x (fun v => x_run 603 6 ls (.int v :: st) h) := xe_iaload ec603 dX6_signOf_5
theorem e603_6 {ls st : List Value} {h : x_H} {x : Int32}: x_run 603 6 ls (.int x :: st) h = q_ls ls 2 (.int x) (fun ls' => x_run 603 7 ls' st h) := xe_istore_n ec603 dX6_signOf_6
theorem e603_7 {ls st : List Value} {h : x_H} : x_run 603 7 ls st h = q_gi ls 2 (fun v => x_run 603 8 ls (.int v :: st) h) := xe_iload_n ec603 dX6_signOf_7
theorem e603_8 {ls st : List Value} {h : x_H} : x_run 603 8 ls st h = x_run 603 9 ls (.int (q_i (-1)) :: st) h := xe_iconst ec603 dX6_signOf_8
theorem e603_9 {ls st : List Value} {h : x_H} {x y : Int32}: x_run 603 9 ls (.int y :: .int x :: st) h = if ¬ x = y then x_run 603 15 ls st h else x_run 603 12 ls st h := xe_ic_ne ec603 dX6_signOf_9 rfl
theorem e603_12 {ls st : List Value} {h : x_H} : x_run 603 12 ls st h = x_run 603 14 ls (.int (q_i 46) :: st) h := xe_bipush ec603 dX6_signOf_12 (by decide)
theorem e603_14 {ls : List Value} {h : x_H} {x : Int32} : x_run 603 14 ls [.int x] h = if narrow .char (.int x) = .int x then some (.inl (some (.int x)), h) else none := xe_ireturn ec603 dX6_signOf_14 rfl
theorem e603_15 {ls st : List Value} {h : x_H} : x_run 603 15 ls st h = q_gi ls 2 (fun v => x_run 603 16 ls (.int v :: st) h) := xe_iload_n ec603 dX6_signOf_15
theorem e603_16 {ls st : List Value} {h : x_H} : x_run 603 16 ls st h = x_run 603 18 ls (.int (q_i (-2)) :: st) h := xe_bipush ec603 dX6_signOf_16 (by decide)
theorem e603_18 {ls st : List Value} {h : x_H} {x y : Int32}: x_run 603 18 ls (.int y :: .int x :: st) h = if ¬ x = y then x_run 603 24 ls st h else x_run 603 21 ls st h := xe_ic_ne ec603 dX6_signOf_18 rfl
theorem e603_21 {ls st : List Value} {h : x_H} : x_run 603 21 ls st h = x_run 603 23 ls (.int (q_i 35) :: st) h := xe_bipush ec603 dX6_signOf_21 (by decide)
theorem e603_23 {ls : List Value} {h : x_H} {x : Int32} : x_run 603 23 ls [.int x] h = if narrow .char (.int x) = .int x then some (.inl (some (.int x)), h) else none := xe_ireturn ec603 dX6_signOf_23 rfl
theorem e603_24 {ls st : List Value} {h : x_H} : x_run 603 24 ls st h = q_gr ls 0 (fun v => x_run 603 25 ls (.ref v :: st) h) := xe_aload_n ec603 dX6_signOf_24
theorem e603_25 {ls st : List Value} {h : x_H} {a : Nat}: x_run 603 25 ls (.ref a :: st) h = q_gf h a 2 11 (fun v => x_run 603 28 ls (v :: st) h) := xe_getfield ec603 dX6_signOf_25 ef6_37
theorem e603_28 {ls st : List Value} {h : x_H} : x_run 603 28 ls st h = q_gi ls 1 (fun v => x_run 603 29 ls (.int v :: st) h) := xe_iload_n ec603 dX6_signOf_28
theorem e603_29 {ls st : List Value} {h : x_H} : x_run 603 29 ls st h = x_run 603 31 ls (.int (q_i 48) :: st) h := xe_bipush ec603 dX6_signOf_29 (by decide)
theorem e603_31 {ls st : List Value} {h : x_H} {x y : Int32}: x_run 603 31 ls (.int y :: .int x :: st) h = if y = 0 then none else x_run 603 32 ls (.int (x - (x / y) * y) :: st) h := xe_irem ec603 dX6_signOf_31
theorem e603_32 {ls st : List Value} {h : x_H} {x : Int32} {a : Nat}: x_run 603 32 ls (.int x :: .ref a :: st) h = q_ra h a 1 x (fun v => x_run 603 33 ls (.int v :: st) h) := xe_baload ec603 dX6_signOf_32
theorem e603_33 {ls st : List Value} {h : x_H} {x : Int32}: x_run 603 33 ls (.int x :: st) h = if x = 0 then x_run 603 41 ls st h else x_run 603 36 ls st h := xe_if_eq ec603 dX6_signOf_33 rfl
theorem e603_36 {ls st : List Value} {h : x_H} : x_run 603 36 ls st h = x_run 603 38 ls (.int (q_i 65) :: st) h := xe_bipush ec603 dX6_signOf_36 (by decide)
theorem e603_38 {ls st : List Value} {h : x_H} : x_run 603 38 ls st h = x_run 603 43 ls st h := xe_goto ec603 dX6_signOf_38 rfl
theorem e603_41 {ls st : List Value} {h : x_H} : x_run 603 41 ls st h = x_run 603 43 ls (.int (q_i 97) :: st) h := xe_bipush ec603 dX6_signOf_41 (by decide)
theorem e603_43 {ls st : List Value} {h : x_H} : x_run 603 43 ls st h = q_gi ls 2 (fun v => x_run 603 44 ls (.int v :: st) h) := xe_iload_n ec603 dX6_signOf_43
theorem e603_44 {ls st : List Value} {h : x_H} {x y : Int32}: x_run 603 44 ls (.int y :: .int x :: st) h = x_run 603 45 ls (.int (x + y) :: st) h := xe_iadd ec603 dX6_signOf_44
theorem e603_45 {ls st : List Value} {h : x_H} {x : Int32}: x_run 603 45 ls (.int x :: st) h = x_run 603 46 ls (.int (x.toUInt32 % 65536).toInt32 :: st) h := xe_i2c ec603 dX6_signOf_45
theorem e603_46 {ls : List Value} {h : x_H} {x : Int32} : x_run 603 46 ls [.int x] h = if narrow .char (.int x) = .int x then some (.inl (some (.int x)), h) else none := xe_ireturn ec603 dX6_signOf_46 rfl
