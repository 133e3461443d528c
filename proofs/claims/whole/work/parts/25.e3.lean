theorem ec300 : x_code 300 = cX3_init := rfl
theorem e300_0 {ls st : List Value} {h : x_H} : x_run 300 0 ls st h = q_gr ls 0 (fun v => x_run 300 1 ls (.ref v :: st) h) := xe_aload_n ec300 dX3_init_0
theorem e300_1 {ls st : List Value} {h : x_H} {a : Nat}: x_run 300 1 ls (.ref a :: st) h = if x_wt st ≤ 8 then x_run 300 4 ls st h else none := xe_obj ec300 dX3_init_1 ek3_3
theorem e300_4 {ls st : List Value} {h : x_H} : x_run 300 4 ls st h = q_gr ls 0 (fun v => x_run 300 5 ls (.ref v :: st) h) := xe_aload_n ec300 dX3_init_4
theorem e300_5 {ls st : List Value} {h : x_H} : x_run 300 5 ls st h = x_run 300 7 ls (.int (q_i 9) :: st) h := xe_bipush ec300 dX3_init_5 (by decide)
theorem e300_7 {ls st : List Value} {h : x_H} {x : Int32}: x_run 300 7 ls (.int x :: st) h = q_na h x (fun n => .inr (102, List.replicate n .null)) (fun a h' => x_run 300 10 ls (.ref a :: st) h') := xe_anewarray ec300 dX3_init_7 (by decide +kernel)
theorem e300_10 {ls st : List Value} {h : x_H} {v : Value} {a : Nat}: x_run 300 10 ls (v :: .ref a :: st) h = if x_fit (x_ty 5 1) v = true then q_pf h a 5 1 v (fun h' => x_run 300 13 ls st h') else none := xe_putfield ec300 dX3_init_10 ef3_13 (by decide +kernel)
theorem e300_13 {ls st : List Value} {h : x_H} : x_run 300 13 ls st h = q_gr ls 0 (fun v => x_run 300 14 ls (.ref v :: st) h) := xe_aload_n ec300 dX3_init_13
theorem e300_14 {ls st : List Value} {h : x_H} : x_run 300 14 ls st h = q_al2 h (.inr (2, x_defs 2)) (x_N 2) (fun a h' => x_run 300 17 ls (.ref a :: st) h') := xe_new ec300 dX3_init_14 (by decide +kernel)
theorem e300_17 {ls st : List Value} {h : x_H} {v : Value} (hv : v.category = 1): x_run 300 17 ls (v :: st) h = x_run 300 18 ls (v :: v :: st) h := xe_dup ec300 dX3_init_17 hv
theorem e300_18 {ls st : List Value} {h : x_H} {b : Nat}: x_run 300 18 ls (.ref b :: st) h = if q_rcv h b 2 = true then (if x_wt st ≤ 8 ∧ x_wt [.ref b] = 1 then q_cl (x_m 0 [.ref b] h) (fun v h' => x_run 300 21 ls (v.toList ++ st) h') else none) else none := xe_spec (r := []) ec300 dX3_init_18 ek3_17 (by decide) rfl (by decide +kernel) (by decide +kernel)
theorem e300_21 {ls st : List Value} {h : x_H} {v : Value} {a : Nat}: x_run 300 21 ls (v :: .ref a :: st) h = if x_fit (x_ty 5 2) v = true then q_pf h a 5 2 v (fun h' => x_run 300 24 ls st h') else none := xe_putfield ec300 dX3_init_21 ef3_18 (by decide +kernel)
theorem e300_24 {ls st : List Value} {h : x_H} : x_run 300 24 ls st h = q_gr ls 0 (fun v => x_run 300 25 ls (.ref v :: st) h) := xe_aload_n ec300 dX3_init_24
theorem e300_25 {ls st : List Value} {h : x_H} : x_run 300 25 ls st h = x_run 300 26 ls (.int (q_i 0) :: st) h := xe_iconst ec300 dX3_init_25
theorem e300_26 {ls st : List Value} {h : x_H} {v : Value} {a : Nat}: x_run 300 26 ls (v :: .ref a :: st) h = if x_fit (x_ty 5 3) v = true then q_pf h a 5 3 v (fun h' => x_run 300 29 ls st h') else none := xe_putfield ec300 dX3_init_26 ef3_22 (by decide +kernel)
theorem e300_29 {ls st : List Value} {h : x_H} : x_run 300 29 ls st h = q_gr ls 0 (fun v => x_run 300 30 ls (.ref v :: st) h) := xe_aload_n ec300 dX3_init_29
theorem e300_30 {ls st : List Value} {h : x_H} : x_run 300 30 ls st h = x_run 300 31 ls (.int (q_i 0) :: st) h := xe_iconst ec300 dX3_init_30
theorem e300_31 {ls st : List Value} {h : x_H} {v : Value} {a : Nat}: x_run 300 31 ls (v :: .ref a :: st) h = if x_fit (x_ty 5 4) v = true then q_pf h a 5 4 v (fun h' => x_run 300 34 ls st h') else none := xe_putfield ec300 dX3_init_31 ef3_26 (by decide +kernel)
theorem e300_34 {ls st : List Value} {h : x_H} : x_run 300 34 ls st h = q_gr ls 0 (fun v => x_run 300 35 ls (.ref v :: st) h) := xe_aload_n ec300 dX3_init_34
theorem e300_35 {ls st : List Value} {h : x_H} : x_run 300 35 ls st h = x_run 300 36 ls (.int (q_i 0) :: st) h := xe_iconst ec300 dX3_init_35
theorem e300_36 {ls st : List Value} {h : x_H} {v : Value} {a : Nat}: x_run 300 36 ls (v :: .ref a :: st) h = if x_fit (x_ty 5 5) v = true then q_pf h a 5 5 v (fun h' => x_run 300 39 ls st h') else none := xe_putfield ec300 dX3_init_36 ef3_29 (by decide +kernel)
theorem e300_39 {ls st : List Value} {h : x_H} : x_run 300 39 ls st h = q_gr ls 0 (fun v => x_run 300 40 ls (.ref v :: st) h) := xe_aload_n ec300 dX3_init_39
theorem e300_40 {ls st : List Value} {h : x_H} : x_run 300 40 ls st h = q_gr ls 1 (fun v => x_run 300 41 ls (.ref v :: st) h) := xe_aload_n ec300 dX3_init_40
theorem e300_41 {ls st : List Value} {h : x_H} {v : Value} {a : Nat}: x_run 300 41 ls (v :: .ref a :: st) h = if x_fit (x_ty 5 0) v = true then q_pf h a 5 0 v (fun h' => x_run 300 44 ls st h') else none := xe_putfield ec300 dX3_init_41 ef3_33 (by decide +kernel)
theorem e300_44 {ls st : List Value} {h : x_H} : x_run 300 44 ls st h = x_run 300 45 ls (.int (q_i 0) :: st) h := xe_iconst ec300 dX3_init_44
theorem e300_45 {ls st : List Value} {h : x_H} {x : Int32}: x_run 300 45 ls (.int x :: st) h = q_ls ls 2 (.int x) (fun ls' => x_run 300 46 ls' st h) := xe_istore_n ec300 dX3_init_45
theorem e300_46 {ls st : List Value} {h : x_H} : x_run 300 46 ls st h = q_gi ls 2 (fun v => x_run 300 47 ls (.int v :: st) h) := xe_iload_n ec300 dX3_init_46
theorem e300_47 {ls st : List Value} {h : x_H} : x_run 300 47 ls st h = x_run 300 49 ls (.int (q_i 9) :: st) h := xe_bipush ec300 dX3_init_47 (by decide)
theorem e300_49 {ls st : List Value} {h : x_H} {x y : Int32}: x_run 300 49 ls (.int y :: .int x :: st) h = if y ≤ x then x_run 300 71 ls st h else x_run 300 52 ls st h := xe_ic_ge ec300 dX3_init_49 rfl
theorem e300_52 {ls st : List Value} {h : x_H} : x_run 300 52 ls st h = q_gr ls 0 (fun v => x_run 300 53 ls (.ref v :: st) h) := xe_aload_n ec300 dX3_init_52
theorem e300_53 {ls st : List Value} {h : x_H} {a : Nat}: x_run 300 53 ls (.ref a :: st) h = q_gf h a 5 1 (fun v => x_run 300 56 ls (v :: st) h) := xe_getfield ec300 dX3_init_53 ef3_13
theorem e300_56 {ls st : List Value} {h : x_H} : x_run 300 56 ls st h = q_gi ls 2 (fun v => x_run 300 57 ls (.int v :: st) h) := xe_iload_n ec300 dX3_init_56
theorem e300_57 {ls st : List Value} {h : x_H} : x_run 300 57 ls st h = q_al2 h (.inr (2, x_defs 2)) (x_N 2) (fun a h' => x_run 300 60 ls (.ref a :: st) h') := xe_new ec300 dX3_init_57 (by decide +kernel)
theorem e300_60 {ls st : List Value} {h : x_H} {v : Value} (hv : v.category = 1): x_run 300 60 ls (v :: st) h = x_run 300 61 ls (v :: v :: st) h := xe_dup ec300 dX3_init_60 hv
theorem e300_61 {ls st : List Value} {h : x_H} {b : Nat}: x_run 300 61 ls (.ref b :: st) h = if q_rcv h b 2 = true then (if x_wt st ≤ 8 ∧ x_wt [.ref b] = 1 then q_cl (x_m 0 [.ref b] h) (fun v h' => x_run 300 64 ls (v.toList ++ st) h') else none) else none := xe_spec (r := []) ec300 dX3_init_61 ek3_17 (by decide) rfl (by decide +kernel) (by decide +kernel)
theorem e300_64 {ls st : List Value} {h : x_H} {x : Int32} {a b : Nat}: x_run 300 64 ls (.ref b :: .int x :: .ref a :: st) h = q_wb h a b x (fun h' => x_run 300 65 ls st h') := xe_aastore ec300 dX3_init_64
theorem e300_65 {ls st : List Value} {h : x_H} : x_run 300 65 ls st h = q_gi ls 2 (fun v => if x_nd ls 2 = true then x_run 300 68 (ls.set 2 (.int (v + q_i 1))) st h else none) := xe_iinc ec300 dX3_init_65
theorem e300_68 {ls st : List Value} {h : x_H} : x_run 300 68 ls st h = x_run 300 46 ls st h := xe_goto ec300 dX3_init_68 rfl
theorem e300_71 {ls : List Value} {h : x_H} : x_run 300 71 ls [] h = some (.inl (none), h) := xe_return ec300 dX3_init_71 rfl
theorem ec301 : x_code 301 = cX3_prepare := rfl
theorem e301_0 {ls st : List Value} {h : x_H} : x_run 301 0 ls st h = q_gr ls 0 (fun v => x_run 301 1 ls (.ref v :: st) h) := xe_aload_n ec301 dX3_prepare_0
theorem e301_1 {ls st : List Value} {h : x_H} {a : Nat}: x_run 301 1 ls (.ref a :: st) h = q_gf h a 5 1 (fun v => x_run 301 4 ls (v :: st) h) := xe_getfield ec301 dX3_prepare_1 ef3_13
theorem e301_4 {ls st : List Value} {h : x_H} : x_run 301 4 ls st h = q_gr ls 0 (fun v => x_run 301 5 ls (.ref v :: st) h) := xe_aload_n ec301 dX3_prepare_4
theorem e301_5 {ls st : List Value} {h : x_H} {a : Nat}: x_run 301 5 ls (.ref a :: st) h = q_gf h a 5 3 (fun v => x_run 301 8 ls (v :: st) h) := xe_getfield ec301 dX3_prepare_5 ef3_22
theorem e301_8 {ls st : List Value} {h : x_H} : x_run 301 8 ls st h = q_gr ls 0 (fun v => x_run 301 9 ls (.ref v :: st) h) := xe_aload_n ec301 dX3_prepare_8
theorem e301_9 {ls st : List Value} {h : x_H} {a : Nat}: x_run 301 9 ls (.ref a :: st) h = q_gf h a 5 4 (fun v => x_run 301 12 ls (v :: st) h) := xe_getfield ec301 dX3_prepare_9 ef3_26
theorem e301_12 {ls st : List Value} {h : x_H} {x y : Int32}: x_run 301 12 ls (.int y :: .int x :: st) h = x_run 301 13 ls (.int (x + y) :: st) h := xe_iadd ec301 dX3_prepare_12
theorem e301_13 {ls st : List Value} {h : x_H} : x_run 301 13 ls st h = x_run 301 15 ls (.int (q_i 9) :: st) h := xe_bipush ec301 dX3_prepare_13 (by decide)
theorem e301_15 {ls st : List Value} {h : x_H} {x y : Int32}: x_run 301 15 ls (.int y :: .int x :: st) h = if y = 0 then none else x_run 301 16 ls (.int (x - (x / y) * y) :: st) h := xe_irem ec301 dX3_prepare_15
theorem e301_16 {ls st : List Value} {h : x_H} {x : Int32} {a : Nat}: x_run 301 16 ls (.int x :: .ref a :: st) h = q_rv2 h a 102 x_isA x (fun v => x_run 301 17 ls (v :: st) h) := xe_aaload ec301 dX3_prepare_16
theorem e301_17 {ls st : List Value} {h : x_H} : x_run 301 17 ls st h = q_gr ls 0 (fun v => x_run 301 18 ls (.ref v :: st) h) := xe_aload_n ec301 dX3_prepare_17
theorem e301_18 {ls st : List Value} {h : x_H} {a : Nat}: x_run 301 18 ls (.ref a :: st) h = q_gf h a 5 0 (fun v => x_run 301 21 ls (v :: st) h) := xe_getfield ec301 dX3_prepare_18 ef3_33
theorem e301_21 {ls st : List Value} {h : x_H} {b : Nat} {a1 : Value}: x_run 301 21 ls (a1 :: .ref b :: st) h = if q_rcv h b 2 = true then (if x_wt st ≤ 8 ∧ x_wt [.ref b, a1] = 2 then q_cl (x_m 1 [.ref b, a1] h) (fun v h' => x_run 301 24 ls (v.toList ++ st) h') else none) else none := xe_virt (r := [a1]) ec301 dX3_prepare_21 ek3_36 rfl (by decide +kernel) (by decide +kernel)
theorem e301_24 {ls : List Value} {h : x_H} : x_run 301 24 ls [] h = some (.inl (none), h) := xe_return ec301 dX3_prepare_24 rfl
theorem ec302 : x_code 302 = cX3_confirm := rfl
theorem e302_0 {ls st : List Value} {h : x_H} : x_run 302 0 ls st h = q_gr ls 0 (fun v => x_run 302 1 ls (.ref v :: st) h) := xe_aload_n ec302 dX3_confirm_0
theorem e302_1 {ls st : List Value} {h : x_H} {a : Nat}: x_run 302 1 ls (.ref a :: st) h = q_gf h a 5 4 (fun v => x_run 302 4 ls (v :: st) h) := xe_getfield ec302 dX3_confirm_1 ef3_26
theorem e302_4 {ls st : List Value} {h : x_H} : x_run 302 4 ls st h = x_run 302 6 ls (.int (q_i 8) :: st) h := xe_bipush ec302 dX3_confirm_4 (by decide)
theorem e302_6 {ls st : List Value} {h : x_H} {x y : Int32}: x_run 302 6 ls (.int y :: .int x :: st) h = if y ≤ x then x_run 302 22 ls st h else x_run 302 9 ls st h := xe_ic_ge ec302 dX3_confirm_6 rfl
theorem e302_9 {ls st : List Value} {h : x_H} : x_run 302 9 ls st h = q_gr ls 0 (fun v => x_run 302 10 ls (.ref v :: st) h) := xe_aload_n ec302 dX3_confirm_9
theorem e302_10 {ls st : List Value} {h : x_H} {v : Value} (hv : v.category = 1): x_run 302 10 ls (v :: st) h = x_run 302 11 ls (v :: v :: st) h := xe_dup ec302 dX3_confirm_10 hv
theorem e302_11 {ls st : List Value} {h : x_H} {a : Nat}: x_run 302 11 ls (.ref a :: st) h = q_gf h a 5 4 (fun v => x_run 302 14 ls (v :: st) h) := xe_getfield ec302 dX3_confirm_11 ef3_26
theorem e302_14 {ls st : List Value} {h : x_H} : x_run 302 14 ls st h = x_run 302 15 ls (.int (q_i 1) :: st) h := xe_iconst ec302 dX3_confirm_14
theorem e302_15 {ls st : List Value} {h : x_H} {x y : Int32}: x_run 302 15 ls (.int y :: .int x :: st) h = x_run 302 16 ls (.int (x + y) :: st) h := xe_iadd ec302 dX3_confirm_15
theorem e302_16 {ls st : List Value} {h : x_H} {v : Value} {a : Nat}: x_run 302 16 ls (v :: .ref a :: st) h = if x_fit (x_ty 5 4) v = true then q_pf h a 5 4 v (fun h' => x_run 302 19 ls st h') else none := xe_putfield ec302 dX3_confirm_16 ef3_26 (by decide +kernel)
theorem e302_19 {ls st : List Value} {h : x_H} : x_run 302 19 ls st h = x_run 302 35 ls st h := xe_goto ec302 dX3_confirm_19 rfl
theorem e302_22 {ls st : List Value} {h : x_H} : x_run 302 22 ls st h = q_gr ls 0 (fun v => x_run 302 23 ls (.ref v :: st) h) := xe_aload_n ec302 dX3_confirm_22
theorem e302_23 {ls st : List Value} {h : x_H} : x_run 302 23 ls st h = q_gr ls 0 (fun v => x_run 302 24 ls (.ref v :: st) h) := xe_aload_n ec302 dX3_confirm_23
theorem e302_24 {ls st : List Value} {h : x_H} {a : Nat}: x_run 302 24 ls (.ref a :: st) h = q_gf h a 5 3 (fun v => x_run 302 27 ls (v :: st) h) := xe_getfield ec302 dX3_confirm_24 ef3_22
theorem e302_27 {ls st : List Value} {h : x_H} : x_run 302 27 ls st h = x_run 302 28 ls (.int (q_i 1) :: st) h := xe_iconst ec302 dX3_confirm_27
theorem e302_28 {ls st : List Value} {h : x_H} {x y : Int32}: x_run 302 28 ls (.int y :: .int x :: st) h = x_run 302 29 ls (.int (x + y) :: st) h := xe_iadd ec302 dX3_confirm_28
theorem e302_29 {ls st : List Value} {h : x_H} : x_run 302 29 ls st h = x_run 302 31 ls (.int (q_i 9) :: st) h := xe_bipush ec302 dX3_confirm_29 (by decide)
theorem e302_31 {ls st : List Value} {h : x_H} {x y : Int32}: x_run 302 31 ls (.int y :: .int x :: st) h = if y = 0 then none else x_run 302 32 ls (.int (x - (x / y) * y) :: st) h := xe_irem ec302 dX3_confirm_31
theorem e302_32 {ls st : List Value} {h : x_H} {v : Value} {a : Nat}: x_run 302 32 ls (v :: .ref a :: st) h = if x_fit (x_ty 5 3) v = true then q_pf h a 5 3 v (fun h' => x_run 302 35 ls st h') else none := xe_putfield ec302 dX3_confirm_32 ef3_22 (by decide +kernel)
theorem e302_35 {ls : List Value} {h : x_H} : x_run 302 35 ls [] h = some (.inl (none), h) := xe_return ec302 dX3_confirm_35 rfl
theorem ec303 : x_code 303 = cX3_takeBack := rfl
theorem e303_0 {ls st : List Value} {h : x_H} : x_run 303 0 ls st h = q_gr ls 0 (fun v => x_run 303 1 ls (.ref v :: st) h) := xe_aload_n ec303 dX3_takeBack_0
theorem e303_1 {ls st : List Value} {h : x_H} {a : Nat}: x_run 303 1 ls (.ref a :: st) h = q_gf h a 5 0 (fun v => x_run 303 4 ls (v :: st) h) := xe_getfield ec303 dX3_takeBack_1 ef3_33
theorem e303_4 {ls st : List Value} {h : x_H} : x_run 303 4 ls st h = q_gr ls 0 (fun v => x_run 303 5 ls (.ref v :: st) h) := xe_aload_n ec303 dX3_takeBack_4
theorem e303_5 {ls st : List Value} {h : x_H} {a : Nat}: x_run 303 5 ls (.ref a :: st) h = q_gf h a 5 1 (fun v => x_run 303 8 ls (v :: st) h) := xe_getfield ec303 dX3_takeBack_5 ef3_13
theorem e303_8 {ls st : List Value} {h : x_H} : x_run 303 8 ls st h = q_gr ls 0 (fun v => x_run 303 9 ls (.ref v :: st) h) := xe_aload_n ec303 dX3_takeBack_8
theorem e303_9 {ls st : List Value} {h : x_H} {a : Nat}: x_run 303 9 ls (.ref a :: st) h = q_gf h a 5 3 (fun v => x_run 303 12 ls (v :: st) h) := xe_getfield ec303 dX3_takeBack_9 ef3_22
theorem e303_12 {ls st : List Value} {h : x_H} : x_run 303 12 ls st h = q_gr ls 0 (fun v => x_run 303 13 ls (.ref v :: st) h) := xe_aload_n ec303 dX3_takeBack_12
theorem e303_13 {ls st : List Value} {h : x_H} {a : Nat}: x_run 303 13 ls (.ref a :: st) h = q_gf h a 5 4 (fun v => x_run 303 16 ls (v :: st) h) := xe_getfield ec303 dX3_takeBack_13 ef3_26
theorem e303_16 {ls st : List Value} {h : x_H} {x y : Int32}: x_run 303 16 ls (.int y :: .int x :: st) h = x_run 303 17 ls (.int (x + y) :: st) h := xe_iadd ec303 dX3_takeBack_16
theorem e303_17 {ls st : List Value} {h : x_H} : x_run 303 17 ls st h = x_run 303 19 ls (.int (q_i 9) :: st) h := xe_bipush ec303 dX3_takeBack_17 (by decide)
theorem e303_19 {ls st : List Value} {h : x_H} {x y : Int32}: x_run 303 19 ls (.int y :: .int x :: st) h = if y = 0 then none else x_run 303 20 ls (.int (x - (x / y) * y) :: st) h := xe_irem ec303 dX3_takeBack_19
theorem e303_20 {ls st : List Value} {h : x_H} {x : Int32} {a : Nat}: x_run 303 20 ls (.int x :: .ref a :: st) h = q_rv2 h a 102 x_isA x (fun v => x_run 303 21 ls (v :: st) h) := xe_aaload ec303 dX3_takeBack_20
theorem e303_21 {ls st : List Value} {h : x_H} {b : Nat} {a1 : Value}: x_run 303 21 ls (a1 :: .ref b :: st) h = if q_rcv h b 2 = true then (if x_wt st ≤ 8 ∧ x_wt [.ref b, a1] = 2 then q_cl (x_m 1 [.ref b, a1] h) (fun v h' => x_run 303 24 ls (v.toList ++ st) h') else none) else none := xe_virt (r := [a1]) ec303 dX3_takeBack_21 ek3_36 rfl (by decide +kernel) (by decide +kernel)
theorem e303_24 {ls : List Value} {h : x_H} : x_run 303 24 ls [] h = some (.inl (none), h) := xe_return ec303 dX3_takeBack_24 rfl
theorem ec304 : x_code 304 = cX3_goBack := rfl
theorem e304_0 {ls st : List Value} {h : x_H} : x_run 304 0 ls st h = q_gr ls 0 (fun v => x_run 304 1 ls (.ref v :: st) h) := xe_aload_n ec304 dX3_goBack_0
theorem e304_1 {ls st : List Value} {h : x_H} {a : Nat}: x_run 304 1 ls (.ref a :: st) h = q_gf h a 5 4 (fun v => x_run 304 4 ls (v :: st) h) := xe_getfield ec304 dX3_goBack_1 ef3_26
theorem e304_4 {ls st : List Value} {h : x_H} {x : Int32}: x_run 304 4 ls (.int x :: st) h = if x ≤ 0 then x_run 304 21 ls st h else x_run 304 7 ls st h := xe_if_le ec304 dX3_goBack_4 rfl
theorem e304_7 {ls st : List Value} {h : x_H} : x_run 304 7 ls st h = q_gr ls 0 (fun v => x_run 304 8 ls (.ref v :: st) h) := xe_aload_n ec304 dX3_goBack_7
theorem e304_8 {ls st : List Value} {h : x_H} {v : Value} (hv : v.category = 1): x_run 304 8 ls (v :: st) h = x_run 304 9 ls (v :: v :: st) h := xe_dup ec304 dX3_goBack_8 hv
theorem e304_9 {ls st : List Value} {h : x_H} {a : Nat}: x_run 304 9 ls (.ref a :: st) h = q_gf h a 5 4 (fun v => x_run 304 12 ls (v :: st) h) := xe_getfield ec304 dX3_goBack_9 ef3_26
theorem e304_12 {ls st : List Value} {h : x_H} : x_run 304 12 ls st h = x_run 304 13 ls (.int (q_i 1) :: st) h := xe_iconst ec304 dX3_goBack_12
theorem e304_13 {ls st : List Value} {h : x_H} {x y : Int32}: x_run 304 13 ls (.int y :: .int x :: st) h = x_run 304 14 ls (.int (x - y) :: st) h := xe_isub ec304 dX3_goBack_13
theorem e304_14 {ls st : List Value} {h : x_H} {v : Value} {a : Nat}: x_run 304 14 ls (v :: .ref a :: st) h = if x_fit (x_ty 5 4) v = true then q_pf h a 5 4 v (fun h' => x_run 304 17 ls st h') else none := xe_putfield ec304 dX3_goBack_14 ef3_26 (by decide +kernel)
theorem e304_17 {ls st : List Value} {h : x_H} : x_run 304 17 ls st h = q_gr ls 0 (fun v => x_run 304 18 ls (.ref v :: st) h) := xe_aload_n ec304 dX3_goBack_17
theorem e304_18 {ls st : List Value} {h : x_H} {b : Nat}: x_run 304 18 ls (.ref b :: st) h = if q_rcv h b 5 = true then (if x_wt st ≤ 8 ∧ x_wt [.ref b] = 1 then q_cl (x_m 303 [.ref b] h) (fun v h' => x_run 304 21 ls (v.toList ++ st) h') else none) else none := xe_virt (r := []) ec304 dX3_goBack_18 ek3_40 rfl (by decide +kernel) (by decide +kernel)
theorem e304_21 {ls : List Value} {h : x_H} : x_run 304 21 ls [] h = some (.inl (none), h) := xe_return ec304 dX3_goBack_21 rfl
theorem ec305 : x_code 305 = cX3_keepSnapshot := rfl
theorem e305_0 {ls st : List Value} {h : x_H} : x_run 305 0 ls st h = q_gr ls 0 (fun v => x_run 305 1 ls (.ref v :: st) h) := xe_aload_n ec305 dX3_keepSnapshot_0
theorem e305_1 {ls st : List Value} {h : x_H} {a : Nat}: x_run 305 1 ls (.ref a :: st) h = q_gf h a 5 2 (fun v => x_run 305 4 ls (v :: st) h) := xe_getfield ec305 dX3_keepSnapshot_1 ef3_18
theorem e305_4 {ls st : List Value} {h : x_H} : x_run 305 4 ls st h = q_gr ls 0 (fun v => x_run 305 5 ls (.ref v :: st) h) := xe_aload_n ec305 dX3_keepSnapshot_4
theorem e305_5 {ls st : List Value} {h : x_H} {a : Nat}: x_run 305 5 ls (.ref a :: st) h = q_gf h a 5 0 (fun v => x_run 305 8 ls (v :: st) h) := xe_getfield ec305 dX3_keepSnapshot_5 ef3_33
theorem e305_8 {ls st : List Value} {h : x_H} {b : Nat} {a1 : Value}: x_run 305 8 ls (a1 :: .ref b :: st) h = if q_rcv h b 2 = true then (if x_wt st ≤ 8 ∧ x_wt [.ref b, a1] = 2 then q_cl (x_m 1 [.ref b, a1] h) (fun v h' => x_run 305 11 ls (v.toList ++ st) h') else none) else none := xe_virt (r := [a1]) ec305 dX3_keepSnapshot_8 ek3_36 rfl (by decide +kernel) (by decide +kernel)
theorem e305_11 {ls st : List Value} {h : x_H} : x_run 305 11 ls st h = q_gr ls 0 (fun v => x_run 305 12 ls (.ref v :: st) h) := xe_aload_n ec305 dX3_keepSnapshot_11
theorem e305_12 {ls st : List Value} {h : x_H} : x_run 305 12 ls st h = x_run 305 13 ls (.int (q_i 1) :: st) h := xe_iconst ec305 dX3_keepSnapshot_12
theorem e305_13 {ls st : List Value} {h : x_H} {v : Value} {a : Nat}: x_run 305 13 ls (v :: .ref a :: st) h = if x_fit (x_ty 5 5) v = true then q_pf h a 5 5 v (fun h' => x_run 305 16 ls st h') else none := xe_putfield ec305 dX3_keepSnapshot_13 ef3_29 (by decide +kernel)
theorem e305_16 {ls : List Value} {h : x_H} : x_run 305 16 ls [] h = some (.inl (none), h) := xe_return ec305 dX3_keepSnapshot_16 rfl
theorem ec306 : x_code 306 = cX3_takeSnapshot := rfl
theorem e306_0 {ls st : List Value} {h : x_H} : x_run 306 0 ls st h = q_gr ls 0 (fun v => x_run 306 1 ls (.ref v :: st) h) := xe_aload_n ec306 dX3_takeSnapshot_0
theorem e306_1 {ls st : List Value} {h : x_H} {a : Nat}: x_run 306 1 ls (.ref a :: st) h = q_gf h a 5 0 (fun v => x_run 306 4 ls (v :: st) h) := xe_getfield ec306 dX3_takeSnapshot_1 ef3_33
theorem e306_4 {ls st : List Value} {h : x_H} : x_run 306 4 ls st h = q_gr ls 0 (fun v => x_run 306 5 ls (.ref v :: st) h) := xe_aload_n ec306 dX3_takeSnapshot_4
theorem e306_5 {ls st : List Value} {h : x_H} {a : Nat}: x_run 306 5 ls (.ref a :: st) h = q_gf h a 5 2 (fun v => x_run 306 8 ls (v :: st) h) := xe_getfield ec306 dX3_takeSnapshot_5 ef3_18
theorem e306_8 {ls st : List Value} {h : x_H} {b : Nat} {a1 : Value}: x_run 306 8 ls (a1 :: .ref b :: st) h = if q_rcv h b 2 = true then (if x_wt st ≤ 8 ∧ x_wt [.ref b, a1] = 2 then q_cl (x_m 1 [.ref b, a1] h) (fun v h' => x_run 306 11 ls (v.toList ++ st) h') else none) else none := xe_virt (r := [a1]) ec306 dX3_takeSnapshot_8 ek3_36 rfl (by decide +kernel) (by decide +kernel)
theorem e306_11 {ls st : List Value} {h : x_H} : x_run 306 11 ls st h = q_gr ls 0 (fun v => x_run 306 12 ls (.ref v :: st) h) := xe_aload_n ec306 dX3_takeSnapshot_11
theorem e306_12 {ls st : List Value} {h : x_H} : x_run 306 12 ls st h = x_run 306 13 ls (.int (q_i 0) :: st) h := xe_iconst ec306 dX3_takeSnapshot_12
theorem e306_13 {ls st : List Value} {h : x_H} {v : Value} {a : Nat}: x_run 306 13 ls (v :: .ref a :: st) h = if x_fit (x_ty 5 4) v = true then q_pf h a 5 4 v (fun h' => x_run 306 16 ls st h') else none := xe_putfield ec306 dX3_takeSnapshot_13 ef3_26 (by decide +kernel)
theorem e306_16 {ls : List Value} {h : x_H} : x_run 306 16 ls [] h = some (.inl (none), h) := xe_return ec306 dX3_takeSnapshot_16 rfl
