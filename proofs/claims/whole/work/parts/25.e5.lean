theorem ec500 : x_code 500 = cX5_init := rfl
theorem e500_0 {ls st : List Value} {h : x_H} : x_run 500 0 ls st h = q_gr ls 0 (fun v => x_run 500 1 ls (.ref v :: st) h) := xe_aload_n ec500 dX5_init_0
theorem e500_1 {ls st : List Value} {h : x_H} {a : Nat}: x_run 500 1 ls (.ref a :: st) h = if x_wt st ≤ 8 then x_run 500 4 ls st h else none := xe_obj ec500 dX5_init_1 ek5_3
theorem e500_4 {ls st : List Value} {h : x_H} : x_run 500 4 ls st h = q_gr ls 0 (fun v => x_run 500 5 ls (.ref v :: st) h) := xe_aload_n ec500 dX5_init_4
theorem e500_5 {ls st : List Value} {h : x_H} : x_run 500 5 ls st h = x_run 500 7 ls (.int (q_i 96) :: st) h := xe_bipush ec500 dX5_init_5 (by decide)
theorem e500_7 {ls st : List Value} {h : x_H} {x : Int32}: x_run 500 7 ls (.int x :: st) h = q_na h x (fun n => .inl (0, List.replicate n 0)) (fun a h' => x_run 500 9 ls (.ref a :: st) h') := xe_newarray_int ec500 dX5_init_7
theorem e500_9 {ls st : List Value} {h : x_H} {v : Value} {a : Nat}: x_run 500 9 ls (v :: .ref a :: st) h = if x_fit (x_ty 7 1) v = true then q_pf h a 7 1 v (fun h' => x_run 500 12 ls st h') else none := xe_putfield ec500 dX5_init_9 ef5_9 (by decide +kernel)
theorem e500_12 {ls st : List Value} {h : x_H} : x_run 500 12 ls st h = q_gr ls 0 (fun v => x_run 500 13 ls (.ref v :: st) h) := xe_aload_n ec500 dX5_init_12
theorem e500_13 {ls st : List Value} {h : x_H} : x_run 500 13 ls st h = x_run 500 15 ls (.int (q_i 48) :: st) h := xe_bipush ec500 dX5_init_13 (by decide)
theorem e500_15 {ls st : List Value} {h : x_H} {x : Int32}: x_run 500 15 ls (.int x :: st) h = q_na h x (fun n => .inl (0, List.replicate n 0)) (fun a h' => x_run 500 17 ls (.ref a :: st) h') := xe_newarray_int ec500 dX5_init_15
theorem e500_17 {ls st : List Value} {h : x_H} {v : Value} {a : Nat}: x_run 500 17 ls (v :: .ref a :: st) h = if x_fit (x_ty 7 2) v = true then q_pf h a 7 2 v (fun h' => x_run 500 20 ls st h') else none := xe_putfield ec500 dX5_init_17 ef5_15 (by decide +kernel)
theorem e500_20 {ls st : List Value} {h : x_H} : x_run 500 20 ls st h = q_gr ls 0 (fun v => x_run 500 21 ls (.ref v :: st) h) := xe_aload_n ec500 dX5_init_20
theorem e500_21 {ls st : List Value} {h : x_H} : x_run 500 21 ls st h = x_run 500 23 ls (.int (q_i 96) :: st) h := xe_bipush ec500 dX5_init_21 (by decide)
theorem e500_23 {ls st : List Value} {h : x_H} {x : Int32}: x_run 500 23 ls (.int x :: st) h = q_na h x (fun n => .inl (0, List.replicate n 0)) (fun a h' => x_run 500 25 ls (.ref a :: st) h') := xe_newarray_int ec500 dX5_init_23
theorem e500_25 {ls st : List Value} {h : x_H} {v : Value} {a : Nat}: x_run 500 25 ls (v :: .ref a :: st) h = if x_fit (x_ty 7 3) v = true then q_pf h a 7 3 v (fun h' => x_run 500 28 ls st h') else none := xe_putfield ec500 dX5_init_25 ef5_18 (by decide +kernel)
theorem e500_28 {ls st : List Value} {h : x_H} : x_run 500 28 ls st h = q_gr ls 0 (fun v => x_run 500 29 ls (.ref v :: st) h) := xe_aload_n ec500 dX5_init_28
theorem e500_29 {ls st : List Value} {h : x_H} : x_run 500 29 ls st h = x_run 500 31 ls (.int (q_i 96) :: st) h := xe_bipush ec500 dX5_init_29 (by decide)
theorem e500_31 {ls st : List Value} {h : x_H} {x : Int32}: x_run 500 31 ls (.int x :: st) h = q_na h x (fun n => .inl (0, List.replicate n 0)) (fun a h' => x_run 500 33 ls (.ref a :: st) h') := xe_newarray_int ec500 dX5_init_31
theorem e500_33 {ls st : List Value} {h : x_H} {v : Value} {a : Nat}: x_run 500 33 ls (v :: .ref a :: st) h = if x_fit (x_ty 7 4) v = true then q_pf h a 7 4 v (fun h' => x_run 500 36 ls st h') else none := xe_putfield ec500 dX5_init_33 ef5_21 (by decide +kernel)
theorem e500_36 {ls st : List Value} {h : x_H} : x_run 500 36 ls st h = q_gr ls 0 (fun v => x_run 500 37 ls (.ref v :: st) h) := xe_aload_n ec500 dX5_init_36
theorem e500_37 {ls st : List Value} {h : x_H} : x_run 500 37 ls st h = x_run 500 39 ls (.int (q_i 96) :: st) h := xe_bipush ec500 dX5_init_37 (by decide)
theorem e500_39 {ls st : List Value} {h : x_H} {x : Int32}: x_run 500 39 ls (.int x :: st) h = q_na h x (fun n => .inl (1, List.replicate n 0)) (fun a h' => x_run 500 41 ls (.ref a :: st) h') := xe_newarray_boolean ec500 dX5_init_39
theorem e500_41 {ls st : List Value} {h : x_H} {v : Value} {a : Nat}: x_run 500 41 ls (v :: .ref a :: st) h = if x_fit (x_ty 7 5) v = true then q_pf h a 7 5 v (fun h' => x_run 500 44 ls st h') else none := xe_putfield ec500 dX5_init_41 ef5_24 (by decide +kernel)
theorem e500_44 {ls st : List Value} {h : x_H} : x_run 500 44 ls st h = q_gr ls 0 (fun v => x_run 500 45 ls (.ref v :: st) h) := xe_aload_n ec500 dX5_init_44
theorem e500_45 {ls st : List Value} {h : x_H} : x_run 500 45 ls st h = x_run 500 46 ls (.int (q_i 0) :: st) h := xe_iconst ec500 dX5_init_45
theorem e500_46 {ls st : List Value} {h : x_H} {v : Value} {a : Nat}: x_run 500 46 ls (v :: .ref a :: st) h = if x_fit (x_ty 7 6) v = true then q_pf h a 7 6 v (fun h' => x_run 500 49 ls st h') else none := xe_putfield ec500 dX5_init_46 ef5_28 (by decide +kernel)
theorem e500_49 {ls st : List Value} {h : x_H} : x_run 500 49 ls st h = q_gr ls 0 (fun v => x_run 500 50 ls (.ref v :: st) h) := xe_aload_n ec500 dX5_init_49
theorem e500_50 {ls st : List Value} {h : x_H} : x_run 500 50 ls st h = x_run 500 51 ls (.int (q_i 0) :: st) h := xe_iconst ec500 dX5_init_50
theorem e500_51 {ls st : List Value} {h : x_H} {v : Value} {a : Nat}: x_run 500 51 ls (v :: .ref a :: st) h = if x_fit (x_ty 7 7) v = true then q_pf h a 7 7 v (fun h' => x_run 500 54 ls st h') else none := xe_putfield ec500 dX5_init_51 ef5_32 (by decide +kernel)
theorem e500_54 {ls st : List Value} {h : x_H} : x_run 500 54 ls st h = q_gr ls 0 (fun v => x_run 500 55 ls (.ref v :: st) h) := xe_aload_n ec500 dX5_init_54
theorem e500_55 {ls st : List Value} {h : x_H} : x_run 500 55 ls st h = x_run 500 56 ls (.int (q_i 0) :: st) h := xe_iconst ec500 dX5_init_55
theorem e500_56 {ls st : List Value} {h : x_H} {v : Value} {a : Nat}: x_run 500 56 ls (v :: .ref a :: st) h = if x_fit (x_ty 7 8) v = true then q_pf h a 7 8 v (fun h' => x_run 500 59 ls st h') else none := xe_putfield ec500 dX5_init_56 ef5_35 (by decide +kernel)
theorem e500_59 {ls st : List Value} {h : x_H} : x_run 500 59 ls st h = q_gr ls 0 (fun v => x_run 500 60 ls (.ref v :: st) h) := xe_aload_n ec500 dX5_init_59
theorem e500_60 {ls st : List Value} {h : x_H} : x_run 500 60 ls st h = x_run 500 61 ls (.int (q_i 0) :: st) h := xe_iconst ec500 dX5_init_60
theorem e500_61 {ls st : List Value} {h : x_H} {v : Value} {a : Nat}: x_run 500 61 ls (v :: .ref a :: st) h = if x_fit (x_ty 7 9) v = true then q_pf h a 7 9 v (fun h' => x_run 500 64 ls st h') else none := xe_putfield ec500 dX5_init_61 ef5_38 (by decide +kernel)
theorem e500_64 {ls st : List Value} {h : x_H} : x_run 500 64 ls st h = q_gr ls 0 (fun v => x_run 500 65 ls (.ref v :: st) h) := xe_aload_n ec500 dX5_init_64
theorem e500_65 {ls st : List Value} {h : x_H} : x_run 500 65 ls st h = x_run 500 67 ls (.int (q_i 96) :: st) h := xe_bipush ec500 dX5_init_65 (by decide)
theorem e500_67 {ls st : List Value} {h : x_H} {x : Int32}: x_run 500 67 ls (.int x :: st) h = q_na h x (fun n => .inl (1, List.replicate n 0)) (fun a h' => x_run 500 69 ls (.ref a :: st) h') := xe_newarray_boolean ec500 dX5_init_67
theorem e500_69 {ls st : List Value} {h : x_H} {v : Value} {a : Nat}: x_run 500 69 ls (v :: .ref a :: st) h = if x_fit (x_ty 7 10) v = true then q_pf h a 7 10 v (fun h' => x_run 500 72 ls st h') else none := xe_putfield ec500 dX5_init_69 ef5_42 (by decide +kernel)
theorem e500_72 {ls st : List Value} {h : x_H} : x_run 500 72 ls st h = q_gr ls 0 (fun v => x_run 500 73 ls (.ref v :: st) h) := xe_aload_n ec500 dX5_init_72
theorem e500_73 {ls st : List Value} {h : x_H} : x_run 500 73 ls st h = x_run 500 75 ls (.int (q_i 48) :: st) h := xe_bipush ec500 dX5_init_73 (by decide)
theorem e500_75 {ls st : List Value} {h : x_H} {x : Int32}: x_run 500 75 ls (.int x :: st) h = q_na h x (fun n => .inl (1, List.replicate n 0)) (fun a h' => x_run 500 77 ls (.ref a :: st) h') := xe_newarray_boolean ec500 dX5_init_75
theorem e500_77 {ls st : List Value} {h : x_H} {v : Value} {a : Nat}: x_run 500 77 ls (v :: .ref a :: st) h = if x_fit (x_ty 7 11) v = true then q_pf h a 7 11 v (fun h' => x_run 500 80 ls st h') else none := xe_putfield ec500 dX5_init_77 ef5_45 (by decide +kernel)
theorem e500_80 {ls st : List Value} {h : x_H} : x_run 500 80 ls st h = q_gr ls 0 (fun v => x_run 500 81 ls (.ref v :: st) h) := xe_aload_n ec500 dX5_init_80
theorem e500_81 {ls st : List Value} {h : x_H} : x_run 500 81 ls st h = x_run 500 82 ls (.int (q_i 0) :: st) h := xe_iconst ec500 dX5_init_81
theorem e500_82 {ls st : List Value} {h : x_H} {v : Value} {a : Nat}: x_run 500 82 ls (v :: .ref a :: st) h = if x_fit (x_ty 7 12) v = true then q_pf h a 7 12 v (fun h' => x_run 500 85 ls st h') else none := xe_putfield ec500 dX5_init_82 ef5_48 (by decide +kernel)
theorem e500_85 {ls st : List Value} {h : x_H} : x_run 500 85 ls st h = q_gr ls 0 (fun v => x_run 500 86 ls (.ref v :: st) h) := xe_aload_n ec500 dX5_init_85
theorem e500_86 {ls st : List Value} {h : x_H} : x_run 500 86 ls st h = x_run 500 87 ls (.int (q_i 0) :: st) h := xe_iconst ec500 dX5_init_86
theorem e500_87 {ls st : List Value} {h : x_H} {v : Value} {a : Nat}: x_run 500 87 ls (v :: .ref a :: st) h = if x_fit (x_ty 7 13) v = true then q_pf h a 7 13 v (fun h' => x_run 500 90 ls st h') else none := xe_putfield ec500 dX5_init_87 ef5_51 (by decide +kernel)
theorem e500_90 {ls st : List Value} {h : x_H} : x_run 500 90 ls st h = q_gr ls 0 (fun v => x_run 500 91 ls (.ref v :: st) h) := xe_aload_n ec500 dX5_init_90
theorem e500_91 {ls st : List Value} {h : x_H} : x_run 500 91 ls st h = x_run 500 92 ls (.int (q_i 0) :: st) h := xe_iconst ec500 dX5_init_91
theorem e500_92 {ls st : List Value} {h : x_H} {v : Value} {a : Nat}: x_run 500 92 ls (v :: .ref a :: st) h = if x_fit (x_ty 7 14) v = true then q_pf h a 7 14 v (fun h' => x_run 500 95 ls st h') else none := xe_putfield ec500 dX5_init_92 ef5_54 (by decide +kernel)
theorem e500_95 {ls st : List Value} {h : x_H} : x_run 500 95 ls st h = q_gr ls 0 (fun v => x_run 500 96 ls (.ref v :: st) h) := xe_aload_n ec500 dX5_init_95
theorem e500_96 {ls st : List Value} {h : x_H} : x_run 500 96 ls st h = q_gr ls 1 (fun v => x_run 500 97 ls (.ref v :: st) h) := xe_aload_n ec500 dX5_init_96
theorem e500_97 {ls st : List Value} {h : x_H} {v : Value} {a : Nat}: x_run 500 97 ls (v :: .ref a :: st) h = if x_fit (x_ty 7 0) v = true then q_pf h a 7 0 v (fun h' => x_run 500 100 ls st h') else none := xe_putfield ec500 dX5_init_97 ef5_57 (by decide +kernel)
theorem e500_100 {ls : List Value} {h : x_H} : x_run 500 100 ls [] h = some (.inl (none), h) := xe_return ec500 dX5_init_100 rfl
theorem ec501 : x_code 501 = cX5_readPrices := rfl
theorem e501_0 {ls st : List Value} {h : x_H} : x_run 501 0 ls st h = q_gr ls 0 (fun v => x_run 501 1 ls (.ref v :: st) h) := xe_aload_n ec501 dX5_readPrices_0
theorem e501_1 {ls st : List Value} {h : x_H} : x_run 501 1 ls st h = q_gi ls 1 (fun v => x_run 501 2 ls (.int v :: st) h) := xe_iload_n ec501 dX5_readPrices_1
theorem e501_2 {ls st : List Value} {h : x_H} {v : Value} {a : Nat}: x_run 501 2 ls (v :: .ref a :: st) h = if x_fit (x_ty 7 8) v = true then q_pf h a 7 8 v (fun h' => x_run 501 5 ls st h') else none := xe_putfield ec501 dX5_readPrices_2 ef5_35 (by decide +kernel)
theorem e501_5 {ls st : List Value} {h : x_H} : x_run 501 5 ls st h = x_run 501 6 ls (.int (q_i 0) :: st) h := xe_iconst ec501 dX5_readPrices_5
theorem e501_6 {ls st : List Value} {h : x_H} {x : Int32}: x_run 501 6 ls (.int x :: st) h = q_ls ls 2 (.int x) (fun ls' => x_run 501 7 ls' st h) := xe_istore_n ec501 dX5_readPrices_6
theorem e501_7 {ls st : List Value} {h : x_H} : x_run 501 7 ls st h = q_gi ls 2 (fun v => x_run 501 8 ls (.int v :: st) h) := xe_iload_n ec501 dX5_readPrices_7
theorem e501_8 {ls st : List Value} {h : x_H} : x_run 501 8 ls st h = x_run 501 10 ls (.int (q_i 96) :: st) h := xe_bipush ec501 dX5_readPrices_8 (by decide)
theorem e501_10 {ls st : List Value} {h : x_H} {x y : Int32}: x_run 501 10 ls (.int y :: .int x :: st) h = if y ≤ x then x_run 501 34 ls st h else x_run 501 13 ls st h := xe_ic_ge ec501 dX5_readPrices_10 rfl
theorem e501_13 {ls st : List Value} {h : x_H} : x_run 501 13 ls st h = q_gr ls 0 (fun v => x_run 501 14 ls (.ref v :: st) h) := xe_aload_n ec501 dX5_readPrices_13
theorem e501_14 {ls st : List Value} {h : x_H} {a : Nat}: x_run 501 14 ls (.ref a :: st) h = q_gf h a 7 1 (fun v => x_run 501 17 ls (v :: st) h) := xe_getfield ec501 dX5_readPrices_14 ef5_9
theorem e501_17 {ls st : List Value} {h : x_H} : x_run 501 17 ls st h = q_gi ls 2 (fun v => x_run 501 18 ls (.int v :: st) h) := xe_iload_n ec501 dX5_readPrices_17
theorem e501_18 {ls st : List Value} {h : x_H} : x_run 501 18 ls st h = q_gr ls 0 (fun v => x_run 501 19 ls (.ref v :: st) h) := xe_aload_n ec501 dX5_readPrices_18
theorem e501_19 {ls st : List Value} {h : x_H} {a : Nat}: x_run 501 19 ls (.ref a :: st) h = q_gf h a 7 0 (fun v => x_run 501 22 ls (v :: st) h) := xe_getfield ec501 dX5_readPrices_19 ef5_57
theorem e501_22 {ls st : List Value} {h : x_H} : x_run 501 22 ls st h = q_gi ls 1 (fun v => x_run 501 23 ls (.int v :: st) h) := xe_iload_n ec501 dX5_readPrices_22
theorem e501_23 {ls st : List Value} {h : x_H} : x_run 501 23 ls st h = q_gi ls 2 (fun v => x_run 501 24 ls (.int v :: st) h) := xe_iload_n ec501 dX5_readPrices_23
theorem e501_24 {ls st : List Value} {h : x_H} {b : Nat} {a1 a2 : Value}: x_run 501 24 ls (a2 :: a1 :: .ref b :: st) h = if q_rcv h b 2 = true then (if x_wt st ≤ 8 ∧ x_wt [.ref b, a1, a2] = 3 then q_cl (x_m 6 [.ref b, a1, a2] h) (fun v h' => x_run 501 27 ls (v.toList ++ st) h') else none) else none := xe_virt (r := [a1, a2]) ec501 dX5_readPrices_24 ek5_61 rfl (by decide +kernel) (by decide +kernel)
theorem e501_27 {ls st : List Value} {h : x_H} {x y : Int32} {a : Nat}: x_run 501 27 ls (.int y :: .int x :: .ref a :: st) h = q_wa h a 0 x y (fun h' => x_run 501 28 ls st h') := xe_iastore ec501 dX5_readPrices_27
theorem e501_28 {ls st : List Value} {h : x_H} : x_run 501 28 ls st h = q_gi ls 2 (fun v => if x_nd ls 2 = true then x_run 501 31 (ls.set 2 (.int (v + q_i 1))) st h else none) := xe_iinc ec501 dX5_readPrices_28
theorem e501_31 {ls st : List Value} {h : x_H} : x_run 501 31 ls st h = x_run 501 7 ls st h := xe_goto ec501 dX5_readPrices_31 rfl
theorem e501_34 {ls st : List Value} {h : x_H} : x_run 501 34 ls st h = x_run 501 35 ls (.int (q_i 0) :: st) h := xe_iconst ec501 dX5_readPrices_34
theorem e501_35 {ls st : List Value} {h : x_H} {x : Int32}: x_run 501 35 ls (.int x :: st) h = q_ls ls 2 (.int x) (fun ls' => x_run 501 36 ls' st h) := xe_istore_n ec501 dX5_readPrices_35
theorem e501_36 {ls st : List Value} {h : x_H} : x_run 501 36 ls st h = q_gi ls 2 (fun v => x_run 501 37 ls (.int v :: st) h) := xe_iload_n ec501 dX5_readPrices_36
theorem e501_37 {ls st : List Value} {h : x_H} : x_run 501 37 ls st h = x_run 501 39 ls (.int (q_i 48) :: st) h := xe_bipush ec501 dX5_readPrices_37 (by decide)
theorem e501_39 {ls st : List Value} {h : x_H} {x y : Int32}: x_run 501 39 ls (.int y :: .int x :: st) h = if y ≤ x then x_run 501 94 ls st h else x_run 501 42 ls st h := xe_ic_ge ec501 dX5_readPrices_39 rfl
theorem e501_42 {ls st : List Value} {h : x_H} : x_run 501 42 ls st h = q_gr ls 0 (fun v => x_run 501 43 ls (.ref v :: st) h) := xe_aload_n ec501 dX5_readPrices_42
theorem e501_43 {ls st : List Value} {h : x_H} {a : Nat}: x_run 501 43 ls (.ref a :: st) h = q_gf h a 7 0 (fun v => x_run 501 46 ls (v :: st) h) := xe_getfield ec501 dX5_readPrices_43 ef5_57
theorem e501_46 {ls st : List Value} {h : x_H} {a : Nat}: x_run 501 46 ls (.ref a :: st) h = q_gf h a 2 10 (fun v => x_run 501 49 ls (v :: st) h) := xe_getfield ec501 dX5_readPrices_46 ef5_67
theorem e501_49 {ls st : List Value} {h : x_H} : x_run 501 49 ls st h = q_gi ls 2 (fun v => x_run 501 50 ls (.int v :: st) h) := xe_iload_n ec501 dX5_readPrices_49
theorem e501_50 {ls st : List Value} {h : x_H} {x : Int32} {a : Nat}: x_run 501 50 ls (.int x :: .ref a :: st) h = q_ra h a 0 x (fun v => x_run 501 51 ls (.int v :: st) h) := xe_iaload ec501 dX5_readPrices_50
theorem e501_51 {ls st : List Value} {h : x_H} : x_run 501 51 ls st h = q_gi ls 1 (fun v => x_run 501 52 ls (.int v :: st) h) := xe_iload_n ec501 dX5_readPrices_51
theorem e501_52 {ls st : List Value} {h : x_H} {x y : Int32}: x_run 501 52 ls (.int y :: .int x :: st) h = if ¬ x = y then x_run 501 71 ls st h else x_run 501 55 ls st h := xe_ic_ne ec501 dX5_readPrices_52 rfl
theorem e501_55 {ls st : List Value} {h : x_H} : x_run 501 55 ls st h = q_gr ls 0 (fun v => x_run 501 56 ls (.ref v :: st) h) := xe_aload_n ec501 dX5_readPrices_55
theorem e501_56 {ls st : List Value} {h : x_H} {a : Nat}: x_run 501 56 ls (.ref a :: st) h = q_gf h a 7 0 (fun v => x_run 501 59 ls (v :: st) h) := xe_getfield ec501 dX5_readPrices_56 ef5_57
theorem e501_59 {ls st : List Value} {h : x_H} {a : Nat}: x_run 501 59 ls (.ref a :: st) h = q_gf h a 2 11 (fun v => x_run 501 62 ls (v :: st) h) := xe_getfield ec501 dX5_readPrices_59 ef5_70
theorem e501_62 {ls st : List Value} {h : x_H} : x_run 501 62 ls st h = q_gi ls 2 (fun v => x_run 501 63 ls (.int v :: st) h) := xe_iload_n ec501 dX5_readPrices_62
theorem e501_63 {ls st : List Value} {h : x_H} {x : Int32} {a : Nat}: x_run 501 63 ls (.int x :: .ref a :: st) h = q_ra h a 1 x (fun v => x_run 501 64 ls (.int v :: st) h) := xe_baload ec501 dX5_readPrices_63
theorem e501_64 {ls st : List Value} {h : x_H} {x : Int32}: x_run 501 64 ls (.int x :: st) h = if x = 0 then x_run 501 71 ls st h else x_run 501 67 ls st h := xe_if_eq ec501 dX5_readPrices_64 rfl
theorem e501_67 {ls st : List Value} {h : x_H} : x_run 501 67 ls st h = x_run 501 68 ls (.int (q_i 1) :: st) h := xe_iconst ec501 dX5_readPrices_67
theorem e501_68 {ls st : List Value} {h : x_H} : x_run 501 68 ls st h = x_run 501 72 ls st h := xe_goto ec501 dX5_readPrices_68 rfl
theorem e501_71 {ls st : List Value} {h : x_H} : x_run 501 71 ls st h = x_run 501 72 ls (.int (q_i 0) :: st) h := xe_iconst ec501 dX5_readPrices_71
theorem e501_72 {ls st : List Value} {h : x_H} {x : Int32}: x_run 501 72 ls (.int x :: st) h = q_ls ls 3 (.int x) (fun ls' => x_run 501 73 ls' st h) := xe_istore_n ec501 dX5_readPrices_72
theorem e501_73 {ls st : List Value} {h : x_H} : x_run 501 73 ls st h = q_gr ls 0 (fun v => x_run 501 74 ls (.ref v :: st) h) := xe_aload_n ec501 dX5_readPrices_73
theorem e501_74 {ls st : List Value} {h : x_H} {a : Nat}: x_run 501 74 ls (.ref a :: st) h = q_gf h a 7 2 (fun v => x_run 501 77 ls (v :: st) h) := xe_getfield ec501 dX5_readPrices_74 ef5_15
theorem e501_77 {ls st : List Value} {h : x_H} : x_run 501 77 ls st h = q_gi ls 2 (fun v => x_run 501 78 ls (.int v :: st) h) := xe_iload_n ec501 dX5_readPrices_77
theorem e501_78 {ls st : List Value} {h : x_H} : x_run 501 78 ls st h = q_gi ls 3 (fun v => x_run 501 79 ls (.int v :: st) h) := xe_iload_n ec501 dX5_readPrices_78
theorem e501_79 {ls st : List Value} {h : x_H} {x : Int32}: x_run 501 79 ls (.int x :: st) h = if x = 0 then x_run 501 86 ls st h else x_run 501 82 ls st h := xe_if_eq ec501 dX5_readPrices_79 rfl
theorem e501_82 {ls st : List Value} {h : x_H} : x_run 501 82 ls st h = x_run 501 83 ls (.int (q_i 0) :: st) h := xe_iconst ec501 dX5_readPrices_82
theorem e501_83 {ls st : List Value} {h : x_H} : x_run 501 83 ls st h = x_run 501 87 ls st h := xe_goto ec501 dX5_readPrices_83 rfl
theorem e501_86 {ls st : List Value} {h : x_H} : x_run 501 86 ls st h = x_run 501 87 ls (.int (q_i 3) :: st) h := xe_iconst ec501 dX5_readPrices_86
theorem e501_87 {ls st : List Value} {h : x_H} {x y : Int32} {a : Nat}: x_run 501 87 ls (.int y :: .int x :: .ref a :: st) h = q_wa h a 0 x y (fun h' => x_run 501 88 ls st h') := xe_iastore ec501 dX5_readPrices_87
theorem e501_88 {ls st : List Value} {h : x_H} : x_run 501 88 ls st h = q_gi ls 2 (fun v => if x_nd ls 2 = true then x_run 501 91 (ls.set 2 (.int (v + q_i 1))) st h else none) := xe_iinc ec501 dX5_readPrices_88
theorem e501_91 {ls st : List Value} {h : x_H} : x_run 501 91 ls st h = x_run 501 36 ls st h := xe_goto ec501 dX5_readPrices_91 rfl
theorem e501_94 {ls : List Value} {h : x_H} : x_run 501 94 ls [] h = some (.inl (none), h) := xe_return ec501 dX5_readPrices_94 rfl
theorem ec502 : x_code 502 = cX5_findWays := rfl
theorem e502_0 {ls st : List Value} {h : x_H} : x_run 502 0 ls st h = q_gr ls 0 (fun v => x_run 502 1 ls (.ref v :: st) h) := xe_aload_n ec502 dX5_findWays_0
theorem e502_1 {ls st : List Value} {h : x_H} {a : Nat}: x_run 502 1 ls (.ref a :: st) h = q_gf h a 7 0 (fun v => x_run 502 4 ls (v :: st) h) := xe_getfield ec502 dX5_findWays_1 ef5_57
theorem e502_4 {ls st : List Value} {h : x_H} {a : Nat}: x_run 502 4 ls (.ref a :: st) h = q_gf h a 2 3 (fun v => x_run 502 7 ls (v :: st) h) := xe_getfield ec502 dX5_findWays_4 ef5_73
theorem e502_7 {ls st : List Value} {h : x_H} : x_run 502 7 ls st h = q_gi ls 1 (fun v => x_run 502 8 ls (.int v :: st) h) := xe_iload_n ec502 dX5_findWays_7
theorem e502_8 {ls st : List Value} {h : x_H} {x : Int32} {a : Nat}: x_run 502 8 ls (.int x :: .ref a :: st) h = q_ra h a 1 x (fun v => x_run 502 9 ls (.int v :: st) h) := xe_baload ec502 dX5_findWays_8
theorem e502_9 {ls st : List Value} {h : x_H} {x : Int32}: x_run 502 9 ls (.int x :: st) h = if ¬ x = 0 then x_run 502 25 ls st h else x_run 502 12 ls st h := xe_if_ne ec502 dX5_findWays_9 rfl
theorem e502_12 {ls st : List Value} {h : x_H} : x_run 502 12 ls st h = q_gr ls 0 (fun v => x_run 502 13 ls (.ref v :: st) h) := xe_aload_n ec502 dX5_findWays_12
theorem e502_13 {ls st : List Value} {h : x_H} {a : Nat}: x_run 502 13 ls (.ref a :: st) h = q_gf h a 7 0 (fun v => x_run 502 16 ls (v :: st) h) := xe_getfield ec502 dX5_findWays_13 ef5_57
theorem e502_16 {ls st : List Value} {h : x_H} {a : Nat}: x_run 502 16 ls (.ref a :: st) h = q_gf h a 2 4 (fun v => x_run 502 19 ls (v :: st) h) := xe_getfield ec502 dX5_findWays_16 ef5_76
theorem e502_19 {ls st : List Value} {h : x_H} : x_run 502 19 ls st h = q_gi ls 1 (fun v => x_run 502 20 ls (.int v :: st) h) := xe_iload_n ec502 dX5_findWays_19
theorem e502_20 {ls st : List Value} {h : x_H} {x : Int32} {a : Nat}: x_run 502 20 ls (.int x :: .ref a :: st) h = q_ra h a 0 x (fun v => x_run 502 21 ls (.int v :: st) h) := xe_iaload ec502 dX5_findWays_20
theorem e502_21 {ls st : List Value} {h : x_H} : x_run 502 21 ls st h = x_run 502 22 ls (.int (q_i 2) :: st) h := xe_iconst ec502 dX5_findWays_21
theorem e502_22 {ls st : List Value} {h : x_H} {x y : Int32}: x_run 502 22 ls (.int y :: .int x :: st) h = if y ≤ x then x_run 502 27 ls st h else x_run 502 25 ls st h := xe_ic_ge ec502 dX5_findWays_22 rfl
theorem e502_25 {ls st : List Value} {h : x_H} : x_run 502 25 ls st h = x_run 502 26 ls (.int (q_i 0) :: st) h := xe_iconst ec502 dX5_findWays_25
theorem e502_26 {ls : List Value} {h : x_H} {x : Int32} : x_run 502 26 ls [.int x] h = if narrow .boolean (.int x) = .int x then some (.inl (some (.int x)), h) else none := xe_ireturn ec502 dX5_findWays_26 rfl
theorem e502_27 {ls st : List Value} {h : x_H} : x_run 502 27 ls st h = q_gr ls 0 (fun v => x_run 502 28 ls (.ref v :: st) h) := xe_aload_n ec502 dX5_findWays_27
theorem e502_28 {ls st : List Value} {h : x_H} : x_run 502 28 ls st h = q_gi ls 1 (fun v => x_run 502 29 ls (.int v :: st) h) := xe_iload_n ec502 dX5_findWays_28
theorem e502_29 {ls st : List Value} {h : x_H} {b : Nat} {a1 : Value}: x_run 502 29 ls (a1 :: .ref b :: st) h = if q_rcv h b 7 = true then (if x_wt st ≤ 8 ∧ x_wt [.ref b, a1] = 2 then q_cl (x_m 501 [.ref b, a1] h) (fun v h' => x_run 502 32 ls (v.toList ++ st) h') else none) else none := xe_virt (r := [a1]) ec502 dX5_findWays_29 ek5_79 rfl (by decide +kernel) (by decide +kernel)
theorem e502_32 {ls st : List Value} {h : x_H} : x_run 502 32 ls st h = q_gr ls 0 (fun v => x_run 502 33 ls (.ref v :: st) h) := xe_aload_n ec502 dX5_findWays_32
theorem e502_33 {ls st : List Value} {h : x_H} : x_run 502 33 ls st h = q_gi ls 2 (fun v => x_run 502 34 ls (.int v :: st) h) := xe_iload_n ec502 dX5_findWays_33
theorem e502_34 {ls st : List Value} {h : x_H} {b : Nat} {a1 : Value}: x_run 502 34 ls (a1 :: .ref b :: st) h = if q_rcv h b 7 = true then (if x_wt st ≤ 8 ∧ x_wt [.ref b, a1] = 2 then q_cl (x_m 503 [.ref b, a1] h) (fun v h' => x_run 502 37 ls (v.toList ++ st) h') else none) else none := xe_virt (r := [a1]) ec502 dX5_findWays_34 ek5_83 rfl (by decide +kernel) (by decide +kernel)
theorem e502_37 {ls : List Value} {h : x_H} {x : Int32} : x_run 502 37 ls [.int x] h = if narrow .boolean (.int x) = .int x then some (.inl (some (.int x)), h) else none := xe_ireturn ec502 dX5_findWays_37 rfl
theorem ec503 : x_code 503 = cX5_joinPins := rfl
theorem e503_0 {ls st : List Value} {h : x_H} : x_run 503 0 ls st h = q_gr ls 0 (fun v => x_run 503 1 ls (.ref v :: st) h) := xe_aload_n ec503 dX5_joinPins_0
theorem e503_1 {ls st : List Value} {h : x_H} : x_run 503 1 ls st h = q_gi ls 1 (fun v => x_run 503 2 ls (.int v :: st) h) := xe_iload_n ec503 dX5_joinPins_1
theorem e503_2 {ls st : List Value} {h : x_H} {v : Value} {a : Nat}: x_run 503 2 ls (v :: .ref a :: st) h = if x_fit (x_ty 7 9) v = true then q_pf h a 7 9 v (fun h' => x_run 503 5 ls st h') else none := xe_putfield ec503 dX5_joinPins_2 ef5_38 (by decide +kernel)
theorem e503_5 {ls st : List Value} {h : x_H} : x_run 503 5 ls st h = q_gr ls 0 (fun v => x_run 503 6 ls (.ref v :: st) h) := xe_aload_n ec503 dX5_joinPins_5
theorem e503_6 {ls st : List Value} {h : x_H} {b : Nat}: x_run 503 6 ls (.ref b :: st) h = if q_rcv h b 7 = true then (if x_wt st ≤ 8 ∧ x_wt [.ref b] = 1 then q_cl (x_m 506 [.ref b] h) (fun v h' => x_run 503 9 ls (v.toList ++ st) h') else none) else none := xe_virt (r := []) ec503 dX5_joinPins_6 ek5_87 rfl (by decide +kernel) (by decide +kernel)
theorem e503_9 {ls st : List Value} {h : x_H} : x_run 503 9 ls st h = q_gr ls 0 (fun v => x_run 503 10 ls (.ref v :: st) h) := xe_aload_n ec503 dX5_joinPins_9
theorem e503_10 {ls st : List Value} {h : x_H} : x_run 503 10 ls st h = q_gr ls 0 (fun v => x_run 503 11 ls (.ref v :: st) h) := xe_aload_n ec503 dX5_joinPins_10
theorem e503_11 {ls st : List Value} {h : x_H} {a : Nat}: x_run 503 11 ls (.ref a :: st) h = q_gf h a 7 0 (fun v => x_run 503 14 ls (v :: st) h) := xe_getfield ec503 dX5_joinPins_11 ef5_57
theorem e503_14 {ls st : List Value} {h : x_H} : x_run 503 14 ls st h = q_gr ls 0 (fun v => x_run 503 15 ls (.ref v :: st) h) := xe_aload_n ec503 dX5_joinPins_14
theorem e503_15 {ls st : List Value} {h : x_H} {a : Nat}: x_run 503 15 ls (.ref a :: st) h = q_gf h a 7 8 (fun v => x_run 503 18 ls (v :: st) h) := xe_getfield ec503 dX5_joinPins_15 ef5_35
theorem e503_18 {ls st : List Value} {h : x_H} : x_run 503 18 ls st h = x_run 503 19 ls (.int (q_i 0) :: st) h := xe_iconst ec503 dX5_joinPins_18
theorem e503_19 {ls st : List Value} {h : x_H} {b : Nat} {a1 a2 : Value}: x_run 503 19 ls (a2 :: a1 :: .ref b :: st) h = if q_rcv h b 2 = true then (if x_wt st ≤ 8 ∧ x_wt [.ref b, a1, a2] = 3 then q_cl (x_m 3 [.ref b, a1, a2] h) (fun v h' => x_run 503 22 ls (v.toList ++ st) h') else none) else none := xe_virt (r := [a1, a2]) ec503 dX5_joinPins_19 ek5_90 rfl (by decide +kernel) (by decide +kernel)
theorem e503_22 {ls st : List Value} {h : x_H} {b : Nat} {a1 : Value}: x_run 503 22 ls (a1 :: .ref b :: st) h = if q_rcv h b 7 = true then (if x_wt st ≤ 8 ∧ x_wt [.ref b, a1] = 2 then q_cl (x_m 507 [.ref b, a1] h) (fun v h' => x_run 503 25 ls (v.toList ++ st) h') else none) else none := xe_virt (r := [a1]) ec503 dX5_joinPins_22 ek5_93 rfl (by decide +kernel) (by decide +kernel)
theorem e503_25 {ls st : List Value} {h : x_H} : x_run 503 25 ls st h = x_run 503 26 ls (.int (q_i 1) :: st) h := xe_iconst ec503 dX5_joinPins_25
theorem e503_26 {ls st : List Value} {h : x_H} {x : Int32}: x_run 503 26 ls (.int x :: st) h = q_ls ls 2 (.int x) (fun ls' => x_run 503 27 ls' st h) := xe_istore_n ec503 dX5_joinPins_26
theorem e503_27 {ls st : List Value} {h : x_H} : x_run 503 27 ls st h = q_gi ls 2 (fun v => x_run 503 28 ls (.int v :: st) h) := xe_iload_n ec503 dX5_joinPins_27
theorem e503_28 {ls st : List Value} {h : x_H} : x_run 503 28 ls st h = q_gr ls 0 (fun v => x_run 503 29 ls (.ref v :: st) h) := xe_aload_n ec503 dX5_joinPins_28
theorem e503_29 {ls st : List Value} {h : x_H} {a : Nat}: x_run 503 29 ls (.ref a :: st) h = q_gf h a 7 0 (fun v => x_run 503 32 ls (v :: st) h) := xe_getfield ec503 dX5_joinPins_29 ef5_57
theorem e503_32 {ls st : List Value} {h : x_H} {a : Nat}: x_run 503 32 ls (.ref a :: st) h = q_gf h a 2 4 (fun v => x_run 503 35 ls (v :: st) h) := xe_getfield ec503 dX5_joinPins_32 ef5_76
theorem e503_35 {ls st : List Value} {h : x_H} : x_run 503 35 ls st h = q_gr ls 0 (fun v => x_run 503 36 ls (.ref v :: st) h) := xe_aload_n ec503 dX5_joinPins_35
theorem e503_36 {ls st : List Value} {h : x_H} {a : Nat}: x_run 503 36 ls (.ref a :: st) h = q_gf h a 7 8 (fun v => x_run 503 39 ls (v :: st) h) := xe_getfield ec503 dX5_joinPins_36 ef5_35
theorem e503_39 {ls st : List Value} {h : x_H} {x : Int32} {a : Nat}: x_run 503 39 ls (.int x :: .ref a :: st) h = q_ra h a 0 x (fun v => x_run 503 40 ls (.int v :: st) h) := xe_iaload ec503 dX5_joinPins_39
theorem e503_40 {ls st : List Value} {h : x_H} {x y : Int32}: x_run 503 40 ls (.int y :: .int x :: st) h = if y ≤ x then x_run 503 140 ls st h else x_run 503 43 ls st h := xe_ic_ge ec503 dX5_joinPins_40 rfl
theorem e503_43 {ls st : List Value} {h : x_H} : x_run 503 43 ls st h = q_gr ls 0 (fun v => x_run 503 44 ls (.ref v :: st) h) := xe_aload_n ec503 dX5_joinPins_43
theorem e503_44 {ls st : List Value} {h : x_H} {a : Nat}: x_run 503 44 ls (.ref a :: st) h = q_gf h a 7 0 (fun v => x_run 503 47 ls (v :: st) h) := xe_getfield ec503 dX5_joinPins_44 ef5_57
theorem e503_47 {ls st : List Value} {h : x_H} : x_run 503 47 ls st h = q_gr ls 0 (fun v => x_run 503 48 ls (.ref v :: st) h) := xe_aload_n ec503 dX5_joinPins_47
theorem e503_48 {ls st : List Value} {h : x_H} {a : Nat}: x_run 503 48 ls (.ref a :: st) h = q_gf h a 7 8 (fun v => x_run 503 51 ls (v :: st) h) := xe_getfield ec503 dX5_joinPins_48 ef5_35
theorem e503_51 {ls st : List Value} {h : x_H} : x_run 503 51 ls st h = q_gi ls 2 (fun v => x_run 503 52 ls (.int v :: st) h) := xe_iload_n ec503 dX5_joinPins_51
theorem e503_52 {ls st : List Value} {h : x_H} {b : Nat} {a1 a2 : Value}: x_run 503 52 ls (a2 :: a1 :: .ref b :: st) h = if q_rcv h b 2 = true then (if x_wt st ≤ 8 ∧ x_wt [.ref b, a1, a2] = 3 then q_cl (x_m 3 [.ref b, a1, a2] h) (fun v h' => x_run 503 55 ls (v.toList ++ st) h') else none) else none := xe_virt (r := [a1, a2]) ec503 dX5_joinPins_52 ek5_90 rfl (by decide +kernel) (by decide +kernel)
theorem e503_55 {ls st : List Value} {h : x_H} {x : Int32}: x_run 503 55 ls (.int x :: st) h = q_ls ls 3 (.int x) (fun ls' => x_run 503 56 ls' st h) := xe_istore_n ec503 dX5_joinPins_55
theorem e503_56 {ls st : List Value} {h : x_H} : x_run 503 56 ls st h = q_gr ls 0 (fun v => x_run 503 57 ls (.ref v :: st) h) := xe_aload_n ec503 dX5_joinPins_56
theorem e503_57 {ls st : List Value} {h : x_H} {b : Nat}: x_run 503 57 ls (.ref b :: st) h = if q_rcv h b 7 = true then (if x_wt st ≤ 8 ∧ x_wt [.ref b] = 1 then q_cl (x_m 508 [.ref b] h) (fun v h' => x_run 503 60 ls (v.toList ++ st) h') else none) else none := xe_virt (r := []) ec503 dX5_joinPins_57 ek5_96 rfl (by decide +kernel) (by decide +kernel)
theorem e503_60 {ls st : List Value} {h : x_H} : x_run 503 60 ls st h = q_gr ls 0 (fun v => x_run 503 61 ls (.ref v :: st) h) := xe_aload_n ec503 dX5_joinPins_60
theorem e503_61 {ls st : List Value} {h : x_H} {a : Nat}: x_run 503 61 ls (.ref a :: st) h = q_gf h a 7 3 (fun v => x_run 503 64 ls (v :: st) h) := xe_getfield ec503 dX5_joinPins_61 ef5_18
theorem e503_64 {ls st : List Value} {h : x_H} : x_run 503 64 ls st h = q_gi ls 3 (fun v => x_run 503 65 ls (.int v :: st) h) := xe_iload_n ec503 dX5_joinPins_64
theorem e503_65 {ls st : List Value} {h : x_H} {x : Int32} {a : Nat}: x_run 503 65 ls (.int x :: .ref a :: st) h = q_ra h a 0 x (fun v => x_run 503 66 ls (.int v :: st) h) := xe_iaload ec503 dX5_joinPins_65
theorem e503_66 {ls st : List Value} {h : x_H} : x_run 503 66 ls st h = q_gr ls 0 (fun v => x_run 503 67 ls (.ref v :: st) h) := xe_aload_n ec503 dX5_joinPins_66
theorem e503_67 {ls st : List Value} {h : x_H} {a : Nat}: x_run 503 67 ls (.ref a :: st) h = q_gf h a 7 3 (fun v => x_run 503 70 ls (v :: st) h) := xe_getfield ec503 dX5_joinPins_67 ef5_18
theorem e503_70 {ls st : List Value} {h : x_H} : x_run 503 70 ls st h = q_gi ls 3 (fun v => x_run 503 71 ls (.int v :: st) h) := xe_iload_n ec503 dX5_joinPins_70
theorem e503_71 {ls st : List Value} {h : x_H} : x_run 503 71 ls st h = x_run 503 73 ls (.int (q_i 48) :: st) h := xe_bipush ec503 dX5_joinPins_71 (by decide)
theorem e503_73 {ls st : List Value} {h : x_H} {x y : Int32}: x_run 503 73 ls (.int y :: .int x :: st) h = x_run 503 74 ls (.int (x + y) :: st) h := xe_iadd ec503 dX5_joinPins_73
theorem e503_74 {ls st : List Value} {h : x_H} {x : Int32} {a : Nat}: x_run 503 74 ls (.int x :: .ref a :: st) h = q_ra h a 0 x (fun v => x_run 503 75 ls (.int v :: st) h) := xe_iaload ec503 dX5_joinPins_74
theorem e503_75 {ls st : List Value} {h : x_H} {x y : Int32}: x_run 503 75 ls (.int y :: .int x :: st) h = if y < x then x_run 503 82 ls st h else x_run 503 78 ls st h := xe_ic_gt ec503 dX5_joinPins_75 rfl
theorem e503_78 {ls st : List Value} {h : x_H} : x_run 503 78 ls st h = q_gi ls 3 (fun v => x_run 503 79 ls (.int v :: st) h) := xe_iload_n ec503 dX5_joinPins_78
theorem e503_79 {ls st : List Value} {h : x_H} : x_run 503 79 ls st h = x_run 503 86 ls st h := xe_goto ec503 dX5_joinPins_79 rfl
theorem e503_82 {ls st : List Value} {h : x_H} : x_run 503 82 ls st h = q_gi ls 3 (fun v => x_run 503 83 ls (.int v :: st) h) := xe_iload_n ec503 dX5_joinPins_82
theorem e503_83 {ls st : List Value} {h : x_H} : x_run 503 83 ls st h = x_run 503 85 ls (.int (q_i 48) :: st) h := xe_bipush ec503 dX5_joinPins_83 (by decide)
theorem e503_85 {ls st : List Value} {h : x_H} {x y : Int32}: x_run 503 85 ls (.int y :: .int x :: st) h = x_run 503 86 ls (.int (x + y) :: st) h := xe_iadd ec503 dX5_joinPins_85
theorem e503_86 {ls st : List Value} {h : x_H} {x : Int32}: x_run 503 86 ls (.int x :: st) h = q_ls ls 4 (.int x) (fun ls' => x_run 503 88 ls' st h) := xe_istore ec503 dX5_joinPins_86
theorem e503_88 {ls st : List Value} {h : x_H} : x_run 503 88 ls st h = q_gr ls 0 (fun v => x_run 503 89 ls (.ref v :: st) h) := xe_aload_n ec503 dX5_joinPins_88
theorem e503_89 {ls st : List Value} {h : x_H} {a : Nat}: x_run 503 89 ls (.ref a :: st) h = q_gf h a 7 3 (fun v => x_run 503 92 ls (v :: st) h) := xe_getfield ec503 dX5_joinPins_89 ef5_18
theorem e503_92 {ls st : List Value} {h : x_H} : x_run 503 92 ls st h = q_gi ls 4 (fun v => x_run 503 94 ls (.int v :: st) h) := xe_iload ec503 dX5_joinPins_92
theorem e503_94 {ls st : List Value} {h : x_H} {x : Int32} {a : Nat}: x_run 503 94 ls (.int x :: .ref a :: st) h = q_ra h a 0 x (fun v => x_run 503 95 ls (.int v :: st) h) := xe_iaload ec503 dX5_joinPins_94
theorem e503_95 {ls st : List Value} {h : x_H} : x_run 503 95 ls st h = x_run 503 97 ls (.int (q_i 1000000) :: st) h := xe_ldc ec503 dX5_joinPins_95 (by decide +kernel)
theorem e503_97 {ls st : List Value} {h : x_H} {x y : Int32}: x_run 503 97 ls (.int y :: .int x :: st) h = if ¬ x = y then x_run 503 107 ls st h else x_run 503 100 ls st h := xe_ic_ne ec503 dX5_joinPins_97 rfl
theorem e503_100 {ls st : List Value} {h : x_H} : x_run 503 100 ls st h = q_gr ls 0 (fun v => x_run 503 101 ls (.ref v :: st) h) := xe_aload_n ec503 dX5_joinPins_100
theorem e503_101 {ls st : List Value} {h : x_H} : x_run 503 101 ls st h = q_gi ls 2 (fun v => x_run 503 102 ls (.int v :: st) h) := xe_iload_n ec503 dX5_joinPins_101
theorem e503_102 {ls st : List Value} {h : x_H} {v : Value} {a : Nat}: x_run 503 102 ls (v :: .ref a :: st) h = if x_fit (x_ty 7 14) v = true then q_pf h a 7 14 v (fun h' => x_run 503 105 ls st h') else none := xe_putfield ec503 dX5_joinPins_102 ef5_54 (by decide +kernel)
theorem e503_105 {ls st : List Value} {h : x_H} : x_run 503 105 ls st h = x_run 503 106 ls (.int (q_i 0) :: st) h := xe_iconst ec503 dX5_joinPins_105
theorem e503_106 {ls : List Value} {h : x_H} {x : Int32} : x_run 503 106 ls [.int x] h = if narrow .boolean (.int x) = .int x then some (.inl (some (.int x)), h) else none := xe_ireturn ec503 dX5_joinPins_106 rfl
theorem e503_107 {ls st : List Value} {h : x_H} : x_run 503 107 ls st h = q_gr ls 0 (fun v => x_run 503 108 ls (.ref v :: st) h) := xe_aload_n ec503 dX5_joinPins_107
theorem e503_108 {ls st : List Value} {h : x_H} {v : Value} (hv : v.category = 1): x_run 503 108 ls (v :: st) h = x_run 503 109 ls (v :: v :: st) h := xe_dup ec503 dX5_joinPins_108 hv
theorem e503_109 {ls st : List Value} {h : x_H} {a : Nat}: x_run 503 109 ls (.ref a :: st) h = q_gf h a 7 13 (fun v => x_run 503 112 ls (v :: st) h) := xe_getfield ec503 dX5_joinPins_109 ef5_51
theorem e503_112 {ls st : List Value} {h : x_H} : x_run 503 112 ls st h = q_gr ls 0 (fun v => x_run 503 113 ls (.ref v :: st) h) := xe_aload_n ec503 dX5_joinPins_112
theorem e503_113 {ls st : List Value} {h : x_H} {a : Nat}: x_run 503 113 ls (.ref a :: st) h = q_gf h a 7 3 (fun v => x_run 503 116 ls (v :: st) h) := xe_getfield ec503 dX5_joinPins_113 ef5_18
theorem e503_116 {ls st : List Value} {h : x_H} : x_run 503 116 ls st h = q_gi ls 4 (fun v => x_run 503 118 ls (.int v :: st) h) := xe_iload ec503 dX5_joinPins_116
theorem e503_118 {ls st : List Value} {h : x_H} {x : Int32} {a : Nat}: x_run 503 118 ls (.int x :: .ref a :: st) h = q_ra h a 0 x (fun v => x_run 503 119 ls (.int v :: st) h) := xe_iaload ec503 dX5_joinPins_118
theorem e503_119 {ls st : List Value} {h : x_H} {x y : Int32}: x_run 503 119 ls (.int y :: .int x :: st) h = x_run 503 120 ls (.int (x + y) :: st) h := xe_iadd ec503 dX5_joinPins_119
theorem e503_120 {ls st : List Value} {h : x_H} {v : Value} {a : Nat}: x_run 503 120 ls (v :: .ref a :: st) h = if x_fit (x_ty 7 13) v = true then q_pf h a 7 13 v (fun h' => x_run 503 123 ls st h') else none := xe_putfield ec503 dX5_joinPins_120 ef5_51 (by decide +kernel)
theorem e503_123 {ls st : List Value} {h : x_H} : x_run 503 123 ls st h = q_gr ls 0 (fun v => x_run 503 124 ls (.ref v :: st) h) := xe_aload_n ec503 dX5_joinPins_123
theorem e503_124 {ls st : List Value} {h : x_H} : x_run 503 124 ls st h = q_gi ls 4 (fun v => x_run 503 126 ls (.int v :: st) h) := xe_iload ec503 dX5_joinPins_124
theorem e503_126 {ls st : List Value} {h : x_H} {b : Nat} {a1 : Value}: x_run 503 126 ls (a1 :: .ref b :: st) h = if q_rcv h b 7 = true then (if x_wt st ≤ 8 ∧ x_wt [.ref b, a1] = 2 then q_cl (x_m 512 [.ref b, a1] h) (fun v h' => x_run 503 129 ls (v.toList ++ st) h') else none) else none := xe_virt (r := [a1]) ec503 dX5_joinPins_126 ek5_100 rfl (by decide +kernel) (by decide +kernel)
theorem e503_129 {ls st : List Value} {h : x_H} : x_run 503 129 ls st h = q_gr ls 0 (fun v => x_run 503 130 ls (.ref v :: st) h) := xe_aload_n ec503 dX5_joinPins_129
theorem e503_130 {ls st : List Value} {h : x_H} : x_run 503 130 ls st h = q_gi ls 3 (fun v => x_run 503 131 ls (.int v :: st) h) := xe_iload_n ec503 dX5_joinPins_130
theorem e503_131 {ls st : List Value} {h : x_H} {b : Nat} {a1 : Value}: x_run 503 131 ls (a1 :: .ref b :: st) h = if q_rcv h b 7 = true then (if x_wt st ≤ 8 ∧ x_wt [.ref b, a1] = 2 then q_cl (x_m 507 [.ref b, a1] h) (fun v h' => x_run 503 134 ls (v.toList ++ st) h') else none) else none := xe_virt (r := [a1]) ec503 dX5_joinPins_131 ek5_93 rfl (by decide +kernel) (by decide +kernel)
theorem e503_134 {ls st : List Value} {h : x_H} : x_run 503 134 ls st h = q_gi ls 2 (fun v => if x_nd ls 2 = true then x_run 503 137 (ls.set 2 (.int (v + q_i 1))) st h else none) := xe_iinc ec503 dX5_joinPins_134
theorem e503_137 {ls st : List Value} {h : x_H} : x_run 503 137 ls st h = x_run 503 27 ls st h := xe_goto ec503 dX5_joinPins_137 rfl
theorem e503_140 {ls st : List Value} {h : x_H} : x_run 503 140 ls st h = x_run 503 141 ls (.int (q_i 1) :: st) h := xe_iconst ec503 dX5_joinPins_140
theorem e503_141 {ls : List Value} {h : x_H} {x : Int32} : x_run 503 141 ls [.int x] h = if narrow .boolean (.int x) = .int x then some (.inl (some (.int x)), h) else none := xe_ireturn ec503 dX5_joinPins_141 rfl
theorem ec504 : x_code 504 = cX5_netsInTheWay := rfl
theorem e504_0 {ls st : List Value} {h : x_H} : x_run 504 0 ls st h = x_run 504 1 ls (.int (q_i 0) :: st) h := xe_iconst ec504 dX5_netsInTheWay_0
theorem e504_1 {ls st : List Value} {h : x_H} {x : Int32}: x_run 504 1 ls (.int x :: st) h = q_ls ls 1 (.int x) (fun ls' => x_run 504 2 ls' st h) := xe_istore_n ec504 dX5_netsInTheWay_1
theorem e504_2 {ls st : List Value} {h : x_H} : x_run 504 2 ls st h = x_run 504 3 ls (.int (q_i 0) :: st) h := xe_iconst ec504 dX5_netsInTheWay_2
theorem e504_3 {ls st : List Value} {h : x_H} {x : Int32}: x_run 504 3 ls (.int x :: st) h = q_ls ls 2 (.int x) (fun ls' => x_run 504 4 ls' st h) := xe_istore_n ec504 dX5_netsInTheWay_3
theorem e504_4 {ls st : List Value} {h : x_H} : x_run 504 4 ls st h = q_gi ls 2 (fun v => x_run 504 5 ls (.int v :: st) h) := xe_iload_n ec504 dX5_netsInTheWay_4
theorem e504_5 {ls st : List Value} {h : x_H} : x_run 504 5 ls st h = x_run 504 7 ls (.int (q_i 96) :: st) h := xe_bipush ec504 dX5_netsInTheWay_5 (by decide)
theorem e504_7 {ls st : List Value} {h : x_H} {x y : Int32}: x_run 504 7 ls (.int y :: .int x :: st) h = if y ≤ x then x_run 504 40 ls st h else x_run 504 10 ls st h := xe_ic_ge ec504 dX5_netsInTheWay_7 rfl
theorem e504_10 {ls st : List Value} {h : x_H} : x_run 504 10 ls st h = q_gr ls 0 (fun v => x_run 504 11 ls (.ref v :: st) h) := xe_aload_n ec504 dX5_netsInTheWay_10
theorem e504_11 {ls st : List Value} {h : x_H} {a : Nat}: x_run 504 11 ls (.ref a :: st) h = q_gf h a 7 10 (fun v => x_run 504 14 ls (v :: st) h) := xe_getfield ec504 dX5_netsInTheWay_11 ef5_42
theorem e504_14 {ls st : List Value} {h : x_H} : x_run 504 14 ls st h = q_gi ls 2 (fun v => x_run 504 15 ls (.int v :: st) h) := xe_iload_n ec504 dX5_netsInTheWay_14
theorem e504_15 {ls st : List Value} {h : x_H} {x : Int32} {a : Nat}: x_run 504 15 ls (.int x :: .ref a :: st) h = q_ra h a 1 x (fun v => x_run 504 16 ls (.int v :: st) h) := xe_baload ec504 dX5_netsInTheWay_15
theorem e504_16 {ls st : List Value} {h : x_H} {x : Int32}: x_run 504 16 ls (.int x :: st) h = if x = 0 then x_run 504 34 ls st h else x_run 504 19 ls st h := xe_if_eq ec504 dX5_netsInTheWay_16 rfl
theorem e504_19 {ls st : List Value} {h : x_H} : x_run 504 19 ls st h = q_gi ls 1 (fun v => x_run 504 20 ls (.int v :: st) h) := xe_iload_n ec504 dX5_netsInTheWay_19
theorem e504_20 {ls st : List Value} {h : x_H} : x_run 504 20 ls st h = q_gr ls 0 (fun v => x_run 504 21 ls (.ref v :: st) h) := xe_aload_n ec504 dX5_netsInTheWay_20
theorem e504_21 {ls st : List Value} {h : x_H} {a : Nat}: x_run 504 21 ls (.ref a :: st) h = q_gf h a 7 0 (fun v => x_run 504 24 ls (v :: st) h) := xe_getfield ec504 dX5_netsInTheWay_21 ef5_57
theorem e504_24 {ls st : List Value} {h : x_H} : x_run 504 24 ls st h = q_gr ls 0 (fun v => x_run 504 25 ls (.ref v :: st) h) := xe_aload_n ec504 dX5_netsInTheWay_24
theorem e504_25 {ls st : List Value} {h : x_H} {a : Nat}: x_run 504 25 ls (.ref a :: st) h = q_gf h a 7 8 (fun v => x_run 504 28 ls (v :: st) h) := xe_getfield ec504 dX5_netsInTheWay_25 ef5_35
theorem e504_28 {ls st : List Value} {h : x_H} : x_run 504 28 ls st h = q_gi ls 2 (fun v => x_run 504 29 ls (.int v :: st) h) := xe_iload_n ec504 dX5_netsInTheWay_28
theorem e504_29 {ls st : List Value} {h : x_H} {b : Nat} {a1 a2 : Value}: x_run 504 29 ls (a2 :: a1 :: .ref b :: st) h = if q_rcv h b 2 = true then (if x_wt st ≤ 8 ∧ x_wt [.ref b, a1, a2] = 3 then q_cl (x_m 5 [.ref b, a1, a2] h) (fun v h' => x_run 504 32 ls (v.toList ++ st) h') else none) else none := xe_virt (r := [a1, a2]) ec504 dX5_netsInTheWay_29 ek5_103 rfl (by decide +kernel) (by decide +kernel)
theorem e504_32 {ls st : List Value} {h : x_H} {x y : Int32}: x_run 504 32 ls (.int y :: .int x :: st) h = x_run 504 33 ls (.int (x ||| y) :: st) h := xe_ior ec504 dX5_netsInTheWay_32
theorem e504_33 {ls st : List Value} {h : x_H} {x : Int32}: x_run 504 33 ls (.int x :: st) h = q_ls ls 1 (.int x) (fun ls' => x_run 504 34 ls' st h) := xe_istore_n ec504 dX5_netsInTheWay_33
theorem e504_34 {ls st : List Value} {h : x_H} : x_run 504 34 ls st h = q_gi ls 2 (fun v => if x_nd ls 2 = true then x_run 504 37 (ls.set 2 (.int (v + q_i 1))) st h else none) := xe_iinc ec504 dX5_netsInTheWay_34
theorem e504_37 {ls st : List Value} {h : x_H} : x_run 504 37 ls st h = x_run 504 4 ls st h := xe_goto ec504 dX5_netsInTheWay_37 rfl
theorem e504_40 {ls st : List Value} {h : x_H} : x_run 504 40 ls st h = q_gi ls 1 (fun v => x_run 504 41 ls (.int v :: st) h) := xe_iload_n ec504 dX5_netsInTheWay_40
theorem e504_41 {ls : List Value} {h : x_H} {x : Int32} : x_run 504 41 ls [.int x] h = if narrow .int (.int x) = .int x then some (.inl (some (.int x)), h) else none := xe_ireturn ec504 dX5_netsInTheWay_41 rfl
theorem ec505 : x_code 505 = cX5_countReached := rfl
theorem e505_0 {ls st : List Value} {h : x_H} : x_run 505 0 ls st h = q_gr ls 0 (fun v => x_run 505 1 ls (.ref v :: st) h) := xe_aload_n ec505 dX5_countReached_0
theorem e505_1 {ls st : List Value} {h : x_H} : x_run 505 1 ls st h = x_run 505 2 ls (.int (q_i 0) :: st) h := xe_iconst ec505 dX5_countReached_1
theorem e505_2 {ls st : List Value} {h : x_H} {v : Value} {a : Nat}: x_run 505 2 ls (v :: .ref a :: st) h = if x_fit (x_ty 7 9) v = true then q_pf h a 7 9 v (fun h' => x_run 505 5 ls st h') else none := xe_putfield ec505 dX5_countReached_2 ef5_38 (by decide +kernel)
theorem e505_5 {ls st : List Value} {h : x_H} : x_run 505 5 ls st h = q_gr ls 0 (fun v => x_run 505 6 ls (.ref v :: st) h) := xe_aload_n ec505 dX5_countReached_5
theorem e505_6 {ls st : List Value} {h : x_H} {b : Nat}: x_run 505 6 ls (.ref b :: st) h = if q_rcv h b 7 = true then (if x_wt st ≤ 8 ∧ x_wt [.ref b] = 1 then q_cl (x_m 506 [.ref b] h) (fun v h' => x_run 505 9 ls (v.toList ++ st) h') else none) else none := xe_virt (r := []) ec505 dX5_countReached_6 ek5_87 rfl (by decide +kernel) (by decide +kernel)
theorem e505_9 {ls st : List Value} {h : x_H} : x_run 505 9 ls st h = q_gr ls 0 (fun v => x_run 505 10 ls (.ref v :: st) h) := xe_aload_n ec505 dX5_countReached_9
theorem e505_10 {ls st : List Value} {h : x_H} : x_run 505 10 ls st h = q_gi ls 1 (fun v => x_run 505 11 ls (.int v :: st) h) := xe_iload_n ec505 dX5_countReached_10
theorem e505_11 {ls st : List Value} {h : x_H} {b : Nat} {a1 : Value}: x_run 505 11 ls (a1 :: .ref b :: st) h = if q_rcv h b 7 = true then (if x_wt st ≤ 8 ∧ x_wt [.ref b, a1] = 2 then q_cl (x_m 507 [.ref b, a1] h) (fun v h' => x_run 505 14 ls (v.toList ++ st) h') else none) else none := xe_virt (r := [a1]) ec505 dX5_countReached_11 ek5_93 rfl (by decide +kernel) (by decide +kernel)
theorem e505_14 {ls st : List Value} {h : x_H} : x_run 505 14 ls st h = q_gr ls 0 (fun v => x_run 505 15 ls (.ref v :: st) h) := xe_aload_n ec505 dX5_countReached_14
theorem e505_15 {ls st : List Value} {h : x_H} {b : Nat}: x_run 505 15 ls (.ref b :: st) h = if q_rcv h b 7 = true then (if x_wt st ≤ 8 ∧ x_wt [.ref b] = 1 then q_cl (x_m 508 [.ref b] h) (fun v h' => x_run 505 18 ls (v.toList ++ st) h') else none) else none := xe_virt (r := []) ec505 dX5_countReached_15 ek5_96 rfl (by decide +kernel) (by decide +kernel)
theorem e505_18 {ls st : List Value} {h : x_H} : x_run 505 18 ls st h = x_run 505 19 ls (.int (q_i 0) :: st) h := xe_iconst ec505 dX5_countReached_18
theorem e505_19 {ls st : List Value} {h : x_H} {x : Int32}: x_run 505 19 ls (.int x :: st) h = q_ls ls 2 (.int x) (fun ls' => x_run 505 20 ls' st h) := xe_istore_n ec505 dX5_countReached_19
theorem e505_20 {ls st : List Value} {h : x_H} : x_run 505 20 ls st h = x_run 505 21 ls (.int (q_i 0) :: st) h := xe_iconst ec505 dX5_countReached_20
theorem e505_21 {ls st : List Value} {h : x_H} {x : Int32}: x_run 505 21 ls (.int x :: st) h = q_ls ls 3 (.int x) (fun ls' => x_run 505 22 ls' st h) := xe_istore_n ec505 dX5_countReached_21
theorem e505_22 {ls st : List Value} {h : x_H} : x_run 505 22 ls st h = q_gi ls 3 (fun v => x_run 505 23 ls (.int v :: st) h) := xe_iload_n ec505 dX5_countReached_22
theorem e505_23 {ls st : List Value} {h : x_H} : x_run 505 23 ls st h = x_run 505 25 ls (.int (q_i 96) :: st) h := xe_bipush ec505 dX5_countReached_23 (by decide)
theorem e505_25 {ls st : List Value} {h : x_H} {x y : Int32}: x_run 505 25 ls (.int y :: .int x :: st) h = if y ≤ x then x_run 505 48 ls st h else x_run 505 28 ls st h := xe_ic_ge ec505 dX5_countReached_25 rfl
theorem e505_28 {ls st : List Value} {h : x_H} : x_run 505 28 ls st h = q_gr ls 0 (fun v => x_run 505 29 ls (.ref v :: st) h) := xe_aload_n ec505 dX5_countReached_28
theorem e505_29 {ls st : List Value} {h : x_H} {a : Nat}: x_run 505 29 ls (.ref a :: st) h = q_gf h a 7 3 (fun v => x_run 505 32 ls (v :: st) h) := xe_getfield ec505 dX5_countReached_29 ef5_18
theorem e505_32 {ls st : List Value} {h : x_H} : x_run 505 32 ls st h = q_gi ls 3 (fun v => x_run 505 33 ls (.int v :: st) h) := xe_iload_n ec505 dX5_countReached_32
theorem e505_33 {ls st : List Value} {h : x_H} {x : Int32} {a : Nat}: x_run 505 33 ls (.int x :: .ref a :: st) h = q_ra h a 0 x (fun v => x_run 505 34 ls (.int v :: st) h) := xe_iaload ec505 dX5_countReached_33
theorem e505_34 {ls st : List Value} {h : x_H} : x_run 505 34 ls st h = x_run 505 36 ls (.int (q_i 1000000) :: st) h := xe_ldc ec505 dX5_countReached_34 (by decide +kernel)
theorem e505_36 {ls st : List Value} {h : x_H} {x y : Int32}: x_run 505 36 ls (.int y :: .int x :: st) h = if y ≤ x then x_run 505 42 ls st h else x_run 505 39 ls st h := xe_ic_ge ec505 dX5_countReached_36 rfl
theorem e505_39 {ls st : List Value} {h : x_H} : x_run 505 39 ls st h = q_gi ls 2 (fun v => if x_nd ls 2 = true then x_run 505 42 (ls.set 2 (.int (v + q_i 1))) st h else none) := xe_iinc ec505 dX5_countReached_39
theorem e505_42 {ls st : List Value} {h : x_H} : x_run 505 42 ls st h = q_gi ls 3 (fun v => if x_nd ls 3 = true then x_run 505 45 (ls.set 3 (.int (v + q_i 1))) st h else none) := xe_iinc ec505 dX5_countReached_42
theorem e505_45 {ls st : List Value} {h : x_H} : x_run 505 45 ls st h = x_run 505 22 ls st h := xe_goto ec505 dX5_countReached_45 rfl
theorem e505_48 {ls st : List Value} {h : x_H} : x_run 505 48 ls st h = q_gi ls 2 (fun v => x_run 505 49 ls (.int v :: st) h) := xe_iload_n ec505 dX5_countReached_48
theorem e505_49 {ls : List Value} {h : x_H} {x : Int32} : x_run 505 49 ls [.int x] h = if narrow .int (.int x) = .int x then some (.inl (some (.int x)), h) else none := xe_ireturn ec505 dX5_countReached_49 rfl
theorem ec506 : x_code 506 = cX5_clearWays := rfl
theorem e506_0 {ls st : List Value} {h : x_H} : x_run 506 0 ls st h = x_run 506 1 ls (.int (q_i 0) :: st) h := xe_iconst ec506 dX5_clearWays_0
theorem e506_1 {ls st : List Value} {h : x_H} {x : Int32}: x_run 506 1 ls (.int x :: st) h = q_ls ls 1 (.int x) (fun ls' => x_run 506 2 ls' st h) := xe_istore_n ec506 dX5_clearWays_1
theorem e506_2 {ls st : List Value} {h : x_H} : x_run 506 2 ls st h = q_gi ls 1 (fun v => x_run 506 3 ls (.int v :: st) h) := xe_iload_n ec506 dX5_clearWays_2
theorem e506_3 {ls st : List Value} {h : x_H} : x_run 506 3 ls st h = x_run 506 5 ls (.int (q_i 96) :: st) h := xe_bipush ec506 dX5_clearWays_3 (by decide)
theorem e506_5 {ls st : List Value} {h : x_H} {x y : Int32}: x_run 506 5 ls (.int y :: .int x :: st) h = if y ≤ x then x_run 506 21 ls st h else x_run 506 8 ls st h := xe_ic_ge ec506 dX5_clearWays_5 rfl
theorem e506_8 {ls st : List Value} {h : x_H} : x_run 506 8 ls st h = q_gr ls 0 (fun v => x_run 506 9 ls (.ref v :: st) h) := xe_aload_n ec506 dX5_clearWays_8
theorem e506_9 {ls st : List Value} {h : x_H} {a : Nat}: x_run 506 9 ls (.ref a :: st) h = q_gf h a 7 10 (fun v => x_run 506 12 ls (v :: st) h) := xe_getfield ec506 dX5_clearWays_9 ef5_42
theorem e506_12 {ls st : List Value} {h : x_H} : x_run 506 12 ls st h = q_gi ls 1 (fun v => x_run 506 13 ls (.int v :: st) h) := xe_iload_n ec506 dX5_clearWays_12
theorem e506_13 {ls st : List Value} {h : x_H} : x_run 506 13 ls st h = x_run 506 14 ls (.int (q_i 0) :: st) h := xe_iconst ec506 dX5_clearWays_13
theorem e506_14 {ls st : List Value} {h : x_H} {x y : Int32} {a : Nat}: x_run 506 14 ls (.int y :: .int x :: .ref a :: st) h = q_wa h a 1 x (vp_nar .boolean y) (fun h' => x_run 506 15 ls st h') := xe_bastore ec506 dX5_clearWays_14
theorem e506_15 {ls st : List Value} {h : x_H} : x_run 506 15 ls st h = q_gi ls 1 (fun v => if x_nd ls 1 = true then x_run 506 18 (ls.set 1 (.int (v + q_i 1))) st h else none) := xe_iinc ec506 dX5_clearWays_15
theorem e506_18 {ls st : List Value} {h : x_H} : x_run 506 18 ls st h = x_run 506 2 ls st h := xe_goto ec506 dX5_clearWays_18 rfl
theorem e506_21 {ls st : List Value} {h : x_H} : x_run 506 21 ls st h = x_run 506 22 ls (.int (q_i 0) :: st) h := xe_iconst ec506 dX5_clearWays_21
theorem e506_22 {ls st : List Value} {h : x_H} {x : Int32}: x_run 506 22 ls (.int x :: st) h = q_ls ls 1 (.int x) (fun ls' => x_run 506 23 ls' st h) := xe_istore_n ec506 dX5_clearWays_22
theorem e506_23 {ls st : List Value} {h : x_H} : x_run 506 23 ls st h = q_gi ls 1 (fun v => x_run 506 24 ls (.int v :: st) h) := xe_iload_n ec506 dX5_clearWays_23
theorem e506_24 {ls st : List Value} {h : x_H} : x_run 506 24 ls st h = x_run 506 26 ls (.int (q_i 48) :: st) h := xe_bipush ec506 dX5_clearWays_24 (by decide)
theorem e506_26 {ls st : List Value} {h : x_H} {x y : Int32}: x_run 506 26 ls (.int y :: .int x :: st) h = if y ≤ x then x_run 506 42 ls st h else x_run 506 29 ls st h := xe_ic_ge ec506 dX5_clearWays_26 rfl
theorem e506_29 {ls st : List Value} {h : x_H} : x_run 506 29 ls st h = q_gr ls 0 (fun v => x_run 506 30 ls (.ref v :: st) h) := xe_aload_n ec506 dX5_clearWays_29
theorem e506_30 {ls st : List Value} {h : x_H} {a : Nat}: x_run 506 30 ls (.ref a :: st) h = q_gf h a 7 11 (fun v => x_run 506 33 ls (v :: st) h) := xe_getfield ec506 dX5_clearWays_30 ef5_45
theorem e506_33 {ls st : List Value} {h : x_H} : x_run 506 33 ls st h = q_gi ls 1 (fun v => x_run 506 34 ls (.int v :: st) h) := xe_iload_n ec506 dX5_clearWays_33
theorem e506_34 {ls st : List Value} {h : x_H} : x_run 506 34 ls st h = x_run 506 35 ls (.int (q_i 0) :: st) h := xe_iconst ec506 dX5_clearWays_34
theorem e506_35 {ls st : List Value} {h : x_H} {x y : Int32} {a : Nat}: x_run 506 35 ls (.int y :: .int x :: .ref a :: st) h = q_wa h a 1 x (vp_nar .boolean y) (fun h' => x_run 506 36 ls st h') := xe_bastore ec506 dX5_clearWays_35
theorem e506_36 {ls st : List Value} {h : x_H} : x_run 506 36 ls st h = q_gi ls 1 (fun v => if x_nd ls 1 = true then x_run 506 39 (ls.set 1 (.int (v + q_i 1))) st h else none) := xe_iinc ec506 dX5_clearWays_36
theorem e506_39 {ls st : List Value} {h : x_H} : x_run 506 39 ls st h = x_run 506 23 ls st h := xe_goto ec506 dX5_clearWays_39 rfl
theorem e506_42 {ls st : List Value} {h : x_H} : x_run 506 42 ls st h = q_gr ls 0 (fun v => x_run 506 43 ls (.ref v :: st) h) := xe_aload_n ec506 dX5_clearWays_42
theorem e506_43 {ls st : List Value} {h : x_H} : x_run 506 43 ls st h = x_run 506 44 ls (.int (q_i 0) :: st) h := xe_iconst ec506 dX5_clearWays_43
theorem e506_44 {ls st : List Value} {h : x_H} {v : Value} {a : Nat}: x_run 506 44 ls (v :: .ref a :: st) h = if x_fit (x_ty 7 12) v = true then q_pf h a 7 12 v (fun h' => x_run 506 47 ls st h') else none := xe_putfield ec506 dX5_clearWays_44 ef5_48 (by decide +kernel)
theorem e506_47 {ls st : List Value} {h : x_H} : x_run 506 47 ls st h = q_gr ls 0 (fun v => x_run 506 48 ls (.ref v :: st) h) := xe_aload_n ec506 dX5_clearWays_47
theorem e506_48 {ls st : List Value} {h : x_H} : x_run 506 48 ls st h = x_run 506 49 ls (.int (q_i 0) :: st) h := xe_iconst ec506 dX5_clearWays_48
theorem e506_49 {ls st : List Value} {h : x_H} {v : Value} {a : Nat}: x_run 506 49 ls (v :: .ref a :: st) h = if x_fit (x_ty 7 13) v = true then q_pf h a 7 13 v (fun h' => x_run 506 52 ls st h') else none := xe_putfield ec506 dX5_clearWays_49 ef5_51 (by decide +kernel)
theorem e506_52 {ls : List Value} {h : x_H} : x_run 506 52 ls [] h = some (.inl (none), h) := xe_return ec506 dX5_clearWays_52 rfl
theorem ec507 : x_code 507 = cX5_takePin := rfl
theorem e507_0 {ls st : List Value} {h : x_H} : x_run 507 0 ls st h = q_gr ls 0 (fun v => x_run 507 1 ls (.ref v :: st) h) := xe_aload_n ec507 dX5_takePin_0
theorem e507_1 {ls st : List Value} {h : x_H} {a : Nat}: x_run 507 1 ls (.ref a :: st) h = q_gf h a 7 10 (fun v => x_run 507 4 ls (v :: st) h) := xe_getfield ec507 dX5_takePin_1 ef5_42
theorem e507_4 {ls st : List Value} {h : x_H} : x_run 507 4 ls st h = q_gi ls 1 (fun v => x_run 507 5 ls (.int v :: st) h) := xe_iload_n ec507 dX5_takePin_4
theorem e507_5 {ls st : List Value} {h : x_H} : x_run 507 5 ls st h = x_run 507 6 ls (.int (q_i 1) :: st) h := xe_iconst ec507 dX5_takePin_5
theorem e507_6 {ls st : List Value} {h : x_H} {x y : Int32} {a : Nat}: x_run 507 6 ls (.int y :: .int x :: .ref a :: st) h = q_wa h a 1 x (vp_nar .boolean y) (fun h' => x_run 507 7 ls st h') := xe_bastore ec507 dX5_takePin_6
theorem e507_7 {ls st : List Value} {h : x_H} : x_run 507 7 ls st h = q_gr ls 0 (fun v => x_run 507 8 ls (.ref v :: st) h) := xe_aload_n ec507 dX5_takePin_7
theorem e507_8 {ls st : List Value} {h : x_H} {a : Nat}: x_run 507 8 ls (.ref a :: st) h = q_gf h a 7 10 (fun v => x_run 507 11 ls (v :: st) h) := xe_getfield ec507 dX5_takePin_8 ef5_42
theorem e507_11 {ls st : List Value} {h : x_H} : x_run 507 11 ls st h = q_gi ls 1 (fun v => x_run 507 12 ls (.int v :: st) h) := xe_iload_n ec507 dX5_takePin_11
theorem e507_12 {ls st : List Value} {h : x_H} : x_run 507 12 ls st h = x_run 507 14 ls (.int (q_i 48) :: st) h := xe_bipush ec507 dX5_takePin_12 (by decide)
theorem e507_14 {ls st : List Value} {h : x_H} {x y : Int32}: x_run 507 14 ls (.int y :: .int x :: st) h = x_run 507 15 ls (.int (x + y) :: st) h := xe_iadd ec507 dX5_takePin_14
theorem e507_15 {ls st : List Value} {h : x_H} : x_run 507 15 ls st h = x_run 507 16 ls (.int (q_i 1) :: st) h := xe_iconst ec507 dX5_takePin_15
theorem e507_16 {ls st : List Value} {h : x_H} {x y : Int32} {a : Nat}: x_run 507 16 ls (.int y :: .int x :: .ref a :: st) h = q_wa h a 1 x (vp_nar .boolean y) (fun h' => x_run 507 17 ls st h') := xe_bastore ec507 dX5_takePin_16
theorem e507_17 {ls : List Value} {h : x_H} : x_run 507 17 ls [] h = some (.inl (none), h) := xe_return ec507 dX5_takePin_17 rfl
theorem ec508 : x_code 508 = cX5_spreadCosts := rfl
theorem e508_0 {ls st : List Value} {h : x_H} : x_run 508 0 ls st h = q_gr ls 0 (fun v => x_run 508 1 ls (.ref v :: st) h) := xe_aload_n ec508 dX5_spreadCosts_0
theorem e508_1 {ls st : List Value} {h : x_H} : x_run 508 1 ls st h = x_run 508 2 ls (.int (q_i 0) :: st) h := xe_iconst ec508 dX5_spreadCosts_1
theorem e508_2 {ls st : List Value} {h : x_H} {v : Value} {a : Nat}: x_run 508 2 ls (v :: .ref a :: st) h = if x_fit (x_ty 7 6) v = true then q_pf h a 7 6 v (fun h' => x_run 508 5 ls st h') else none := xe_putfield ec508 dX5_spreadCosts_2 ef5_28 (by decide +kernel)
theorem e508_5 {ls st : List Value} {h : x_H} : x_run 508 5 ls st h = q_gr ls 0 (fun v => x_run 508 6 ls (.ref v :: st) h) := xe_aload_n ec508 dX5_spreadCosts_5
theorem e508_6 {ls st : List Value} {h : x_H} : x_run 508 6 ls st h = x_run 508 7 ls (.int (q_i 0) :: st) h := xe_iconst ec508 dX5_spreadCosts_6
theorem e508_7 {ls st : List Value} {h : x_H} {v : Value} {a : Nat}: x_run 508 7 ls (v :: .ref a :: st) h = if x_fit (x_ty 7 7) v = true then q_pf h a 7 7 v (fun h' => x_run 508 10 ls st h') else none := xe_putfield ec508 dX5_spreadCosts_7 ef5_32 (by decide +kernel)
theorem e508_10 {ls st : List Value} {h : x_H} : x_run 508 10 ls st h = x_run 508 11 ls (.int (q_i 0) :: st) h := xe_iconst ec508 dX5_spreadCosts_10
theorem e508_11 {ls st : List Value} {h : x_H} {x : Int32}: x_run 508 11 ls (.int x :: st) h = q_ls ls 1 (.int x) (fun ls' => x_run 508 12 ls' st h) := xe_istore_n ec508 dX5_spreadCosts_11
theorem e508_12 {ls st : List Value} {h : x_H} : x_run 508 12 ls st h = q_gi ls 1 (fun v => x_run 508 13 ls (.int v :: st) h) := xe_iload_n ec508 dX5_spreadCosts_12
theorem e508_13 {ls st : List Value} {h : x_H} : x_run 508 13 ls st h = x_run 508 15 ls (.int (q_i 96) :: st) h := xe_bipush ec508 dX5_spreadCosts_13 (by decide)
theorem e508_15 {ls st : List Value} {h : x_H} {x y : Int32}: x_run 508 15 ls (.int y :: .int x :: st) h = if y ≤ x then x_run 508 66 ls st h else x_run 508 18 ls st h := xe_ic_ge ec508 dX5_spreadCosts_15 rfl
theorem e508_18 {ls st : List Value} {h : x_H} : x_run 508 18 ls st h = q_gr ls 0 (fun v => x_run 508 19 ls (.ref v :: st) h) := xe_aload_n ec508 dX5_spreadCosts_18
theorem e508_19 {ls st : List Value} {h : x_H} {a : Nat}: x_run 508 19 ls (.ref a :: st) h = q_gf h a 7 3 (fun v => x_run 508 22 ls (v :: st) h) := xe_getfield ec508 dX5_spreadCosts_19 ef5_18
theorem e508_22 {ls st : List Value} {h : x_H} : x_run 508 22 ls st h = q_gi ls 1 (fun v => x_run 508 23 ls (.int v :: st) h) := xe_iload_n ec508 dX5_spreadCosts_22
theorem e508_23 {ls st : List Value} {h : x_H} : x_run 508 23 ls st h = q_gr ls 0 (fun v => x_run 508 24 ls (.ref v :: st) h) := xe_aload_n ec508 dX5_spreadCosts_23
theorem e508_24 {ls st : List Value} {h : x_H} {a : Nat}: x_run 508 24 ls (.ref a :: st) h = q_gf h a 7 10 (fun v => x_run 508 27 ls (v :: st) h) := xe_getfield ec508 dX5_spreadCosts_24 ef5_42
theorem e508_27 {ls st : List Value} {h : x_H} : x_run 508 27 ls st h = q_gi ls 1 (fun v => x_run 508 28 ls (.int v :: st) h) := xe_iload_n ec508 dX5_spreadCosts_27
theorem e508_28 {ls st : List Value} {h : x_H} {x : Int32} {a : Nat}: x_run 508 28 ls (.int x :: .ref a :: st) h = q_ra h a 1 x (fun v => x_run 508 29 ls (.int v :: st) h) := xe_baload ec508 dX5_spreadCosts_28
theorem e508_29 {ls st : List Value} {h : x_H} {x : Int32}: x_run 508 29 ls (.int x :: st) h = if x = 0 then x_run 508 36 ls st h else x_run 508 32 ls st h := xe_if_eq ec508 dX5_spreadCosts_29 rfl
theorem e508_32 {ls st : List Value} {h : x_H} : x_run 508 32 ls st h = x_run 508 33 ls (.int (q_i 0) :: st) h := xe_iconst ec508 dX5_spreadCosts_32
theorem e508_33 {ls st : List Value} {h : x_H} : x_run 508 33 ls st h = x_run 508 38 ls st h := xe_goto ec508 dX5_spreadCosts_33 rfl
theorem e508_36 {ls st : List Value} {h : x_H} : x_run 508 36 ls st h = x_run 508 38 ls (.int (q_i 1000000) :: st) h := xe_ldc ec508 dX5_spreadCosts_36 (by decide +kernel)
theorem e508_38 {ls st : List Value} {h : x_H} {x y : Int32} {a : Nat}: x_run 508 38 ls (.int y :: .int x :: .ref a :: st) h = q_wa h a 0 x y (fun h' => x_run 508 39 ls st h') := xe_iastore ec508 dX5_spreadCosts_38
theorem e508_39 {ls st : List Value} {h : x_H} : x_run 508 39 ls st h = q_gr ls 0 (fun v => x_run 508 40 ls (.ref v :: st) h) := xe_aload_n ec508 dX5_spreadCosts_39
theorem e508_40 {ls st : List Value} {h : x_H} {a : Nat}: x_run 508 40 ls (.ref a :: st) h = q_gf h a 7 5 (fun v => x_run 508 43 ls (v :: st) h) := xe_getfield ec508 dX5_spreadCosts_40 ef5_24
theorem e508_43 {ls st : List Value} {h : x_H} : x_run 508 43 ls st h = q_gi ls 1 (fun v => x_run 508 44 ls (.int v :: st) h) := xe_iload_n ec508 dX5_spreadCosts_43
theorem e508_44 {ls st : List Value} {h : x_H} : x_run 508 44 ls st h = x_run 508 45 ls (.int (q_i 0) :: st) h := xe_iconst ec508 dX5_spreadCosts_44
theorem e508_45 {ls st : List Value} {h : x_H} {x y : Int32} {a : Nat}: x_run 508 45 ls (.int y :: .int x :: .ref a :: st) h = q_wa h a 1 x (vp_nar .boolean y) (fun h' => x_run 508 46 ls st h') := xe_bastore ec508 dX5_spreadCosts_45
theorem e508_46 {ls st : List Value} {h : x_H} : x_run 508 46 ls st h = q_gr ls 0 (fun v => x_run 508 47 ls (.ref v :: st) h) := xe_aload_n ec508 dX5_spreadCosts_46
theorem e508_47 {ls st : List Value} {h : x_H} {a : Nat}: x_run 508 47 ls (.ref a :: st) h = q_gf h a 7 10 (fun v => x_run 508 50 ls (v :: st) h) := xe_getfield ec508 dX5_spreadCosts_47 ef5_42
theorem e508_50 {ls st : List Value} {h : x_H} : x_run 508 50 ls st h = q_gi ls 1 (fun v => x_run 508 51 ls (.int v :: st) h) := xe_iload_n ec508 dX5_spreadCosts_50
theorem e508_51 {ls st : List Value} {h : x_H} {x : Int32} {a : Nat}: x_run 508 51 ls (.int x :: .ref a :: st) h = q_ra h a 1 x (fun v => x_run 508 52 ls (.int v :: st) h) := xe_baload ec508 dX5_spreadCosts_51
theorem e508_52 {ls st : List Value} {h : x_H} {x : Int32}: x_run 508 52 ls (.int x :: st) h = if x = 0 then x_run 508 60 ls st h else x_run 508 55 ls st h := xe_if_eq ec508 dX5_spreadCosts_52 rfl
theorem e508_55 {ls st : List Value} {h : x_H} : x_run 508 55 ls st h = q_gr ls 0 (fun v => x_run 508 56 ls (.ref v :: st) h) := xe_aload_n ec508 dX5_spreadCosts_55
theorem e508_56 {ls st : List Value} {h : x_H} : x_run 508 56 ls st h = q_gi ls 1 (fun v => x_run 508 57 ls (.int v :: st) h) := xe_iload_n ec508 dX5_spreadCosts_56
theorem e508_57 {ls st : List Value} {h : x_H} {b : Nat} {a1 : Value}: x_run 508 57 ls (a1 :: .ref b :: st) h = if q_rcv h b 7 = true then (if x_wt st ≤ 8 ∧ x_wt [.ref b, a1] = 2 then q_cl (x_m 510 [.ref b, a1] h) (fun v h' => x_run 508 60 ls (v.toList ++ st) h') else none) else none := xe_virt (r := [a1]) ec508 dX5_spreadCosts_57 ek5_106 rfl (by decide +kernel) (by decide +kernel)
theorem e508_60 {ls st : List Value} {h : x_H} : x_run 508 60 ls st h = q_gi ls 1 (fun v => if x_nd ls 1 = true then x_run 508 63 (ls.set 1 (.int (v + q_i 1))) st h else none) := xe_iinc ec508 dX5_spreadCosts_60
theorem e508_63 {ls st : List Value} {h : x_H} : x_run 508 63 ls st h = x_run 508 12 ls st h := xe_goto ec508 dX5_spreadCosts_63 rfl
theorem e508_66 {ls st : List Value} {h : x_H} : x_run 508 66 ls st h = x_run 508 67 ls (.int (q_i 0) :: st) h := xe_iconst ec508 dX5_spreadCosts_66
theorem e508_67 {ls st : List Value} {h : x_H} {x : Int32}: x_run 508 67 ls (.int x :: st) h = q_ls ls 1 (.int x) (fun ls' => x_run 508 68 ls' st h) := xe_istore_n ec508 dX5_spreadCosts_67
theorem e508_68 {ls st : List Value} {h : x_H} : x_run 508 68 ls st h = q_gr ls 0 (fun v => x_run 508 69 ls (.ref v :: st) h) := xe_aload_n ec508 dX5_spreadCosts_68
theorem e508_69 {ls st : List Value} {h : x_H} {a : Nat}: x_run 508 69 ls (.ref a :: st) h = q_gf h a 7 7 (fun v => x_run 508 72 ls (v :: st) h) := xe_getfield ec508 dX5_spreadCosts_69 ef5_32
theorem e508_72 {ls st : List Value} {h : x_H} {x : Int32}: x_run 508 72 ls (.int x :: st) h = if x ≤ 0 then x_run 508 132 ls st h else x_run 508 75 ls st h := xe_if_le ec508 dX5_spreadCosts_72 rfl
theorem e508_75 {ls st : List Value} {h : x_H} : x_run 508 75 ls st h = q_gi ls 1 (fun v => x_run 508 76 ls (.int v :: st) h) := xe_iload_n ec508 dX5_spreadCosts_75
theorem e508_76 {ls st : List Value} {h : x_H} : x_run 508 76 ls st h = x_run 508 78 ls (.int (q_i 1000000) :: st) h := xe_ldc ec508 dX5_spreadCosts_76 (by decide +kernel)
theorem e508_78 {ls st : List Value} {h : x_H} {x y : Int32}: x_run 508 78 ls (.int y :: .int x :: st) h = if y ≤ x then x_run 508 132 ls st h else x_run 508 81 ls st h := xe_ic_ge ec508 dX5_spreadCosts_78 rfl
theorem e508_81 {ls st : List Value} {h : x_H} : x_run 508 81 ls st h = q_gr ls 0 (fun v => x_run 508 82 ls (.ref v :: st) h) := xe_aload_n ec508 dX5_spreadCosts_81
theorem e508_82 {ls st : List Value} {h : x_H} {a : Nat}: x_run 508 82 ls (.ref a :: st) h = q_gf h a 7 4 (fun v => x_run 508 85 ls (v :: st) h) := xe_getfield ec508 dX5_spreadCosts_82 ef5_21
theorem e508_85 {ls st : List Value} {h : x_H} : x_run 508 85 ls st h = q_gr ls 0 (fun v => x_run 508 86 ls (.ref v :: st) h) := xe_aload_n ec508 dX5_spreadCosts_85
theorem e508_86 {ls st : List Value} {h : x_H} {a : Nat}: x_run 508 86 ls (.ref a :: st) h = q_gf h a 7 6 (fun v => x_run 508 89 ls (v :: st) h) := xe_getfield ec508 dX5_spreadCosts_86 ef5_28
theorem e508_89 {ls st : List Value} {h : x_H} {x : Int32} {a : Nat}: x_run 508 89 ls (.int x :: .ref a :: st) h = q_ra h a 0 x (fun v => x_run 508 90 ls (.int v :: st) h) := xe_iaload ec508 dX5_spreadCosts_89
theorem e508_90 {ls st : List Value} {h : x_H} {x : Int32}: x_run 508 90 ls (.int x :: st) h = q_ls ls 2 (.int x) (fun ls' => x_run 508 91 ls' st h) := xe_istore_n ec508 dX5_spreadCosts_90
theorem e508_91 {ls st : List Value} {h : x_H} : x_run 508 91 ls st h = q_gr ls 0 (fun v => x_run 508 92 ls (.ref v :: st) h) := xe_aload_n ec508 dX5_spreadCosts_91
theorem e508_92 {ls st : List Value} {h : x_H} : x_run 508 92 ls st h = q_gr ls 0 (fun v => x_run 508 93 ls (.ref v :: st) h) := xe_aload_n ec508 dX5_spreadCosts_92
theorem e508_93 {ls st : List Value} {h : x_H} {a : Nat}: x_run 508 93 ls (.ref a :: st) h = q_gf h a 7 6 (fun v => x_run 508 96 ls (v :: st) h) := xe_getfield ec508 dX5_spreadCosts_93 ef5_28
theorem e508_96 {ls st : List Value} {h : x_H} : x_run 508 96 ls st h = x_run 508 97 ls (.int (q_i 1) :: st) h := xe_iconst ec508 dX5_spreadCosts_96
theorem e508_97 {ls st : List Value} {h : x_H} {x y : Int32}: x_run 508 97 ls (.int y :: .int x :: st) h = x_run 508 98 ls (.int (x + y) :: st) h := xe_iadd ec508 dX5_spreadCosts_97
theorem e508_98 {ls st : List Value} {h : x_H} : x_run 508 98 ls st h = x_run 508 100 ls (.int (q_i 96) :: st) h := xe_bipush ec508 dX5_spreadCosts_98 (by decide)
theorem e508_100 {ls st : List Value} {h : x_H} {x y : Int32}: x_run 508 100 ls (.int y :: .int x :: st) h = if y = 0 then none else x_run 508 101 ls (.int (x - (x / y) * y) :: st) h := xe_irem ec508 dX5_spreadCosts_100
theorem e508_101 {ls st : List Value} {h : x_H} {v : Value} {a : Nat}: x_run 508 101 ls (v :: .ref a :: st) h = if x_fit (x_ty 7 6) v = true then q_pf h a 7 6 v (fun h' => x_run 508 104 ls st h') else none := xe_putfield ec508 dX5_spreadCosts_101 ef5_28 (by decide +kernel)
theorem e508_104 {ls st : List Value} {h : x_H} : x_run 508 104 ls st h = q_gr ls 0 (fun v => x_run 508 105 ls (.ref v :: st) h) := xe_aload_n ec508 dX5_spreadCosts_104
theorem e508_105 {ls st : List Value} {h : x_H} {v : Value} (hv : v.category = 1): x_run 508 105 ls (v :: st) h = x_run 508 106 ls (v :: v :: st) h := xe_dup ec508 dX5_spreadCosts_105 hv
theorem e508_106 {ls st : List Value} {h : x_H} {a : Nat}: x_run 508 106 ls (.ref a :: st) h = q_gf h a 7 7 (fun v => x_run 508 109 ls (v :: st) h) := xe_getfield ec508 dX5_spreadCosts_106 ef5_32
theorem e508_109 {ls st : List Value} {h : x_H} : x_run 508 109 ls st h = x_run 508 110 ls (.int (q_i 1) :: st) h := xe_iconst ec508 dX5_spreadCosts_109
theorem e508_110 {ls st : List Value} {h : x_H} {x y : Int32}: x_run 508 110 ls (.int y :: .int x :: st) h = x_run 508 111 ls (.int (x - y) :: st) h := xe_isub ec508 dX5_spreadCosts_110
theorem e508_111 {ls st : List Value} {h : x_H} {v : Value} {a : Nat}: x_run 508 111 ls (v :: .ref a :: st) h = if x_fit (x_ty 7 7) v = true then q_pf h a 7 7 v (fun h' => x_run 508 114 ls st h') else none := xe_putfield ec508 dX5_spreadCosts_111 ef5_32 (by decide +kernel)
theorem e508_114 {ls st : List Value} {h : x_H} : x_run 508 114 ls st h = q_gr ls 0 (fun v => x_run 508 115 ls (.ref v :: st) h) := xe_aload_n ec508 dX5_spreadCosts_114
theorem e508_115 {ls st : List Value} {h : x_H} {a : Nat}: x_run 508 115 ls (.ref a :: st) h = q_gf h a 7 5 (fun v => x_run 508 118 ls (v :: st) h) := xe_getfield ec508 dX5_spreadCosts_115 ef5_24
theorem e508_118 {ls st : List Value} {h : x_H} : x_run 508 118 ls st h = q_gi ls 2 (fun v => x_run 508 119 ls (.int v :: st) h) := xe_iload_n ec508 dX5_spreadCosts_118
theorem e508_119 {ls st : List Value} {h : x_H} : x_run 508 119 ls st h = x_run 508 120 ls (.int (q_i 0) :: st) h := xe_iconst ec508 dX5_spreadCosts_119
theorem e508_120 {ls st : List Value} {h : x_H} {x y : Int32} {a : Nat}: x_run 508 120 ls (.int y :: .int x :: .ref a :: st) h = q_wa h a 1 x (vp_nar .boolean y) (fun h' => x_run 508 121 ls st h') := xe_bastore ec508 dX5_spreadCosts_120
theorem e508_121 {ls st : List Value} {h : x_H} : x_run 508 121 ls st h = q_gr ls 0 (fun v => x_run 508 122 ls (.ref v :: st) h) := xe_aload_n ec508 dX5_spreadCosts_121
theorem e508_122 {ls st : List Value} {h : x_H} : x_run 508 122 ls st h = q_gi ls 2 (fun v => x_run 508 123 ls (.int v :: st) h) := xe_iload_n ec508 dX5_spreadCosts_122
theorem e508_123 {ls st : List Value} {h : x_H} {b : Nat} {a1 : Value}: x_run 508 123 ls (a1 :: .ref b :: st) h = if q_rcv h b 7 = true then (if x_wt st ≤ 8 ∧ x_wt [.ref b, a1] = 2 then q_cl (x_m 509 [.ref b, a1] h) (fun v h' => x_run 508 126 ls (v.toList ++ st) h') else none) else none := xe_virt (r := [a1]) ec508 dX5_spreadCosts_123 ek5_109 rfl (by decide +kernel) (by decide +kernel)
theorem e508_126 {ls st : List Value} {h : x_H} : x_run 508 126 ls st h = q_gi ls 1 (fun v => if x_nd ls 1 = true then x_run 508 129 (ls.set 1 (.int (v + q_i 1))) st h else none) := xe_iinc ec508 dX5_spreadCosts_126
theorem e508_129 {ls st : List Value} {h : x_H} : x_run 508 129 ls st h = x_run 508 68 ls st h := xe_goto ec508 dX5_spreadCosts_129 rfl
theorem e508_132 {ls : List Value} {h : x_H} : x_run 508 132 ls [] h = some (.inl (none), h) := xe_return ec508 dX5_spreadCosts_132 rfl
theorem ec509 : x_code 509 = cX5_spreadFrom := rfl
theorem e509_0 {ls st : List Value} {h : x_H} : x_run 509 0 ls st h = x_run 509 1 ls (.int (q_i 0) :: st) h := xe_iconst ec509 dX5_spreadFrom_0
theorem e509_1 {ls st : List Value} {h : x_H} {x : Int32}: x_run 509 1 ls (.int x :: st) h = q_ls ls 2 (.int x) (fun ls' => x_run 509 2 ls' st h) := xe_istore_n ec509 dX5_spreadFrom_1
theorem e509_2 {ls st : List Value} {h : x_H} : x_run 509 2 ls st h = q_gi ls 2 (fun v => x_run 509 3 ls (.int v :: st) h) := xe_iload_n ec509 dX5_spreadFrom_2
theorem e509_3 {ls st : List Value} {h : x_H} : x_run 509 3 ls st h = x_run 509 4 ls (.int (q_i 5) :: st) h := xe_iconst ec509 dX5_spreadFrom_3
theorem e509_4 {ls st : List Value} {h : x_H} {x y : Int32}: x_run 509 4 ls (.int y :: .int x :: st) h = if y ≤ x then x_run 509 89 ls st h else x_run 509 7 ls st h := xe_ic_ge ec509 dX5_spreadFrom_4 rfl
theorem e509_7 {ls st : List Value} {h : x_H} : x_run 509 7 ls st h = q_gi ls 1 (fun v => x_run 509 8 ls (.int v :: st) h) := xe_iload_n ec509 dX5_spreadFrom_7
theorem e509_8 {ls st : List Value} {h : x_H} : x_run 509 8 ls st h = q_gi ls 2 (fun v => x_run 509 9 ls (.int v :: st) h) := xe_iload_n ec509 dX5_spreadFrom_8
theorem e509_9 {ls st : List Value} {h : x_H} {a1 a2 : Value}: x_run 509 9 ls (a2 :: a1 :: st) h = if x_wt st ≤ 8 ∧ x_wt [a1, a2] = 2 then q_cl (x_m 741 [a1, a2] h) (fun v h' => x_run 509 12 ls (v.toList ++ st) h') else none := xe_stat (args := [a1, a2]) ec509 dX5_spreadFrom_9 ek5_112 (by decide) rfl (by decide +kernel) (by decide +kernel)
theorem e509_12 {ls st : List Value} {h : x_H} {x : Int32}: x_run 509 12 ls (.int x :: st) h = q_ls ls 3 (.int x) (fun ls' => x_run 509 13 ls' st h) := xe_istore_n ec509 dX5_spreadFrom_12
theorem e509_13 {ls st : List Value} {h : x_H} : x_run 509 13 ls st h = q_gi ls 3 (fun v => x_run 509 14 ls (.int v :: st) h) := xe_iload_n ec509 dX5_spreadFrom_13
theorem e509_14 {ls st : List Value} {h : x_H} {x : Int32}: x_run 509 14 ls (.int x :: st) h = if x < 0 then x_run 509 83 ls st h else x_run 509 17 ls st h := xe_if_lt ec509 dX5_spreadFrom_14 rfl
theorem e509_17 {ls st : List Value} {h : x_H} : x_run 509 17 ls st h = q_gr ls 0 (fun v => x_run 509 18 ls (.ref v :: st) h) := xe_aload_n ec509 dX5_spreadFrom_17
theorem e509_18 {ls st : List Value} {h : x_H} {a : Nat}: x_run 509 18 ls (.ref a :: st) h = q_gf h a 7 1 (fun v => x_run 509 21 ls (v :: st) h) := xe_getfield ec509 dX5_spreadFrom_18 ef5_9
theorem e509_21 {ls st : List Value} {h : x_H} : x_run 509 21 ls st h = q_gi ls 3 (fun v => x_run 509 22 ls (.int v :: st) h) := xe_iload_n ec509 dX5_spreadFrom_21
theorem e509_22 {ls st : List Value} {h : x_H} {x : Int32} {a : Nat}: x_run 509 22 ls (.int x :: .ref a :: st) h = q_ra h a 0 x (fun v => x_run 509 23 ls (.int v :: st) h) := xe_iaload ec509 dX5_spreadFrom_22
theorem e509_23 {ls st : List Value} {h : x_H} {x : Int32}: x_run 509 23 ls (.int x :: st) h = if x = 0 then x_run 509 44 ls st h else x_run 509 26 ls st h := xe_if_eq ec509 dX5_spreadFrom_23 rfl
theorem e509_26 {ls st : List Value} {h : x_H} : x_run 509 26 ls st h = q_gr ls 0 (fun v => x_run 509 27 ls (.ref v :: st) h) := xe_aload_n ec509 dX5_spreadFrom_26
theorem e509_27 {ls st : List Value} {h : x_H} {a : Nat}: x_run 509 27 ls (.ref a :: st) h = q_gf h a 7 9 (fun v => x_run 509 30 ls (v :: st) h) := xe_getfield ec509 dX5_spreadFrom_27 ef5_38
theorem e509_30 {ls st : List Value} {h : x_H} {x : Int32}: x_run 509 30 ls (.int x :: st) h = if x = 0 then x_run 509 83 ls st h else x_run 509 33 ls st h := xe_if_eq ec509 dX5_spreadFrom_30 rfl
theorem e509_33 {ls st : List Value} {h : x_H} : x_run 509 33 ls st h = q_gr ls 0 (fun v => x_run 509 34 ls (.ref v :: st) h) := xe_aload_n ec509 dX5_spreadFrom_33
theorem e509_34 {ls st : List Value} {h : x_H} {a : Nat}: x_run 509 34 ls (.ref a :: st) h = q_gf h a 7 1 (fun v => x_run 509 37 ls (v :: st) h) := xe_getfield ec509 dX5_spreadFrom_34 ef5_9
theorem e509_37 {ls st : List Value} {h : x_H} : x_run 509 37 ls st h = q_gi ls 3 (fun v => x_run 509 38 ls (.int v :: st) h) := xe_iload_n ec509 dX5_spreadFrom_37
theorem e509_38 {ls st : List Value} {h : x_H} {x : Int32} {a : Nat}: x_run 509 38 ls (.int x :: .ref a :: st) h = q_ra h a 0 x (fun v => x_run 509 39 ls (.int v :: st) h) := xe_iaload ec509 dX5_spreadFrom_38
theorem e509_39 {ls st : List Value} {h : x_H} : x_run 509 39 ls st h = x_run 509 41 ls (.int (q_i 8) :: st) h := xe_bipush ec509 dX5_spreadFrom_39 (by decide)
theorem e509_41 {ls st : List Value} {h : x_H} {x y : Int32}: x_run 509 41 ls (.int y :: .int x :: st) h = if ¬ x = y then x_run 509 83 ls st h else x_run 509 44 ls st h := xe_ic_ne ec509 dX5_spreadFrom_41 rfl
theorem e509_44 {ls st : List Value} {h : x_H} : x_run 509 44 ls st h = q_gr ls 0 (fun v => x_run 509 45 ls (.ref v :: st) h) := xe_aload_n ec509 dX5_spreadFrom_44
theorem e509_45 {ls st : List Value} {h : x_H} {a : Nat}: x_run 509 45 ls (.ref a :: st) h = q_gf h a 7 3 (fun v => x_run 509 48 ls (v :: st) h) := xe_getfield ec509 dX5_spreadFrom_45 ef5_18
theorem e509_48 {ls st : List Value} {h : x_H} : x_run 509 48 ls st h = q_gi ls 1 (fun v => x_run 509 49 ls (.int v :: st) h) := xe_iload_n ec509 dX5_spreadFrom_48
theorem e509_49 {ls st : List Value} {h : x_H} {x : Int32} {a : Nat}: x_run 509 49 ls (.int x :: .ref a :: st) h = q_ra h a 0 x (fun v => x_run 509 50 ls (.int v :: st) h) := xe_iaload ec509 dX5_spreadFrom_49
theorem e509_50 {ls st : List Value} {h : x_H} : x_run 509 50 ls st h = q_gr ls 0 (fun v => x_run 509 51 ls (.ref v :: st) h) := xe_aload_n ec509 dX5_spreadFrom_50
theorem e509_51 {ls st : List Value} {h : x_H} : x_run 509 51 ls st h = q_gi ls 3 (fun v => x_run 509 52 ls (.int v :: st) h) := xe_iload_n ec509 dX5_spreadFrom_51
theorem e509_52 {ls st : List Value} {h : x_H} : x_run 509 52 ls st h = q_gi ls 2 (fun v => x_run 509 53 ls (.int v :: st) h) := xe_iload_n ec509 dX5_spreadFrom_52
theorem e509_53 {ls st : List Value} {h : x_H} {b : Nat} {a1 a2 : Value}: x_run 509 53 ls (a2 :: a1 :: .ref b :: st) h = if q_rcv h b 7 = true then (if x_wt st ≤ 8 ∧ x_wt [.ref b, a1, a2] = 3 then q_cl (x_m 511 [.ref b, a1, a2] h) (fun v h' => x_run 509 56 ls (v.toList ++ st) h') else none) else none := xe_virt (r := [a1, a2]) ec509 dX5_spreadFrom_53 ek5_115 rfl (by decide +kernel) (by decide +kernel)
theorem e509_56 {ls st : List Value} {h : x_H} {x y : Int32}: x_run 509 56 ls (.int y :: .int x :: st) h = x_run 509 57 ls (.int (x + y) :: st) h := xe_iadd ec509 dX5_spreadFrom_56
theorem e509_57 {ls st : List Value} {h : x_H} {x : Int32}: x_run 509 57 ls (.int x :: st) h = q_ls ls 4 (.int x) (fun ls' => x_run 509 59 ls' st h) := xe_istore ec509 dX5_spreadFrom_57
theorem e509_59 {ls st : List Value} {h : x_H} : x_run 509 59 ls st h = q_gi ls 4 (fun v => x_run 509 61 ls (.int v :: st) h) := xe_iload ec509 dX5_spreadFrom_59
theorem e509_61 {ls st : List Value} {h : x_H} : x_run 509 61 ls st h = q_gr ls 0 (fun v => x_run 509 62 ls (.ref v :: st) h) := xe_aload_n ec509 dX5_spreadFrom_61
theorem e509_62 {ls st : List Value} {h : x_H} {a : Nat}: x_run 509 62 ls (.ref a :: st) h = q_gf h a 7 3 (fun v => x_run 509 65 ls (v :: st) h) := xe_getfield ec509 dX5_spreadFrom_62 ef5_18
theorem e509_65 {ls st : List Value} {h : x_H} : x_run 509 65 ls st h = q_gi ls 3 (fun v => x_run 509 66 ls (.int v :: st) h) := xe_iload_n ec509 dX5_spreadFrom_65
theorem e509_66 {ls st : List Value} {h : x_H} {x : Int32} {a : Nat}: x_run 509 66 ls (.int x :: .ref a :: st) h = q_ra h a 0 x (fun v => x_run 509 67 ls (.int v :: st) h) := xe_iaload ec509 dX5_spreadFrom_66
theorem e509_67 {ls st : List Value} {h : x_H} {x y : Int32}: x_run 509 67 ls (.int y :: .int x :: st) h = if y ≤ x then x_run 509 83 ls st h else x_run 509 70 ls st h := xe_ic_ge ec509 dX5_spreadFrom_67 rfl
theorem e509_70 {ls st : List Value} {h : x_H} : x_run 509 70 ls st h = q_gr ls 0 (fun v => x_run 509 71 ls (.ref v :: st) h) := xe_aload_n ec509 dX5_spreadFrom_70
theorem e509_71 {ls st : List Value} {h : x_H} {a : Nat}: x_run 509 71 ls (.ref a :: st) h = q_gf h a 7 3 (fun v => x_run 509 74 ls (v :: st) h) := xe_getfield ec509 dX5_spreadFrom_71 ef5_18
theorem e509_74 {ls st : List Value} {h : x_H} : x_run 509 74 ls st h = q_gi ls 3 (fun v => x_run 509 75 ls (.int v :: st) h) := xe_iload_n ec509 dX5_spreadFrom_74
theorem e509_75 {ls st : List Value} {h : x_H} : x_run 509 75 ls st h = q_gi ls 4 (fun v => x_run 509 77 ls (.int v :: st) h) := xe_iload ec509 dX5_spreadFrom_75
theorem e509_77 {ls st : List Value} {h : x_H} {x y : Int32} {a : Nat}: x_run 509 77 ls (.int y :: .int x :: .ref a :: st) h = q_wa h a 0 x y (fun h' => x_run 509 78 ls st h') := xe_iastore ec509 dX5_spreadFrom_77
theorem e509_78 {ls st : List Value} {h : x_H} : x_run 509 78 ls st h = q_gr ls 0 (fun v => x_run 509 79 ls (.ref v :: st) h) := xe_aload_n ec509 dX5_spreadFrom_78
theorem e509_79 {ls st : List Value} {h : x_H} : x_run 509 79 ls st h = q_gi ls 3 (fun v => x_run 509 80 ls (.int v :: st) h) := xe_iload_n ec509 dX5_spreadFrom_79
theorem e509_80 {ls st : List Value} {h : x_H} {b : Nat} {a1 : Value}: x_run 509 80 ls (a1 :: .ref b :: st) h = if q_rcv h b 7 = true then (if x_wt st ≤ 8 ∧ x_wt [.ref b, a1] = 2 then q_cl (x_m 510 [.ref b, a1] h) (fun v h' => x_run 509 83 ls (v.toList ++ st) h') else none) else none := xe_virt (r := [a1]) ec509 dX5_spreadFrom_80 ek5_106 rfl (by decide +kernel) (by decide +kernel)
theorem e509_83 {ls st : List Value} {h : x_H} : x_run 509 83 ls st h = q_gi ls 2 (fun v => if x_nd ls 2 = true then x_run 509 86 (ls.set 2 (.int (v + q_i 1))) st h else none) := xe_iinc ec509 dX5_spreadFrom_83
theorem e509_86 {ls st : List Value} {h : x_H} : x_run 509 86 ls st h = x_run 509 2 ls st h := xe_goto ec509 dX5_spreadFrom_86 rfl
theorem e509_89 {ls : List Value} {h : x_H} : x_run 509 89 ls [] h = some (.inl (none), h) := xe_return ec509 dX5_spreadFrom_89 rfl
theorem ec510 : x_code 510 = cX5_enqueue := rfl
theorem e510_0 {ls st : List Value} {h : x_H} : x_run 510 0 ls st h = q_gr ls 0 (fun v => x_run 510 1 ls (.ref v :: st) h) := xe_aload_n ec510 dX5_enqueue_0
theorem e510_1 {ls st : List Value} {h : x_H} {a : Nat}: x_run 510 1 ls (.ref a :: st) h = q_gf h a 7 5 (fun v => x_run 510 4 ls (v :: st) h) := xe_getfield ec510 dX5_enqueue_1 ef5_24
theorem e510_4 {ls st : List Value} {h : x_H} : x_run 510 4 ls st h = q_gi ls 1 (fun v => x_run 510 5 ls (.int v :: st) h) := xe_iload_n ec510 dX5_enqueue_4
theorem e510_5 {ls st : List Value} {h : x_H} {x : Int32} {a : Nat}: x_run 510 5 ls (.int x :: .ref a :: st) h = q_ra h a 1 x (fun v => x_run 510 6 ls (.int v :: st) h) := xe_baload ec510 dX5_enqueue_5
theorem e510_6 {ls st : List Value} {h : x_H} {x : Int32}: x_run 510 6 ls (.int x :: st) h = if ¬ x = 0 then x_run 510 44 ls st h else x_run 510 9 ls st h := xe_if_ne ec510 dX5_enqueue_6 rfl
theorem e510_9 {ls st : List Value} {h : x_H} : x_run 510 9 ls st h = q_gr ls 0 (fun v => x_run 510 10 ls (.ref v :: st) h) := xe_aload_n ec510 dX5_enqueue_9
theorem e510_10 {ls st : List Value} {h : x_H} {a : Nat}: x_run 510 10 ls (.ref a :: st) h = q_gf h a 7 5 (fun v => x_run 510 13 ls (v :: st) h) := xe_getfield ec510 dX5_enqueue_10 ef5_24
theorem e510_13 {ls st : List Value} {h : x_H} : x_run 510 13 ls st h = q_gi ls 1 (fun v => x_run 510 14 ls (.int v :: st) h) := xe_iload_n ec510 dX5_enqueue_13
theorem e510_14 {ls st : List Value} {h : x_H} : x_run 510 14 ls st h = x_run 510 15 ls (.int (q_i 1) :: st) h := xe_iconst ec510 dX5_enqueue_14
theorem e510_15 {ls st : List Value} {h : x_H} {x y : Int32} {a : Nat}: x_run 510 15 ls (.int y :: .int x :: .ref a :: st) h = q_wa h a 1 x (vp_nar .boolean y) (fun h' => x_run 510 16 ls st h') := xe_bastore ec510 dX5_enqueue_15
theorem e510_16 {ls st : List Value} {h : x_H} : x_run 510 16 ls st h = q_gr ls 0 (fun v => x_run 510 17 ls (.ref v :: st) h) := xe_aload_n ec510 dX5_enqueue_16
theorem e510_17 {ls st : List Value} {h : x_H} {a : Nat}: x_run 510 17 ls (.ref a :: st) h = q_gf h a 7 4 (fun v => x_run 510 20 ls (v :: st) h) := xe_getfield ec510 dX5_enqueue_17 ef5_21
theorem e510_20 {ls st : List Value} {h : x_H} : x_run 510 20 ls st h = q_gr ls 0 (fun v => x_run 510 21 ls (.ref v :: st) h) := xe_aload_n ec510 dX5_enqueue_20
theorem e510_21 {ls st : List Value} {h : x_H} {a : Nat}: x_run 510 21 ls (.ref a :: st) h = q_gf h a 7 6 (fun v => x_run 510 24 ls (v :: st) h) := xe_getfield ec510 dX5_enqueue_21 ef5_28
theorem e510_24 {ls st : List Value} {h : x_H} : x_run 510 24 ls st h = q_gr ls 0 (fun v => x_run 510 25 ls (.ref v :: st) h) := xe_aload_n ec510 dX5_enqueue_24
theorem e510_25 {ls st : List Value} {h : x_H} {a : Nat}: x_run 510 25 ls (.ref a :: st) h = q_gf h a 7 7 (fun v => x_run 510 28 ls (v :: st) h) := xe_getfield ec510 dX5_enqueue_25 ef5_32
theorem e510_28 {ls st : List Value} {h : x_H} {x y : Int32}: x_run 510 28 ls (.int y :: .int x :: st) h = x_run 510 29 ls (.int (x + y) :: st) h := xe_iadd ec510 dX5_enqueue_28
theorem e510_29 {ls st : List Value} {h : x_H} : x_run 510 29 ls st h = x_run 510 31 ls (.int (q_i 96) :: st) h := xe_bipush ec510 dX5_enqueue_29 (by decide)
theorem e510_31 {ls st : List Value} {h : x_H} {x y : Int32}: x_run 510 31 ls (.int y :: .int x :: st) h = if y = 0 then none else x_run 510 32 ls (.int (x - (x / y) * y) :: st) h := xe_irem ec510 dX5_enqueue_31
theorem e510_32 {ls st : List Value} {h : x_H} : x_run 510 32 ls st h = q_gi ls 1 (fun v => x_run 510 33 ls (.int v :: st) h) := xe_iload_n ec510 dX5_enqueue_32
theorem e510_33 {ls st : List Value} {h : x_H} {x y : Int32} {a : Nat}: x_run 510 33 ls (.int y :: .int x :: .ref a :: st) h = q_wa h a 0 x y (fun h' => x_run 510 34 ls st h') := xe_iastore ec510 dX5_enqueue_33
theorem e510_34 {ls st : List Value} {h : x_H} : x_run 510 34 ls st h = q_gr ls 0 (fun v => x_run 510 35 ls (.ref v :: st) h) := xe_aload_n ec510 dX5_enqueue_34
theorem e510_35 {ls st : List Value} {h : x_H} {v : Value} (hv : v.category = 1): x_run 510 35 ls (v :: st) h = x_run 510 36 ls (v :: v :: st) h := xe_dup ec510 dX5_enqueue_35 hv
theorem e510_36 {ls st : List Value} {h : x_H} {a : Nat}: x_run 510 36 ls (.ref a :: st) h = q_gf h a 7 7 (fun v => x_run 510 39 ls (v :: st) h) := xe_getfield ec510 dX5_enqueue_36 ef5_32
theorem e510_39 {ls st : List Value} {h : x_H} : x_run 510 39 ls st h = x_run 510 40 ls (.int (q_i 1) :: st) h := xe_iconst ec510 dX5_enqueue_39
theorem e510_40 {ls st : List Value} {h : x_H} {x y : Int32}: x_run 510 40 ls (.int y :: .int x :: st) h = x_run 510 41 ls (.int (x + y) :: st) h := xe_iadd ec510 dX5_enqueue_40
theorem e510_41 {ls st : List Value} {h : x_H} {v : Value} {a : Nat}: x_run 510 41 ls (v :: .ref a :: st) h = if x_fit (x_ty 7 7) v = true then q_pf h a 7 7 v (fun h' => x_run 510 44 ls st h') else none := xe_putfield ec510 dX5_enqueue_41 ef5_32 (by decide +kernel)
theorem e510_44 {ls : List Value} {h : x_H} : x_run 510 44 ls [] h = some (.inl (none), h) := xe_return ec510 dX5_enqueue_44 rfl
theorem ec511 : x_code 511 = cX5_stepCost := rfl
theorem e511_0 {ls st : List Value} {h : x_H} : x_run 511 0 ls st h = q_gr ls 0 (fun v => x_run 511 1 ls (.ref v :: st) h) := xe_aload_n ec511 dX5_stepCost_0
theorem e511_1 {ls st : List Value} {h : x_H} {a : Nat}: x_run 511 1 ls (.ref a :: st) h = q_gf h a 7 1 (fun v => x_run 511 4 ls (v :: st) h) := xe_getfield ec511 dX5_stepCost_1 ef5_9
theorem e511_4 {ls st : List Value} {h : x_H} : x_run 511 4 ls st h = q_gi ls 1 (fun v => x_run 511 5 ls (.int v :: st) h) := xe_iload_n ec511 dX5_stepCost_4
theorem e511_5 {ls st : List Value} {h : x_H} {x : Int32} {a : Nat}: x_run 511 5 ls (.int x :: .ref a :: st) h = q_ra h a 0 x (fun v => x_run 511 6 ls (.int v :: st) h) := xe_iaload ec511 dX5_stepCost_5
theorem e511_6 {ls st : List Value} {h : x_H} : x_run 511 6 ls st h = x_run 511 8 ls (.int (q_i 8) :: st) h := xe_bipush ec511 dX5_stepCost_6 (by decide)
theorem e511_8 {ls st : List Value} {h : x_H} {x y : Int32}: x_run 511 8 ls (.int y :: .int x :: st) h = if ¬ x = y then x_run 511 16 ls st h else x_run 511 11 ls st h := xe_ic_ne ec511 dX5_stepCost_8 rfl
theorem e511_11 {ls st : List Value} {h : x_H} : x_run 511 11 ls st h = x_run 511 13 ls (.int (q_i 8) :: st) h := xe_bipush ec511 dX5_stepCost_11 (by decide)
theorem e511_13 {ls st : List Value} {h : x_H} : x_run 511 13 ls st h = x_run 511 17 ls st h := xe_goto ec511 dX5_stepCost_13 rfl
theorem e511_16 {ls st : List Value} {h : x_H} : x_run 511 16 ls st h = x_run 511 17 ls (.int (q_i 0) :: st) h := xe_iconst ec511 dX5_stepCost_16
theorem e511_17 {ls st : List Value} {h : x_H} {x : Int32}: x_run 511 17 ls (.int x :: st) h = q_ls ls 3 (.int x) (fun ls' => x_run 511 18 ls' st h) := xe_istore_n ec511 dX5_stepCost_17
theorem e511_18 {ls st : List Value} {h : x_H} : x_run 511 18 ls st h = q_gi ls 2 (fun v => x_run 511 19 ls (.int v :: st) h) := xe_iload_n ec511 dX5_stepCost_18
theorem e511_19 {ls st : List Value} {h : x_H} : x_run 511 19 ls st h = x_run 511 20 ls (.int (q_i 4) :: st) h := xe_iconst ec511 dX5_stepCost_19
theorem e511_20 {ls st : List Value} {h : x_H} {x y : Int32}: x_run 511 20 ls (.int y :: .int x :: st) h = if ¬ x = y then x_run 511 35 ls st h else x_run 511 23 ls st h := xe_ic_ne ec511 dX5_stepCost_20 rfl
theorem e511_23 {ls st : List Value} {h : x_H} : x_run 511 23 ls st h = q_gi ls 3 (fun v => x_run 511 24 ls (.int v :: st) h) := xe_iload_n ec511 dX5_stepCost_23
theorem e511_24 {ls st : List Value} {h : x_H} : x_run 511 24 ls st h = q_gr ls 0 (fun v => x_run 511 25 ls (.ref v :: st) h) := xe_aload_n ec511 dX5_stepCost_24
theorem e511_25 {ls st : List Value} {h : x_H} {a : Nat}: x_run 511 25 ls (.ref a :: st) h = q_gf h a 7 2 (fun v => x_run 511 28 ls (v :: st) h) := xe_getfield ec511 dX5_stepCost_25 ef5_15
theorem e511_28 {ls st : List Value} {h : x_H} : x_run 511 28 ls st h = q_gi ls 1 (fun v => x_run 511 29 ls (.int v :: st) h) := xe_iload_n ec511 dX5_stepCost_28
theorem e511_29 {ls st : List Value} {h : x_H} : x_run 511 29 ls st h = x_run 511 31 ls (.int (q_i 48) :: st) h := xe_bipush ec511 dX5_stepCost_29 (by decide)
theorem e511_31 {ls st : List Value} {h : x_H} {x y : Int32}: x_run 511 31 ls (.int y :: .int x :: st) h = if y = 0 then none else x_run 511 32 ls (.int (x - (x / y) * y) :: st) h := xe_irem ec511 dX5_stepCost_31
theorem e511_32 {ls st : List Value} {h : x_H} {x : Int32} {a : Nat}: x_run 511 32 ls (.int x :: .ref a :: st) h = q_ra h a 0 x (fun v => x_run 511 33 ls (.int v :: st) h) := xe_iaload ec511 dX5_stepCost_32
theorem e511_33 {ls st : List Value} {h : x_H} {x y : Int32}: x_run 511 33 ls (.int y :: .int x :: st) h = x_run 511 34 ls (.int (x + y) :: st) h := xe_iadd ec511 dX5_stepCost_33
theorem e511_34 {ls : List Value} {h : x_H} {x : Int32} : x_run 511 34 ls [.int x] h = if narrow .int (.int x) = .int x then some (.inl (some (.int x)), h) else none := xe_ireturn ec511 dX5_stepCost_34 rfl
theorem e511_35 {ls st : List Value} {h : x_H} : x_run 511 35 ls st h = q_gi ls 2 (fun v => x_run 511 36 ls (.int v :: st) h) := xe_iload_n ec511 dX5_stepCost_35
theorem e511_36 {ls st : List Value} {h : x_H} : x_run 511 36 ls st h = x_run 511 37 ls (.int (q_i 2) :: st) h := xe_iconst ec511 dX5_stepCost_36
theorem e511_37 {ls st : List Value} {h : x_H} {x y : Int32}: x_run 511 37 ls (.int y :: .int x :: st) h = if x = y then x_run 511 45 ls st h else x_run 511 40 ls st h := xe_ic_eq ec511 dX5_stepCost_37 rfl
theorem e511_40 {ls st : List Value} {h : x_H} : x_run 511 40 ls st h = q_gi ls 2 (fun v => x_run 511 41 ls (.int v :: st) h) := xe_iload_n ec511 dX5_stepCost_40
theorem e511_41 {ls st : List Value} {h : x_H} : x_run 511 41 ls st h = x_run 511 42 ls (.int (q_i 3) :: st) h := xe_iconst ec511 dX5_stepCost_41
theorem e511_42 {ls st : List Value} {h : x_H} {x y : Int32}: x_run 511 42 ls (.int y :: .int x :: st) h = if ¬ x = y then x_run 511 49 ls st h else x_run 511 45 ls st h := xe_ic_ne ec511 dX5_stepCost_42 rfl
theorem e511_45 {ls st : List Value} {h : x_H} : x_run 511 45 ls st h = x_run 511 46 ls (.int (q_i 1) :: st) h := xe_iconst ec511 dX5_stepCost_45
theorem e511_46 {ls st : List Value} {h : x_H} : x_run 511 46 ls st h = x_run 511 50 ls st h := xe_goto ec511 dX5_stepCost_46 rfl
theorem e511_49 {ls st : List Value} {h : x_H} : x_run 511 49 ls st h = x_run 511 50 ls (.int (q_i 0) :: st) h := xe_iconst ec511 dX5_stepCost_49
theorem e511_50 {ls st : List Value} {h : x_H} {x : Int32}: x_run 511 50 ls (.int x :: st) h = q_ls ls 4 (.int x) (fun ls' => x_run 511 52 ls' st h) := xe_istore ec511 dX5_stepCost_50
theorem e511_52 {ls st : List Value} {h : x_H} : x_run 511 52 ls st h = q_gi ls 1 (fun v => x_run 511 53 ls (.int v :: st) h) := xe_iload_n ec511 dX5_stepCost_52
theorem e511_53 {ls st : List Value} {h : x_H} : x_run 511 53 ls st h = x_run 511 55 ls (.int (q_i 48) :: st) h := xe_bipush ec511 dX5_stepCost_53 (by decide)
theorem e511_55 {ls st : List Value} {h : x_H} {x y : Int32}: x_run 511 55 ls (.int y :: .int x :: st) h = if y ≤ x then x_run 511 62 ls st h else x_run 511 58 ls st h := xe_ic_ge ec511 dX5_stepCost_55 rfl
theorem e511_58 {ls st : List Value} {h : x_H} : x_run 511 58 ls st h = x_run 511 59 ls (.int (q_i 1) :: st) h := xe_iconst ec511 dX5_stepCost_58
theorem e511_59 {ls st : List Value} {h : x_H} : x_run 511 59 ls st h = x_run 511 63 ls st h := xe_goto ec511 dX5_stepCost_59 rfl
theorem e511_62 {ls st : List Value} {h : x_H} : x_run 511 62 ls st h = x_run 511 63 ls (.int (q_i 0) :: st) h := xe_iconst ec511 dX5_stepCost_62
theorem e511_63 {ls st : List Value} {h : x_H} {x : Int32}: x_run 511 63 ls (.int x :: st) h = q_ls ls 5 (.int x) (fun ls' => x_run 511 65 ls' st h) := xe_istore ec511 dX5_stepCost_63
theorem e511_65 {ls st : List Value} {h : x_H} : x_run 511 65 ls st h = q_gi ls 3 (fun v => x_run 511 66 ls (.int v :: st) h) := xe_iload_n ec511 dX5_stepCost_65
theorem e511_66 {ls st : List Value} {h : x_H} : x_run 511 66 ls st h = q_gi ls 4 (fun v => x_run 511 68 ls (.int v :: st) h) := xe_iload ec511 dX5_stepCost_66
theorem e511_68 {ls st : List Value} {h : x_H} : x_run 511 68 ls st h = q_gi ls 5 (fun v => x_run 511 70 ls (.int v :: st) h) := xe_iload ec511 dX5_stepCost_68
theorem e511_70 {ls st : List Value} {h : x_H} {x y : Int32}: x_run 511 70 ls (.int y :: .int x :: st) h = if ¬ x = y then x_run 511 77 ls st h else x_run 511 73 ls st h := xe_ic_ne ec511 dX5_stepCost_70 rfl
theorem e511_73 {ls st : List Value} {h : x_H} : x_run 511 73 ls st h = x_run 511 74 ls (.int (q_i 1) :: st) h := xe_iconst ec511 dX5_stepCost_73
theorem e511_74 {ls st : List Value} {h : x_H} : x_run 511 74 ls st h = x_run 511 78 ls st h := xe_goto ec511 dX5_stepCost_74 rfl
theorem e511_77 {ls st : List Value} {h : x_H} : x_run 511 77 ls st h = x_run 511 78 ls (.int (q_i 2) :: st) h := xe_iconst ec511 dX5_stepCost_77
theorem e511_78 {ls st : List Value} {h : x_H} {x y : Int32}: x_run 511 78 ls (.int y :: .int x :: st) h = x_run 511 79 ls (.int (x + y) :: st) h := xe_iadd ec511 dX5_stepCost_78
theorem e511_79 {ls : List Value} {h : x_H} {x : Int32} : x_run 511 79 ls [.int x] h = if narrow .int (.int x) = .int x then some (.inl (some (.int x)), h) else none := xe_ireturn ec511 dX5_stepCost_79 rfl
theorem ec512 : x_code 512 = cX5_goBack := rfl
theorem e512_0 {ls st : List Value} {h : x_H} : x_run 512 0 ls st h = q_gi ls 1 (fun v => x_run 512 1 ls (.int v :: st) h) := xe_iload_n ec512 dX5_goBack_0
theorem e512_1 {ls st : List Value} {h : x_H} {x : Int32}: x_run 512 1 ls (.int x :: st) h = q_ls ls 2 (.int x) (fun ls' => x_run 512 2 ls' st h) := xe_istore_n ec512 dX5_goBack_1
theorem e512_2 {ls st : List Value} {h : x_H} : x_run 512 2 ls st h = x_run 512 3 ls (.int (q_i 0) :: st) h := xe_iconst ec512 dX5_goBack_2
theorem e512_3 {ls st : List Value} {h : x_H} {x : Int32}: x_run 512 3 ls (.int x :: st) h = q_ls ls 3 (.int x) (fun ls' => x_run 512 4 ls' st h) := xe_istore_n ec512 dX5_goBack_3
theorem e512_4 {ls st : List Value} {h : x_H} : x_run 512 4 ls st h = q_gi ls 3 (fun v => x_run 512 5 ls (.int v :: st) h) := xe_iload_n ec512 dX5_goBack_4
theorem e512_5 {ls st : List Value} {h : x_H} : x_run 512 5 ls st h = x_run 512 7 ls (.int (q_i 96) :: st) h := xe_bipush ec512 dX5_goBack_5 (by decide)
theorem e512_7 {ls st : List Value} {h : x_H} {x y : Int32}: x_run 512 7 ls (.int y :: .int x :: st) h = if y ≤ x then x_run 512 84 ls st h else x_run 512 10 ls st h := xe_ic_ge ec512 dX5_goBack_7 rfl
theorem e512_10 {ls st : List Value} {h : x_H} : x_run 512 10 ls st h = q_gr ls 0 (fun v => x_run 512 11 ls (.ref v :: st) h) := xe_aload_n ec512 dX5_goBack_10
theorem e512_11 {ls st : List Value} {h : x_H} {a : Nat}: x_run 512 11 ls (.ref a :: st) h = q_gf h a 7 10 (fun v => x_run 512 14 ls (v :: st) h) := xe_getfield ec512 dX5_goBack_11 ef5_42
theorem e512_14 {ls st : List Value} {h : x_H} : x_run 512 14 ls st h = q_gi ls 2 (fun v => x_run 512 15 ls (.int v :: st) h) := xe_iload_n ec512 dX5_goBack_14
theorem e512_15 {ls st : List Value} {h : x_H} {x : Int32} {a : Nat}: x_run 512 15 ls (.int x :: .ref a :: st) h = q_ra h a 1 x (fun v => x_run 512 16 ls (.int v :: st) h) := xe_baload ec512 dX5_goBack_15
theorem e512_16 {ls st : List Value} {h : x_H} {x : Int32}: x_run 512 16 ls (.int x :: st) h = if ¬ x = 0 then x_run 512 84 ls st h else x_run 512 19 ls st h := xe_if_ne ec512 dX5_goBack_16 rfl
theorem e512_19 {ls st : List Value} {h : x_H} : x_run 512 19 ls st h = q_gr ls 0 (fun v => x_run 512 20 ls (.ref v :: st) h) := xe_aload_n ec512 dX5_goBack_19
theorem e512_20 {ls st : List Value} {h : x_H} : x_run 512 20 ls st h = q_gi ls 2 (fun v => x_run 512 21 ls (.int v :: st) h) := xe_iload_n ec512 dX5_goBack_20
theorem e512_21 {ls st : List Value} {h : x_H} {b : Nat} {a1 : Value}: x_run 512 21 ls (a1 :: .ref b :: st) h = if q_rcv h b 7 = true then (if x_wt st ≤ 8 ∧ x_wt [.ref b, a1] = 2 then q_cl (x_m 513 [.ref b, a1] h) (fun v h' => x_run 512 24 ls (v.toList ++ st) h') else none) else none := xe_virt (r := [a1]) ec512 dX5_goBack_21 ek5_118 rfl (by decide +kernel) (by decide +kernel)
theorem e512_24 {ls st : List Value} {h : x_H} {x : Int32}: x_run 512 24 ls (.int x :: st) h = q_ls ls 4 (.int x) (fun ls' => x_run 512 26 ls' st h) := xe_istore ec512 dX5_goBack_24
theorem e512_26 {ls st : List Value} {h : x_H} : x_run 512 26 ls st h = q_gi ls 4 (fun v => x_run 512 28 ls (.int v :: st) h) := xe_iload ec512 dX5_goBack_26
theorem e512_28 {ls st : List Value} {h : x_H} : x_run 512 28 ls st h = x_run 512 29 ls (.int (q_i 4) :: st) h := xe_iconst ec512 dX5_goBack_28
theorem e512_29 {ls st : List Value} {h : x_H} {x y : Int32}: x_run 512 29 ls (.int y :: .int x :: st) h = if ¬ x = y then x_run 512 64 ls st h else x_run 512 32 ls st h := xe_ic_ne ec512 dX5_goBack_29 rfl
theorem e512_32 {ls st : List Value} {h : x_H} : x_run 512 32 ls st h = q_gr ls 0 (fun v => x_run 512 33 ls (.ref v :: st) h) := xe_aload_n ec512 dX5_goBack_32
theorem e512_33 {ls st : List Value} {h : x_H} {a : Nat}: x_run 512 33 ls (.ref a :: st) h = q_gf h a 7 2 (fun v => x_run 512 36 ls (v :: st) h) := xe_getfield ec512 dX5_goBack_33 ef5_15
theorem e512_36 {ls st : List Value} {h : x_H} : x_run 512 36 ls st h = q_gi ls 2 (fun v => x_run 512 37 ls (.int v :: st) h) := xe_iload_n ec512 dX5_goBack_36
theorem e512_37 {ls st : List Value} {h : x_H} : x_run 512 37 ls st h = x_run 512 39 ls (.int (q_i 48) :: st) h := xe_bipush ec512 dX5_goBack_37 (by decide)
theorem e512_39 {ls st : List Value} {h : x_H} {x y : Int32}: x_run 512 39 ls (.int y :: .int x :: st) h = if y = 0 then none else x_run 512 40 ls (.int (x - (x / y) * y) :: st) h := xe_irem ec512 dX5_goBack_39
theorem e512_40 {ls st : List Value} {h : x_H} {x : Int32} {a : Nat}: x_run 512 40 ls (.int x :: .ref a :: st) h = q_ra h a 0 x (fun v => x_run 512 41 ls (.int v :: st) h) := xe_iaload ec512 dX5_goBack_40
theorem e512_41 {ls st : List Value} {h : x_H} {x : Int32}: x_run 512 41 ls (.int x :: st) h = if x ≤ 0 then x_run 512 64 ls st h else x_run 512 44 ls st h := xe_if_le ec512 dX5_goBack_41 rfl
theorem e512_44 {ls st : List Value} {h : x_H} : x_run 512 44 ls st h = q_gr ls 0 (fun v => x_run 512 45 ls (.ref v :: st) h) := xe_aload_n ec512 dX5_goBack_44
theorem e512_45 {ls st : List Value} {h : x_H} {a : Nat}: x_run 512 45 ls (.ref a :: st) h = q_gf h a 7 11 (fun v => x_run 512 48 ls (v :: st) h) := xe_getfield ec512 dX5_goBack_45 ef5_45
theorem e512_48 {ls st : List Value} {h : x_H} : x_run 512 48 ls st h = q_gi ls 2 (fun v => x_run 512 49 ls (.int v :: st) h) := xe_iload_n ec512 dX5_goBack_48
theorem e512_49 {ls st : List Value} {h : x_H} : x_run 512 49 ls st h = x_run 512 51 ls (.int (q_i 48) :: st) h := xe_bipush ec512 dX5_goBack_49 (by decide)
theorem e512_51 {ls st : List Value} {h : x_H} {x y : Int32}: x_run 512 51 ls (.int y :: .int x :: st) h = if y = 0 then none else x_run 512 52 ls (.int (x - (x / y) * y) :: st) h := xe_irem ec512 dX5_goBack_51
theorem e512_52 {ls st : List Value} {h : x_H} : x_run 512 52 ls st h = x_run 512 53 ls (.int (q_i 1) :: st) h := xe_iconst ec512 dX5_goBack_52
theorem e512_53 {ls st : List Value} {h : x_H} {x y : Int32} {a : Nat}: x_run 512 53 ls (.int y :: .int x :: .ref a :: st) h = q_wa h a 1 x (vp_nar .boolean y) (fun h' => x_run 512 54 ls st h') := xe_bastore ec512 dX5_goBack_53
theorem e512_54 {ls st : List Value} {h : x_H} : x_run 512 54 ls st h = q_gr ls 0 (fun v => x_run 512 55 ls (.ref v :: st) h) := xe_aload_n ec512 dX5_goBack_54
theorem e512_55 {ls st : List Value} {h : x_H} {v : Value} (hv : v.category = 1): x_run 512 55 ls (v :: st) h = x_run 512 56 ls (v :: v :: st) h := xe_dup ec512 dX5_goBack_55 hv
theorem e512_56 {ls st : List Value} {h : x_H} {a : Nat}: x_run 512 56 ls (.ref a :: st) h = q_gf h a 7 12 (fun v => x_run 512 59 ls (v :: st) h) := xe_getfield ec512 dX5_goBack_56 ef5_48
theorem e512_59 {ls st : List Value} {h : x_H} : x_run 512 59 ls st h = x_run 512 60 ls (.int (q_i 1) :: st) h := xe_iconst ec512 dX5_goBack_59
theorem e512_60 {ls st : List Value} {h : x_H} {x y : Int32}: x_run 512 60 ls (.int y :: .int x :: st) h = x_run 512 61 ls (.int (x + y) :: st) h := xe_iadd ec512 dX5_goBack_60
theorem e512_61 {ls st : List Value} {h : x_H} {v : Value} {a : Nat}: x_run 512 61 ls (v :: .ref a :: st) h = if x_fit (x_ty 7 12) v = true then q_pf h a 7 12 v (fun h' => x_run 512 64 ls st h') else none := xe_putfield ec512 dX5_goBack_61 ef5_48 (by decide +kernel)
theorem e512_64 {ls st : List Value} {h : x_H} : x_run 512 64 ls st h = q_gr ls 0 (fun v => x_run 512 65 ls (.ref v :: st) h) := xe_aload_n ec512 dX5_goBack_64
theorem e512_65 {ls st : List Value} {h : x_H} {a : Nat}: x_run 512 65 ls (.ref a :: st) h = q_gf h a 7 10 (fun v => x_run 512 68 ls (v :: st) h) := xe_getfield ec512 dX5_goBack_65 ef5_42
theorem e512_68 {ls st : List Value} {h : x_H} : x_run 512 68 ls st h = q_gi ls 2 (fun v => x_run 512 69 ls (.int v :: st) h) := xe_iload_n ec512 dX5_goBack_68
theorem e512_69 {ls st : List Value} {h : x_H} : x_run 512 69 ls st h = x_run 512 70 ls (.int (q_i 1) :: st) h := xe_iconst ec512 dX5_goBack_69
theorem e512_70 {ls st : List Value} {h : x_H} {x y : Int32} {a : Nat}: x_run 512 70 ls (.int y :: .int x :: .ref a :: st) h = q_wa h a 1 x (vp_nar .boolean y) (fun h' => x_run 512 71 ls st h') := xe_bastore ec512 dX5_goBack_70
theorem e512_71 {ls st : List Value} {h : x_H} : x_run 512 71 ls st h = q_gi ls 2 (fun v => x_run 512 72 ls (.int v :: st) h) := xe_iload_n ec512 dX5_goBack_71
theorem e512_72 {ls st : List Value} {h : x_H} : x_run 512 72 ls st h = q_gi ls 4 (fun v => x_run 512 74 ls (.int v :: st) h) := xe_iload ec512 dX5_goBack_72
theorem e512_74 {ls st : List Value} {h : x_H} {a1 a2 : Value}: x_run 512 74 ls (a2 :: a1 :: st) h = if x_wt st ≤ 8 ∧ x_wt [a1, a2] = 2 then q_cl (x_m 741 [a1, a2] h) (fun v h' => x_run 512 77 ls (v.toList ++ st) h') else none := xe_stat (args := [a1, a2]) ec512 dX5_goBack_74 ek5_112 (by decide) rfl (by decide +kernel) (by decide +kernel)
theorem e512_77 {ls st : List Value} {h : x_H} {x : Int32}: x_run 512 77 ls (.int x :: st) h = q_ls ls 2 (.int x) (fun ls' => x_run 512 78 ls' st h) := xe_istore_n ec512 dX5_goBack_77
theorem e512_78 {ls st : List Value} {h : x_H} : x_run 512 78 ls st h = q_gi ls 3 (fun v => if x_nd ls 3 = true then x_run 512 81 (ls.set 3 (.int (v + q_i 1))) st h else none) := xe_iinc ec512 dX5_goBack_78
theorem e512_81 {ls st : List Value} {h : x_H} : x_run 512 81 ls st h = x_run 512 4 ls st h := xe_goto ec512 dX5_goBack_81 rfl
theorem e512_84 {ls : List Value} {h : x_H} : x_run 512 84 ls [] h = some (.inl (none), h) := xe_return ec512 dX5_goBack_84 rfl
theorem ec513 : x_code 513 = cX5_firstBack := rfl
theorem e513_0 {ls st : List Value} {h : x_H} : x_run 513 0 ls st h = x_run 513 1 ls (.int (q_i 0) :: st) h := xe_iconst ec513 dX5_firstBack_0
theorem e513_1 {ls st : List Value} {h : x_H} {x : Int32}: x_run 513 1 ls (.int x :: st) h = q_ls ls 2 (.int x) (fun ls' => x_run 513 2 ls' st h) := xe_istore_n ec513 dX5_firstBack_1
theorem e513_2 {ls st : List Value} {h : x_H} : x_run 513 2 ls st h = q_gi ls 2 (fun v => x_run 513 3 ls (.int v :: st) h) := xe_iload_n ec513 dX5_firstBack_2
theorem e513_3 {ls st : List Value} {h : x_H} : x_run 513 3 ls st h = x_run 513 4 ls (.int (q_i 4) :: st) h := xe_iconst ec513 dX5_firstBack_3
theorem e513_4 {ls st : List Value} {h : x_H} {x y : Int32}: x_run 513 4 ls (.int y :: .int x :: st) h = if y ≤ x then x_run 513 58 ls st h else x_run 513 7 ls st h := xe_ic_ge ec513 dX5_firstBack_4 rfl
theorem e513_7 {ls st : List Value} {h : x_H} : x_run 513 7 ls st h = q_gi ls 1 (fun v => x_run 513 8 ls (.int v :: st) h) := xe_iload_n ec513 dX5_firstBack_7
theorem e513_8 {ls st : List Value} {h : x_H} : x_run 513 8 ls st h = q_gi ls 2 (fun v => x_run 513 9 ls (.int v :: st) h) := xe_iload_n ec513 dX5_firstBack_8
theorem e513_9 {ls st : List Value} {h : x_H} {a1 a2 : Value}: x_run 513 9 ls (a2 :: a1 :: st) h = if x_wt st ≤ 8 ∧ x_wt [a1, a2] = 2 then q_cl (x_m 741 [a1, a2] h) (fun v h' => x_run 513 12 ls (v.toList ++ st) h') else none := xe_stat (args := [a1, a2]) ec513 dX5_firstBack_9 ek5_112 (by decide) rfl (by decide +kernel) (by decide +kernel)
theorem e513_12 {ls st : List Value} {h : x_H} {x : Int32}: x_run 513 12 ls (.int x :: st) h = q_ls ls 3 (.int x) (fun ls' => x_run 513 13 ls' st h) := xe_istore_n ec513 dX5_firstBack_12
theorem e513_13 {ls st : List Value} {h : x_H} : x_run 513 13 ls st h = q_gi ls 3 (fun v => x_run 513 14 ls (.int v :: st) h) := xe_iload_n ec513 dX5_firstBack_13
theorem e513_14 {ls st : List Value} {h : x_H} {x : Int32}: x_run 513 14 ls (.int x :: st) h = if x < 0 then x_run 513 52 ls st h else x_run 513 17 ls st h := xe_if_lt ec513 dX5_firstBack_14 rfl
theorem e513_17 {ls st : List Value} {h : x_H} : x_run 513 17 ls st h = q_gr ls 0 (fun v => x_run 513 18 ls (.ref v :: st) h) := xe_aload_n ec513 dX5_firstBack_17
theorem e513_18 {ls st : List Value} {h : x_H} {a : Nat}: x_run 513 18 ls (.ref a :: st) h = q_gf h a 7 3 (fun v => x_run 513 21 ls (v :: st) h) := xe_getfield ec513 dX5_firstBack_18 ef5_18
theorem e513_21 {ls st : List Value} {h : x_H} : x_run 513 21 ls st h = q_gi ls 3 (fun v => x_run 513 22 ls (.int v :: st) h) := xe_iload_n ec513 dX5_firstBack_21
theorem e513_22 {ls st : List Value} {h : x_H} {x : Int32} {a : Nat}: x_run 513 22 ls (.int x :: .ref a :: st) h = q_ra h a 0 x (fun v => x_run 513 23 ls (.int v :: st) h) := xe_iaload ec513 dX5_firstBack_22
theorem e513_23 {ls st : List Value} {h : x_H} : x_run 513 23 ls st h = x_run 513 25 ls (.int (q_i 1000000) :: st) h := xe_ldc ec513 dX5_firstBack_23 (by decide +kernel)
theorem e513_25 {ls st : List Value} {h : x_H} {x y : Int32}: x_run 513 25 ls (.int y :: .int x :: st) h = if y ≤ x then x_run 513 52 ls st h else x_run 513 28 ls st h := xe_ic_ge ec513 dX5_firstBack_25 rfl
theorem e513_28 {ls st : List Value} {h : x_H} : x_run 513 28 ls st h = q_gr ls 0 (fun v => x_run 513 29 ls (.ref v :: st) h) := xe_aload_n ec513 dX5_firstBack_28
theorem e513_29 {ls st : List Value} {h : x_H} {a : Nat}: x_run 513 29 ls (.ref a :: st) h = q_gf h a 7 3 (fun v => x_run 513 32 ls (v :: st) h) := xe_getfield ec513 dX5_firstBack_29 ef5_18
theorem e513_32 {ls st : List Value} {h : x_H} : x_run 513 32 ls st h = q_gi ls 3 (fun v => x_run 513 33 ls (.int v :: st) h) := xe_iload_n ec513 dX5_firstBack_32
theorem e513_33 {ls st : List Value} {h : x_H} {x : Int32} {a : Nat}: x_run 513 33 ls (.int x :: .ref a :: st) h = q_ra h a 0 x (fun v => x_run 513 34 ls (.int v :: st) h) := xe_iaload ec513 dX5_firstBack_33
theorem e513_34 {ls st : List Value} {h : x_H} : x_run 513 34 ls st h = q_gr ls 0 (fun v => x_run 513 35 ls (.ref v :: st) h) := xe_aload_n ec513 dX5_firstBack_34
theorem e513_35 {ls st : List Value} {h : x_H} : x_run 513 35 ls st h = q_gi ls 1 (fun v => x_run 513 36 ls (.int v :: st) h) := xe_iload_n ec513 dX5_firstBack_35
theorem e513_36 {ls st : List Value} {h : x_H} : x_run 513 36 ls st h = q_gi ls 2 (fun v => x_run 513 37 ls (.int v :: st) h) := xe_iload_n ec513 dX5_firstBack_36
theorem e513_37 {ls st : List Value} {h : x_H} {b : Nat} {a1 a2 : Value}: x_run 513 37 ls (a2 :: a1 :: .ref b :: st) h = if q_rcv h b 7 = true then (if x_wt st ≤ 8 ∧ x_wt [.ref b, a1, a2] = 3 then q_cl (x_m 511 [.ref b, a1, a2] h) (fun v h' => x_run 513 40 ls (v.toList ++ st) h') else none) else none := xe_virt (r := [a1, a2]) ec513 dX5_firstBack_37 ek5_115 rfl (by decide +kernel) (by decide +kernel)
theorem e513_40 {ls st : List Value} {h : x_H} {x y : Int32}: x_run 513 40 ls (.int y :: .int x :: st) h = x_run 513 41 ls (.int (x + y) :: st) h := xe_iadd ec513 dX5_firstBack_40
theorem e513_41 {ls st : List Value} {h : x_H} : x_run 513 41 ls st h = q_gr ls 0 (fun v => x_run 513 42 ls (.ref v :: st) h) := xe_aload_n ec513 dX5_firstBack_41
theorem e513_42 {ls st : List Value} {h : x_H} {a : Nat}: x_run 513 42 ls (.ref a :: st) h = q_gf h a 7 3 (fun v => x_run 513 45 ls (v :: st) h) := xe_getfield ec513 dX5_firstBack_42 ef5_18
theorem e513_45 {ls st : List Value} {h : x_H} : x_run 513 45 ls st h = q_gi ls 1 (fun v => x_run 513 46 ls (.int v :: st) h) := xe_iload_n ec513 dX5_firstBack_45
theorem e513_46 {ls st : List Value} {h : x_H} {x : Int32} {a : Nat}: x_run 513 46 ls (.int x :: .ref a :: st) h = q_ra h a 0 x (fun v => x_run 513 47 ls (.int v :: st) h) := xe_iaload ec513 dX5_firstBack_46
theorem e513_47 {ls st : List Value} {h : x_H} {x y : Int32}: x_run 513 47 ls (.int y :: .int x :: st) h = if ¬ x = y then x_run 513 52 ls st h else x_run 513 50 ls st h := xe_ic_ne ec513 dX5_firstBack_47 rfl
theorem e513_50 {ls st : List Value} {h : x_H} : x_run 513 50 ls st h = q_gi ls 2 (fun v => x_run 513 51 ls (.int v :: st) h) := xe_iload_n ec513 dX5_firstBack_50
theorem e513_51 {ls : List Value} {h : x_H} {x : Int32} : x_run 513 51 ls [.int x] h = if narrow .int (.int x) = .int x then some (.inl (some (.int x)), h) else none := xe_ireturn ec513 dX5_firstBack_51 rfl
theorem e513_52 {ls st : List Value} {h : x_H} : x_run 513 52 ls st h = q_gi ls 2 (fun v => if x_nd ls 2 = true then x_run 513 55 (ls.set 2 (.int (v + q_i 1))) st h else none) := xe_iinc ec513 dX5_firstBack_52
theorem e513_55 {ls st : List Value} {h : x_H} : x_run 513 55 ls st h = x_run 513 2 ls st h := xe_goto ec513 dX5_firstBack_55 rfl
theorem e513_58 {ls st : List Value} {h : x_H} : x_run 513 58 ls st h = x_run 513 59 ls (.int (q_i 4) :: st) h := xe_iconst ec513 dX5_firstBack_58
theorem e513_59 {ls : List Value} {h : x_H} {x : Int32} : x_run 513 59 ls [.int x] h = if narrow .int (.int x) = .int x then some (.inl (some (.int x)), h) else none := xe_ireturn ec513 dX5_firstBack_59 rfl
