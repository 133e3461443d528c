theorem ec200 : x_code 200 = cX2_init := rfl
theorem e200_0 {ls st : List Value} {h : x_H} : x_run 200 0 ls st h = q_gr ls 0 (fun v => x_run 200 1 ls (.ref v :: st) h) := xe_aload_n ec200 dX2_init_0
theorem e200_1 {ls st : List Value} {h : x_H} {a : Nat}: x_run 200 1 ls (.ref a :: st) h = if x_wt st ≤ 8 then x_run 200 4 ls st h else none := xe_obj ec200 dX2_init_1 ek2_3
theorem e200_4 {ls st : List Value} {h : x_H} : x_run 200 4 ls st h = q_gr ls 0 (fun v => x_run 200 5 ls (.ref v :: st) h) := xe_aload_n ec200 dX2_init_4
theorem e200_5 {ls st : List Value} {h : x_H} : x_run 200 5 ls st h = x_run 200 7 ls (.int (q_i 60) :: st) h := xe_bipush ec200 dX2_init_5 (by decide)
theorem e200_7 {ls st : List Value} {h : x_H} {x : Int32}: x_run 200 7 ls (.int x :: st) h = q_na h x (fun n => .inl (2, List.replicate n 0)) (fun a h' => x_run 200 9 ls (.ref a :: st) h') := xe_newarray_char ec200 dX2_init_7
theorem e200_9 {ls st : List Value} {h : x_H} {v : Value} {a : Nat}: x_run 200 9 ls (v :: .ref a :: st) h = if x_fit (x_ty 4 0) v = true then q_pf h a 4 0 v (fun h' => x_run 200 12 ls st h') else none := xe_putfield ec200 dX2_init_9 ef2_9 (by decide +kernel)
theorem e200_12 {ls st : List Value} {h : x_H} : x_run 200 12 ls st h = q_gr ls 0 (fun v => x_run 200 13 ls (.ref v :: st) h) := xe_aload_n ec200 dX2_init_12
theorem e200_13 {ls st : List Value} {h : x_H} : x_run 200 13 ls st h = x_run 200 14 ls (.int (q_i 0) :: st) h := xe_iconst ec200 dX2_init_13
theorem e200_14 {ls st : List Value} {h : x_H} {v : Value} {a : Nat}: x_run 200 14 ls (v :: .ref a :: st) h = if x_fit (x_ty 4 1) v = true then q_pf h a 4 1 v (fun h' => x_run 200 17 ls st h') else none := xe_putfield ec200 dX2_init_14 ef2_15 (by decide +kernel)
theorem e200_17 {ls : List Value} {h : x_H} : x_run 200 17 ls [] h = some (.inl (none), h) := xe_return ec200 dX2_init_17 rfl
theorem ec201 : x_code 201 = cX2_add := rfl
theorem e201_0 {ls st : List Value} {h : x_H} : x_run 201 0 ls st h = q_gr ls 0 (fun v => x_run 201 1 ls (.ref v :: st) h) := xe_aload_n ec201 dX2_add_0
theorem e201_1 {ls st : List Value} {h : x_H} {a : Nat}: x_run 201 1 ls (.ref a :: st) h = q_gf h a 4 1 (fun v => x_run 201 4 ls (v :: st) h) := xe_getfield ec201 dX2_add_1 ef2_15
theorem e201_4 {ls st : List Value} {h : x_H} : x_run 201 4 ls st h = x_run 201 6 ls (.int (q_i 60) :: st) h := xe_bipush ec201 dX2_add_4 (by decide)
theorem e201_6 {ls st : List Value} {h : x_H} {x y : Int32}: x_run 201 6 ls (.int y :: .int x :: st) h = if y ≤ x then x_run 201 29 ls st h else x_run 201 9 ls st h := xe_ic_ge ec201 dX2_add_6 rfl
theorem e201_9 {ls st : List Value} {h : x_H} : x_run 201 9 ls st h = q_gr ls 0 (fun v => x_run 201 10 ls (.ref v :: st) h) := xe_aload_n ec201 dX2_add_9
theorem e201_10 {ls st : List Value} {h : x_H} {a : Nat}: x_run 201 10 ls (.ref a :: st) h = q_gf h a 4 0 (fun v => x_run 201 13 ls (v :: st) h) := xe_getfield ec201 dX2_add_10 ef2_9
theorem e201_13 {ls st : List Value} {h : x_H} : x_run 201 13 ls st h = q_gr ls 0 (fun v => x_run 201 14 ls (.ref v :: st) h) := xe_aload_n ec201 dX2_add_13
theorem e201_14 {ls st : List Value} {h : x_H} {a : Nat}: x_run 201 14 ls (.ref a :: st) h = q_gf h a 4 1 (fun v => x_run 201 17 ls (v :: st) h) := xe_getfield ec201 dX2_add_14 ef2_15
theorem e201_17 {ls st : List Value} {h : x_H} : x_run 201 17 ls st h = q_gi ls 1 (fun v => x_run 201 18 ls (.int v :: st) h) := xe_iload_n ec201 dX2_add_17
theorem e201_18 {ls st : List Value} {h : x_H} {x y : Int32} {a : Nat}: x_run 201 18 ls (.int y :: .int x :: .ref a :: st) h = q_wa h a 2 x (vp_nar .char y) (fun h' => x_run 201 19 ls st h') := xe_castore ec201 dX2_add_18
theorem e201_19 {ls st : List Value} {h : x_H} : x_run 201 19 ls st h = q_gr ls 0 (fun v => x_run 201 20 ls (.ref v :: st) h) := xe_aload_n ec201 dX2_add_19
theorem e201_20 {ls st : List Value} {h : x_H} {v : Value} (hv : v.category = 1): x_run 201 20 ls (v :: st) h = x_run 201 21 ls (v :: v :: st) h := xe_dup ec201 dX2_add_20 hv
theorem e201_21 {ls st : List Value} {h : x_H} {a : Nat}: x_run 201 21 ls (.ref a :: st) h = q_gf h a 4 1 (fun v => x_run 201 24 ls (v :: st) h) := xe_getfield ec201 dX2_add_21 ef2_15
theorem e201_24 {ls st : List Value} {h : x_H} : x_run 201 24 ls st h = x_run 201 25 ls (.int (q_i 1) :: st) h := xe_iconst ec201 dX2_add_24
theorem e201_25 {ls st : List Value} {h : x_H} {x y : Int32}: x_run 201 25 ls (.int y :: .int x :: st) h = x_run 201 26 ls (.int (x + y) :: st) h := xe_iadd ec201 dX2_add_25
theorem e201_26 {ls st : List Value} {h : x_H} {v : Value} {a : Nat}: x_run 201 26 ls (v :: .ref a :: st) h = if x_fit (x_ty 4 1) v = true then q_pf h a 4 1 v (fun h' => x_run 201 29 ls st h') else none := xe_putfield ec201 dX2_add_26 ef2_15 (by decide +kernel)
theorem e201_29 {ls : List Value} {h : x_H} : x_run 201 29 ls [] h = some (.inl (none), h) := xe_return ec201 dX2_add_29 rfl
theorem ec202 : x_code 202 = cX2_signAt := rfl
theorem e202_0 {ls st : List Value} {h : x_H} : x_run 202 0 ls st h = q_gi ls 1 (fun v => x_run 202 1 ls (.int v :: st) h) := xe_iload_n ec202 dX2_signAt_0
theorem e202_1 {ls st : List Value} {h : x_H} {x : Int32}: x_run 202 1 ls (.int x :: st) h = if x < 0 then x_run 202 21 ls st h else x_run 202 4 ls st h := xe_if_lt ec202 dX2_signAt_1 rfl
theorem e202_4 {ls st : List Value} {h : x_H} : x_run 202 4 ls st h = q_gi ls 1 (fun v => x_run 202 5 ls (.int v :: st) h) := xe_iload_n ec202 dX2_signAt_4
theorem e202_5 {ls st : List Value} {h : x_H} : x_run 202 5 ls st h = q_gr ls 0 (fun v => x_run 202 6 ls (.ref v :: st) h) := xe_aload_n ec202 dX2_signAt_5
theorem e202_6 {ls st : List Value} {h : x_H} {a : Nat}: x_run 202 6 ls (.ref a :: st) h = q_gf h a 4 1 (fun v => x_run 202 9 ls (v :: st) h) := xe_getfield ec202 dX2_signAt_6 ef2_15
theorem e202_9 {ls st : List Value} {h : x_H} {x y : Int32}: x_run 202 9 ls (.int y :: .int x :: st) h = if y ≤ x then x_run 202 21 ls st h else x_run 202 12 ls st h := xe_ic_ge ec202 dX2_signAt_9 rfl
theorem e202_12 {ls st : List Value} {h : x_H} : x_run 202 12 ls st h = q_gr ls 0 (fun v => x_run 202 13 ls (.ref v :: st) h) := xe_aload_n ec202 dX2_signAt_12
theorem e202_13 {ls st : List Value} {h : x_H} {a : Nat}: x_run 202 13 ls (.ref a :: st) h = q_gf h a 4 0 (fun v => x_run 202 16 ls (v :: st) h) := xe_getfield ec202 dX2_signAt_13 ef2_9
theorem e202_16 {ls st : List Value} {h : x_H} : x_run 202 16 ls st h = q_gi ls 1 (fun v => x_run 202 17 ls (.int v :: st) h) := xe_iload_n ec202 dX2_signAt_16
theorem e202_17 {ls st : List Value} {h : x_H} {x : Int32} {a : Nat}: x_run 202 17 ls (.int x :: .ref a :: st) h = q_ra h a 2 x (fun v => x_run 202 18 ls (.int v :: st) h) := xe_caload ec202 dX2_signAt_17
theorem e202_18 {ls st : List Value} {h : x_H} : x_run 202 18 ls st h = x_run 202 22 ls st h := xe_goto ec202 dX2_signAt_18 rfl
theorem e202_21 {ls st : List Value} {h : x_H} : x_run 202 21 ls st h = x_run 202 22 ls (.int (q_i 0) :: st) h := xe_iconst ec202 dX2_signAt_21
theorem e202_22 {ls : List Value} {h : x_H} {x : Int32} : x_run 202 22 ls [.int x] h = if narrow .char (.int x) = .int x then some (.inl (some (.int x)), h) else none := xe_ireturn ec202 dX2_signAt_22 rfl
theorem ec203 : x_code 203 = cX2_digitAt := rfl
theorem e203_0 {ls st : List Value} {h : x_H} : x_run 203 0 ls st h = q_gr ls 0 (fun v => x_run 203 1 ls (.ref v :: st) h) := xe_aload_n ec203 dX2_digitAt_0
theorem e203_1 {ls st : List Value} {h : x_H} : x_run 203 1 ls st h = q_gi ls 1 (fun v => x_run 203 2 ls (.int v :: st) h) := xe_iload_n ec203 dX2_digitAt_1
theorem e203_2 {ls st : List Value} {h : x_H} {b : Nat} {a1 : Value}: x_run 203 2 ls (a1 :: .ref b :: st) h = if q_rcv h b 4 = true then (if x_wt st ≤ 8 ∧ x_wt [.ref b, a1] = 2 then q_cl (x_m 202 [.ref b, a1] h) (fun v h' => x_run 203 5 ls (v.toList ++ st) h') else none) else none := xe_virt (r := [a1]) ec203 dX2_digitAt_2 ek2_19 rfl (by decide +kernel) (by decide +kernel)
theorem e203_5 {ls st : List Value} {h : x_H} : x_run 203 5 ls st h = x_run 203 7 ls (.int (q_i 48) :: st) h := xe_bipush ec203 dX2_digitAt_5 (by decide)
theorem e203_7 {ls st : List Value} {h : x_H} {x y : Int32}: x_run 203 7 ls (.int y :: .int x :: st) h = x_run 203 8 ls (.int (x - y) :: st) h := xe_isub ec203 dX2_digitAt_7
theorem e203_8 {ls : List Value} {h : x_H} {x : Int32} : x_run 203 8 ls [.int x] h = if narrow .int (.int x) = .int x then some (.inl (some (.int x)), h) else none := xe_ireturn ec203 dX2_digitAt_8 rfl
theorem ec204 : x_code 204 = cX2_commandLength := rfl
theorem e204_0 {ls st : List Value} {h : x_H} : x_run 204 0 ls st h = x_run 204 1 ls (.int (q_i 1) :: st) h := xe_iconst ec204 dX2_commandLength_0
theorem e204_1 {ls st : List Value} {h : x_H} : x_run 204 1 ls st h = q_gr ls 0 (fun v => x_run 204 2 ls (.ref v :: st) h) := xe_aload_n ec204 dX2_commandLength_1
theorem e204_2 {ls st : List Value} {h : x_H} : x_run 204 2 ls st h = q_gi ls 1 (fun v => x_run 204 3 ls (.int v :: st) h) := xe_iload_n ec204 dX2_commandLength_2
theorem e204_3 {ls st : List Value} {h : x_H} {b : Nat} {a1 : Value}: x_run 204 3 ls (a1 :: .ref b :: st) h = if q_rcv h b 4 = true then (if x_wt st ≤ 8 ∧ x_wt [.ref b, a1] = 2 then q_cl (x_m 202 [.ref b, a1] h) (fun v h' => x_run 204 6 ls (v.toList ++ st) h') else none) else none := xe_virt (r := [a1]) ec204 dX2_commandLength_3 ek2_19 rfl (by decide +kernel) (by decide +kernel)
theorem e204_6 {ls st : List Value} {h : x_H} {a1 : Value}: x_run 204 6 ls (a1 :: st) h = if x_wt st ≤ 8 ∧ x_wt [a1] = 1 then q_cl (x_m 208 [a1] h) (fun v h' => x_run 204 9 ls (v.toList ++ st) h') else none := xe_stat (args := [a1]) ec204 dX2_commandLength_6 ek2_23 (by decide) rfl (by decide +kernel) (by decide +kernel)
theorem e204_9 {ls st : List Value} {h : x_H} : x_run 204 9 ls st h = q_K 204 9 ls h (x_str 7 12 ls st h) := xe_str ec204 dX2_commandLength_9 ek2_27 (by decide) (by decide +kernel)
theorem e204_12 {ls st : List Value} {h : x_H} {x y : Int32}: x_run 204 12 ls (.int y :: .int x :: st) h = x_run 204 13 ls (.int (x + y) :: st) h := xe_iadd ec204 dX2_commandLength_12
theorem e204_13 {ls : List Value} {h : x_H} {x : Int32} : x_run 204 13 ls [.int x] h = if narrow .int (.int x) = .int x then some (.inl (some (.int x)), h) else none := xe_ireturn ec204 dX2_commandLength_13 rfl
theorem ec205 : x_code 205 = cX2_findFault := rfl
theorem e205_0 {ls st : List Value} {h : x_H} : x_run 205 0 ls st h = x_run 205 1 ls (.int (q_i 0) :: st) h := xe_iconst ec205 dX2_findFault_0
theorem e205_1 {ls st : List Value} {h : x_H} {x : Int32}: x_run 205 1 ls (.int x :: st) h = q_ls ls 1 (.int x) (fun ls' => x_run 205 2 ls' st h) := xe_istore_n ec205 dX2_findFault_1
theorem e205_2 {ls st : List Value} {h : x_H} : x_run 205 2 ls st h = q_gi ls 1 (fun v => x_run 205 3 ls (.int v :: st) h) := xe_iload_n ec205 dX2_findFault_2
theorem e205_3 {ls st : List Value} {h : x_H} : x_run 205 3 ls st h = q_gr ls 0 (fun v => x_run 205 4 ls (.ref v :: st) h) := xe_aload_n ec205 dX2_findFault_3
theorem e205_4 {ls st : List Value} {h : x_H} {a : Nat}: x_run 205 4 ls (.ref a :: st) h = q_gf h a 4 1 (fun v => x_run 205 7 ls (v :: st) h) := xe_getfield ec205 dX2_findFault_4 ef2_15
theorem e205_7 {ls st : List Value} {h : x_H} {x y : Int32}: x_run 205 7 ls (.int y :: .int x :: st) h = if y ≤ x then x_run 205 87 ls st h else x_run 205 10 ls st h := xe_ic_ge ec205 dX2_findFault_7 rfl
theorem e205_10 {ls st : List Value} {h : x_H} : x_run 205 10 ls st h = q_gr ls 0 (fun v => x_run 205 11 ls (.ref v :: st) h) := xe_aload_n ec205 dX2_findFault_10
theorem e205_11 {ls st : List Value} {h : x_H} {a : Nat}: x_run 205 11 ls (.ref a :: st) h = q_gf h a 4 0 (fun v => x_run 205 14 ls (v :: st) h) := xe_getfield ec205 dX2_findFault_11 ef2_9
theorem e205_14 {ls st : List Value} {h : x_H} : x_run 205 14 ls st h = q_gi ls 1 (fun v => x_run 205 15 ls (.int v :: st) h) := xe_iload_n ec205 dX2_findFault_14
theorem e205_15 {ls st : List Value} {h : x_H} {x : Int32} {a : Nat}: x_run 205 15 ls (.int x :: .ref a :: st) h = q_ra h a 2 x (fun v => x_run 205 16 ls (.int v :: st) h) := xe_caload ec205 dX2_findFault_15
theorem e205_16 {ls st : List Value} {h : x_H} {a1 : Value}: x_run 205 16 ls (a1 :: st) h = if x_wt st ≤ 8 ∧ x_wt [a1] = 1 then q_cl (x_m 208 [a1] h) (fun v h' => x_run 205 19 ls (v.toList ++ st) h') else none := xe_stat (args := [a1]) ec205 dX2_findFault_16 ek2_23 (by decide) rfl (by decide +kernel) (by decide +kernel)
theorem e205_19 {ls st : List Value} {h : x_H} {a : Nat}: x_run 205 19 ls (.ref a :: st) h = q_ls ls 2 (.ref a) (fun ls' => x_run 205 20 ls' st h) := xe_astore_n ec205 dX2_findFault_19
theorem e205_20 {ls st : List Value} {h : x_H} : x_run 205 20 ls st h = q_gr ls 2 (fun v => x_run 205 21 ls (.ref v :: st) h) := xe_aload_n ec205 dX2_findFault_20
theorem e205_21 {ls st : List Value} {h : x_H} : x_run 205 21 ls st h = q_K 205 21 ls h (x_str 8 24 ls st h) := xe_str ec205 dX2_findFault_21 ek2_32 (by decide) (by decide +kernel)
theorem e205_24 {ls st : List Value} {h : x_H} {x : Int32}: x_run 205 24 ls (.int x :: st) h = if x = 0 then x_run 205 29 ls st h else x_run 205 27 ls st h := xe_if_eq ec205 dX2_findFault_24 rfl
theorem e205_27 {ls st : List Value} {h : x_H} : x_run 205 27 ls st h = q_gi ls 1 (fun v => x_run 205 28 ls (.int v :: st) h) := xe_iload_n ec205 dX2_findFault_27
theorem e205_28 {ls : List Value} {h : x_H} {x : Int32} : x_run 205 28 ls [.int x] h = if narrow .int (.int x) = .int x then some (.inl (some (.int x)), h) else none := xe_ireturn ec205 dX2_findFault_28 rfl
theorem e205_29 {ls st : List Value} {h : x_H} : x_run 205 29 ls st h = q_gi ls 1 (fun v => x_run 205 30 ls (.int v :: st) h) := xe_iload_n ec205 dX2_findFault_29
theorem e205_30 {ls st : List Value} {h : x_H} : x_run 205 30 ls st h = x_run 205 31 ls (.int (q_i 1) :: st) h := xe_iconst ec205 dX2_findFault_30
theorem e205_31 {ls st : List Value} {h : x_H} {x y : Int32}: x_run 205 31 ls (.int y :: .int x :: st) h = x_run 205 32 ls (.int (x + y) :: st) h := xe_iadd ec205 dX2_findFault_31
theorem e205_32 {ls st : List Value} {h : x_H} : x_run 205 32 ls st h = q_gr ls 2 (fun v => x_run 205 33 ls (.ref v :: st) h) := xe_aload_n ec205 dX2_findFault_32
theorem e205_33 {ls st : List Value} {h : x_H} : x_run 205 33 ls st h = q_K 205 33 ls h (x_str 7 36 ls st h) := xe_str ec205 dX2_findFault_33 ek2_27 (by decide) (by decide +kernel)
theorem e205_36 {ls st : List Value} {h : x_H} {x y : Int32}: x_run 205 36 ls (.int y :: .int x :: st) h = x_run 205 37 ls (.int (x + y) :: st) h := xe_iadd ec205 dX2_findFault_36
theorem e205_37 {ls st : List Value} {h : x_H} {x : Int32}: x_run 205 37 ls (.int x :: st) h = q_ls ls 3 (.int x) (fun ls' => x_run 205 38 ls' st h) := xe_istore_n ec205 dX2_findFault_37
theorem e205_38 {ls st : List Value} {h : x_H} : x_run 205 38 ls st h = q_gr ls 0 (fun v => x_run 205 39 ls (.ref v :: st) h) := xe_aload_n ec205 dX2_findFault_38
theorem e205_39 {ls st : List Value} {h : x_H} : x_run 205 39 ls st h = q_gi ls 1 (fun v => x_run 205 40 ls (.int v :: st) h) := xe_iload_n ec205 dX2_findFault_39
theorem e205_40 {ls st : List Value} {h : x_H} : x_run 205 40 ls st h = x_run 205 41 ls (.int (q_i 1) :: st) h := xe_iconst ec205 dX2_findFault_40
theorem e205_41 {ls st : List Value} {h : x_H} {x y : Int32}: x_run 205 41 ls (.int y :: .int x :: st) h = x_run 205 42 ls (.int (x + y) :: st) h := xe_iadd ec205 dX2_findFault_41
theorem e205_42 {ls st : List Value} {h : x_H} : x_run 205 42 ls st h = q_gr ls 2 (fun v => x_run 205 43 ls (.ref v :: st) h) := xe_aload_n ec205 dX2_findFault_42
theorem e205_43 {ls st : List Value} {h : x_H} {b : Nat} {a1 a2 : Value}: x_run 205 43 ls (a2 :: a1 :: .ref b :: st) h = if q_rcv h b 4 = true then (if x_wt st ≤ 8 ∧ x_wt [.ref b, a1, a2] = 3 then q_cl (x_m 206 [.ref b, a1, a2] h) (fun v h' => x_run 205 46 ls (v.toList ++ st) h') else none) else none := xe_virt (r := [a1, a2]) ec205 dX2_findFault_43 ek2_36 rfl (by decide +kernel) (by decide +kernel)
theorem e205_46 {ls st : List Value} {h : x_H} {x : Int32}: x_run 205 46 ls (.int x :: st) h = q_ls ls 4 (.int x) (fun ls' => x_run 205 48 ls' st h) := xe_istore ec205 dX2_findFault_46
theorem e205_48 {ls st : List Value} {h : x_H} : x_run 205 48 ls st h = q_gi ls 4 (fun v => x_run 205 50 ls (.int v :: st) h) := xe_iload ec205 dX2_findFault_48
theorem e205_50 {ls st : List Value} {h : x_H} : x_run 205 50 ls st h = q_gi ls 3 (fun v => x_run 205 51 ls (.int v :: st) h) := xe_iload_n ec205 dX2_findFault_50
theorem e205_51 {ls st : List Value} {h : x_H} {x y : Int32}: x_run 205 51 ls (.int y :: .int x :: st) h = if y ≤ x then x_run 205 57 ls st h else x_run 205 54 ls st h := xe_ic_ge ec205 dX2_findFault_51 rfl
theorem e205_54 {ls st : List Value} {h : x_H} : x_run 205 54 ls st h = q_gi ls 4 (fun v => x_run 205 56 ls (.int v :: st) h) := xe_iload ec205 dX2_findFault_54
theorem e205_56 {ls : List Value} {h : x_H} {x : Int32} : x_run 205 56 ls [.int x] h = if narrow .int (.int x) = .int x then some (.inl (some (.int x)), h) else none := xe_ireturn ec205 dX2_findFault_56 rfl
theorem e205_57 {ls st : List Value} {h : x_H} : x_run 205 57 ls st h = q_gi ls 3 (fun v => x_run 205 58 ls (.int v :: st) h) := xe_iload_n ec205 dX2_findFault_57
theorem e205_58 {ls st : List Value} {h : x_H} : x_run 205 58 ls st h = q_gr ls 0 (fun v => x_run 205 59 ls (.ref v :: st) h) := xe_aload_n ec205 dX2_findFault_58
theorem e205_59 {ls st : List Value} {h : x_H} {a : Nat}: x_run 205 59 ls (.ref a :: st) h = q_gf h a 4 1 (fun v => x_run 205 62 ls (v :: st) h) := xe_getfield ec205 dX2_findFault_59 ef2_15
theorem e205_62 {ls st : List Value} {h : x_H} {x y : Int32}: x_run 205 62 ls (.int y :: .int x :: st) h = if ¬ x = y then x_run 205 67 ls st h else x_run 205 65 ls st h := xe_ic_ne ec205 dX2_findFault_62 rfl
theorem e205_65 {ls st : List Value} {h : x_H} : x_run 205 65 ls st h = x_run 205 66 ls (.int (q_i (-1)) :: st) h := xe_iconst ec205 dX2_findFault_65
theorem e205_66 {ls : List Value} {h : x_H} {x : Int32} : x_run 205 66 ls [.int x] h = if narrow .int (.int x) = .int x then some (.inl (some (.int x)), h) else none := xe_ireturn ec205 dX2_findFault_66 rfl
theorem e205_67 {ls st : List Value} {h : x_H} : x_run 205 67 ls st h = q_gr ls 0 (fun v => x_run 205 68 ls (.ref v :: st) h) := xe_aload_n ec205 dX2_findFault_67
theorem e205_68 {ls st : List Value} {h : x_H} {a : Nat}: x_run 205 68 ls (.ref a :: st) h = q_gf h a 4 0 (fun v => x_run 205 71 ls (v :: st) h) := xe_getfield ec205 dX2_findFault_68 ef2_9
theorem e205_71 {ls st : List Value} {h : x_H} : x_run 205 71 ls st h = q_gi ls 3 (fun v => x_run 205 72 ls (.int v :: st) h) := xe_iload_n ec205 dX2_findFault_71
theorem e205_72 {ls st : List Value} {h : x_H} {x : Int32} {a : Nat}: x_run 205 72 ls (.int x :: .ref a :: st) h = q_ra h a 2 x (fun v => x_run 205 73 ls (.int v :: st) h) := xe_caload ec205 dX2_findFault_72
theorem e205_73 {ls st : List Value} {h : x_H} : x_run 205 73 ls st h = x_run 205 75 ls (.int (q_i 59) :: st) h := xe_bipush ec205 dX2_findFault_73 (by decide)
theorem e205_75 {ls st : List Value} {h : x_H} {x y : Int32}: x_run 205 75 ls (.int y :: .int x :: st) h = if x = y then x_run 205 80 ls st h else x_run 205 78 ls st h := xe_ic_eq ec205 dX2_findFault_75 rfl
theorem e205_78 {ls st : List Value} {h : x_H} : x_run 205 78 ls st h = q_gi ls 3 (fun v => x_run 205 79 ls (.int v :: st) h) := xe_iload_n ec205 dX2_findFault_78
theorem e205_79 {ls : List Value} {h : x_H} {x : Int32} : x_run 205 79 ls [.int x] h = if narrow .int (.int x) = .int x then some (.inl (some (.int x)), h) else none := xe_ireturn ec205 dX2_findFault_79 rfl
theorem e205_80 {ls st : List Value} {h : x_H} : x_run 205 80 ls st h = q_gi ls 3 (fun v => x_run 205 81 ls (.int v :: st) h) := xe_iload_n ec205 dX2_findFault_80
theorem e205_81 {ls st : List Value} {h : x_H} : x_run 205 81 ls st h = x_run 205 82 ls (.int (q_i 1) :: st) h := xe_iconst ec205 dX2_findFault_81
theorem e205_82 {ls st : List Value} {h : x_H} {x y : Int32}: x_run 205 82 ls (.int y :: .int x :: st) h = x_run 205 83 ls (.int (x + y) :: st) h := xe_iadd ec205 dX2_findFault_82
theorem e205_83 {ls st : List Value} {h : x_H} {x : Int32}: x_run 205 83 ls (.int x :: st) h = q_ls ls 1 (.int x) (fun ls' => x_run 205 84 ls' st h) := xe_istore_n ec205 dX2_findFault_83
theorem e205_84 {ls st : List Value} {h : x_H} : x_run 205 84 ls st h = x_run 205 2 ls st h := xe_goto ec205 dX2_findFault_84 rfl
theorem e205_87 {ls st : List Value} {h : x_H} : x_run 205 87 ls st h = q_gr ls 0 (fun v => x_run 205 88 ls (.ref v :: st) h) := xe_aload_n ec205 dX2_findFault_87
theorem e205_88 {ls st : List Value} {h : x_H} {a : Nat}: x_run 205 88 ls (.ref a :: st) h = q_gf h a 4 1 (fun v => x_run 205 91 ls (v :: st) h) := xe_getfield ec205 dX2_findFault_88 ef2_15
theorem e205_91 {ls : List Value} {h : x_H} {x : Int32} : x_run 205 91 ls [.int x] h = if narrow .int (.int x) = .int x then some (.inl (some (.int x)), h) else none := xe_ireturn ec205 dX2_findFault_91 rfl
theorem ec206 : x_code 206 = cX2_findMismatch := rfl
theorem e206_0 {ls st : List Value} {h : x_H} : x_run 206 0 ls st h = x_run 206 1 ls (.int (q_i 0) :: st) h := xe_iconst ec206 dX2_findMismatch_0
theorem e206_1 {ls st : List Value} {h : x_H} {x : Int32}: x_run 206 1 ls (.int x :: st) h = q_ls ls 3 (.int x) (fun ls' => x_run 206 2 ls' st h) := xe_istore_n ec206 dX2_findMismatch_1
theorem e206_2 {ls st : List Value} {h : x_H} : x_run 206 2 ls st h = q_gi ls 3 (fun v => x_run 206 3 ls (.int v :: st) h) := xe_iload_n ec206 dX2_findMismatch_2
theorem e206_3 {ls st : List Value} {h : x_H} : x_run 206 3 ls st h = q_gr ls 2 (fun v => x_run 206 4 ls (.ref v :: st) h) := xe_aload_n ec206 dX2_findMismatch_3
theorem e206_4 {ls st : List Value} {h : x_H} : x_run 206 4 ls st h = q_K 206 4 ls h (x_str 7 7 ls st h) := xe_str ec206 dX2_findMismatch_4 ek2_27 (by decide) (by decide +kernel)
theorem e206_7 {ls st : List Value} {h : x_H} {x y : Int32}: x_run 206 7 ls (.int y :: .int x :: st) h = if y ≤ x then x_run 206 51 ls st h else x_run 206 10 ls st h := xe_ic_ge ec206 dX2_findMismatch_7 rfl
theorem e206_10 {ls st : List Value} {h : x_H} : x_run 206 10 ls st h = q_gi ls 1 (fun v => x_run 206 11 ls (.int v :: st) h) := xe_iload_n ec206 dX2_findMismatch_10
theorem e206_11 {ls st : List Value} {h : x_H} : x_run 206 11 ls st h = q_gi ls 3 (fun v => x_run 206 12 ls (.int v :: st) h) := xe_iload_n ec206 dX2_findMismatch_11
theorem e206_12 {ls st : List Value} {h : x_H} {x y : Int32}: x_run 206 12 ls (.int y :: .int x :: st) h = x_run 206 13 ls (.int (x + y) :: st) h := xe_iadd ec206 dX2_findMismatch_12
theorem e206_13 {ls st : List Value} {h : x_H} {x : Int32}: x_run 206 13 ls (.int x :: st) h = q_ls ls 4 (.int x) (fun ls' => x_run 206 15 ls' st h) := xe_istore ec206 dX2_findMismatch_13
theorem e206_15 {ls st : List Value} {h : x_H} : x_run 206 15 ls st h = q_gi ls 4 (fun v => x_run 206 17 ls (.int v :: st) h) := xe_iload ec206 dX2_findMismatch_15
theorem e206_17 {ls st : List Value} {h : x_H} : x_run 206 17 ls st h = q_gr ls 0 (fun v => x_run 206 18 ls (.ref v :: st) h) := xe_aload_n ec206 dX2_findMismatch_17
theorem e206_18 {ls st : List Value} {h : x_H} {a : Nat}: x_run 206 18 ls (.ref a :: st) h = q_gf h a 4 1 (fun v => x_run 206 21 ls (v :: st) h) := xe_getfield ec206 dX2_findMismatch_18 ef2_15
theorem e206_21 {ls st : List Value} {h : x_H} {x y : Int32}: x_run 206 21 ls (.int y :: .int x :: st) h = if y ≤ x then x_run 206 42 ls st h else x_run 206 24 ls st h := xe_ic_ge ec206 dX2_findMismatch_21 rfl
theorem e206_24 {ls st : List Value} {h : x_H} : x_run 206 24 ls st h = q_gr ls 0 (fun v => x_run 206 25 ls (.ref v :: st) h) := xe_aload_n ec206 dX2_findMismatch_24
theorem e206_25 {ls st : List Value} {h : x_H} {a : Nat}: x_run 206 25 ls (.ref a :: st) h = q_gf h a 4 0 (fun v => x_run 206 28 ls (v :: st) h) := xe_getfield ec206 dX2_findMismatch_25 ef2_9
theorem e206_28 {ls st : List Value} {h : x_H} : x_run 206 28 ls st h = q_gi ls 4 (fun v => x_run 206 30 ls (.int v :: st) h) := xe_iload ec206 dX2_findMismatch_28
theorem e206_30 {ls st : List Value} {h : x_H} {x : Int32} {a : Nat}: x_run 206 30 ls (.int x :: .ref a :: st) h = q_ra h a 2 x (fun v => x_run 206 31 ls (.int v :: st) h) := xe_caload ec206 dX2_findMismatch_30
theorem e206_31 {ls st : List Value} {h : x_H} : x_run 206 31 ls st h = q_gr ls 2 (fun v => x_run 206 32 ls (.ref v :: st) h) := xe_aload_n ec206 dX2_findMismatch_31
theorem e206_32 {ls st : List Value} {h : x_H} : x_run 206 32 ls st h = q_gi ls 3 (fun v => x_run 206 33 ls (.int v :: st) h) := xe_iload_n ec206 dX2_findMismatch_32
theorem e206_33 {ls st : List Value} {h : x_H} : x_run 206 33 ls st h = q_K 206 33 ls h (x_str 9 36 ls st h) := xe_str ec206 dX2_findMismatch_33 ek2_40 (by decide) (by decide +kernel)
theorem e206_36 {ls st : List Value} {h : x_H} {a1 a2 : Value}: x_run 206 36 ls (a2 :: a1 :: st) h = if x_wt st ≤ 8 ∧ x_wt [a1, a2] = 2 then q_cl (x_m 207 [a1, a2] h) (fun v h' => x_run 206 39 ls (v.toList ++ st) h') else none := xe_stat (args := [a1, a2]) ec206 dX2_findMismatch_36 ek2_43 (by decide) rfl (by decide +kernel) (by decide +kernel)
theorem e206_39 {ls st : List Value} {h : x_H} {x : Int32}: x_run 206 39 ls (.int x :: st) h = if ¬ x = 0 then x_run 206 45 ls st h else x_run 206 42 ls st h := xe_if_ne ec206 dX2_findMismatch_39 rfl
theorem e206_42 {ls st : List Value} {h : x_H} : x_run 206 42 ls st h = q_gi ls 4 (fun v => x_run 206 44 ls (.int v :: st) h) := xe_iload ec206 dX2_findMismatch_42
theorem e206_44 {ls : List Value} {h : x_H} {x : Int32} : x_run 206 44 ls [.int x] h = if narrow .int (.int x) = .int x then some (.inl (some (.int x)), h) else none := xe_ireturn ec206 dX2_findMismatch_44 rfl
theorem e206_45 {ls st : List Value} {h : x_H} : x_run 206 45 ls st h = q_gi ls 3 (fun v => if x_nd ls 3 = true then x_run 206 48 (ls.set 3 (.int (v + q_i 1))) st h else none) := xe_iinc ec206 dX2_findMismatch_45
theorem e206_48 {ls st : List Value} {h : x_H} : x_run 206 48 ls st h = x_run 206 2 ls st h := xe_goto ec206 dX2_findMismatch_48 rfl
theorem e206_51 {ls st : List Value} {h : x_H} : x_run 206 51 ls st h = q_gi ls 1 (fun v => x_run 206 52 ls (.int v :: st) h) := xe_iload_n ec206 dX2_findMismatch_51
theorem e206_52 {ls st : List Value} {h : x_H} : x_run 206 52 ls st h = q_gr ls 2 (fun v => x_run 206 53 ls (.ref v :: st) h) := xe_aload_n ec206 dX2_findMismatch_52
theorem e206_53 {ls st : List Value} {h : x_H} : x_run 206 53 ls st h = q_K 206 53 ls h (x_str 7 56 ls st h) := xe_str ec206 dX2_findMismatch_53 ek2_27 (by decide) (by decide +kernel)
theorem e206_56 {ls st : List Value} {h : x_H} {x y : Int32}: x_run 206 56 ls (.int y :: .int x :: st) h = x_run 206 57 ls (.int (x + y) :: st) h := xe_iadd ec206 dX2_findMismatch_56
theorem e206_57 {ls : List Value} {h : x_H} {x : Int32} : x_run 206 57 ls [.int x] h = if narrow .int (.int x) = .int x then some (.inl (some (.int x)), h) else none := xe_ireturn ec206 dX2_findMismatch_57 rfl
theorem ec207 : x_code 207 = cX2_fits := rfl
theorem e207_0 {ls st : List Value} {h : x_H} : x_run 207 0 ls st h = q_gi ls 1 (fun v => x_run 207 1 ls (.int v :: st) h) := xe_iload_n ec207 dX2_fits_0
theorem e207_1 {ls st : List Value} {h : x_H} : x_run 207 1 ls st h = x_run 207 3 ls (.int (q_i 57) :: st) h := xe_bipush ec207 dX2_fits_1 (by decide)
theorem e207_3 {ls st : List Value} {h : x_H} {x y : Int32}: x_run 207 3 ls (.int y :: .int x :: st) h = if ¬ x = y then x_run 207 26 ls st h else x_run 207 6 ls st h := xe_ic_ne ec207 dX2_fits_3 rfl
theorem e207_6 {ls st : List Value} {h : x_H} : x_run 207 6 ls st h = q_gi ls 0 (fun v => x_run 207 7 ls (.int v :: st) h) := xe_iload_n ec207 dX2_fits_6
theorem e207_7 {ls st : List Value} {h : x_H} : x_run 207 7 ls st h = x_run 207 9 ls (.int (q_i 48) :: st) h := xe_bipush ec207 dX2_fits_7 (by decide)
theorem e207_9 {ls st : List Value} {h : x_H} {x y : Int32}: x_run 207 9 ls (.int y :: .int x :: st) h = if x < y then x_run 207 22 ls st h else x_run 207 12 ls st h := xe_ic_lt ec207 dX2_fits_9 rfl
theorem e207_12 {ls st : List Value} {h : x_H} : x_run 207 12 ls st h = q_gi ls 0 (fun v => x_run 207 13 ls (.int v :: st) h) := xe_iload_n ec207 dX2_fits_12
theorem e207_13 {ls st : List Value} {h : x_H} : x_run 207 13 ls st h = x_run 207 15 ls (.int (q_i 57) :: st) h := xe_bipush ec207 dX2_fits_13 (by decide)
theorem e207_15 {ls st : List Value} {h : x_H} {x y : Int32}: x_run 207 15 ls (.int y :: .int x :: st) h = if y < x then x_run 207 22 ls st h else x_run 207 18 ls st h := xe_ic_gt ec207 dX2_fits_15 rfl
theorem e207_18 {ls st : List Value} {h : x_H} : x_run 207 18 ls st h = x_run 207 19 ls (.int (q_i 1) :: st) h := xe_iconst ec207 dX2_fits_18
theorem e207_19 {ls st : List Value} {h : x_H} : x_run 207 19 ls st h = x_run 207 36 ls st h := xe_goto ec207 dX2_fits_19 rfl
theorem e207_22 {ls st : List Value} {h : x_H} : x_run 207 22 ls st h = x_run 207 23 ls (.int (q_i 0) :: st) h := xe_iconst ec207 dX2_fits_22
theorem e207_23 {ls st : List Value} {h : x_H} : x_run 207 23 ls st h = x_run 207 36 ls st h := xe_goto ec207 dX2_fits_23 rfl
theorem e207_26 {ls st : List Value} {h : x_H} : x_run 207 26 ls st h = q_gi ls 0 (fun v => x_run 207 27 ls (.int v :: st) h) := xe_iload_n ec207 dX2_fits_26
theorem e207_27 {ls st : List Value} {h : x_H} : x_run 207 27 ls st h = q_gi ls 1 (fun v => x_run 207 28 ls (.int v :: st) h) := xe_iload_n ec207 dX2_fits_27
theorem e207_28 {ls st : List Value} {h : x_H} {x y : Int32}: x_run 207 28 ls (.int y :: .int x :: st) h = if ¬ x = y then x_run 207 35 ls st h else x_run 207 31 ls st h := xe_ic_ne ec207 dX2_fits_28 rfl
theorem e207_31 {ls st : List Value} {h : x_H} : x_run 207 31 ls st h = x_run 207 32 ls (.int (q_i 1) :: st) h := xe_iconst ec207 dX2_fits_31
theorem e207_32 {ls st : List Value} {h : x_H} : x_run 207 32 ls st h = x_run 207 36 ls st h := xe_goto ec207 dX2_fits_32 rfl
theorem e207_35 {ls st : List Value} {h : x_H} : x_run 207 35 ls st h = x_run 207 36 ls (.int (q_i 0) :: st) h := xe_iconst ec207 dX2_fits_35
theorem e207_36 {ls : List Value} {h : x_H} {x : Int32} : x_run 207 36 ls [.int x] h = if narrow .boolean (.int x) = .int x then some (.inl (some (.int x)), h) else none := xe_ireturn ec207 dX2_fits_36 rfl
theorem ec208 : x_code 208 = cX2_formOf := rfl
theorem e208_0 {ls st : List Value} {h : x_H} : x_run 208 0 ls st h = q_gi ls 0 (fun v => x_run 208 1 ls (.int v :: st) h) := xe_iload_n ec208 dX2_formOf_0
theorem e208_1 {ls st : List Value} {h : x_H} : x_run 208 1 ls st h = x_run 208 3 ls (.int (q_i 114) :: st) h := xe_bipush ec208 dX2_formOf_1 (by decide)
theorem e208_3 {ls st : List Value} {h : x_H} {x y : Int32}: x_run 208 3 ls (.int y :: .int x :: st) h = if x = y then x_run 208 18 ls st h else x_run 208 6 ls st h := xe_ic_eq ec208 dX2_formOf_3 rfl
theorem e208_6 {ls st : List Value} {h : x_H} : x_run 208 6 ls st h = q_gi ls 0 (fun v => x_run 208 7 ls (.int v :: st) h) := xe_iload_n ec208 dX2_formOf_6
theorem e208_7 {ls st : List Value} {h : x_H} : x_run 208 7 ls st h = x_run 208 9 ls (.int (q_i 104) :: st) h := xe_bipush ec208 dX2_formOf_7 (by decide)
theorem e208_9 {ls st : List Value} {h : x_H} {x y : Int32}: x_run 208 9 ls (.int y :: .int x :: st) h = if x = y then x_run 208 18 ls st h else x_run 208 12 ls st h := xe_ic_eq ec208 dX2_formOf_9 rfl
theorem e208_12 {ls st : List Value} {h : x_H} : x_run 208 12 ls st h = q_gi ls 0 (fun v => x_run 208 13 ls (.int v :: st) h) := xe_iload_n ec208 dX2_formOf_12
theorem e208_13 {ls st : List Value} {h : x_H} : x_run 208 13 ls st h = x_run 208 15 ls (.int (q_i 120) :: st) h := xe_bipush ec208 dX2_formOf_13 (by decide)
theorem e208_15 {ls st : List Value} {h : x_H} {x y : Int32}: x_run 208 15 ls (.int y :: .int x :: st) h = if ¬ x = y then x_run 208 21 ls st h else x_run 208 18 ls st h := xe_ic_ne ec208 dX2_formOf_15 rfl
theorem e208_18 {ls st : List Value} {h : x_H} : x_run 208 18 ls st h = x_run 208 20 ls (.ref 20000 :: st) h := xe_ldcs ec208 dX2_formOf_18 (by decide +kernel) rfl (by decide)
theorem e208_20 {ls : List Value} {h : x_H} {a : Nat} : x_run 208 20 ls [.ref a] h = some (.inl (some (.ref a)), h) := xe_areturn ec208 dX2_formOf_20 rfl
theorem e208_21 {ls st : List Value} {h : x_H} : x_run 208 21 ls st h = q_gi ls 0 (fun v => x_run 208 22 ls (.int v :: st) h) := xe_iload_n ec208 dX2_formOf_21
theorem e208_22 {ls st : List Value} {h : x_H} : x_run 208 22 ls st h = x_run 208 24 ls (.int (q_i 112) :: st) h := xe_bipush ec208 dX2_formOf_22 (by decide)
theorem e208_24 {ls st : List Value} {h : x_H} {x y : Int32}: x_run 208 24 ls (.int y :: .int x :: st) h = if ¬ x = y then x_run 208 30 ls st h else x_run 208 27 ls st h := xe_ic_ne ec208 dX2_formOf_24 rfl
theorem e208_27 {ls st : List Value} {h : x_H} : x_run 208 27 ls st h = x_run 208 29 ls (.ref 20001 :: st) h := xe_ldcs ec208 dX2_formOf_27 (by decide +kernel) rfl (by decide)
theorem e208_29 {ls : List Value} {h : x_H} {a : Nat} : x_run 208 29 ls [.ref a] h = some (.inl (some (.ref a)), h) := xe_areturn ec208 dX2_formOf_29 rfl
theorem e208_30 {ls st : List Value} {h : x_H} : x_run 208 30 ls st h = q_gi ls 0 (fun v => x_run 208 31 ls (.int v :: st) h) := xe_iload_n ec208 dX2_formOf_30
theorem e208_31 {ls st : List Value} {h : x_H} : x_run 208 31 ls st h = x_run 208 33 ls (.int (q_i 119) :: st) h := xe_bipush ec208 dX2_formOf_31 (by decide)
theorem e208_33 {ls st : List Value} {h : x_H} {x y : Int32}: x_run 208 33 ls (.int y :: .int x :: st) h = if ¬ x = y then x_run 208 41 ls st h else x_run 208 36 ls st h := xe_ic_ne ec208 dX2_formOf_33 rfl
theorem e208_36 {ls st : List Value} {h : x_H} : x_run 208 36 ls st h = x_run 208 38 ls (.ref 20002 :: st) h := xe_ldcs ec208 dX2_formOf_36 (by decide +kernel) rfl (by decide)
theorem e208_38 {ls st : List Value} {h : x_H} : x_run 208 38 ls st h = x_run 208 43 ls st h := xe_goto ec208 dX2_formOf_38 rfl
theorem e208_41 {ls st : List Value} {h : x_H} : x_run 208 41 ls st h = x_run 208 43 ls (.ref 20003 :: st) h := xe_ldcs ec208 dX2_formOf_41 (by decide +kernel) rfl (by decide)
theorem e208_43 {ls : List Value} {h : x_H} {a : Nat} : x_run 208 43 ls [.ref a] h = some (.inl (some (.ref a)), h) := xe_areturn ec208 dX2_formOf_43 rfl
