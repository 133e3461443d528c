theorem ec100 : x_code 100 = cX1_init := rfl
theorem e100_0 {ls st : List Value} {h : x_H} : x_run 100 0 ls st h = q_gr ls 0 (fun v => x_run 100 1 ls (.ref v :: st) h) := xe_aload_n ec100 dX1_init_0
theorem e100_1 {ls st : List Value} {h : x_H} {a : Nat}: x_run 100 1 ls (.ref a :: st) h = if x_wt st ≤ 8 then x_run 100 4 ls st h else none := xe_obj ec100 dX1_init_1 ek1_3
theorem e100_4 {ls st : List Value} {h : x_H} : x_run 100 4 ls st h = q_gr ls 0 (fun v => x_run 100 5 ls (.ref v :: st) h) := xe_aload_n ec100 dX1_init_4
theorem e100_5 {ls st : List Value} {h : x_H} : x_run 100 5 ls st h = q_gr ls 1 (fun v => x_run 100 6 ls (.ref v :: st) h) := xe_aload_n ec100 dX1_init_5
theorem e100_6 {ls st : List Value} {h : x_H} {v : Value} {a : Nat}: x_run 100 6 ls (v :: .ref a :: st) h = if x_fit (x_ty 3 0) v = true then q_pf h a 3 0 v (fun h' => x_run 100 9 ls st h') else none := xe_putfield ec100 dX1_init_6 ef1_9 (by decide +kernel)
theorem e100_9 {ls st : List Value} {h : x_H} : x_run 100 9 ls st h = q_gr ls 0 (fun v => x_run 100 10 ls (.ref v :: st) h) := xe_aload_n ec100 dX1_init_9
theorem e100_10 {ls st : List Value} {h : x_H} : x_run 100 10 ls st h = q_gr ls 2 (fun v => x_run 100 11 ls (.ref v :: st) h) := xe_aload_n ec100 dX1_init_10
theorem e100_11 {ls st : List Value} {h : x_H} {v : Value} {a : Nat}: x_run 100 11 ls (v :: .ref a :: st) h = if x_fit (x_ty 3 1) v = true then q_pf h a 3 1 v (fun h' => x_run 100 14 ls st h') else none := xe_putfield ec100 dX1_init_11 ef1_15 (by decide +kernel)
theorem e100_14 {ls st : List Value} {h : x_H} : x_run 100 14 ls st h = q_gr ls 0 (fun v => x_run 100 15 ls (.ref v :: st) h) := xe_aload_n ec100 dX1_init_14
theorem e100_15 {ls st : List Value} {h : x_H} : x_run 100 15 ls st h = q_gr ls 3 (fun v => x_run 100 16 ls (.ref v :: st) h) := xe_aload_n ec100 dX1_init_15
theorem e100_16 {ls st : List Value} {h : x_H} {v : Value} {a : Nat}: x_run 100 16 ls (v :: .ref a :: st) h = if x_fit (x_ty 3 2) v = true then q_pf h a 3 2 v (fun h' => x_run 100 19 ls st h') else none := xe_putfield ec100 dX1_init_16 ef1_19 (by decide +kernel)
theorem e100_19 {ls : List Value} {h : x_H} : x_run 100 19 ls [] h = some (.inl (none), h) := xe_return ec100 dX1_init_19 rfl
theorem ec101 : x_code 101 = cX1_addNet := rfl
theorem e101_0 {ls st : List Value} {h : x_H} : x_run 101 0 ls st h = q_gr ls 0 (fun v => x_run 101 1 ls (.ref v :: st) h) := xe_aload_n ec101 dX1_addNet_0
theorem e101_1 {ls st : List Value} {h : x_H} {a : Nat}: x_run 101 1 ls (.ref a :: st) h = q_gf h a 3 0 (fun v => x_run 101 4 ls (v :: st) h) := xe_getfield ec101 dX1_addNet_1 ef1_9
theorem e101_4 {ls st : List Value} {h : x_H} {a : Nat}: x_run 101 4 ls (.ref a :: st) h = q_gf h a 2 0 (fun v => x_run 101 7 ls (v :: st) h) := xe_getfield ec101 dX1_addNet_4 ef1_23
theorem e101_7 {ls st : List Value} {h : x_H} : x_run 101 7 ls st h = x_run 101 9 ls (.int (q_i 6) :: st) h := xe_bipush ec101 dX1_addNet_7 (by decide)
theorem e101_9 {ls st : List Value} {h : x_H} {x y : Int32}: x_run 101 9 ls (.int y :: .int x :: st) h = if x < y then x_run 101 23 ls st h else x_run 101 12 ls st h := xe_ic_lt ec101 dX1_addNet_9 rfl
theorem e101_12 {ls st : List Value} {h : x_H} : x_run 101 12 ls st h = q_gr ls 0 (fun v => x_run 101 13 ls (.ref v :: st) h) := xe_aload_n ec101 dX1_addNet_12
theorem e101_13 {ls st : List Value} {h : x_H} {a : Nat}: x_run 101 13 ls (.ref a :: st) h = q_gf h a 3 2 (fun v => x_run 101 16 ls (v :: st) h) := xe_getfield ec101 dX1_addNet_13 ef1_19
theorem e101_16 {ls st : List Value} {h : x_H} : x_run 101 16 ls st h = x_run 101 17 ls (.int (q_i 2) :: st) h := xe_iconst ec101 dX1_addNet_16
theorem e101_17 {ls st : List Value} {h : x_H} : x_run 101 17 ls st h = x_run 101 19 ls (.int (q_i 6) :: st) h := xe_bipush ec101 dX1_addNet_17 (by decide)
theorem e101_19 {ls st : List Value} {h : x_H} {b : Nat} {a1 a2 : Value}: x_run 101 19 ls (a2 :: a1 :: .ref b :: st) h = if q_rcv h b 6 = true then (if x_wt st ≤ 8 ∧ x_wt [.ref b, a1, a2] = 3 then q_cl (x_m 401 [.ref b, a1, a2] h) (fun v h' => x_run 101 22 ls (v.toList ++ st) h') else none) else none := xe_virt (r := [a1, a2]) ec101 dX1_addNet_19 ek1_29 rfl (by decide +kernel) (by decide +kernel)
theorem e101_22 {ls : List Value} {h : x_H} {x : Int32} : x_run 101 22 ls [.int x] h = if narrow .int (.int x) = .int x then some (.inl (some (.int x)), h) else none := xe_ireturn ec101 dX1_addNet_22 rfl
theorem e101_23 {ls st : List Value} {h : x_H} : x_run 101 23 ls st h = q_gr ls 0 (fun v => x_run 101 24 ls (.ref v :: st) h) := xe_aload_n ec101 dX1_addNet_23
theorem e101_24 {ls st : List Value} {h : x_H} {a : Nat}: x_run 101 24 ls (.ref a :: st) h = q_gf h a 3 0 (fun v => x_run 101 27 ls (v :: st) h) := xe_getfield ec101 dX1_addNet_24 ef1_9
theorem e101_27 {ls st : List Value} {h : x_H} : x_run 101 27 ls st h = q_gi ls 1 (fun v => x_run 101 28 ls (.int v :: st) h) := xe_iload_n ec101 dX1_addNet_27
theorem e101_28 {ls st : List Value} {h : x_H} {b : Nat} {a1 : Value}: x_run 101 28 ls (a1 :: .ref b :: st) h = if q_rcv h b 2 = true then (if x_wt st ≤ 8 ∧ x_wt [.ref b, a1] = 2 then q_cl (x_m 13 [.ref b, a1] h) (fun v h' => x_run 101 31 ls (v.toList ++ st) h') else none) else none := xe_virt (r := [a1]) ec101 dX1_addNet_28 ek1_35 rfl (by decide +kernel) (by decide +kernel)
theorem e101_31 {ls : List Value} {h : x_H} {x : Int32} : x_run 101 31 ls [.int x] h = if narrow .int (.int x) = .int x then some (.inl (some (.int x)), h) else none := xe_ireturn ec101 dX1_addNet_31 rfl
theorem ec102 : x_code 102 = cX1_addPin := rfl
theorem e102_0 {ls st : List Value} {h : x_H} : x_run 102 0 ls st h = q_gr ls 0 (fun v => x_run 102 1 ls (.ref v :: st) h) := xe_aload_n ec102 dX1_addPin_0
theorem e102_1 {ls st : List Value} {h : x_H} {a : Nat}: x_run 102 1 ls (.ref a :: st) h = q_gf h a 3 0 (fun v => x_run 102 4 ls (v :: st) h) := xe_getfield ec102 dX1_addPin_1 ef1_9
theorem e102_4 {ls st : List Value} {h : x_H} : x_run 102 4 ls st h = q_gi ls 1 (fun v => x_run 102 5 ls (.int v :: st) h) := xe_iload_n ec102 dX1_addPin_4
theorem e102_5 {ls st : List Value} {h : x_H} {b : Nat} {a1 : Value}: x_run 102 5 ls (a1 :: .ref b :: st) h = if q_rcv h b 2 = true then (if x_wt st ≤ 8 ∧ x_wt [.ref b, a1] = 2 then q_cl (x_m 2 [.ref b, a1] h) (fun v h' => x_run 102 8 ls (v.toList ++ st) h') else none) else none := xe_virt (r := [a1]) ec102 dX1_addPin_5 ek1_39 rfl (by decide +kernel) (by decide +kernel)
theorem e102_8 {ls st : List Value} {h : x_H} {x : Int32}: x_run 102 8 ls (.int x :: st) h = if ¬ x = 0 then x_run 102 21 ls st h else x_run 102 11 ls st h := xe_if_ne ec102 dX1_addPin_8 rfl
theorem e102_11 {ls st : List Value} {h : x_H} : x_run 102 11 ls st h = q_gr ls 0 (fun v => x_run 102 12 ls (.ref v :: st) h) := xe_aload_n ec102 dX1_addPin_11
theorem e102_12 {ls st : List Value} {h : x_H} {a : Nat}: x_run 102 12 ls (.ref a :: st) h = q_gf h a 3 2 (fun v => x_run 102 15 ls (v :: st) h) := xe_getfield ec102 dX1_addPin_12 ef1_19
theorem e102_15 {ls st : List Value} {h : x_H} : x_run 102 15 ls st h = x_run 102 16 ls (.int (q_i 3) :: st) h := xe_iconst ec102 dX1_addPin_15
theorem e102_16 {ls st : List Value} {h : x_H} : x_run 102 16 ls st h = q_gi ls 1 (fun v => x_run 102 17 ls (.int v :: st) h) := xe_iload_n ec102 dX1_addPin_16
theorem e102_17 {ls st : List Value} {h : x_H} {b : Nat} {a1 a2 : Value}: x_run 102 17 ls (a2 :: a1 :: .ref b :: st) h = if q_rcv h b 6 = true then (if x_wt st ≤ 8 ∧ x_wt [.ref b, a1, a2] = 3 then q_cl (x_m 401 [.ref b, a1, a2] h) (fun v h' => x_run 102 20 ls (v.toList ++ st) h') else none) else none := xe_virt (r := [a1, a2]) ec102 dX1_addPin_17 ek1_29 rfl (by decide +kernel) (by decide +kernel)
theorem e102_20 {ls : List Value} {h : x_H} {x : Int32} : x_run 102 20 ls [.int x] h = if narrow .int (.int x) = .int x then some (.inl (some (.int x)), h) else none := xe_ireturn ec102 dX1_addPin_20 rfl
theorem e102_21 {ls st : List Value} {h : x_H} : x_run 102 21 ls st h = q_gi ls 2 (fun v => x_run 102 22 ls (.int v :: st) h) := xe_iload_n ec102 dX1_addPin_21
theorem e102_22 {ls st : List Value} {h : x_H} : x_run 102 22 ls st h = q_gi ls 3 (fun v => x_run 102 23 ls (.int v :: st) h) := xe_iload_n ec102 dX1_addPin_22
theorem e102_23 {ls st : List Value} {h : x_H} : x_run 102 23 ls st h = x_run 102 24 ls (.int (q_i 0) :: st) h := xe_iconst ec102 dX1_addPin_23
theorem e102_24 {ls st : List Value} {h : x_H} {a1 a2 a3 : Value}: x_run 102 24 ls (a3 :: a2 :: a1 :: st) h = if x_wt st ≤ 8 ∧ x_wt [a1, a2, a3] = 3 then q_cl (x_m 739 [a1, a2, a3] h) (fun v h' => x_run 102 27 ls (v.toList ++ st) h') else none := xe_stat (args := [a1, a2, a3]) ec102 dX1_addPin_24 ek1_43 (by decide) rfl (by decide +kernel) (by decide +kernel)
theorem e102_27 {ls st : List Value} {h : x_H} {x : Int32}: x_run 102 27 ls (.int x :: st) h = if ¬ x = 0 then x_run 102 40 ls st h else x_run 102 30 ls st h := xe_if_ne ec102 dX1_addPin_27 rfl
theorem e102_30 {ls st : List Value} {h : x_H} : x_run 102 30 ls st h = q_gr ls 0 (fun v => x_run 102 31 ls (.ref v :: st) h) := xe_aload_n ec102 dX1_addPin_30
theorem e102_31 {ls st : List Value} {h : x_H} {a : Nat}: x_run 102 31 ls (.ref a :: st) h = q_gf h a 3 2 (fun v => x_run 102 34 ls (v :: st) h) := xe_getfield ec102 dX1_addPin_31 ef1_19
theorem e102_34 {ls st : List Value} {h : x_H} : x_run 102 34 ls st h = x_run 102 35 ls (.int (q_i 1) :: st) h := xe_iconst ec102 dX1_addPin_34
theorem e102_35 {ls st : List Value} {h : x_H} : x_run 102 35 ls st h = x_run 102 36 ls (.int (q_i 0) :: st) h := xe_iconst ec102 dX1_addPin_35
theorem e102_36 {ls st : List Value} {h : x_H} {b : Nat} {a1 a2 : Value}: x_run 102 36 ls (a2 :: a1 :: .ref b :: st) h = if q_rcv h b 6 = true then (if x_wt st ≤ 8 ∧ x_wt [.ref b, a1, a2] = 3 then q_cl (x_m 401 [.ref b, a1, a2] h) (fun v h' => x_run 102 39 ls (v.toList ++ st) h') else none) else none := xe_virt (r := [a1, a2]) ec102 dX1_addPin_36 ek1_29 rfl (by decide +kernel) (by decide +kernel)
theorem e102_39 {ls : List Value} {h : x_H} {x : Int32} : x_run 102 39 ls [.int x] h = if narrow .int (.int x) = .int x then some (.inl (some (.int x)), h) else none := xe_ireturn ec102 dX1_addPin_39 rfl
theorem e102_40 {ls st : List Value} {h : x_H} : x_run 102 40 ls st h = q_gr ls 0 (fun v => x_run 102 41 ls (.ref v :: st) h) := xe_aload_n ec102 dX1_addPin_40
theorem e102_41 {ls st : List Value} {h : x_H} {a : Nat}: x_run 102 41 ls (.ref a :: st) h = q_gf h a 3 0 (fun v => x_run 102 44 ls (v :: st) h) := xe_getfield ec102 dX1_addPin_41 ef1_9
theorem e102_44 {ls st : List Value} {h : x_H} {a : Nat}: x_run 102 44 ls (.ref a :: st) h = q_gf h a 2 3 (fun v => x_run 102 47 ls (v :: st) h) := xe_getfield ec102 dX1_addPin_44 ef1_47
theorem e102_47 {ls st : List Value} {h : x_H} : x_run 102 47 ls st h = q_gi ls 1 (fun v => x_run 102 48 ls (.int v :: st) h) := xe_iload_n ec102 dX1_addPin_47
theorem e102_48 {ls st : List Value} {h : x_H} {x : Int32} {a : Nat}: x_run 102 48 ls (.int x :: .ref a :: st) h = q_ra h a 1 x (fun v => x_run 102 49 ls (.int v :: st) h) := xe_baload ec102 dX1_addPin_48
theorem e102_49 {ls st : List Value} {h : x_H} {x : Int32}: x_run 102 49 ls (.int x :: st) h = if x = 0 then x_run 102 62 ls st h else x_run 102 52 ls st h := xe_if_eq ec102 dX1_addPin_49 rfl
theorem e102_52 {ls st : List Value} {h : x_H} : x_run 102 52 ls st h = q_gr ls 0 (fun v => x_run 102 53 ls (.ref v :: st) h) := xe_aload_n ec102 dX1_addPin_52
theorem e102_53 {ls st : List Value} {h : x_H} {a : Nat}: x_run 102 53 ls (.ref a :: st) h = q_gf h a 3 2 (fun v => x_run 102 56 ls (v :: st) h) := xe_getfield ec102 dX1_addPin_53 ef1_19
theorem e102_56 {ls st : List Value} {h : x_H} : x_run 102 56 ls st h = x_run 102 57 ls (.int (q_i 4) :: st) h := xe_iconst ec102 dX1_addPin_56
theorem e102_57 {ls st : List Value} {h : x_H} : x_run 102 57 ls st h = q_gi ls 1 (fun v => x_run 102 58 ls (.int v :: st) h) := xe_iload_n ec102 dX1_addPin_57
theorem e102_58 {ls st : List Value} {h : x_H} {b : Nat} {a1 a2 : Value}: x_run 102 58 ls (a2 :: a1 :: .ref b :: st) h = if q_rcv h b 6 = true then (if x_wt st ≤ 8 ∧ x_wt [.ref b, a1, a2] = 3 then q_cl (x_m 401 [.ref b, a1, a2] h) (fun v h' => x_run 102 61 ls (v.toList ++ st) h') else none) else none := xe_virt (r := [a1, a2]) ec102 dX1_addPin_58 ek1_29 rfl (by decide +kernel) (by decide +kernel)
theorem e102_61 {ls : List Value} {h : x_H} {x : Int32} : x_run 102 61 ls [.int x] h = if narrow .int (.int x) = .int x then some (.inl (some (.int x)), h) else none := xe_ireturn ec102 dX1_addPin_61 rfl
theorem e102_62 {ls st : List Value} {h : x_H} : x_run 102 62 ls st h = q_gr ls 0 (fun v => x_run 102 63 ls (.ref v :: st) h) := xe_aload_n ec102 dX1_addPin_62
theorem e102_63 {ls st : List Value} {h : x_H} {a : Nat}: x_run 102 63 ls (.ref a :: st) h = q_gf h a 3 0 (fun v => x_run 102 66 ls (v :: st) h) := xe_getfield ec102 dX1_addPin_63 ef1_9
theorem e102_66 {ls st : List Value} {h : x_H} {a : Nat}: x_run 102 66 ls (.ref a :: st) h = q_gf h a 2 4 (fun v => x_run 102 69 ls (v :: st) h) := xe_getfield ec102 dX1_addPin_66 ef1_51
theorem e102_69 {ls st : List Value} {h : x_H} : x_run 102 69 ls st h = q_gi ls 1 (fun v => x_run 102 70 ls (.int v :: st) h) := xe_iload_n ec102 dX1_addPin_69
theorem e102_70 {ls st : List Value} {h : x_H} {x : Int32} {a : Nat}: x_run 102 70 ls (.int x :: .ref a :: st) h = q_ra h a 0 x (fun v => x_run 102 71 ls (.int v :: st) h) := xe_iaload ec102 dX1_addPin_70
theorem e102_71 {ls st : List Value} {h : x_H} : x_run 102 71 ls st h = x_run 102 72 ls (.int (q_i 4) :: st) h := xe_iconst ec102 dX1_addPin_71
theorem e102_72 {ls st : List Value} {h : x_H} {x y : Int32}: x_run 102 72 ls (.int y :: .int x :: st) h = if x < y then x_run 102 85 ls st h else x_run 102 75 ls st h := xe_ic_lt ec102 dX1_addPin_72 rfl
theorem e102_75 {ls st : List Value} {h : x_H} : x_run 102 75 ls st h = q_gr ls 0 (fun v => x_run 102 76 ls (.ref v :: st) h) := xe_aload_n ec102 dX1_addPin_75
theorem e102_76 {ls st : List Value} {h : x_H} {a : Nat}: x_run 102 76 ls (.ref a :: st) h = q_gf h a 3 2 (fun v => x_run 102 79 ls (v :: st) h) := xe_getfield ec102 dX1_addPin_76 ef1_19
theorem e102_79 {ls st : List Value} {h : x_H} : x_run 102 79 ls st h = x_run 102 80 ls (.int (q_i 2) :: st) h := xe_iconst ec102 dX1_addPin_79
theorem e102_80 {ls st : List Value} {h : x_H} : x_run 102 80 ls st h = x_run 102 81 ls (.int (q_i 4) :: st) h := xe_iconst ec102 dX1_addPin_80
theorem e102_81 {ls st : List Value} {h : x_H} {b : Nat} {a1 a2 : Value}: x_run 102 81 ls (a2 :: a1 :: .ref b :: st) h = if q_rcv h b 6 = true then (if x_wt st ≤ 8 ∧ x_wt [.ref b, a1, a2] = 3 then q_cl (x_m 401 [.ref b, a1, a2] h) (fun v h' => x_run 102 84 ls (v.toList ++ st) h') else none) else none := xe_virt (r := [a1, a2]) ec102 dX1_addPin_81 ek1_29 rfl (by decide +kernel) (by decide +kernel)
theorem e102_84 {ls : List Value} {h : x_H} {x : Int32} : x_run 102 84 ls [.int x] h = if narrow .int (.int x) = .int x then some (.inl (some (.int x)), h) else none := xe_ireturn ec102 dX1_addPin_84 rfl
theorem e102_85 {ls st : List Value} {h : x_H} : x_run 102 85 ls st h = q_gi ls 2 (fun v => x_run 102 86 ls (.int v :: st) h) := xe_iload_n ec102 dX1_addPin_85
theorem e102_86 {ls st : List Value} {h : x_H} : x_run 102 86 ls st h = q_gi ls 3 (fun v => x_run 102 87 ls (.int v :: st) h) := xe_iload_n ec102 dX1_addPin_86
theorem e102_87 {ls st : List Value} {h : x_H} : x_run 102 87 ls st h = x_run 102 88 ls (.int (q_i 0) :: st) h := xe_iconst ec102 dX1_addPin_87
theorem e102_88 {ls st : List Value} {h : x_H} {a1 a2 a3 : Value}: x_run 102 88 ls (a3 :: a2 :: a1 :: st) h = if x_wt st ≤ 8 ∧ x_wt [a1, a2, a3] = 3 then q_cl (x_m 740 [a1, a2, a3] h) (fun v h' => x_run 102 91 ls (v.toList ++ st) h') else none := xe_stat (args := [a1, a2, a3]) ec102 dX1_addPin_88 ek1_55 (by decide) rfl (by decide +kernel) (by decide +kernel)
theorem e102_91 {ls st : List Value} {h : x_H} {x : Int32}: x_run 102 91 ls (.int x :: st) h = q_ls ls 4 (.int x) (fun ls' => x_run 102 93 ls' st h) := xe_istore ec102 dX1_addPin_91
theorem e102_93 {ls st : List Value} {h : x_H} : x_run 102 93 ls st h = q_gi ls 4 (fun v => x_run 102 95 ls (.int v :: st) h) := xe_iload ec102 dX1_addPin_93
theorem e102_95 {ls st : List Value} {h : x_H} {x : Int32}: x_run 102 95 ls (.int x :: st) h = q_ls ls 5 (.int x) (fun ls' => x_run 102 97 ls' st h) := xe_istore ec102 dX1_addPin_95
theorem e102_97 {ls st : List Value} {h : x_H} : x_run 102 97 ls st h = q_gi ls 5 (fun v => x_run 102 99 ls (.int v :: st) h) := xe_iload ec102 dX1_addPin_97
theorem e102_99 {ls st : List Value} {h : x_H} : x_run 102 99 ls st h = x_run 102 101 ls (.int (q_i 96) :: st) h := xe_bipush ec102 dX1_addPin_99 (by decide)
theorem e102_101 {ls st : List Value} {h : x_H} {x y : Int32}: x_run 102 101 ls (.int y :: .int x :: st) h = if y ≤ x then x_run 102 131 ls st h else x_run 102 104 ls st h := xe_ic_ge ec102 dX1_addPin_101 rfl
theorem e102_104 {ls st : List Value} {h : x_H} : x_run 102 104 ls st h = q_gr ls 0 (fun v => x_run 102 105 ls (.ref v :: st) h) := xe_aload_n ec102 dX1_addPin_104
theorem e102_105 {ls st : List Value} {h : x_H} {a : Nat}: x_run 102 105 ls (.ref a :: st) h = q_gf h a 3 0 (fun v => x_run 102 108 ls (v :: st) h) := xe_getfield ec102 dX1_addPin_105 ef1_9
theorem e102_108 {ls st : List Value} {h : x_H} {a : Nat}: x_run 102 108 ls (.ref a :: st) h = q_gf h a 2 10 (fun v => x_run 102 111 ls (v :: st) h) := xe_getfield ec102 dX1_addPin_108 ef1_59
theorem e102_111 {ls st : List Value} {h : x_H} : x_run 102 111 ls st h = q_gi ls 5 (fun v => x_run 102 113 ls (.int v :: st) h) := xe_iload ec102 dX1_addPin_111
theorem e102_113 {ls st : List Value} {h : x_H} {x : Int32} {a : Nat}: x_run 102 113 ls (.int x :: .ref a :: st) h = q_ra h a 0 x (fun v => x_run 102 114 ls (.int v :: st) h) := xe_iaload ec102 dX1_addPin_113
theorem e102_114 {ls st : List Value} {h : x_H} : x_run 102 114 ls st h = x_run 102 115 ls (.int (q_i (-1)) :: st) h := xe_iconst ec102 dX1_addPin_114
theorem e102_115 {ls st : List Value} {h : x_H} {x y : Int32}: x_run 102 115 ls (.int y :: .int x :: st) h = if x = y then x_run 102 125 ls st h else x_run 102 118 ls st h := xe_ic_eq ec102 dX1_addPin_115 rfl
theorem e102_118 {ls st : List Value} {h : x_H} : x_run 102 118 ls st h = q_gr ls 0 (fun v => x_run 102 119 ls (.ref v :: st) h) := xe_aload_n ec102 dX1_addPin_118
theorem e102_119 {ls st : List Value} {h : x_H} : x_run 102 119 ls st h = q_gi ls 5 (fun v => x_run 102 121 ls (.int v :: st) h) := xe_iload ec102 dX1_addPin_119
theorem e102_121 {ls st : List Value} {h : x_H} {b : Nat} {a1 : Value}: x_run 102 121 ls (a1 :: .ref b :: st) h = if q_rcv h b 3 = true then (if x_wt st ≤ 8 ∧ x_wt [.ref b, a1] = 2 then q_cl (x_m 107 [.ref b, a1] h) (fun v h' => x_run 102 124 ls (v.toList ++ st) h') else none) else none := xe_virt (r := [a1]) ec102 dX1_addPin_121 ek1_62 rfl (by decide +kernel) (by decide +kernel)
theorem e102_124 {ls : List Value} {h : x_H} {x : Int32} : x_run 102 124 ls [.int x] h = if narrow .int (.int x) = .int x then some (.inl (some (.int x)), h) else none := xe_ireturn ec102 dX1_addPin_124 rfl
theorem e102_125 {ls st : List Value} {h : x_H} : x_run 102 125 ls st h = q_gi ls 5 (fun v => if x_nd ls 5 = true then x_run 102 128 (ls.set 5 (.int (v + q_i 48))) st h else none) := xe_iinc ec102 dX1_addPin_125
theorem e102_128 {ls st : List Value} {h : x_H} : x_run 102 128 ls st h = x_run 102 97 ls st h := xe_goto ec102 dX1_addPin_128 rfl
theorem e102_131 {ls st : List Value} {h : x_H} : x_run 102 131 ls st h = q_gi ls 4 (fun v => x_run 102 133 ls (.int v :: st) h) := xe_iload ec102 dX1_addPin_131
theorem e102_133 {ls st : List Value} {h : x_H} {x : Int32}: x_run 102 133 ls (.int x :: st) h = q_ls ls 5 (.int x) (fun ls' => x_run 102 135 ls' st h) := xe_istore ec102 dX1_addPin_133
theorem e102_135 {ls st : List Value} {h : x_H} : x_run 102 135 ls st h = q_gi ls 5 (fun v => x_run 102 137 ls (.int v :: st) h) := xe_iload ec102 dX1_addPin_135
theorem e102_137 {ls st : List Value} {h : x_H} : x_run 102 137 ls st h = x_run 102 139 ls (.int (q_i 96) :: st) h := xe_bipush ec102 dX1_addPin_137 (by decide)
theorem e102_139 {ls st : List Value} {h : x_H} {x y : Int32}: x_run 102 139 ls (.int y :: .int x :: st) h = if y ≤ x then x_run 102 182 ls st h else x_run 102 142 ls st h := xe_ic_ge ec102 dX1_addPin_139 rfl
theorem e102_142 {ls st : List Value} {h : x_H} : x_run 102 142 ls st h = q_gr ls 0 (fun v => x_run 102 143 ls (.ref v :: st) h) := xe_aload_n ec102 dX1_addPin_142
theorem e102_143 {ls st : List Value} {h : x_H} {a : Nat}: x_run 102 143 ls (.ref a :: st) h = q_gf h a 3 0 (fun v => x_run 102 146 ls (v :: st) h) := xe_getfield ec102 dX1_addPin_143 ef1_9
theorem e102_146 {ls st : List Value} {h : x_H} : x_run 102 146 ls st h = q_gi ls 1 (fun v => x_run 102 147 ls (.int v :: st) h) := xe_iload_n ec102 dX1_addPin_146
theorem e102_147 {ls st : List Value} {h : x_H} : x_run 102 147 ls st h = q_gi ls 5 (fun v => x_run 102 149 ls (.int v :: st) h) := xe_iload ec102 dX1_addPin_147
theorem e102_149 {ls st : List Value} {h : x_H} : x_run 102 149 ls st h = x_run 102 150 ls (.int (q_i 1) :: st) h := xe_iconst ec102 dX1_addPin_149
theorem e102_150 {ls st : List Value} {h : x_H} : x_run 102 150 ls st h = x_run 102 151 ls (.int (q_i 1) :: st) h := xe_iconst ec102 dX1_addPin_150
theorem e102_151 {ls st : List Value} {h : x_H} {b : Nat} {a1 a2 a3 a4 : Value}: x_run 102 151 ls (a4 :: a3 :: a2 :: a1 :: .ref b :: st) h = if q_rcv h b 2 = true then (if x_wt st ≤ 8 ∧ x_wt [.ref b, a1, a2, a3, a4] = 5 then q_cl (x_m 4 [.ref b, a1, a2, a3, a4] h) (fun v h' => x_run 102 154 ls (v.toList ++ st) h') else none) else none := xe_virt (r := [a1, a2, a3, a4]) ec102 dX1_addPin_151 ek1_66 rfl (by decide +kernel) (by decide +kernel)
theorem e102_154 {ls st : List Value} {h : x_H} {x : Int32}: x_run 102 154 ls (.int x :: st) h = q_ls ls 6 (.int x) (fun ls' => x_run 102 156 ls' st h) := xe_istore ec102 dX1_addPin_154
theorem e102_156 {ls st : List Value} {h : x_H} : x_run 102 156 ls st h = q_gi ls 6 (fun v => x_run 102 158 ls (.int v :: st) h) := xe_iload ec102 dX1_addPin_156
theorem e102_158 {ls st : List Value} {h : x_H} {x : Int32}: x_run 102 158 ls (.int x :: st) h = if x = 0 then x_run 102 176 ls st h else x_run 102 161 ls st h := xe_if_eq ec102 dX1_addPin_158 rfl
theorem e102_161 {ls st : List Value} {h : x_H} : x_run 102 161 ls st h = q_gr ls 0 (fun v => x_run 102 162 ls (.ref v :: st) h) := xe_aload_n ec102 dX1_addPin_161
theorem e102_162 {ls st : List Value} {h : x_H} {a : Nat}: x_run 102 162 ls (.ref a :: st) h = q_gf h a 3 2 (fun v => x_run 102 165 ls (v :: st) h) := xe_getfield ec102 dX1_addPin_162 ef1_19
theorem e102_165 {ls st : List Value} {h : x_H} : x_run 102 165 ls st h = x_run 102 167 ls (.int (q_i 6) :: st) h := xe_bipush ec102 dX1_addPin_165 (by decide)
theorem e102_167 {ls st : List Value} {h : x_H} : x_run 102 167 ls st h = q_gi ls 6 (fun v => x_run 102 169 ls (.int v :: st) h) := xe_iload ec102 dX1_addPin_167
theorem e102_169 {ls st : List Value} {h : x_H} {a1 : Value}: x_run 102 169 ls (a1 :: st) h = if x_wt st ≤ 8 ∧ x_wt [a1] = 1 then q_cl (x_m 110 [a1] h) (fun v h' => x_run 102 172 ls (v.toList ++ st) h') else none := xe_stat (args := [a1]) ec102 dX1_addPin_169 ek1_70 (by decide) rfl (by decide +kernel) (by decide +kernel)
theorem e102_172 {ls st : List Value} {h : x_H} {b : Nat} {a1 a2 : Value}: x_run 102 172 ls (a2 :: a1 :: .ref b :: st) h = if q_rcv h b 6 = true then (if x_wt st ≤ 8 ∧ x_wt [.ref b, a1, a2] = 3 then q_cl (x_m 401 [.ref b, a1, a2] h) (fun v h' => x_run 102 175 ls (v.toList ++ st) h') else none) else none := xe_virt (r := [a1, a2]) ec102 dX1_addPin_172 ek1_29 rfl (by decide +kernel) (by decide +kernel)
theorem e102_175 {ls : List Value} {h : x_H} {x : Int32} : x_run 102 175 ls [.int x] h = if narrow .int (.int x) = .int x then some (.inl (some (.int x)), h) else none := xe_ireturn ec102 dX1_addPin_175 rfl
theorem e102_176 {ls st : List Value} {h : x_H} : x_run 102 176 ls st h = q_gi ls 5 (fun v => if x_nd ls 5 = true then x_run 102 179 (ls.set 5 (.int (v + q_i 48))) st h else none) := xe_iinc ec102 dX1_addPin_176
theorem e102_179 {ls st : List Value} {h : x_H} : x_run 102 179 ls st h = x_run 102 135 ls st h := xe_goto ec102 dX1_addPin_179 rfl
theorem e102_182 {ls st : List Value} {h : x_H} : x_run 102 182 ls st h = q_gr ls 0 (fun v => x_run 102 183 ls (.ref v :: st) h) := xe_aload_n ec102 dX1_addPin_182
theorem e102_183 {ls st : List Value} {h : x_H} {a : Nat}: x_run 102 183 ls (.ref a :: st) h = q_gf h a 3 0 (fun v => x_run 102 186 ls (v :: st) h) := xe_getfield ec102 dX1_addPin_183 ef1_9
theorem e102_186 {ls st : List Value} {h : x_H} : x_run 102 186 ls st h = q_gi ls 1 (fun v => x_run 102 187 ls (.int v :: st) h) := xe_iload_n ec102 dX1_addPin_186
theorem e102_187 {ls st : List Value} {h : x_H} : x_run 102 187 ls st h = q_gi ls 4 (fun v => x_run 102 189 ls (.int v :: st) h) := xe_iload ec102 dX1_addPin_187
theorem e102_189 {ls st : List Value} {h : x_H} {b : Nat} {a1 a2 : Value}: x_run 102 189 ls (a2 :: a1 :: .ref b :: st) h = if q_rcv h b 2 = true then (if x_wt st ≤ 8 ∧ x_wt [.ref b, a1, a2] = 3 then q_cl (x_m 14 [.ref b, a1, a2] h) (fun v h' => x_run 102 192 ls (v.toList ++ st) h') else none) else none := xe_virt (r := [a1, a2]) ec102 dX1_addPin_189 ek1_73 rfl (by decide +kernel) (by decide +kernel)
theorem e102_192 {ls : List Value} {h : x_H} {x : Int32} : x_run 102 192 ls [.int x] h = if narrow .int (.int x) = .int x then some (.inl (some (.int x)), h) else none := xe_ireturn ec102 dX1_addPin_192 rfl
theorem ec103 : x_code 103 = cX1_addWall := rfl
theorem e103_0 {ls st : List Value} {h : x_H} : x_run 103 0 ls st h = q_gi ls 1 (fun v => x_run 103 1 ls (.int v :: st) h) := xe_iload_n ec103 dX1_addWall_0
theorem e103_1 {ls st : List Value} {h : x_H} : x_run 103 1 ls st h = q_gi ls 2 (fun v => x_run 103 2 ls (.int v :: st) h) := xe_iload_n ec103 dX1_addWall_1
theorem e103_2 {ls st : List Value} {h : x_H} : x_run 103 2 ls st h = q_gi ls 3 (fun v => x_run 103 3 ls (.int v :: st) h) := xe_iload_n ec103 dX1_addWall_2
theorem e103_3 {ls st : List Value} {h : x_H} {a1 a2 a3 : Value}: x_run 103 3 ls (a3 :: a2 :: a1 :: st) h = if x_wt st ≤ 8 ∧ x_wt [a1, a2, a3] = 3 then q_cl (x_m 739 [a1, a2, a3] h) (fun v h' => x_run 103 6 ls (v.toList ++ st) h') else none := xe_stat (args := [a1, a2, a3]) ec103 dX1_addWall_3 ek1_43 (by decide) rfl (by decide +kernel) (by decide +kernel)
theorem e103_6 {ls st : List Value} {h : x_H} {x : Int32}: x_run 103 6 ls (.int x :: st) h = if ¬ x = 0 then x_run 103 19 ls st h else x_run 103 9 ls st h := xe_if_ne ec103 dX1_addWall_6 rfl
theorem e103_9 {ls st : List Value} {h : x_H} : x_run 103 9 ls st h = q_gr ls 0 (fun v => x_run 103 10 ls (.ref v :: st) h) := xe_aload_n ec103 dX1_addWall_9
theorem e103_10 {ls st : List Value} {h : x_H} {a : Nat}: x_run 103 10 ls (.ref a :: st) h = q_gf h a 3 2 (fun v => x_run 103 13 ls (v :: st) h) := xe_getfield ec103 dX1_addWall_10 ef1_19
theorem e103_13 {ls st : List Value} {h : x_H} : x_run 103 13 ls st h = x_run 103 14 ls (.int (q_i 1) :: st) h := xe_iconst ec103 dX1_addWall_13
theorem e103_14 {ls st : List Value} {h : x_H} : x_run 103 14 ls st h = x_run 103 15 ls (.int (q_i 0) :: st) h := xe_iconst ec103 dX1_addWall_14
theorem e103_15 {ls st : List Value} {h : x_H} {b : Nat} {a1 a2 : Value}: x_run 103 15 ls (a2 :: a1 :: .ref b :: st) h = if q_rcv h b 6 = true then (if x_wt st ≤ 8 ∧ x_wt [.ref b, a1, a2] = 3 then q_cl (x_m 401 [.ref b, a1, a2] h) (fun v h' => x_run 103 18 ls (v.toList ++ st) h') else none) else none := xe_virt (r := [a1, a2]) ec103 dX1_addWall_15 ek1_29 rfl (by decide +kernel) (by decide +kernel)
theorem e103_18 {ls : List Value} {h : x_H} {x : Int32} : x_run 103 18 ls [.int x] h = if narrow .int (.int x) = .int x then some (.inl (some (.int x)), h) else none := xe_ireturn ec103 dX1_addWall_18 rfl
theorem e103_19 {ls st : List Value} {h : x_H} : x_run 103 19 ls st h = q_gi ls 1 (fun v => x_run 103 20 ls (.int v :: st) h) := xe_iload_n ec103 dX1_addWall_19
theorem e103_20 {ls st : List Value} {h : x_H} : x_run 103 20 ls st h = q_gi ls 2 (fun v => x_run 103 21 ls (.int v :: st) h) := xe_iload_n ec103 dX1_addWall_20
theorem e103_21 {ls st : List Value} {h : x_H} : x_run 103 21 ls st h = q_gi ls 3 (fun v => x_run 103 22 ls (.int v :: st) h) := xe_iload_n ec103 dX1_addWall_21
theorem e103_22 {ls st : List Value} {h : x_H} {a1 a2 a3 : Value}: x_run 103 22 ls (a3 :: a2 :: a1 :: st) h = if x_wt st ≤ 8 ∧ x_wt [a1, a2, a3] = 3 then q_cl (x_m 740 [a1, a2, a3] h) (fun v h' => x_run 103 25 ls (v.toList ++ st) h') else none := xe_stat (args := [a1, a2, a3]) ec103 dX1_addWall_22 ek1_55 (by decide) rfl (by decide +kernel) (by decide +kernel)
theorem e103_25 {ls st : List Value} {h : x_H} {x : Int32}: x_run 103 25 ls (.int x :: st) h = q_ls ls 4 (.int x) (fun ls' => x_run 103 27 ls' st h) := xe_istore ec103 dX1_addWall_25
theorem e103_27 {ls st : List Value} {h : x_H} : x_run 103 27 ls st h = q_gr ls 0 (fun v => x_run 103 28 ls (.ref v :: st) h) := xe_aload_n ec103 dX1_addWall_27
theorem e103_28 {ls st : List Value} {h : x_H} {a : Nat}: x_run 103 28 ls (.ref a :: st) h = q_gf h a 3 0 (fun v => x_run 103 31 ls (v :: st) h) := xe_getfield ec103 dX1_addWall_28 ef1_9
theorem e103_31 {ls st : List Value} {h : x_H} {a : Nat}: x_run 103 31 ls (.ref a :: st) h = q_gf h a 2 10 (fun v => x_run 103 34 ls (v :: st) h) := xe_getfield ec103 dX1_addWall_31 ef1_59
theorem e103_34 {ls st : List Value} {h : x_H} : x_run 103 34 ls st h = q_gi ls 4 (fun v => x_run 103 36 ls (.int v :: st) h) := xe_iload ec103 dX1_addWall_34
theorem e103_36 {ls st : List Value} {h : x_H} {x : Int32} {a : Nat}: x_run 103 36 ls (.int x :: .ref a :: st) h = q_ra h a 0 x (fun v => x_run 103 37 ls (.int v :: st) h) := xe_iaload ec103 dX1_addWall_36
theorem e103_37 {ls st : List Value} {h : x_H} : x_run 103 37 ls st h = x_run 103 38 ls (.int (q_i (-1)) :: st) h := xe_iconst ec103 dX1_addWall_37
theorem e103_38 {ls st : List Value} {h : x_H} {x y : Int32}: x_run 103 38 ls (.int y :: .int x :: st) h = if x = y then x_run 103 48 ls st h else x_run 103 41 ls st h := xe_ic_eq ec103 dX1_addWall_38 rfl
theorem e103_41 {ls st : List Value} {h : x_H} : x_run 103 41 ls st h = q_gr ls 0 (fun v => x_run 103 42 ls (.ref v :: st) h) := xe_aload_n ec103 dX1_addWall_41
theorem e103_42 {ls st : List Value} {h : x_H} : x_run 103 42 ls st h = q_gi ls 4 (fun v => x_run 103 44 ls (.int v :: st) h) := xe_iload ec103 dX1_addWall_42
theorem e103_44 {ls st : List Value} {h : x_H} {b : Nat} {a1 : Value}: x_run 103 44 ls (a1 :: .ref b :: st) h = if q_rcv h b 3 = true then (if x_wt st ≤ 8 ∧ x_wt [.ref b, a1] = 2 then q_cl (x_m 107 [.ref b, a1] h) (fun v h' => x_run 103 47 ls (v.toList ++ st) h') else none) else none := xe_virt (r := [a1]) ec103 dX1_addWall_44 ek1_62 rfl (by decide +kernel) (by decide +kernel)
theorem e103_47 {ls : List Value} {h : x_H} {x : Int32} : x_run 103 47 ls [.int x] h = if narrow .int (.int x) = .int x then some (.inl (some (.int x)), h) else none := xe_ireturn ec103 dX1_addWall_47 rfl
theorem e103_48 {ls st : List Value} {h : x_H} : x_run 103 48 ls st h = q_gr ls 0 (fun v => x_run 103 49 ls (.ref v :: st) h) := xe_aload_n ec103 dX1_addWall_48
theorem e103_49 {ls st : List Value} {h : x_H} {a : Nat}: x_run 103 49 ls (.ref a :: st) h = q_gf h a 3 0 (fun v => x_run 103 52 ls (v :: st) h) := xe_getfield ec103 dX1_addWall_49 ef1_9
theorem e103_52 {ls st : List Value} {h : x_H} {a : Nat}: x_run 103 52 ls (.ref a :: st) h = q_gf h a 2 10 (fun v => x_run 103 55 ls (v :: st) h) := xe_getfield ec103 dX1_addWall_52 ef1_59
theorem e103_55 {ls st : List Value} {h : x_H} : x_run 103 55 ls st h = q_gi ls 4 (fun v => x_run 103 57 ls (.int v :: st) h) := xe_iload ec103 dX1_addWall_55
theorem e103_57 {ls st : List Value} {h : x_H} : x_run 103 57 ls st h = x_run 103 59 ls (.int (q_i (-2)) :: st) h := xe_bipush ec103 dX1_addWall_57 (by decide)
theorem e103_59 {ls st : List Value} {h : x_H} {x y : Int32} {a : Nat}: x_run 103 59 ls (.int y :: .int x :: .ref a :: st) h = q_wa h a 0 x y (fun h' => x_run 103 60 ls st h') := xe_iastore ec103 dX1_addWall_59
theorem e103_60 {ls st : List Value} {h : x_H} : x_run 103 60 ls st h = q_gr ls 0 (fun v => x_run 103 61 ls (.ref v :: st) h) := xe_aload_n ec103 dX1_addWall_60
theorem e103_61 {ls st : List Value} {h : x_H} {a : Nat}: x_run 103 61 ls (.ref a :: st) h = q_gf h a 3 0 (fun v => x_run 103 64 ls (v :: st) h) := xe_getfield ec103 dX1_addWall_61 ef1_9
theorem e103_64 {ls st : List Value} {h : x_H} {v : Value} (hv : v.category = 1): x_run 103 64 ls (v :: st) h = x_run 103 65 ls (v :: v :: st) h := xe_dup ec103 dX1_addWall_64 hv
theorem e103_65 {ls st : List Value} {h : x_H} {a : Nat}: x_run 103 65 ls (.ref a :: st) h = q_gf h a 2 1 (fun v => x_run 103 68 ls (v :: st) h) := xe_getfield ec103 dX1_addWall_65 ef1_76
theorem e103_68 {ls st : List Value} {h : x_H} : x_run 103 68 ls st h = x_run 103 69 ls (.int (q_i 1) :: st) h := xe_iconst ec103 dX1_addWall_68
theorem e103_69 {ls st : List Value} {h : x_H} {x y : Int32}: x_run 103 69 ls (.int y :: .int x :: st) h = x_run 103 70 ls (.int (x + y) :: st) h := xe_iadd ec103 dX1_addWall_69
theorem e103_70 {ls st : List Value} {h : x_H} {v : Value} {a : Nat}: x_run 103 70 ls (v :: .ref a :: st) h = if x_fit (x_ty 2 1) v = true then q_pf h a 2 1 v (fun h' => x_run 103 73 ls st h') else none := xe_putfield ec103 dX1_addWall_70 ef1_76 (by decide +kernel)
theorem e103_73 {ls st : List Value} {h : x_H} : x_run 103 73 ls st h = q_gr ls 0 (fun v => x_run 103 74 ls (.ref v :: st) h) := xe_aload_n ec103 dX1_addWall_73
theorem e103_74 {ls st : List Value} {h : x_H} {a : Nat}: x_run 103 74 ls (.ref a :: st) h = q_gf h a 3 0 (fun v => x_run 103 77 ls (v :: st) h) := xe_getfield ec103 dX1_addWall_74 ef1_9
theorem e103_77 {ls st : List Value} {h : x_H} {a : Nat}: x_run 103 77 ls (.ref a :: st) h = q_gf h a 2 1 (fun v => x_run 103 80 ls (v :: st) h) := xe_getfield ec103 dX1_addWall_77 ef1_76
theorem e103_80 {ls : List Value} {h : x_H} {x : Int32} : x_run 103 80 ls [.int x] h = if narrow .int (.int x) = .int x then some (.inl (some (.int x)), h) else none := xe_ireturn ec103 dX1_addWall_80 rfl
theorem ec104 : x_code 104 = cX1_removeWall := rfl
theorem e104_0 {ls st : List Value} {h : x_H} : x_run 104 0 ls st h = q_gi ls 1 (fun v => x_run 104 1 ls (.int v :: st) h) := xe_iload_n ec104 dX1_removeWall_0
theorem e104_1 {ls st : List Value} {h : x_H} : x_run 104 1 ls st h = q_gi ls 2 (fun v => x_run 104 2 ls (.int v :: st) h) := xe_iload_n ec104 dX1_removeWall_1
theorem e104_2 {ls st : List Value} {h : x_H} : x_run 104 2 ls st h = q_gi ls 3 (fun v => x_run 104 3 ls (.int v :: st) h) := xe_iload_n ec104 dX1_removeWall_2
theorem e104_3 {ls st : List Value} {h : x_H} {a1 a2 a3 : Value}: x_run 104 3 ls (a3 :: a2 :: a1 :: st) h = if x_wt st ≤ 8 ∧ x_wt [a1, a2, a3] = 3 then q_cl (x_m 739 [a1, a2, a3] h) (fun v h' => x_run 104 6 ls (v.toList ++ st) h') else none := xe_stat (args := [a1, a2, a3]) ec104 dX1_removeWall_3 ek1_43 (by decide) rfl (by decide +kernel) (by decide +kernel)
theorem e104_6 {ls st : List Value} {h : x_H} {x : Int32}: x_run 104 6 ls (.int x :: st) h = if ¬ x = 0 then x_run 104 19 ls st h else x_run 104 9 ls st h := xe_if_ne ec104 dX1_removeWall_6 rfl
theorem e104_9 {ls st : List Value} {h : x_H} : x_run 104 9 ls st h = q_gr ls 0 (fun v => x_run 104 10 ls (.ref v :: st) h) := xe_aload_n ec104 dX1_removeWall_9
theorem e104_10 {ls st : List Value} {h : x_H} {a : Nat}: x_run 104 10 ls (.ref a :: st) h = q_gf h a 3 2 (fun v => x_run 104 13 ls (v :: st) h) := xe_getfield ec104 dX1_removeWall_10 ef1_19
theorem e104_13 {ls st : List Value} {h : x_H} : x_run 104 13 ls st h = x_run 104 14 ls (.int (q_i 1) :: st) h := xe_iconst ec104 dX1_removeWall_13
theorem e104_14 {ls st : List Value} {h : x_H} : x_run 104 14 ls st h = x_run 104 15 ls (.int (q_i 0) :: st) h := xe_iconst ec104 dX1_removeWall_14
theorem e104_15 {ls st : List Value} {h : x_H} {b : Nat} {a1 a2 : Value}: x_run 104 15 ls (a2 :: a1 :: .ref b :: st) h = if q_rcv h b 6 = true then (if x_wt st ≤ 8 ∧ x_wt [.ref b, a1, a2] = 3 then q_cl (x_m 401 [.ref b, a1, a2] h) (fun v h' => x_run 104 18 ls (v.toList ++ st) h') else none) else none := xe_virt (r := [a1, a2]) ec104 dX1_removeWall_15 ek1_29 rfl (by decide +kernel) (by decide +kernel)
theorem e104_18 {ls : List Value} {h : x_H} {x : Int32} : x_run 104 18 ls [.int x] h = if narrow .int (.int x) = .int x then some (.inl (some (.int x)), h) else none := xe_ireturn ec104 dX1_removeWall_18 rfl
theorem e104_19 {ls st : List Value} {h : x_H} : x_run 104 19 ls st h = q_gi ls 1 (fun v => x_run 104 20 ls (.int v :: st) h) := xe_iload_n ec104 dX1_removeWall_19
theorem e104_20 {ls st : List Value} {h : x_H} : x_run 104 20 ls st h = q_gi ls 2 (fun v => x_run 104 21 ls (.int v :: st) h) := xe_iload_n ec104 dX1_removeWall_20
theorem e104_21 {ls st : List Value} {h : x_H} : x_run 104 21 ls st h = q_gi ls 3 (fun v => x_run 104 22 ls (.int v :: st) h) := xe_iload_n ec104 dX1_removeWall_21
theorem e104_22 {ls st : List Value} {h : x_H} {a1 a2 a3 : Value}: x_run 104 22 ls (a3 :: a2 :: a1 :: st) h = if x_wt st ≤ 8 ∧ x_wt [a1, a2, a3] = 3 then q_cl (x_m 740 [a1, a2, a3] h) (fun v h' => x_run 104 25 ls (v.toList ++ st) h') else none := xe_stat (args := [a1, a2, a3]) ec104 dX1_removeWall_22 ek1_55 (by decide) rfl (by decide +kernel) (by decide +kernel)
theorem e104_25 {ls st : List Value} {h : x_H} {x : Int32}: x_run 104 25 ls (.int x :: st) h = q_ls ls 4 (.int x) (fun ls' => x_run 104 27 ls' st h) := xe_istore ec104 dX1_removeWall_25
theorem e104_27 {ls st : List Value} {h : x_H} : x_run 104 27 ls st h = q_gr ls 0 (fun v => x_run 104 28 ls (.ref v :: st) h) := xe_aload_n ec104 dX1_removeWall_27
theorem e104_28 {ls st : List Value} {h : x_H} {a : Nat}: x_run 104 28 ls (.ref a :: st) h = q_gf h a 3 0 (fun v => x_run 104 31 ls (v :: st) h) := xe_getfield ec104 dX1_removeWall_28 ef1_9
theorem e104_31 {ls st : List Value} {h : x_H} {a : Nat}: x_run 104 31 ls (.ref a :: st) h = q_gf h a 2 10 (fun v => x_run 104 34 ls (v :: st) h) := xe_getfield ec104 dX1_removeWall_31 ef1_59
theorem e104_34 {ls st : List Value} {h : x_H} : x_run 104 34 ls st h = q_gi ls 4 (fun v => x_run 104 36 ls (.int v :: st) h) := xe_iload ec104 dX1_removeWall_34
theorem e104_36 {ls st : List Value} {h : x_H} {x : Int32} {a : Nat}: x_run 104 36 ls (.int x :: .ref a :: st) h = q_ra h a 0 x (fun v => x_run 104 37 ls (.int v :: st) h) := xe_iaload ec104 dX1_removeWall_36
theorem e104_37 {ls st : List Value} {h : x_H} : x_run 104 37 ls st h = x_run 104 39 ls (.int (q_i (-2)) :: st) h := xe_bipush ec104 dX1_removeWall_37 (by decide)
theorem e104_39 {ls st : List Value} {h : x_H} {x y : Int32}: x_run 104 39 ls (.int y :: .int x :: st) h = if x = y then x_run 104 53 ls st h else x_run 104 42 ls st h := xe_ic_eq ec104 dX1_removeWall_39 rfl
theorem e104_42 {ls st : List Value} {h : x_H} : x_run 104 42 ls st h = q_gr ls 0 (fun v => x_run 104 43 ls (.ref v :: st) h) := xe_aload_n ec104 dX1_removeWall_42
theorem e104_43 {ls st : List Value} {h : x_H} {a : Nat}: x_run 104 43 ls (.ref a :: st) h = q_gf h a 3 2 (fun v => x_run 104 46 ls (v :: st) h) := xe_getfield ec104 dX1_removeWall_43 ef1_19
theorem e104_46 {ls st : List Value} {h : x_H} : x_run 104 46 ls st h = x_run 104 48 ls (.int (q_i 7) :: st) h := xe_bipush ec104 dX1_removeWall_46 (by decide)
theorem e104_48 {ls st : List Value} {h : x_H} : x_run 104 48 ls st h = x_run 104 49 ls (.int (q_i 0) :: st) h := xe_iconst ec104 dX1_removeWall_48
theorem e104_49 {ls st : List Value} {h : x_H} {b : Nat} {a1 a2 : Value}: x_run 104 49 ls (a2 :: a1 :: .ref b :: st) h = if q_rcv h b 6 = true then (if x_wt st ≤ 8 ∧ x_wt [.ref b, a1, a2] = 3 then q_cl (x_m 401 [.ref b, a1, a2] h) (fun v h' => x_run 104 52 ls (v.toList ++ st) h') else none) else none := xe_virt (r := [a1, a2]) ec104 dX1_removeWall_49 ek1_29 rfl (by decide +kernel) (by decide +kernel)
theorem e104_52 {ls : List Value} {h : x_H} {x : Int32} : x_run 104 52 ls [.int x] h = if narrow .int (.int x) = .int x then some (.inl (some (.int x)), h) else none := xe_ireturn ec104 dX1_removeWall_52 rfl
theorem e104_53 {ls st : List Value} {h : x_H} : x_run 104 53 ls st h = q_gr ls 0 (fun v => x_run 104 54 ls (.ref v :: st) h) := xe_aload_n ec104 dX1_removeWall_53
theorem e104_54 {ls st : List Value} {h : x_H} {a : Nat}: x_run 104 54 ls (.ref a :: st) h = q_gf h a 3 0 (fun v => x_run 104 57 ls (v :: st) h) := xe_getfield ec104 dX1_removeWall_54 ef1_9
theorem e104_57 {ls st : List Value} {h : x_H} {a : Nat}: x_run 104 57 ls (.ref a :: st) h = q_gf h a 2 10 (fun v => x_run 104 60 ls (v :: st) h) := xe_getfield ec104 dX1_removeWall_57 ef1_59
theorem e104_60 {ls st : List Value} {h : x_H} : x_run 104 60 ls st h = q_gi ls 4 (fun v => x_run 104 62 ls (.int v :: st) h) := xe_iload ec104 dX1_removeWall_60
theorem e104_62 {ls st : List Value} {h : x_H} : x_run 104 62 ls st h = x_run 104 63 ls (.int (q_i (-1)) :: st) h := xe_iconst ec104 dX1_removeWall_62
theorem e104_63 {ls st : List Value} {h : x_H} {x y : Int32} {a : Nat}: x_run 104 63 ls (.int y :: .int x :: .ref a :: st) h = q_wa h a 0 x y (fun h' => x_run 104 64 ls st h') := xe_iastore ec104 dX1_removeWall_63
theorem e104_64 {ls st : List Value} {h : x_H} : x_run 104 64 ls st h = q_gr ls 0 (fun v => x_run 104 65 ls (.ref v :: st) h) := xe_aload_n ec104 dX1_removeWall_64
theorem e104_65 {ls st : List Value} {h : x_H} {a : Nat}: x_run 104 65 ls (.ref a :: st) h = q_gf h a 3 0 (fun v => x_run 104 68 ls (v :: st) h) := xe_getfield ec104 dX1_removeWall_65 ef1_9
theorem e104_68 {ls st : List Value} {h : x_H} {v : Value} (hv : v.category = 1): x_run 104 68 ls (v :: st) h = x_run 104 69 ls (v :: v :: st) h := xe_dup ec104 dX1_removeWall_68 hv
theorem e104_69 {ls st : List Value} {h : x_H} {a : Nat}: x_run 104 69 ls (.ref a :: st) h = q_gf h a 2 1 (fun v => x_run 104 72 ls (v :: st) h) := xe_getfield ec104 dX1_removeWall_69 ef1_76
theorem e104_72 {ls st : List Value} {h : x_H} : x_run 104 72 ls st h = x_run 104 73 ls (.int (q_i 1) :: st) h := xe_iconst ec104 dX1_removeWall_72
theorem e104_73 {ls st : List Value} {h : x_H} {x y : Int32}: x_run 104 73 ls (.int y :: .int x :: st) h = x_run 104 74 ls (.int (x - y) :: st) h := xe_isub ec104 dX1_removeWall_73
theorem e104_74 {ls st : List Value} {h : x_H} {v : Value} {a : Nat}: x_run 104 74 ls (v :: .ref a :: st) h = if x_fit (x_ty 2 1) v = true then q_pf h a 2 1 v (fun h' => x_run 104 77 ls st h') else none := xe_putfield ec104 dX1_removeWall_74 ef1_76 (by decide +kernel)
theorem e104_77 {ls st : List Value} {h : x_H} : x_run 104 77 ls st h = q_gr ls 0 (fun v => x_run 104 78 ls (.ref v :: st) h) := xe_aload_n ec104 dX1_removeWall_77
theorem e104_78 {ls st : List Value} {h : x_H} {a : Nat}: x_run 104 78 ls (.ref a :: st) h = q_gf h a 3 0 (fun v => x_run 104 81 ls (v :: st) h) := xe_getfield ec104 dX1_removeWall_78 ef1_9
theorem e104_81 {ls st : List Value} {h : x_H} {a : Nat}: x_run 104 81 ls (.ref a :: st) h = q_gf h a 2 1 (fun v => x_run 104 84 ls (v :: st) h) := xe_getfield ec104 dX1_removeWall_81 ef1_76
theorem e104_84 {ls : List Value} {h : x_H} {x : Int32} : x_run 104 84 ls [.int x] h = if narrow .int (.int x) = .int x then some (.inl (some (.int x)), h) else none := xe_ireturn ec104 dX1_removeWall_84 rfl
theorem ec105 : x_code 105 = cX1_layWays := rfl
theorem e105_0 {ls st : List Value} {h : x_H} : x_run 105 0 ls st h = q_gr ls 0 (fun v => x_run 105 1 ls (.ref v :: st) h) := xe_aload_n ec105 dX1_layWays_0
theorem e105_1 {ls st : List Value} {h : x_H} {a : Nat}: x_run 105 1 ls (.ref a :: st) h = q_gf h a 3 0 (fun v => x_run 105 4 ls (v :: st) h) := xe_getfield ec105 dX1_layWays_1 ef1_9
theorem e105_4 {ls st : List Value} {h : x_H} : x_run 105 4 ls st h = q_gi ls 1 (fun v => x_run 105 5 ls (.int v :: st) h) := xe_iload_n ec105 dX1_layWays_4
theorem e105_5 {ls st : List Value} {h : x_H} {b : Nat} {a1 : Value}: x_run 105 5 ls (a1 :: .ref b :: st) h = if q_rcv h b 2 = true then (if x_wt st ≤ 8 ∧ x_wt [.ref b, a1] = 2 then q_cl (x_m 2 [.ref b, a1] h) (fun v h' => x_run 105 8 ls (v.toList ++ st) h') else none) else none := xe_virt (r := [a1]) ec105 dX1_layWays_5 ek1_39 rfl (by decide +kernel) (by decide +kernel)
theorem e105_8 {ls st : List Value} {h : x_H} {x : Int32}: x_run 105 8 ls (.int x :: st) h = if ¬ x = 0 then x_run 105 21 ls st h else x_run 105 11 ls st h := xe_if_ne ec105 dX1_layWays_8 rfl
theorem e105_11 {ls st : List Value} {h : x_H} : x_run 105 11 ls st h = q_gr ls 0 (fun v => x_run 105 12 ls (.ref v :: st) h) := xe_aload_n ec105 dX1_layWays_11
theorem e105_12 {ls st : List Value} {h : x_H} {a : Nat}: x_run 105 12 ls (.ref a :: st) h = q_gf h a 3 2 (fun v => x_run 105 15 ls (v :: st) h) := xe_getfield ec105 dX1_layWays_12 ef1_19
theorem e105_15 {ls st : List Value} {h : x_H} : x_run 105 15 ls st h = x_run 105 16 ls (.int (q_i 3) :: st) h := xe_iconst ec105 dX1_layWays_15
theorem e105_16 {ls st : List Value} {h : x_H} : x_run 105 16 ls st h = q_gi ls 1 (fun v => x_run 105 17 ls (.int v :: st) h) := xe_iload_n ec105 dX1_layWays_16
theorem e105_17 {ls st : List Value} {h : x_H} {b : Nat} {a1 a2 : Value}: x_run 105 17 ls (a2 :: a1 :: .ref b :: st) h = if q_rcv h b 6 = true then (if x_wt st ≤ 8 ∧ x_wt [.ref b, a1, a2] = 3 then q_cl (x_m 401 [.ref b, a1, a2] h) (fun v h' => x_run 105 20 ls (v.toList ++ st) h') else none) else none := xe_virt (r := [a1, a2]) ec105 dX1_layWays_17 ek1_29 rfl (by decide +kernel) (by decide +kernel)
theorem e105_20 {ls : List Value} {h : x_H} {x : Int32} : x_run 105 20 ls [.int x] h = if narrow .int (.int x) = .int x then some (.inl (some (.int x)), h) else none := xe_ireturn ec105 dX1_layWays_20 rfl
theorem e105_21 {ls st : List Value} {h : x_H} : x_run 105 21 ls st h = q_gr ls 0 (fun v => x_run 105 22 ls (.ref v :: st) h) := xe_aload_n ec105 dX1_layWays_21
theorem e105_22 {ls st : List Value} {h : x_H} {a : Nat}: x_run 105 22 ls (.ref a :: st) h = q_gf h a 3 0 (fun v => x_run 105 25 ls (v :: st) h) := xe_getfield ec105 dX1_layWays_22 ef1_9
theorem e105_25 {ls st : List Value} {h : x_H} {a : Nat}: x_run 105 25 ls (.ref a :: st) h = q_gf h a 2 3 (fun v => x_run 105 28 ls (v :: st) h) := xe_getfield ec105 dX1_layWays_25 ef1_47
theorem e105_28 {ls st : List Value} {h : x_H} : x_run 105 28 ls st h = q_gi ls 1 (fun v => x_run 105 29 ls (.int v :: st) h) := xe_iload_n ec105 dX1_layWays_28
theorem e105_29 {ls st : List Value} {h : x_H} {x : Int32} {a : Nat}: x_run 105 29 ls (.int x :: .ref a :: st) h = q_ra h a 1 x (fun v => x_run 105 30 ls (.int v :: st) h) := xe_baload ec105 dX1_layWays_29
theorem e105_30 {ls st : List Value} {h : x_H} {x : Int32}: x_run 105 30 ls (.int x :: st) h = if x = 0 then x_run 105 43 ls st h else x_run 105 33 ls st h := xe_if_eq ec105 dX1_layWays_30 rfl
theorem e105_33 {ls st : List Value} {h : x_H} : x_run 105 33 ls st h = q_gr ls 0 (fun v => x_run 105 34 ls (.ref v :: st) h) := xe_aload_n ec105 dX1_layWays_33
theorem e105_34 {ls st : List Value} {h : x_H} {a : Nat}: x_run 105 34 ls (.ref a :: st) h = q_gf h a 3 2 (fun v => x_run 105 37 ls (v :: st) h) := xe_getfield ec105 dX1_layWays_34 ef1_19
theorem e105_37 {ls st : List Value} {h : x_H} : x_run 105 37 ls st h = x_run 105 38 ls (.int (q_i 4) :: st) h := xe_iconst ec105 dX1_layWays_37
theorem e105_38 {ls st : List Value} {h : x_H} : x_run 105 38 ls st h = q_gi ls 1 (fun v => x_run 105 39 ls (.int v :: st) h) := xe_iload_n ec105 dX1_layWays_38
theorem e105_39 {ls st : List Value} {h : x_H} {b : Nat} {a1 a2 : Value}: x_run 105 39 ls (a2 :: a1 :: .ref b :: st) h = if q_rcv h b 6 = true then (if x_wt st ≤ 8 ∧ x_wt [.ref b, a1, a2] = 3 then q_cl (x_m 401 [.ref b, a1, a2] h) (fun v h' => x_run 105 42 ls (v.toList ++ st) h') else none) else none := xe_virt (r := [a1, a2]) ec105 dX1_layWays_39 ek1_29 rfl (by decide +kernel) (by decide +kernel)
theorem e105_42 {ls : List Value} {h : x_H} {x : Int32} : x_run 105 42 ls [.int x] h = if narrow .int (.int x) = .int x then some (.inl (some (.int x)), h) else none := xe_ireturn ec105 dX1_layWays_42 rfl
theorem e105_43 {ls st : List Value} {h : x_H} : x_run 105 43 ls st h = q_gr ls 0 (fun v => x_run 105 44 ls (.ref v :: st) h) := xe_aload_n ec105 dX1_layWays_43
theorem e105_44 {ls st : List Value} {h : x_H} {a : Nat}: x_run 105 44 ls (.ref a :: st) h = q_gf h a 3 0 (fun v => x_run 105 47 ls (v :: st) h) := xe_getfield ec105 dX1_layWays_44 ef1_9
theorem e105_47 {ls st : List Value} {h : x_H} {a : Nat}: x_run 105 47 ls (.ref a :: st) h = q_gf h a 2 4 (fun v => x_run 105 50 ls (v :: st) h) := xe_getfield ec105 dX1_layWays_47 ef1_51
theorem e105_50 {ls st : List Value} {h : x_H} : x_run 105 50 ls st h = q_gi ls 1 (fun v => x_run 105 51 ls (.int v :: st) h) := xe_iload_n ec105 dX1_layWays_50
theorem e105_51 {ls st : List Value} {h : x_H} {x : Int32} {a : Nat}: x_run 105 51 ls (.int x :: .ref a :: st) h = q_ra h a 0 x (fun v => x_run 105 52 ls (.int v :: st) h) := xe_iaload ec105 dX1_layWays_51
theorem e105_52 {ls st : List Value} {h : x_H} : x_run 105 52 ls st h = x_run 105 53 ls (.int (q_i 2) :: st) h := xe_iconst ec105 dX1_layWays_52
theorem e105_53 {ls st : List Value} {h : x_H} {x y : Int32}: x_run 105 53 ls (.int y :: .int x :: st) h = if y ≤ x then x_run 105 75 ls st h else x_run 105 56 ls st h := xe_ic_ge ec105 dX1_layWays_53 rfl
theorem e105_56 {ls st : List Value} {h : x_H} : x_run 105 56 ls st h = q_gr ls 0 (fun v => x_run 105 57 ls (.ref v :: st) h) := xe_aload_n ec105 dX1_layWays_56
theorem e105_57 {ls st : List Value} {h : x_H} {a : Nat}: x_run 105 57 ls (.ref a :: st) h = q_gf h a 3 2 (fun v => x_run 105 60 ls (v :: st) h) := xe_getfield ec105 dX1_layWays_57 ef1_19
theorem e105_60 {ls st : List Value} {h : x_H} : x_run 105 60 ls st h = x_run 105 62 ls (.int (q_i 8) :: st) h := xe_bipush ec105 dX1_layWays_60 (by decide)
theorem e105_62 {ls st : List Value} {h : x_H} : x_run 105 62 ls st h = q_gr ls 0 (fun v => x_run 105 63 ls (.ref v :: st) h) := xe_aload_n ec105 dX1_layWays_62
theorem e105_63 {ls st : List Value} {h : x_H} {a : Nat}: x_run 105 63 ls (.ref a :: st) h = q_gf h a 3 0 (fun v => x_run 105 66 ls (v :: st) h) := xe_getfield ec105 dX1_layWays_63 ef1_9
theorem e105_66 {ls st : List Value} {h : x_H} {a : Nat}: x_run 105 66 ls (.ref a :: st) h = q_gf h a 2 4 (fun v => x_run 105 69 ls (v :: st) h) := xe_getfield ec105 dX1_layWays_66 ef1_51
theorem e105_69 {ls st : List Value} {h : x_H} : x_run 105 69 ls st h = q_gi ls 1 (fun v => x_run 105 70 ls (.int v :: st) h) := xe_iload_n ec105 dX1_layWays_69
theorem e105_70 {ls st : List Value} {h : x_H} {x : Int32} {a : Nat}: x_run 105 70 ls (.int x :: .ref a :: st) h = q_ra h a 0 x (fun v => x_run 105 71 ls (.int v :: st) h) := xe_iaload ec105 dX1_layWays_70
theorem e105_71 {ls st : List Value} {h : x_H} {b : Nat} {a1 a2 : Value}: x_run 105 71 ls (a2 :: a1 :: .ref b :: st) h = if q_rcv h b 6 = true then (if x_wt st ≤ 8 ∧ x_wt [.ref b, a1, a2] = 3 then q_cl (x_m 401 [.ref b, a1, a2] h) (fun v h' => x_run 105 74 ls (v.toList ++ st) h') else none) else none := xe_virt (r := [a1, a2]) ec105 dX1_layWays_71 ek1_29 rfl (by decide +kernel) (by decide +kernel)
theorem e105_74 {ls : List Value} {h : x_H} {x : Int32} : x_run 105 74 ls [.int x] h = if narrow .int (.int x) = .int x then some (.inl (some (.int x)), h) else none := xe_ireturn ec105 dX1_layWays_74 rfl
theorem e105_75 {ls st : List Value} {h : x_H} : x_run 105 75 ls st h = q_gr ls 0 (fun v => x_run 105 76 ls (.ref v :: st) h) := xe_aload_n ec105 dX1_layWays_75
theorem e105_76 {ls st : List Value} {h : x_H} {a : Nat}: x_run 105 76 ls (.ref a :: st) h = q_gf h a 3 1 (fun v => x_run 105 79 ls (v :: st) h) := xe_getfield ec105 dX1_layWays_76 ef1_15
theorem e105_79 {ls st : List Value} {h : x_H} : x_run 105 79 ls st h = q_gi ls 1 (fun v => x_run 105 80 ls (.int v :: st) h) := xe_iload_n ec105 dX1_layWays_79
theorem e105_80 {ls st : List Value} {h : x_H} {b : Nat} {a1 : Value}: x_run 105 80 ls (a1 :: .ref b :: st) h = if q_rcv h b 7 = true then (if x_wt st ≤ 8 ∧ x_wt [.ref b, a1] = 2 then q_cl (x_m 501 [.ref b, a1] h) (fun v h' => x_run 105 83 ls (v.toList ++ st) h') else none) else none := xe_virt (r := [a1]) ec105 dX1_layWays_80 ek1_79 rfl (by decide +kernel) (by decide +kernel)
theorem e105_83 {ls st : List Value} {h : x_H} : x_run 105 83 ls st h = q_gr ls 0 (fun v => x_run 105 84 ls (.ref v :: st) h) := xe_aload_n ec105 dX1_layWays_83
theorem e105_84 {ls st : List Value} {h : x_H} {a : Nat}: x_run 105 84 ls (.ref a :: st) h = q_gf h a 3 1 (fun v => x_run 105 87 ls (v :: st) h) := xe_getfield ec105 dX1_layWays_84 ef1_15
theorem e105_87 {ls st : List Value} {h : x_H} : x_run 105 87 ls st h = q_gi ls 2 (fun v => x_run 105 88 ls (.int v :: st) h) := xe_iload_n ec105 dX1_layWays_87
theorem e105_88 {ls st : List Value} {h : x_H} {b : Nat} {a1 : Value}: x_run 105 88 ls (a1 :: .ref b :: st) h = if q_rcv h b 7 = true then (if x_wt st ≤ 8 ∧ x_wt [.ref b, a1] = 2 then q_cl (x_m 503 [.ref b, a1] h) (fun v h' => x_run 105 91 ls (v.toList ++ st) h') else none) else none := xe_virt (r := [a1]) ec105 dX1_layWays_88 ek1_85 rfl (by decide +kernel) (by decide +kernel)
theorem e105_91 {ls st : List Value} {h : x_H} {x : Int32}: x_run 105 91 ls (.int x :: st) h = if ¬ x = 0 then x_run 105 111 ls st h else x_run 105 94 ls st h := xe_if_ne ec105 dX1_layWays_91 rfl
theorem e105_94 {ls st : List Value} {h : x_H} : x_run 105 94 ls st h = q_gr ls 0 (fun v => x_run 105 95 ls (.ref v :: st) h) := xe_aload_n ec105 dX1_layWays_94
theorem e105_95 {ls st : List Value} {h : x_H} {a : Nat}: x_run 105 95 ls (.ref a :: st) h = q_gf h a 3 2 (fun v => x_run 105 98 ls (v :: st) h) := xe_getfield ec105 dX1_layWays_95 ef1_19
theorem e105_98 {ls st : List Value} {h : x_H} : x_run 105 98 ls st h = x_run 105 100 ls (.int (q_i 9) :: st) h := xe_bipush ec105 dX1_layWays_98 (by decide)
theorem e105_100 {ls st : List Value} {h : x_H} : x_run 105 100 ls st h = q_gr ls 0 (fun v => x_run 105 101 ls (.ref v :: st) h) := xe_aload_n ec105 dX1_layWays_100
theorem e105_101 {ls st : List Value} {h : x_H} {a : Nat}: x_run 105 101 ls (.ref a :: st) h = q_gf h a 3 1 (fun v => x_run 105 104 ls (v :: st) h) := xe_getfield ec105 dX1_layWays_101 ef1_15
theorem e105_104 {ls st : List Value} {h : x_H} {a : Nat}: x_run 105 104 ls (.ref a :: st) h = q_gf h a 7 14 (fun v => x_run 105 107 ls (v :: st) h) := xe_getfield ec105 dX1_layWays_104 ef1_89
theorem e105_107 {ls st : List Value} {h : x_H} {b : Nat} {a1 a2 : Value}: x_run 105 107 ls (a2 :: a1 :: .ref b :: st) h = if q_rcv h b 6 = true then (if x_wt st ≤ 8 ∧ x_wt [.ref b, a1, a2] = 3 then q_cl (x_m 401 [.ref b, a1, a2] h) (fun v h' => x_run 105 110 ls (v.toList ++ st) h') else none) else none := xe_virt (r := [a1, a2]) ec105 dX1_layWays_107 ek1_29 rfl (by decide +kernel) (by decide +kernel)
theorem e105_110 {ls : List Value} {h : x_H} {x : Int32} : x_run 105 110 ls [.int x] h = if narrow .int (.int x) = .int x then some (.inl (some (.int x)), h) else none := xe_ireturn ec105 dX1_layWays_110 rfl
theorem e105_111 {ls st : List Value} {h : x_H} : x_run 105 111 ls st h = q_gi ls 2 (fun v => x_run 105 112 ls (.int v :: st) h) := xe_iload_n ec105 dX1_layWays_111
theorem e105_112 {ls st : List Value} {h : x_H} {x : Int32}: x_run 105 112 ls (.int x :: st) h = if x = 0 then x_run 105 125 ls st h else x_run 105 115 ls st h := xe_if_eq ec105 dX1_layWays_112 rfl
theorem e105_115 {ls st : List Value} {h : x_H} : x_run 105 115 ls st h = q_gr ls 0 (fun v => x_run 105 116 ls (.ref v :: st) h) := xe_aload_n ec105 dX1_layWays_115
theorem e105_116 {ls st : List Value} {h : x_H} {a : Nat}: x_run 105 116 ls (.ref a :: st) h = q_gf h a 3 1 (fun v => x_run 105 119 ls (v :: st) h) := xe_getfield ec105 dX1_layWays_116 ef1_15
theorem e105_119 {ls st : List Value} {h : x_H} {b : Nat}: x_run 105 119 ls (.ref b :: st) h = if q_rcv h b 7 = true then (if x_wt st ≤ 8 ∧ x_wt [.ref b] = 1 then q_cl (x_m 504 [.ref b] h) (fun v h' => x_run 105 122 ls (v.toList ++ st) h') else none) else none := xe_virt (r := []) ec105 dX1_layWays_119 ek1_92 rfl (by decide +kernel) (by decide +kernel)
theorem e105_122 {ls st : List Value} {h : x_H} : x_run 105 122 ls st h = x_run 105 126 ls st h := xe_goto ec105 dX1_layWays_122 rfl
theorem e105_125 {ls st : List Value} {h : x_H} : x_run 105 125 ls st h = x_run 105 126 ls (.int (q_i 0) :: st) h := xe_iconst ec105 dX1_layWays_125
theorem e105_126 {ls st : List Value} {h : x_H} {x : Int32}: x_run 105 126 ls (.int x :: st) h = q_ls ls 3 (.int x) (fun ls' => x_run 105 127 ls' st h) := xe_istore_n ec105 dX1_layWays_126
theorem e105_127 {ls st : List Value} {h : x_H} : x_run 105 127 ls st h = q_gr ls 0 (fun v => x_run 105 128 ls (.ref v :: st) h) := xe_aload_n ec105 dX1_layWays_127
theorem e105_128 {ls st : List Value} {h : x_H} {a : Nat}: x_run 105 128 ls (.ref a :: st) h = q_gf h a 3 0 (fun v => x_run 105 131 ls (v :: st) h) := xe_getfield ec105 dX1_layWays_128 ef1_9
theorem e105_131 {ls st : List Value} {h : x_H} {b : Nat}: x_run 105 131 ls (.ref b :: st) h = if q_rcv h b 2 = true then (if x_wt st ≤ 8 ∧ x_wt [.ref b] = 1 then q_cl (x_m 8 [.ref b] h) (fun v h' => x_run 105 134 ls (v.toList ++ st) h') else none) else none := xe_virt (r := []) ec105 dX1_layWays_131 ek1_96 rfl (by decide +kernel) (by decide +kernel)
theorem e105_134 {ls st : List Value} {h : x_H} : x_run 105 134 ls st h = q_gr ls 0 (fun v => x_run 105 135 ls (.ref v :: st) h) := xe_aload_n ec105 dX1_layWays_134
theorem e105_135 {ls st : List Value} {h : x_H} {a : Nat}: x_run 105 135 ls (.ref a :: st) h = q_gf h a 3 1 (fun v => x_run 105 138 ls (v :: st) h) := xe_getfield ec105 dX1_layWays_135 ef1_15
theorem e105_138 {ls st : List Value} {h : x_H} {a : Nat}: x_run 105 138 ls (.ref a :: st) h = q_gf h a 7 12 (fun v => x_run 105 141 ls (v :: st) h) := xe_getfield ec105 dX1_layWays_138 ef1_99
theorem e105_141 {ls st : List Value} {h : x_H} {x y : Int32}: x_run 105 141 ls (.int y :: .int x :: st) h = x_run 105 142 ls (.int (x + y) :: st) h := xe_iadd ec105 dX1_layWays_141
theorem e105_142 {ls st : List Value} {h : x_H} : x_run 105 142 ls st h = q_gr ls 0 (fun v => x_run 105 143 ls (.ref v :: st) h) := xe_aload_n ec105 dX1_layWays_142
theorem e105_143 {ls st : List Value} {h : x_H} : x_run 105 143 ls st h = q_gi ls 3 (fun v => x_run 105 144 ls (.int v :: st) h) := xe_iload_n ec105 dX1_layWays_143
theorem e105_144 {ls st : List Value} {h : x_H} {b : Nat} {a1 : Value}: x_run 105 144 ls (a1 :: .ref b :: st) h = if q_rcv h b 3 = true then (if x_wt st ≤ 8 ∧ x_wt [.ref b, a1] = 2 then q_cl (x_m 108 [.ref b, a1] h) (fun v h' => x_run 105 147 ls (v.toList ++ st) h') else none) else none := xe_virt (r := [a1]) ec105 dX1_layWays_144 ek1_102 rfl (by decide +kernel) (by decide +kernel)
theorem e105_147 {ls st : List Value} {h : x_H} {x y : Int32}: x_run 105 147 ls (.int y :: .int x :: st) h = x_run 105 148 ls (.int (x - y) :: st) h := xe_isub ec105 dX1_layWays_147
theorem e105_148 {ls st : List Value} {h : x_H} {x : Int32}: x_run 105 148 ls (.int x :: st) h = q_ls ls 4 (.int x) (fun ls' => x_run 105 150 ls' st h) := xe_istore ec105 dX1_layWays_148
theorem e105_150 {ls st : List Value} {h : x_H} : x_run 105 150 ls st h = q_gi ls 4 (fun v => x_run 105 152 ls (.int v :: st) h) := xe_iload ec105 dX1_layWays_150
theorem e105_152 {ls st : List Value} {h : x_H} : x_run 105 152 ls st h = x_run 105 154 ls (.int (q_i 12) :: st) h := xe_bipush ec105 dX1_layWays_152 (by decide)
theorem e105_154 {ls st : List Value} {h : x_H} {x y : Int32}: x_run 105 154 ls (.int y :: .int x :: st) h = if x ≤ y then x_run 105 169 ls st h else x_run 105 157 ls st h := xe_ic_le ec105 dX1_layWays_154 rfl
theorem e105_157 {ls st : List Value} {h : x_H} : x_run 105 157 ls st h = q_gr ls 0 (fun v => x_run 105 158 ls (.ref v :: st) h) := xe_aload_n ec105 dX1_layWays_157
theorem e105_158 {ls st : List Value} {h : x_H} {a : Nat}: x_run 105 158 ls (.ref a :: st) h = q_gf h a 3 2 (fun v => x_run 105 161 ls (v :: st) h) := xe_getfield ec105 dX1_layWays_158 ef1_19
theorem e105_161 {ls st : List Value} {h : x_H} : x_run 105 161 ls st h = x_run 105 163 ls (.int (q_i 10) :: st) h := xe_bipush ec105 dX1_layWays_161 (by decide)
theorem e105_163 {ls st : List Value} {h : x_H} : x_run 105 163 ls st h = q_gi ls 4 (fun v => x_run 105 165 ls (.int v :: st) h) := xe_iload ec105 dX1_layWays_163
theorem e105_165 {ls st : List Value} {h : x_H} {b : Nat} {a1 a2 : Value}: x_run 105 165 ls (a2 :: a1 :: .ref b :: st) h = if q_rcv h b 6 = true then (if x_wt st ≤ 8 ∧ x_wt [.ref b, a1, a2] = 3 then q_cl (x_m 401 [.ref b, a1, a2] h) (fun v h' => x_run 105 168 ls (v.toList ++ st) h') else none) else none := xe_virt (r := [a1, a2]) ec105 dX1_layWays_165 ek1_29 rfl (by decide +kernel) (by decide +kernel)
theorem e105_168 {ls : List Value} {h : x_H} {x : Int32} : x_run 105 168 ls [.int x] h = if narrow .int (.int x) = .int x then some (.inl (some (.int x)), h) else none := xe_ireturn ec105 dX1_layWays_168 rfl
theorem e105_169 {ls st : List Value} {h : x_H} : x_run 105 169 ls st h = q_gr ls 0 (fun v => x_run 105 170 ls (.ref v :: st) h) := xe_aload_n ec105 dX1_layWays_169
theorem e105_170 {ls st : List Value} {h : x_H} : x_run 105 170 ls st h = q_gi ls 3 (fun v => x_run 105 171 ls (.int v :: st) h) := xe_iload_n ec105 dX1_layWays_170
theorem e105_171 {ls st : List Value} {h : x_H} {b : Nat} {a1 : Value}: x_run 105 171 ls (a1 :: .ref b :: st) h = if q_rcv h b 3 = true then (if x_wt st ≤ 8 ∧ x_wt [.ref b, a1] = 2 then q_cl (x_m 109 [.ref b, a1] h) (fun v h' => x_run 105 174 ls (v.toList ++ st) h') else none) else none := xe_virt (r := [a1]) ec105 dX1_layWays_171 ek1_105 rfl (by decide +kernel) (by decide +kernel)
theorem e105_174 {ls st : List Value} {h : x_H} : x_run 105 174 ls st h = q_gr ls 0 (fun v => x_run 105 175 ls (.ref v :: st) h) := xe_aload_n ec105 dX1_layWays_174
theorem e105_175 {ls st : List Value} {h : x_H} {a : Nat}: x_run 105 175 ls (.ref a :: st) h = q_gf h a 3 0 (fun v => x_run 105 178 ls (v :: st) h) := xe_getfield ec105 dX1_layWays_175 ef1_9
theorem e105_178 {ls st : List Value} {h : x_H} : x_run 105 178 ls st h = q_gi ls 1 (fun v => x_run 105 179 ls (.int v :: st) h) := xe_iload_n ec105 dX1_layWays_178
theorem e105_179 {ls st : List Value} {h : x_H} : x_run 105 179 ls st h = q_gr ls 0 (fun v => x_run 105 180 ls (.ref v :: st) h) := xe_aload_n ec105 dX1_layWays_179
theorem e105_180 {ls st : List Value} {h : x_H} {a : Nat}: x_run 105 180 ls (.ref a :: st) h = q_gf h a 3 1 (fun v => x_run 105 183 ls (v :: st) h) := xe_getfield ec105 dX1_layWays_180 ef1_15
theorem e105_183 {ls st : List Value} {h : x_H} {a : Nat}: x_run 105 183 ls (.ref a :: st) h = q_gf h a 7 10 (fun v => x_run 105 186 ls (v :: st) h) := xe_getfield ec105 dX1_layWays_183 ef1_108
theorem e105_186 {ls st : List Value} {h : x_H} : x_run 105 186 ls st h = q_gr ls 0 (fun v => x_run 105 187 ls (.ref v :: st) h) := xe_aload_n ec105 dX1_layWays_186
theorem e105_187 {ls st : List Value} {h : x_H} {a : Nat}: x_run 105 187 ls (.ref a :: st) h = q_gf h a 3 1 (fun v => x_run 105 190 ls (v :: st) h) := xe_getfield ec105 dX1_layWays_187 ef1_15
theorem e105_190 {ls st : List Value} {h : x_H} {a : Nat}: x_run 105 190 ls (.ref a :: st) h = q_gf h a 7 11 (fun v => x_run 105 193 ls (v :: st) h) := xe_getfield ec105 dX1_layWays_190 ef1_111
theorem e105_193 {ls st : List Value} {h : x_H} {b : Nat} {a1 a2 a3 : Value}: x_run 105 193 ls (a3 :: a2 :: a1 :: .ref b :: st) h = if q_rcv h b 2 = true then (if x_wt st ≤ 8 ∧ x_wt [.ref b, a1, a2, a3] = 4 then q_cl (x_m 15 [.ref b, a1, a2, a3] h) (fun v h' => x_run 105 196 ls (v.toList ++ st) h') else none) else none := xe_virt (r := [a1, a2, a3]) ec105 dX1_layWays_193 ek1_114 rfl (by decide +kernel) (by decide +kernel)
theorem e105_196 {ls st : List Value} {h : x_H} : x_run 105 196 ls st h = q_gr ls 0 (fun v => x_run 105 197 ls (.ref v :: st) h) := xe_aload_n ec105 dX1_layWays_196
theorem e105_197 {ls st : List Value} {h : x_H} {a : Nat}: x_run 105 197 ls (.ref a :: st) h = q_gf h a 3 0 (fun v => x_run 105 200 ls (v :: st) h) := xe_getfield ec105 dX1_layWays_197 ef1_9
theorem e105_200 {ls st : List Value} {h : x_H} {a : Nat}: x_run 105 200 ls (.ref a :: st) h = q_gf h a 2 5 (fun v => x_run 105 203 ls (v :: st) h) := xe_getfield ec105 dX1_layWays_200 ef1_118
theorem e105_203 {ls st : List Value} {h : x_H} : x_run 105 203 ls st h = q_gi ls 1 (fun v => x_run 105 204 ls (.int v :: st) h) := xe_iload_n ec105 dX1_layWays_203
theorem e105_204 {ls st : List Value} {h : x_H} : x_run 105 204 ls st h = q_gr ls 0 (fun v => x_run 105 205 ls (.ref v :: st) h) := xe_aload_n ec105 dX1_layWays_204
theorem e105_205 {ls st : List Value} {h : x_H} {a : Nat}: x_run 105 205 ls (.ref a :: st) h = q_gf h a 3 1 (fun v => x_run 105 208 ls (v :: st) h) := xe_getfield ec105 dX1_layWays_205 ef1_15
theorem e105_208 {ls st : List Value} {h : x_H} {a : Nat}: x_run 105 208 ls (.ref a :: st) h = q_gf h a 7 13 (fun v => x_run 105 211 ls (v :: st) h) := xe_getfield ec105 dX1_layWays_208 ef1_121
theorem e105_211 {ls st : List Value} {h : x_H} {x y : Int32} {a : Nat}: x_run 105 211 ls (.int y :: .int x :: .ref a :: st) h = q_wa h a 0 x y (fun h' => x_run 105 212 ls st h') := xe_iastore ec105 dX1_layWays_211
theorem e105_212 {ls st : List Value} {h : x_H} : x_run 105 212 ls st h = q_gi ls 2 (fun v => x_run 105 213 ls (.int v :: st) h) := xe_iload_n ec105 dX1_layWays_212
theorem e105_213 {ls st : List Value} {h : x_H} {x : Int32}: x_run 105 213 ls (.int x :: st) h = if x = 0 then x_run 105 220 ls st h else x_run 105 216 ls st h := xe_if_eq ec105 dX1_layWays_213 rfl
theorem e105_216 {ls st : List Value} {h : x_H} : x_run 105 216 ls st h = q_gi ls 3 (fun v => x_run 105 217 ls (.int v :: st) h) := xe_iload_n ec105 dX1_layWays_216
theorem e105_217 {ls st : List Value} {h : x_H} : x_run 105 217 ls st h = x_run 105 227 ls st h := xe_goto ec105 dX1_layWays_217 rfl
theorem e105_220 {ls st : List Value} {h : x_H} : x_run 105 220 ls st h = q_gr ls 0 (fun v => x_run 105 221 ls (.ref v :: st) h) := xe_aload_n ec105 dX1_layWays_220
theorem e105_221 {ls st : List Value} {h : x_H} {a : Nat}: x_run 105 221 ls (.ref a :: st) h = q_gf h a 3 1 (fun v => x_run 105 224 ls (v :: st) h) := xe_getfield ec105 dX1_layWays_221 ef1_15
theorem e105_224 {ls st : List Value} {h : x_H} {a : Nat}: x_run 105 224 ls (.ref a :: st) h = q_gf h a 7 13 (fun v => x_run 105 227 ls (v :: st) h) := xe_getfield ec105 dX1_layWays_224 ef1_121
theorem e105_227 {ls : List Value} {h : x_H} {x : Int32} : x_run 105 227 ls [.int x] h = if narrow .int (.int x) = .int x then some (.inl (some (.int x)), h) else none := xe_ireturn ec105 dX1_layWays_227 rfl
theorem ec106 : x_code 106 = cX1_takeWire := rfl
theorem e106_0 {ls st : List Value} {h : x_H} : x_run 106 0 ls st h = q_gr ls 0 (fun v => x_run 106 1 ls (.ref v :: st) h) := xe_aload_n ec106 dX1_takeWire_0
theorem e106_1 {ls st : List Value} {h : x_H} {a : Nat}: x_run 106 1 ls (.ref a :: st) h = q_gf h a 3 0 (fun v => x_run 106 4 ls (v :: st) h) := xe_getfield ec106 dX1_takeWire_1 ef1_9
theorem e106_4 {ls st : List Value} {h : x_H} : x_run 106 4 ls st h = q_gi ls 1 (fun v => x_run 106 5 ls (.int v :: st) h) := xe_iload_n ec106 dX1_takeWire_4
theorem e106_5 {ls st : List Value} {h : x_H} {b : Nat} {a1 : Value}: x_run 106 5 ls (a1 :: .ref b :: st) h = if q_rcv h b 2 = true then (if x_wt st ≤ 8 ∧ x_wt [.ref b, a1] = 2 then q_cl (x_m 2 [.ref b, a1] h) (fun v h' => x_run 106 8 ls (v.toList ++ st) h') else none) else none := xe_virt (r := [a1]) ec106 dX1_takeWire_5 ek1_39 rfl (by decide +kernel) (by decide +kernel)
theorem e106_8 {ls st : List Value} {h : x_H} {x : Int32}: x_run 106 8 ls (.int x :: st) h = if ¬ x = 0 then x_run 106 21 ls st h else x_run 106 11 ls st h := xe_if_ne ec106 dX1_takeWire_8 rfl
theorem e106_11 {ls st : List Value} {h : x_H} : x_run 106 11 ls st h = q_gr ls 0 (fun v => x_run 106 12 ls (.ref v :: st) h) := xe_aload_n ec106 dX1_takeWire_11
theorem e106_12 {ls st : List Value} {h : x_H} {a : Nat}: x_run 106 12 ls (.ref a :: st) h = q_gf h a 3 2 (fun v => x_run 106 15 ls (v :: st) h) := xe_getfield ec106 dX1_takeWire_12 ef1_19
theorem e106_15 {ls st : List Value} {h : x_H} : x_run 106 15 ls st h = x_run 106 16 ls (.int (q_i 3) :: st) h := xe_iconst ec106 dX1_takeWire_15
theorem e106_16 {ls st : List Value} {h : x_H} : x_run 106 16 ls st h = q_gi ls 1 (fun v => x_run 106 17 ls (.int v :: st) h) := xe_iload_n ec106 dX1_takeWire_16
theorem e106_17 {ls st : List Value} {h : x_H} {b : Nat} {a1 a2 : Value}: x_run 106 17 ls (a2 :: a1 :: .ref b :: st) h = if q_rcv h b 6 = true then (if x_wt st ≤ 8 ∧ x_wt [.ref b, a1, a2] = 3 then q_cl (x_m 401 [.ref b, a1, a2] h) (fun v h' => x_run 106 20 ls (v.toList ++ st) h') else none) else none := xe_virt (r := [a1, a2]) ec106 dX1_takeWire_17 ek1_29 rfl (by decide +kernel) (by decide +kernel)
theorem e106_20 {ls : List Value} {h : x_H} {x : Int32} : x_run 106 20 ls [.int x] h = if narrow .int (.int x) = .int x then some (.inl (some (.int x)), h) else none := xe_ireturn ec106 dX1_takeWire_20 rfl
theorem e106_21 {ls st : List Value} {h : x_H} : x_run 106 21 ls st h = q_gr ls 0 (fun v => x_run 106 22 ls (.ref v :: st) h) := xe_aload_n ec106 dX1_takeWire_21
theorem e106_22 {ls st : List Value} {h : x_H} {a : Nat}: x_run 106 22 ls (.ref a :: st) h = q_gf h a 3 0 (fun v => x_run 106 25 ls (v :: st) h) := xe_getfield ec106 dX1_takeWire_22 ef1_9
theorem e106_25 {ls st : List Value} {h : x_H} {a : Nat}: x_run 106 25 ls (.ref a :: st) h = q_gf h a 2 3 (fun v => x_run 106 28 ls (v :: st) h) := xe_getfield ec106 dX1_takeWire_25 ef1_47
theorem e106_28 {ls st : List Value} {h : x_H} : x_run 106 28 ls st h = q_gi ls 1 (fun v => x_run 106 29 ls (.int v :: st) h) := xe_iload_n ec106 dX1_takeWire_28
theorem e106_29 {ls st : List Value} {h : x_H} {x : Int32} {a : Nat}: x_run 106 29 ls (.int x :: .ref a :: st) h = q_ra h a 1 x (fun v => x_run 106 30 ls (.int v :: st) h) := xe_baload ec106 dX1_takeWire_29
theorem e106_30 {ls st : List Value} {h : x_H} {x : Int32}: x_run 106 30 ls (.int x :: st) h = if ¬ x = 0 then x_run 106 44 ls st h else x_run 106 33 ls st h := xe_if_ne ec106 dX1_takeWire_30 rfl
theorem e106_33 {ls st : List Value} {h : x_H} : x_run 106 33 ls st h = q_gr ls 0 (fun v => x_run 106 34 ls (.ref v :: st) h) := xe_aload_n ec106 dX1_takeWire_33
theorem e106_34 {ls st : List Value} {h : x_H} {a : Nat}: x_run 106 34 ls (.ref a :: st) h = q_gf h a 3 2 (fun v => x_run 106 37 ls (v :: st) h) := xe_getfield ec106 dX1_takeWire_34 ef1_19
theorem e106_37 {ls st : List Value} {h : x_H} : x_run 106 37 ls st h = x_run 106 39 ls (.int (q_i 11) :: st) h := xe_bipush ec106 dX1_takeWire_37 (by decide)
theorem e106_39 {ls st : List Value} {h : x_H} : x_run 106 39 ls st h = q_gi ls 1 (fun v => x_run 106 40 ls (.int v :: st) h) := xe_iload_n ec106 dX1_takeWire_39
theorem e106_40 {ls st : List Value} {h : x_H} {b : Nat} {a1 a2 : Value}: x_run 106 40 ls (a2 :: a1 :: .ref b :: st) h = if q_rcv h b 6 = true then (if x_wt st ≤ 8 ∧ x_wt [.ref b, a1, a2] = 3 then q_cl (x_m 401 [.ref b, a1, a2] h) (fun v h' => x_run 106 43 ls (v.toList ++ st) h') else none) else none := xe_virt (r := [a1, a2]) ec106 dX1_takeWire_40 ek1_29 rfl (by decide +kernel) (by decide +kernel)
theorem e106_43 {ls : List Value} {h : x_H} {x : Int32} : x_run 106 43 ls [.int x] h = if narrow .int (.int x) = .int x then some (.inl (some (.int x)), h) else none := xe_ireturn ec106 dX1_takeWire_43 rfl
theorem e106_44 {ls st : List Value} {h : x_H} : x_run 106 44 ls st h = q_gr ls 0 (fun v => x_run 106 45 ls (.ref v :: st) h) := xe_aload_n ec106 dX1_takeWire_44
theorem e106_45 {ls st : List Value} {h : x_H} {a : Nat}: x_run 106 45 ls (.ref a :: st) h = q_gf h a 3 0 (fun v => x_run 106 48 ls (v :: st) h) := xe_getfield ec106 dX1_takeWire_45 ef1_9
theorem e106_48 {ls st : List Value} {h : x_H} {a : Nat}: x_run 106 48 ls (.ref a :: st) h = q_gf h a 2 6 (fun v => x_run 106 51 ls (v :: st) h) := xe_getfield ec106 dX1_takeWire_48 ef1_123
theorem e106_51 {ls st : List Value} {h : x_H} : x_run 106 51 ls st h = q_gi ls 1 (fun v => x_run 106 52 ls (.int v :: st) h) := xe_iload_n ec106 dX1_takeWire_51
theorem e106_52 {ls st : List Value} {h : x_H} {x : Int32} {a : Nat}: x_run 106 52 ls (.int x :: .ref a :: st) h = q_ra h a 0 x (fun v => x_run 106 53 ls (.int v :: st) h) := xe_iaload ec106 dX1_takeWire_52
theorem e106_53 {ls st : List Value} {h : x_H} {x : Int32}: x_run 106 53 ls (.int x :: st) h = q_ls ls 2 (.int x) (fun ls' => x_run 106 54 ls' st h) := xe_istore_n ec106 dX1_takeWire_53
theorem e106_54 {ls st : List Value} {h : x_H} : x_run 106 54 ls st h = q_gr ls 0 (fun v => x_run 106 55 ls (.ref v :: st) h) := xe_aload_n ec106 dX1_takeWire_54
theorem e106_55 {ls st : List Value} {h : x_H} {a : Nat}: x_run 106 55 ls (.ref a :: st) h = q_gf h a 3 0 (fun v => x_run 106 58 ls (v :: st) h) := xe_getfield ec106 dX1_takeWire_55 ef1_9
theorem e106_58 {ls st : List Value} {h : x_H} : x_run 106 58 ls st h = q_gi ls 1 (fun v => x_run 106 59 ls (.int v :: st) h) := xe_iload_n ec106 dX1_takeWire_58
theorem e106_59 {ls st : List Value} {h : x_H} {b : Nat} {a1 : Value}: x_run 106 59 ls (a1 :: .ref b :: st) h = if q_rcv h b 2 = true then (if x_wt st ≤ 8 ∧ x_wt [.ref b, a1] = 2 then q_cl (x_m 16 [.ref b, a1] h) (fun v h' => x_run 106 62 ls (v.toList ++ st) h') else none) else none := xe_virt (r := [a1]) ec106 dX1_takeWire_59 ek1_126 rfl (by decide +kernel) (by decide +kernel)
theorem e106_62 {ls st : List Value} {h : x_H} : x_run 106 62 ls st h = q_gi ls 2 (fun v => x_run 106 63 ls (.int v :: st) h) := xe_iload_n ec106 dX1_takeWire_62
theorem e106_63 {ls : List Value} {h : x_H} {x : Int32} : x_run 106 63 ls [.int x] h = if narrow .int (.int x) = .int x then some (.inl (some (.int x)), h) else none := xe_ireturn ec106 dX1_takeWire_63 rfl
theorem ec107 : x_code 107 = cX1_refuseNotFree := rfl
theorem e107_0 {ls st : List Value} {h : x_H} : x_run 107 0 ls st h = q_gr ls 0 (fun v => x_run 107 1 ls (.ref v :: st) h) := xe_aload_n ec107 dX1_refuseNotFree_0
theorem e107_1 {ls st : List Value} {h : x_H} {a : Nat}: x_run 107 1 ls (.ref a :: st) h = q_gf h a 3 0 (fun v => x_run 107 4 ls (v :: st) h) := xe_getfield ec107 dX1_refuseNotFree_1 ef1_9
theorem e107_4 {ls st : List Value} {h : x_H} {a : Nat}: x_run 107 4 ls (.ref a :: st) h = q_gf h a 2 10 (fun v => x_run 107 7 ls (v :: st) h) := xe_getfield ec107 dX1_refuseNotFree_4 ef1_59
theorem e107_7 {ls st : List Value} {h : x_H} : x_run 107 7 ls st h = q_gi ls 1 (fun v => x_run 107 8 ls (.int v :: st) h) := xe_iload_n ec107 dX1_refuseNotFree_7
theorem e107_8 {ls st : List Value} {h : x_H} {x : Int32} {a : Nat}: x_run 107 8 ls (.int x :: .ref a :: st) h = q_ra h a 0 x (fun v => x_run 107 9 ls (.int v :: st) h) := xe_iaload ec107 dX1_refuseNotFree_8
theorem e107_9 {ls st : List Value} {h : x_H} {x : Int32}: x_run 107 9 ls (.int x :: st) h = q_ls ls 2 (.int x) (fun ls' => x_run 107 10 ls' st h) := xe_istore_n ec107 dX1_refuseNotFree_9
theorem e107_10 {ls st : List Value} {h : x_H} : x_run 107 10 ls st h = q_gr ls 0 (fun v => x_run 107 11 ls (.ref v :: st) h) := xe_aload_n ec107 dX1_refuseNotFree_10
theorem e107_11 {ls st : List Value} {h : x_H} {a : Nat}: x_run 107 11 ls (.ref a :: st) h = q_gf h a 3 2 (fun v => x_run 107 14 ls (v :: st) h) := xe_getfield ec107 dX1_refuseNotFree_11 ef1_19
theorem e107_14 {ls st : List Value} {h : x_H} : x_run 107 14 ls st h = x_run 107 15 ls (.int (q_i 5) :: st) h := xe_iconst ec107 dX1_refuseNotFree_14
theorem e107_15 {ls st : List Value} {h : x_H} : x_run 107 15 ls st h = q_gi ls 2 (fun v => x_run 107 16 ls (.int v :: st) h) := xe_iload_n ec107 dX1_refuseNotFree_15
theorem e107_16 {ls st : List Value} {h : x_H} : x_run 107 16 ls st h = x_run 107 18 ls (.int (q_i (-2)) :: st) h := xe_bipush ec107 dX1_refuseNotFree_16 (by decide)
theorem e107_18 {ls st : List Value} {h : x_H} {x y : Int32}: x_run 107 18 ls (.int y :: .int x :: st) h = if ¬ x = y then x_run 107 25 ls st h else x_run 107 21 ls st h := xe_ic_ne ec107 dX1_refuseNotFree_18 rfl
theorem e107_21 {ls st : List Value} {h : x_H} : x_run 107 21 ls st h = x_run 107 22 ls (.int (q_i (-1)) :: st) h := xe_iconst ec107 dX1_refuseNotFree_21
theorem e107_22 {ls st : List Value} {h : x_H} : x_run 107 22 ls st h = x_run 107 26 ls st h := xe_goto ec107 dX1_refuseNotFree_22 rfl
theorem e107_25 {ls st : List Value} {h : x_H} : x_run 107 25 ls st h = q_gi ls 2 (fun v => x_run 107 26 ls (.int v :: st) h) := xe_iload_n ec107 dX1_refuseNotFree_25
theorem e107_26 {ls st : List Value} {h : x_H} {b : Nat} {a1 a2 : Value}: x_run 107 26 ls (a2 :: a1 :: .ref b :: st) h = if q_rcv h b 6 = true then (if x_wt st ≤ 8 ∧ x_wt [.ref b, a1, a2] = 3 then q_cl (x_m 401 [.ref b, a1, a2] h) (fun v h' => x_run 107 29 ls (v.toList ++ st) h') else none) else none := xe_virt (r := [a1, a2]) ec107 dX1_refuseNotFree_26 ek1_29 rfl (by decide +kernel) (by decide +kernel)
theorem e107_29 {ls : List Value} {h : x_H} {x : Int32} : x_run 107 29 ls [.int x] h = if narrow .int (.int x) = .int x then some (.inl (some (.int x)), h) else none := xe_ireturn ec107 dX1_refuseNotFree_29 rfl
theorem ec108 : x_code 108 = cX1_countHolesOf := rfl
theorem e108_0 {ls st : List Value} {h : x_H} : x_run 108 0 ls st h = x_run 108 1 ls (.int (q_i 0) :: st) h := xe_iconst ec108 dX1_countHolesOf_0
theorem e108_1 {ls st : List Value} {h : x_H} {x : Int32}: x_run 108 1 ls (.int x :: st) h = q_ls ls 2 (.int x) (fun ls' => x_run 108 2 ls' st h) := xe_istore_n ec108 dX1_countHolesOf_1
theorem e108_2 {ls st : List Value} {h : x_H} : x_run 108 2 ls st h = x_run 108 3 ls (.int (q_i 0) :: st) h := xe_iconst ec108 dX1_countHolesOf_2
theorem e108_3 {ls st : List Value} {h : x_H} {x : Int32}: x_run 108 3 ls (.int x :: st) h = q_ls ls 3 (.int x) (fun ls' => x_run 108 4 ls' st h) := xe_istore_n ec108 dX1_countHolesOf_3
theorem e108_4 {ls st : List Value} {h : x_H} : x_run 108 4 ls st h = q_gi ls 3 (fun v => x_run 108 5 ls (.int v :: st) h) := xe_iload_n ec108 dX1_countHolesOf_4
theorem e108_5 {ls st : List Value} {h : x_H} : x_run 108 5 ls st h = x_run 108 7 ls (.int (q_i 6) :: st) h := xe_bipush ec108 dX1_countHolesOf_5 (by decide)
theorem e108_7 {ls st : List Value} {h : x_H} {x y : Int32}: x_run 108 7 ls (.int y :: .int x :: st) h = if y ≤ x then x_run 108 36 ls st h else x_run 108 10 ls st h := xe_ic_ge ec108 dX1_countHolesOf_7 rfl
theorem e108_10 {ls st : List Value} {h : x_H} : x_run 108 10 ls st h = q_gi ls 1 (fun v => x_run 108 11 ls (.int v :: st) h) := xe_iload_n ec108 dX1_countHolesOf_10
theorem e108_11 {ls st : List Value} {h : x_H} : x_run 108 11 ls st h = x_run 108 12 ls (.int (q_i 1) :: st) h := xe_iconst ec108 dX1_countHolesOf_11
theorem e108_12 {ls st : List Value} {h : x_H} : x_run 108 12 ls st h = q_gi ls 3 (fun v => x_run 108 13 ls (.int v :: st) h) := xe_iload_n ec108 dX1_countHolesOf_12
theorem e108_13 {ls st : List Value} {h : x_H} {x y : Int32}: x_run 108 13 ls (.int y :: .int x :: st) h = x_run 108 14 ls (.int (x <<< (y &&& 31)) :: st) h := xe_ishl ec108 dX1_countHolesOf_13
theorem e108_14 {ls st : List Value} {h : x_H} {x y : Int32}: x_run 108 14 ls (.int y :: .int x :: st) h = x_run 108 15 ls (.int (x &&& y) :: st) h := xe_iand ec108 dX1_countHolesOf_14
theorem e108_15 {ls st : List Value} {h : x_H} {x : Int32}: x_run 108 15 ls (.int x :: st) h = if x = 0 then x_run 108 30 ls st h else x_run 108 18 ls st h := xe_if_eq ec108 dX1_countHolesOf_15 rfl
theorem e108_18 {ls st : List Value} {h : x_H} : x_run 108 18 ls st h = q_gi ls 2 (fun v => x_run 108 19 ls (.int v :: st) h) := xe_iload_n ec108 dX1_countHolesOf_18
theorem e108_19 {ls st : List Value} {h : x_H} : x_run 108 19 ls st h = q_gr ls 0 (fun v => x_run 108 20 ls (.ref v :: st) h) := xe_aload_n ec108 dX1_countHolesOf_19
theorem e108_20 {ls st : List Value} {h : x_H} {a : Nat}: x_run 108 20 ls (.ref a :: st) h = q_gf h a 3 0 (fun v => x_run 108 23 ls (v :: st) h) := xe_getfield ec108 dX1_countHolesOf_20 ef1_9
theorem e108_23 {ls st : List Value} {h : x_H} {a : Nat}: x_run 108 23 ls (.ref a :: st) h = q_gf h a 2 7 (fun v => x_run 108 26 ls (v :: st) h) := xe_getfield ec108 dX1_countHolesOf_23 ef1_129
theorem e108_26 {ls st : List Value} {h : x_H} : x_run 108 26 ls st h = q_gi ls 3 (fun v => x_run 108 27 ls (.int v :: st) h) := xe_iload_n ec108 dX1_countHolesOf_26
theorem e108_27 {ls st : List Value} {h : x_H} {x : Int32} {a : Nat}: x_run 108 27 ls (.int x :: .ref a :: st) h = q_ra h a 0 x (fun v => x_run 108 28 ls (.int v :: st) h) := xe_iaload ec108 dX1_countHolesOf_27
theorem e108_28 {ls st : List Value} {h : x_H} {x y : Int32}: x_run 108 28 ls (.int y :: .int x :: st) h = x_run 108 29 ls (.int (x + y) :: st) h := xe_iadd ec108 dX1_countHolesOf_28
theorem e108_29 {ls st : List Value} {h : x_H} {x : Int32}: x_run 108 29 ls (.int x :: st) h = q_ls ls 2 (.int x) (fun ls' => x_run 108 30 ls' st h) := xe_istore_n ec108 dX1_countHolesOf_29
theorem e108_30 {ls st : List Value} {h : x_H} : x_run 108 30 ls st h = q_gi ls 3 (fun v => if x_nd ls 3 = true then x_run 108 33 (ls.set 3 (.int (v + q_i 1))) st h else none) := xe_iinc ec108 dX1_countHolesOf_30
theorem e108_33 {ls st : List Value} {h : x_H} : x_run 108 33 ls st h = x_run 108 4 ls st h := xe_goto ec108 dX1_countHolesOf_33 rfl
theorem e108_36 {ls st : List Value} {h : x_H} : x_run 108 36 ls st h = q_gi ls 2 (fun v => x_run 108 37 ls (.int v :: st) h) := xe_iload_n ec108 dX1_countHolesOf_36
theorem e108_37 {ls : List Value} {h : x_H} {x : Int32} : x_run 108 37 ls [.int x] h = if narrow .int (.int x) = .int x then some (.inl (some (.int x)), h) else none := xe_ireturn ec108 dX1_countHolesOf_37 rfl
theorem ec109 : x_code 109 = cX1_ripAll := rfl
theorem e109_0 {ls st : List Value} {h : x_H} : x_run 109 0 ls st h = x_run 109 1 ls (.int (q_i 0) :: st) h := xe_iconst ec109 dX1_ripAll_0
theorem e109_1 {ls st : List Value} {h : x_H} {x : Int32}: x_run 109 1 ls (.int x :: st) h = q_ls ls 2 (.int x) (fun ls' => x_run 109 2 ls' st h) := xe_istore_n ec109 dX1_ripAll_1
theorem e109_2 {ls st : List Value} {h : x_H} : x_run 109 2 ls st h = q_gi ls 2 (fun v => x_run 109 3 ls (.int v :: st) h) := xe_iload_n ec109 dX1_ripAll_2
theorem e109_3 {ls st : List Value} {h : x_H} : x_run 109 3 ls st h = x_run 109 5 ls (.int (q_i 6) :: st) h := xe_bipush ec109 dX1_ripAll_3 (by decide)
theorem e109_5 {ls st : List Value} {h : x_H} {x y : Int32}: x_run 109 5 ls (.int y :: .int x :: st) h = if y ≤ x then x_run 109 30 ls st h else x_run 109 8 ls st h := xe_ic_ge ec109 dX1_ripAll_5 rfl
theorem e109_8 {ls st : List Value} {h : x_H} : x_run 109 8 ls st h = q_gi ls 1 (fun v => x_run 109 9 ls (.int v :: st) h) := xe_iload_n ec109 dX1_ripAll_8
theorem e109_9 {ls st : List Value} {h : x_H} : x_run 109 9 ls st h = x_run 109 10 ls (.int (q_i 1) :: st) h := xe_iconst ec109 dX1_ripAll_9
theorem e109_10 {ls st : List Value} {h : x_H} : x_run 109 10 ls st h = q_gi ls 2 (fun v => x_run 109 11 ls (.int v :: st) h) := xe_iload_n ec109 dX1_ripAll_10
theorem e109_11 {ls st : List Value} {h : x_H} {x y : Int32}: x_run 109 11 ls (.int y :: .int x :: st) h = x_run 109 12 ls (.int (x <<< (y &&& 31)) :: st) h := xe_ishl ec109 dX1_ripAll_11
theorem e109_12 {ls st : List Value} {h : x_H} {x y : Int32}: x_run 109 12 ls (.int y :: .int x :: st) h = x_run 109 13 ls (.int (x &&& y) :: st) h := xe_iand ec109 dX1_ripAll_12
theorem e109_13 {ls st : List Value} {h : x_H} {x : Int32}: x_run 109 13 ls (.int x :: st) h = if x = 0 then x_run 109 24 ls st h else x_run 109 16 ls st h := xe_if_eq ec109 dX1_ripAll_13 rfl
theorem e109_16 {ls st : List Value} {h : x_H} : x_run 109 16 ls st h = q_gr ls 0 (fun v => x_run 109 17 ls (.ref v :: st) h) := xe_aload_n ec109 dX1_ripAll_16
theorem e109_17 {ls st : List Value} {h : x_H} {a : Nat}: x_run 109 17 ls (.ref a :: st) h = q_gf h a 3 0 (fun v => x_run 109 20 ls (v :: st) h) := xe_getfield ec109 dX1_ripAll_17 ef1_9
theorem e109_20 {ls st : List Value} {h : x_H} : x_run 109 20 ls st h = q_gi ls 2 (fun v => x_run 109 21 ls (.int v :: st) h) := xe_iload_n ec109 dX1_ripAll_20
theorem e109_21 {ls st : List Value} {h : x_H} {b : Nat} {a1 : Value}: x_run 109 21 ls (a1 :: .ref b :: st) h = if q_rcv h b 2 = true then (if x_wt st ≤ 8 ∧ x_wt [.ref b, a1] = 2 then q_cl (x_m 16 [.ref b, a1] h) (fun v h' => x_run 109 24 ls (v.toList ++ st) h') else none) else none := xe_virt (r := [a1]) ec109 dX1_ripAll_21 ek1_126 rfl (by decide +kernel) (by decide +kernel)
theorem e109_24 {ls st : List Value} {h : x_H} : x_run 109 24 ls st h = q_gi ls 2 (fun v => if x_nd ls 2 = true then x_run 109 27 (ls.set 2 (.int (v + q_i 1))) st h else none) := xe_iinc ec109 dX1_ripAll_24
theorem e109_27 {ls st : List Value} {h : x_H} : x_run 109 27 ls st h = x_run 109 2 ls st h := xe_goto ec109 dX1_ripAll_27 rfl
theorem e109_30 {ls : List Value} {h : x_H} : x_run 109 30 ls [] h = some (.inl (none), h) := xe_return ec109 dX1_ripAll_30 rfl
theorem ec110 : x_code 110 = cX1_lowestOf := rfl
theorem e110_0 {ls st : List Value} {h : x_H} : x_run 110 0 ls st h = x_run 110 1 ls (.int (q_i 0) :: st) h := xe_iconst ec110 dX1_lowestOf_0
theorem e110_1 {ls st : List Value} {h : x_H} {x : Int32}: x_run 110 1 ls (.int x :: st) h = q_ls ls 1 (.int x) (fun ls' => x_run 110 2 ls' st h) := xe_istore_n ec110 dX1_lowestOf_1
theorem e110_2 {ls st : List Value} {h : x_H} : x_run 110 2 ls st h = q_gi ls 1 (fun v => x_run 110 3 ls (.int v :: st) h) := xe_iload_n ec110 dX1_lowestOf_2
theorem e110_3 {ls st : List Value} {h : x_H} : x_run 110 3 ls st h = x_run 110 5 ls (.int (q_i 6) :: st) h := xe_bipush ec110 dX1_lowestOf_3 (by decide)
theorem e110_5 {ls st : List Value} {h : x_H} {x y : Int32}: x_run 110 5 ls (.int y :: .int x :: st) h = if y ≤ x then x_run 110 22 ls st h else x_run 110 8 ls st h := xe_ic_ge ec110 dX1_lowestOf_5 rfl
theorem e110_8 {ls st : List Value} {h : x_H} : x_run 110 8 ls st h = q_gi ls 0 (fun v => x_run 110 9 ls (.int v :: st) h) := xe_iload_n ec110 dX1_lowestOf_8
theorem e110_9 {ls st : List Value} {h : x_H} : x_run 110 9 ls st h = x_run 110 10 ls (.int (q_i 1) :: st) h := xe_iconst ec110 dX1_lowestOf_9
theorem e110_10 {ls st : List Value} {h : x_H} : x_run 110 10 ls st h = q_gi ls 1 (fun v => x_run 110 11 ls (.int v :: st) h) := xe_iload_n ec110 dX1_lowestOf_10
theorem e110_11 {ls st : List Value} {h : x_H} {x y : Int32}: x_run 110 11 ls (.int y :: .int x :: st) h = x_run 110 12 ls (.int (x <<< (y &&& 31)) :: st) h := xe_ishl ec110 dX1_lowestOf_11
theorem e110_12 {ls st : List Value} {h : x_H} {x y : Int32}: x_run 110 12 ls (.int y :: .int x :: st) h = x_run 110 13 ls (.int (x &&& y) :: st) h := xe_iand ec110 dX1_lowestOf_12
theorem e110_13 {ls st : List Value} {h : x_H} {x : Int32}: x_run 110 13 ls (.int x :: st) h = if ¬ x = 0 then x_run 110 22 ls st h else x_run 110 16 ls st h := xe_if_ne ec110 dX1_lowestOf_13 rfl
theorem e110_16 {ls st : List Value} {h : x_H} : x_run 110 16 ls st h = q_gi ls 1 (fun v => if x_nd ls 1 = true then x_run 110 19 (ls.set 1 (.int (v + q_i 1))) st h else none) := xe_iinc ec110 dX1_lowestOf_16
theorem e110_19 {ls st : List Value} {h : x_H} : x_run 110 19 ls st h = x_run 110 2 ls st h := xe_goto ec110 dX1_lowestOf_19 rfl
theorem e110_22 {ls st : List Value} {h : x_H} : x_run 110 22 ls st h = q_gi ls 1 (fun v => x_run 110 23 ls (.int v :: st) h) := xe_iload_n ec110 dX1_lowestOf_22
theorem e110_23 {ls : List Value} {h : x_H} {x : Int32} : x_run 110 23 ls [.int x] h = if narrow .int (.int x) = .int x then some (.inl (some (.int x)), h) else none := xe_ireturn ec110 dX1_lowestOf_23 rfl
