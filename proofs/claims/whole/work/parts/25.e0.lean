theorem ec0 : x_code 0 = cX0_init := rfl
theorem e0_0 {ls st : List Value} {h : x_H} : x_run 0 0 ls st h = q_gr ls 0 (fun v => x_run 0 1 ls (.ref v :: st) h) := xe_aload_n ec0 dX0_init_0
theorem e0_1 {ls st : List Value} {h : x_H} {a : Nat}: x_run 0 1 ls (.ref a :: st) h = if x_wt st ≤ 8 then x_run 0 4 ls st h else none := xe_obj ec0 dX0_init_1 ek0_3
theorem e0_4 {ls st : List Value} {h : x_H} : x_run 0 4 ls st h = q_gr ls 0 (fun v => x_run 0 5 ls (.ref v :: st) h) := xe_aload_n ec0 dX0_init_4
theorem e0_5 {ls st : List Value} {h : x_H} : x_run 0 5 ls st h = x_run 0 6 ls (.int (q_i 0) :: st) h := xe_iconst ec0 dX0_init_5
theorem e0_6 {ls st : List Value} {h : x_H} {v : Value} {a : Nat}: x_run 0 6 ls (v :: .ref a :: st) h = if x_fit (x_ty 2 0) v = true then q_pf h a 2 0 v (fun h' => x_run 0 9 ls st h') else none := xe_putfield ec0 dX0_init_6 ef0_9 (by decide +kernel)
theorem e0_9 {ls st : List Value} {h : x_H} : x_run 0 9 ls st h = q_gr ls 0 (fun v => x_run 0 10 ls (.ref v :: st) h) := xe_aload_n ec0 dX0_init_9
theorem e0_10 {ls st : List Value} {h : x_H} : x_run 0 10 ls st h = x_run 0 11 ls (.int (q_i 0) :: st) h := xe_iconst ec0 dX0_init_10
theorem e0_11 {ls st : List Value} {h : x_H} {v : Value} {a : Nat}: x_run 0 11 ls (v :: .ref a :: st) h = if x_fit (x_ty 2 1) v = true then q_pf h a 2 1 v (fun h' => x_run 0 14 ls st h') else none := xe_putfield ec0 dX0_init_11 ef0_15 (by decide +kernel)
theorem e0_14 {ls st : List Value} {h : x_H} : x_run 0 14 ls st h = q_gr ls 0 (fun v => x_run 0 15 ls (.ref v :: st) h) := xe_aload_n ec0 dX0_init_14
theorem e0_15 {ls st : List Value} {h : x_H} : x_run 0 15 ls st h = x_run 0 17 ls (.int (q_i 6) :: st) h := xe_bipush ec0 dX0_init_15 (by decide)
theorem e0_17 {ls st : List Value} {h : x_H} {x : Int32}: x_run 0 17 ls (.int x :: st) h = q_na h x (fun n => .inl (1, List.replicate n 0)) (fun a h' => x_run 0 19 ls (.ref a :: st) h') := xe_newarray_boolean ec0 dX0_init_17
theorem e0_19 {ls st : List Value} {h : x_H} {v : Value} {a : Nat}: x_run 0 19 ls (v :: .ref a :: st) h = if x_fit (x_ty 2 2) v = true then q_pf h a 2 2 v (fun h' => x_run 0 22 ls st h') else none := xe_putfield ec0 dX0_init_19 ef0_18 (by decide +kernel)
theorem e0_22 {ls st : List Value} {h : x_H} : x_run 0 22 ls st h = q_gr ls 0 (fun v => x_run 0 23 ls (.ref v :: st) h) := xe_aload_n ec0 dX0_init_22
theorem e0_23 {ls st : List Value} {h : x_H} : x_run 0 23 ls st h = x_run 0 25 ls (.int (q_i 6) :: st) h := xe_bipush ec0 dX0_init_23 (by decide)
theorem e0_25 {ls st : List Value} {h : x_H} {x : Int32}: x_run 0 25 ls (.int x :: st) h = q_na h x (fun n => .inl (1, List.replicate n 0)) (fun a h' => x_run 0 27 ls (.ref a :: st) h') := xe_newarray_boolean ec0 dX0_init_25
theorem e0_27 {ls st : List Value} {h : x_H} {v : Value} {a : Nat}: x_run 0 27 ls (v :: .ref a :: st) h = if x_fit (x_ty 2 3) v = true then q_pf h a 2 3 v (fun h' => x_run 0 30 ls st h') else none := xe_putfield ec0 dX0_init_27 ef0_22 (by decide +kernel)
theorem e0_30 {ls st : List Value} {h : x_H} : x_run 0 30 ls st h = q_gr ls 0 (fun v => x_run 0 31 ls (.ref v :: st) h) := xe_aload_n ec0 dX0_init_30
theorem e0_31 {ls st : List Value} {h : x_H} : x_run 0 31 ls st h = x_run 0 33 ls (.int (q_i 6) :: st) h := xe_bipush ec0 dX0_init_31 (by decide)
theorem e0_33 {ls st : List Value} {h : x_H} {x : Int32}: x_run 0 33 ls (.int x :: st) h = q_na h x (fun n => .inl (0, List.replicate n 0)) (fun a h' => x_run 0 35 ls (.ref a :: st) h') := xe_newarray_int ec0 dX0_init_33
theorem e0_35 {ls st : List Value} {h : x_H} {v : Value} {a : Nat}: x_run 0 35 ls (v :: .ref a :: st) h = if x_fit (x_ty 2 4) v = true then q_pf h a 2 4 v (fun h' => x_run 0 38 ls st h') else none := xe_putfield ec0 dX0_init_35 ef0_25 (by decide +kernel)
theorem e0_38 {ls st : List Value} {h : x_H} : x_run 0 38 ls st h = q_gr ls 0 (fun v => x_run 0 39 ls (.ref v :: st) h) := xe_aload_n ec0 dX0_init_38
theorem e0_39 {ls st : List Value} {h : x_H} : x_run 0 39 ls st h = x_run 0 41 ls (.int (q_i 6) :: st) h := xe_bipush ec0 dX0_init_39 (by decide)
theorem e0_41 {ls st : List Value} {h : x_H} {x : Int32}: x_run 0 41 ls (.int x :: st) h = q_na h x (fun n => .inl (0, List.replicate n 0)) (fun a h' => x_run 0 43 ls (.ref a :: st) h') := xe_newarray_int ec0 dX0_init_41
theorem e0_43 {ls st : List Value} {h : x_H} {v : Value} {a : Nat}: x_run 0 43 ls (v :: .ref a :: st) h = if x_fit (x_ty 2 5) v = true then q_pf h a 2 5 v (fun h' => x_run 0 46 ls st h') else none := xe_putfield ec0 dX0_init_43 ef0_29 (by decide +kernel)
theorem e0_46 {ls st : List Value} {h : x_H} : x_run 0 46 ls st h = q_gr ls 0 (fun v => x_run 0 47 ls (.ref v :: st) h) := xe_aload_n ec0 dX0_init_46
theorem e0_47 {ls st : List Value} {h : x_H} : x_run 0 47 ls st h = x_run 0 49 ls (.int (q_i 6) :: st) h := xe_bipush ec0 dX0_init_47 (by decide)
theorem e0_49 {ls st : List Value} {h : x_H} {x : Int32}: x_run 0 49 ls (.int x :: st) h = q_na h x (fun n => .inl (0, List.replicate n 0)) (fun a h' => x_run 0 51 ls (.ref a :: st) h') := xe_newarray_int ec0 dX0_init_49
theorem e0_51 {ls st : List Value} {h : x_H} {v : Value} {a : Nat}: x_run 0 51 ls (v :: .ref a :: st) h = if x_fit (x_ty 2 6) v = true then q_pf h a 2 6 v (fun h' => x_run 0 54 ls st h') else none := xe_putfield ec0 dX0_init_51 ef0_32 (by decide +kernel)
theorem e0_54 {ls st : List Value} {h : x_H} : x_run 0 54 ls st h = q_gr ls 0 (fun v => x_run 0 55 ls (.ref v :: st) h) := xe_aload_n ec0 dX0_init_54
theorem e0_55 {ls st : List Value} {h : x_H} : x_run 0 55 ls st h = x_run 0 57 ls (.int (q_i 6) :: st) h := xe_bipush ec0 dX0_init_55 (by decide)
theorem e0_57 {ls st : List Value} {h : x_H} {x : Int32}: x_run 0 57 ls (.int x :: st) h = q_na h x (fun n => .inl (0, List.replicate n 0)) (fun a h' => x_run 0 59 ls (.ref a :: st) h') := xe_newarray_int ec0 dX0_init_57
theorem e0_59 {ls st : List Value} {h : x_H} {v : Value} {a : Nat}: x_run 0 59 ls (v :: .ref a :: st) h = if x_fit (x_ty 2 7) v = true then q_pf h a 2 7 v (fun h' => x_run 0 62 ls st h') else none := xe_putfield ec0 dX0_init_59 ef0_35 (by decide +kernel)
theorem e0_62 {ls st : List Value} {h : x_H} : x_run 0 62 ls st h = q_gr ls 0 (fun v => x_run 0 63 ls (.ref v :: st) h) := xe_aload_n ec0 dX0_init_62
theorem e0_63 {ls st : List Value} {h : x_H} : x_run 0 63 ls st h = x_run 0 65 ls (.int (q_i 6) :: st) h := xe_bipush ec0 dX0_init_63 (by decide)
theorem e0_65 {ls st : List Value} {h : x_H} {x : Int32}: x_run 0 65 ls (.int x :: st) h = q_na h x (fun n => .inl (0, List.replicate n 0)) (fun a h' => x_run 0 67 ls (.ref a :: st) h') := xe_newarray_int ec0 dX0_init_65
theorem e0_67 {ls st : List Value} {h : x_H} {v : Value} {a : Nat}: x_run 0 67 ls (v :: .ref a :: st) h = if x_fit (x_ty 2 8) v = true then q_pf h a 2 8 v (fun h' => x_run 0 70 ls st h') else none := xe_putfield ec0 dX0_init_67 ef0_38 (by decide +kernel)
theorem e0_70 {ls st : List Value} {h : x_H} : x_run 0 70 ls st h = q_gr ls 0 (fun v => x_run 0 71 ls (.ref v :: st) h) := xe_aload_n ec0 dX0_init_70
theorem e0_71 {ls st : List Value} {h : x_H} : x_run 0 71 ls st h = x_run 0 73 ls (.int (q_i 24) :: st) h := xe_bipush ec0 dX0_init_71 (by decide)
theorem e0_73 {ls st : List Value} {h : x_H} {x : Int32}: x_run 0 73 ls (.int x :: st) h = q_na h x (fun n => .inl (0, List.replicate n 0)) (fun a h' => x_run 0 75 ls (.ref a :: st) h') := xe_newarray_int ec0 dX0_init_73
theorem e0_75 {ls st : List Value} {h : x_H} {v : Value} {a : Nat}: x_run 0 75 ls (v :: .ref a :: st) h = if x_fit (x_ty 2 9) v = true then q_pf h a 2 9 v (fun h' => x_run 0 78 ls st h') else none := xe_putfield ec0 dX0_init_75 ef0_41 (by decide +kernel)
theorem e0_78 {ls st : List Value} {h : x_H} : x_run 0 78 ls st h = q_gr ls 0 (fun v => x_run 0 79 ls (.ref v :: st) h) := xe_aload_n ec0 dX0_init_78
theorem e0_79 {ls st : List Value} {h : x_H} : x_run 0 79 ls st h = x_run 0 81 ls (.int (q_i 96) :: st) h := xe_bipush ec0 dX0_init_79 (by decide)
theorem e0_81 {ls st : List Value} {h : x_H} {x : Int32}: x_run 0 81 ls (.int x :: st) h = q_na h x (fun n => .inl (0, List.replicate n 0)) (fun a h' => x_run 0 83 ls (.ref a :: st) h') := xe_newarray_int ec0 dX0_init_81
theorem e0_83 {ls st : List Value} {h : x_H} {v : Value} {a : Nat}: x_run 0 83 ls (v :: .ref a :: st) h = if x_fit (x_ty 2 10) v = true then q_pf h a 2 10 v (fun h' => x_run 0 86 ls st h') else none := xe_putfield ec0 dX0_init_83 ef0_44 (by decide +kernel)
theorem e0_86 {ls st : List Value} {h : x_H} : x_run 0 86 ls st h = q_gr ls 0 (fun v => x_run 0 87 ls (.ref v :: st) h) := xe_aload_n ec0 dX0_init_86
theorem e0_87 {ls st : List Value} {h : x_H} : x_run 0 87 ls st h = x_run 0 89 ls (.int (q_i 48) :: st) h := xe_bipush ec0 dX0_init_87 (by decide)
theorem e0_89 {ls st : List Value} {h : x_H} {x : Int32}: x_run 0 89 ls (.int x :: st) h = q_na h x (fun n => .inl (1, List.replicate n 0)) (fun a h' => x_run 0 91 ls (.ref a :: st) h') := xe_newarray_boolean ec0 dX0_init_89
theorem e0_91 {ls st : List Value} {h : x_H} {v : Value} {a : Nat}: x_run 0 91 ls (v :: .ref a :: st) h = if x_fit (x_ty 2 11) v = true then q_pf h a 2 11 v (fun h' => x_run 0 94 ls st h') else none := xe_putfield ec0 dX0_init_91 ef0_47 (by decide +kernel)
theorem e0_94 {ls st : List Value} {h : x_H} : x_run 0 94 ls st h = q_gr ls 0 (fun v => x_run 0 95 ls (.ref v :: st) h) := xe_aload_n ec0 dX0_init_94
theorem e0_95 {ls st : List Value} {h : x_H} : x_run 0 95 ls st h = x_run 0 97 ls (.int (q_i 48) :: st) h := xe_bipush ec0 dX0_init_95 (by decide)
theorem e0_97 {ls st : List Value} {h : x_H} {x : Int32}: x_run 0 97 ls (.int x :: st) h = q_na h x (fun n => .inl (1, List.replicate n 0)) (fun a h' => x_run 0 99 ls (.ref a :: st) h') := xe_newarray_boolean ec0 dX0_init_97
theorem e0_99 {ls st : List Value} {h : x_H} {v : Value} {a : Nat}: x_run 0 99 ls (v :: .ref a :: st) h = if x_fit (x_ty 2 12) v = true then q_pf h a 2 12 v (fun h' => x_run 0 102 ls st h') else none := xe_putfield ec0 dX0_init_99 ef0_50 (by decide +kernel)
theorem e0_102 {ls st : List Value} {h : x_H} : x_run 0 102 ls st h = x_run 0 103 ls (.int (q_i 0) :: st) h := xe_iconst ec0 dX0_init_102
theorem e0_103 {ls st : List Value} {h : x_H} {x : Int32}: x_run 0 103 ls (.int x :: st) h = q_ls ls 1 (.int x) (fun ls' => x_run 0 104 ls' st h) := xe_istore_n ec0 dX0_init_103
theorem e0_104 {ls st : List Value} {h : x_H} : x_run 0 104 ls st h = q_gi ls 1 (fun v => x_run 0 105 ls (.int v :: st) h) := xe_iload_n ec0 dX0_init_104
theorem e0_105 {ls st : List Value} {h : x_H} : x_run 0 105 ls st h = x_run 0 107 ls (.int (q_i 96) :: st) h := xe_bipush ec0 dX0_init_105 (by decide)
theorem e0_107 {ls st : List Value} {h : x_H} {x y : Int32}: x_run 0 107 ls (.int y :: .int x :: st) h = if y ≤ x then x_run 0 123 ls st h else x_run 0 110 ls st h := xe_ic_ge ec0 dX0_init_107 rfl
theorem e0_110 {ls st : List Value} {h : x_H} : x_run 0 110 ls st h = q_gr ls 0 (fun v => x_run 0 111 ls (.ref v :: st) h) := xe_aload_n ec0 dX0_init_110
theorem e0_111 {ls st : List Value} {h : x_H} {a : Nat}: x_run 0 111 ls (.ref a :: st) h = q_gf h a 2 10 (fun v => x_run 0 114 ls (v :: st) h) := xe_getfield ec0 dX0_init_111 ef0_44
theorem e0_114 {ls st : List Value} {h : x_H} : x_run 0 114 ls st h = q_gi ls 1 (fun v => x_run 0 115 ls (.int v :: st) h) := xe_iload_n ec0 dX0_init_114
theorem e0_115 {ls st : List Value} {h : x_H} : x_run 0 115 ls st h = x_run 0 116 ls (.int (q_i (-1)) :: st) h := xe_iconst ec0 dX0_init_115
theorem e0_116 {ls st : List Value} {h : x_H} {x y : Int32} {a : Nat}: x_run 0 116 ls (.int y :: .int x :: .ref a :: st) h = q_wa h a 0 x y (fun h' => x_run 0 117 ls st h') := xe_iastore ec0 dX0_init_116
theorem e0_117 {ls st : List Value} {h : x_H} : x_run 0 117 ls st h = q_gi ls 1 (fun v => if x_nd ls 1 = true then x_run 0 120 (ls.set 1 (.int (v + q_i 1))) st h else none) := xe_iinc ec0 dX0_init_117
theorem e0_120 {ls st : List Value} {h : x_H} : x_run 0 120 ls st h = x_run 0 104 ls st h := xe_goto ec0 dX0_init_120 rfl
theorem e0_123 {ls : List Value} {h : x_H} : x_run 0 123 ls [] h = some (.inl (none), h) := xe_return ec0 dX0_init_123 rfl
theorem ec1 : x_code 1 = cX0_copyFrom := rfl
theorem e1_0 {ls st : List Value} {h : x_H} : x_run 1 0 ls st h = q_gr ls 0 (fun v => x_run 1 1 ls (.ref v :: st) h) := xe_aload_n ec1 dX0_copyFrom_0
theorem e1_1 {ls st : List Value} {h : x_H} : x_run 1 1 ls st h = q_gr ls 1 (fun v => x_run 1 2 ls (.ref v :: st) h) := xe_aload_n ec1 dX0_copyFrom_1
theorem e1_2 {ls st : List Value} {h : x_H} {a : Nat}: x_run 1 2 ls (.ref a :: st) h = q_gf h a 2 0 (fun v => x_run 1 5 ls (v :: st) h) := xe_getfield ec1 dX0_copyFrom_2 ef0_9
theorem e1_5 {ls st : List Value} {h : x_H} {v : Value} {a : Nat}: x_run 1 5 ls (v :: .ref a :: st) h = if x_fit (x_ty 2 0) v = true then q_pf h a 2 0 v (fun h' => x_run 1 8 ls st h') else none := xe_putfield ec1 dX0_copyFrom_5 ef0_9 (by decide +kernel)
theorem e1_8 {ls st : List Value} {h : x_H} : x_run 1 8 ls st h = q_gr ls 0 (fun v => x_run 1 9 ls (.ref v :: st) h) := xe_aload_n ec1 dX0_copyFrom_8
theorem e1_9 {ls st : List Value} {h : x_H} : x_run 1 9 ls st h = q_gr ls 1 (fun v => x_run 1 10 ls (.ref v :: st) h) := xe_aload_n ec1 dX0_copyFrom_9
theorem e1_10 {ls st : List Value} {h : x_H} {a : Nat}: x_run 1 10 ls (.ref a :: st) h = q_gf h a 2 1 (fun v => x_run 1 13 ls (v :: st) h) := xe_getfield ec1 dX0_copyFrom_10 ef0_15
theorem e1_13 {ls st : List Value} {h : x_H} {v : Value} {a : Nat}: x_run 1 13 ls (v :: .ref a :: st) h = if x_fit (x_ty 2 1) v = true then q_pf h a 2 1 v (fun h' => x_run 1 16 ls st h') else none := xe_putfield ec1 dX0_copyFrom_13 ef0_15 (by decide +kernel)
theorem e1_16 {ls st : List Value} {h : x_H} : x_run 1 16 ls st h = x_run 1 17 ls (.int (q_i 0) :: st) h := xe_iconst ec1 dX0_copyFrom_16
theorem e1_17 {ls st : List Value} {h : x_H} {x : Int32}: x_run 1 17 ls (.int x :: st) h = q_ls ls 2 (.int x) (fun ls' => x_run 1 18 ls' st h) := xe_istore_n ec1 dX0_copyFrom_17
theorem e1_18 {ls st : List Value} {h : x_H} : x_run 1 18 ls st h = q_gi ls 2 (fun v => x_run 1 19 ls (.int v :: st) h) := xe_iload_n ec1 dX0_copyFrom_18
theorem e1_19 {ls st : List Value} {h : x_H} : x_run 1 19 ls st h = x_run 1 21 ls (.int (q_i 6) :: st) h := xe_bipush ec1 dX0_copyFrom_19 (by decide)
theorem e1_21 {ls st : List Value} {h : x_H} {x y : Int32}: x_run 1 21 ls (.int y :: .int x :: st) h = if y ≤ x then x_run 1 54 ls st h else x_run 1 24 ls st h := xe_ic_ge ec1 dX0_copyFrom_21 rfl
theorem e1_24 {ls st : List Value} {h : x_H} : x_run 1 24 ls st h = q_gr ls 0 (fun v => x_run 1 25 ls (.ref v :: st) h) := xe_aload_n ec1 dX0_copyFrom_24
theorem e1_25 {ls st : List Value} {h : x_H} {a : Nat}: x_run 1 25 ls (.ref a :: st) h = q_gf h a 2 2 (fun v => x_run 1 28 ls (v :: st) h) := xe_getfield ec1 dX0_copyFrom_25 ef0_18
theorem e1_28 {ls st : List Value} {h : x_H} : x_run 1 28 ls st h = q_gi ls 2 (fun v => x_run 1 29 ls (.int v :: st) h) := xe_iload_n ec1 dX0_copyFrom_28
theorem e1_29 {ls st : List Value} {h : x_H} : x_run 1 29 ls st h = q_gr ls 1 (fun v => x_run 1 30 ls (.ref v :: st) h) := xe_aload_n ec1 dX0_copyFrom_29
theorem e1_30 {ls st : List Value} {h : x_H} {a : Nat}: x_run 1 30 ls (.ref a :: st) h = q_gf h a 2 2 (fun v => x_run 1 33 ls (v :: st) h) := xe_getfield ec1 dX0_copyFrom_30 ef0_18
theorem e1_33 {ls st : List Value} {h : x_H} : x_run 1 33 ls st h = q_gi ls 2 (fun v => x_run 1 34 ls (.int v :: st) h) := xe_iload_n ec1 dX0_copyFrom_33
theorem e1_34 {ls st : List Value} {h : x_H} {x : Int32} {a : Nat}: x_run 1 34 ls (.int x :: .ref a :: st) h = q_ra h a 1 x (fun v => x_run 1 35 ls (.int v :: st) h) := xe_baload ec1 dX0_copyFrom_34
theorem e1_35 {ls st : List Value} {h : x_H} {x y : Int32} {a : Nat}: x_run 1 35 ls (.int y :: .int x :: .ref a :: st) h = q_wa h a 1 x (vp_nar .boolean y) (fun h' => x_run 1 36 ls st h') := xe_bastore ec1 dX0_copyFrom_35
theorem e1_36 {ls st : List Value} {h : x_H} : x_run 1 36 ls st h = q_gr ls 0 (fun v => x_run 1 37 ls (.ref v :: st) h) := xe_aload_n ec1 dX0_copyFrom_36
theorem e1_37 {ls st : List Value} {h : x_H} {a : Nat}: x_run 1 37 ls (.ref a :: st) h = q_gf h a 2 3 (fun v => x_run 1 40 ls (v :: st) h) := xe_getfield ec1 dX0_copyFrom_37 ef0_22
theorem e1_40 {ls st : List Value} {h : x_H} : x_run 1 40 ls st h = q_gi ls 2 (fun v => x_run 1 41 ls (.int v :: st) h) := xe_iload_n ec1 dX0_copyFrom_40
theorem e1_41 {ls st : List Value} {h : x_H} : x_run 1 41 ls st h = q_gr ls 1 (fun v => x_run 1 42 ls (.ref v :: st) h) := xe_aload_n ec1 dX0_copyFrom_41
theorem e1_42 {ls st : List Value} {h : x_H} {a : Nat}: x_run 1 42 ls (.ref a :: st) h = q_gf h a 2 3 (fun v => x_run 1 45 ls (v :: st) h) := xe_getfield ec1 dX0_copyFrom_42 ef0_22
theorem e1_45 {ls st : List Value} {h : x_H} : x_run 1 45 ls st h = q_gi ls 2 (fun v => x_run 1 46 ls (.int v :: st) h) := xe_iload_n ec1 dX0_copyFrom_45
theorem e1_46 {ls st : List Value} {h : x_H} {x : Int32} {a : Nat}: x_run 1 46 ls (.int x :: .ref a :: st) h = q_ra h a 1 x (fun v => x_run 1 47 ls (.int v :: st) h) := xe_baload ec1 dX0_copyFrom_46
theorem e1_47 {ls st : List Value} {h : x_H} {x y : Int32} {a : Nat}: x_run 1 47 ls (.int y :: .int x :: .ref a :: st) h = q_wa h a 1 x (vp_nar .boolean y) (fun h' => x_run 1 48 ls st h') := xe_bastore ec1 dX0_copyFrom_47
theorem e1_48 {ls st : List Value} {h : x_H} : x_run 1 48 ls st h = q_gi ls 2 (fun v => if x_nd ls 2 = true then x_run 1 51 (ls.set 2 (.int (v + q_i 1))) st h else none) := xe_iinc ec1 dX0_copyFrom_48
theorem e1_51 {ls st : List Value} {h : x_H} : x_run 1 51 ls st h = x_run 1 18 ls st h := xe_goto ec1 dX0_copyFrom_51 rfl
theorem e1_54 {ls st : List Value} {h : x_H} : x_run 1 54 ls st h = x_run 1 55 ls (.int (q_i 0) :: st) h := xe_iconst ec1 dX0_copyFrom_54
theorem e1_55 {ls st : List Value} {h : x_H} {x : Int32}: x_run 1 55 ls (.int x :: st) h = q_ls ls 2 (.int x) (fun ls' => x_run 1 56 ls' st h) := xe_istore_n ec1 dX0_copyFrom_55
theorem e1_56 {ls st : List Value} {h : x_H} : x_run 1 56 ls st h = q_gi ls 2 (fun v => x_run 1 57 ls (.int v :: st) h) := xe_iload_n ec1 dX0_copyFrom_56
theorem e1_57 {ls st : List Value} {h : x_H} : x_run 1 57 ls st h = x_run 1 59 ls (.int (q_i 48) :: st) h := xe_bipush ec1 dX0_copyFrom_57 (by decide)
theorem e1_59 {ls st : List Value} {h : x_H} {x y : Int32}: x_run 1 59 ls (.int y :: .int x :: st) h = if y ≤ x then x_run 1 92 ls st h else x_run 1 62 ls st h := xe_ic_ge ec1 dX0_copyFrom_59 rfl
theorem e1_62 {ls st : List Value} {h : x_H} : x_run 1 62 ls st h = q_gr ls 0 (fun v => x_run 1 63 ls (.ref v :: st) h) := xe_aload_n ec1 dX0_copyFrom_62
theorem e1_63 {ls st : List Value} {h : x_H} {a : Nat}: x_run 1 63 ls (.ref a :: st) h = q_gf h a 2 11 (fun v => x_run 1 66 ls (v :: st) h) := xe_getfield ec1 dX0_copyFrom_63 ef0_47
theorem e1_66 {ls st : List Value} {h : x_H} : x_run 1 66 ls st h = q_gi ls 2 (fun v => x_run 1 67 ls (.int v :: st) h) := xe_iload_n ec1 dX0_copyFrom_66
theorem e1_67 {ls st : List Value} {h : x_H} : x_run 1 67 ls st h = q_gr ls 1 (fun v => x_run 1 68 ls (.ref v :: st) h) := xe_aload_n ec1 dX0_copyFrom_67
theorem e1_68 {ls st : List Value} {h : x_H} {a : Nat}: x_run 1 68 ls (.ref a :: st) h = q_gf h a 2 11 (fun v => x_run 1 71 ls (v :: st) h) := xe_getfield ec1 dX0_copyFrom_68 ef0_47
theorem e1_71 {ls st : List Value} {h : x_H} : x_run 1 71 ls st h = q_gi ls 2 (fun v => x_run 1 72 ls (.int v :: st) h) := xe_iload_n ec1 dX0_copyFrom_71
theorem e1_72 {ls st : List Value} {h : x_H} {x : Int32} {a : Nat}: x_run 1 72 ls (.int x :: .ref a :: st) h = q_ra h a 1 x (fun v => x_run 1 73 ls (.int v :: st) h) := xe_baload ec1 dX0_copyFrom_72
theorem e1_73 {ls st : List Value} {h : x_H} {x y : Int32} {a : Nat}: x_run 1 73 ls (.int y :: .int x :: .ref a :: st) h = q_wa h a 1 x (vp_nar .boolean y) (fun h' => x_run 1 74 ls st h') := xe_bastore ec1 dX0_copyFrom_73
theorem e1_74 {ls st : List Value} {h : x_H} : x_run 1 74 ls st h = q_gr ls 0 (fun v => x_run 1 75 ls (.ref v :: st) h) := xe_aload_n ec1 dX0_copyFrom_74
theorem e1_75 {ls st : List Value} {h : x_H} {a : Nat}: x_run 1 75 ls (.ref a :: st) h = q_gf h a 2 12 (fun v => x_run 1 78 ls (v :: st) h) := xe_getfield ec1 dX0_copyFrom_75 ef0_50
theorem e1_78 {ls st : List Value} {h : x_H} : x_run 1 78 ls st h = q_gi ls 2 (fun v => x_run 1 79 ls (.int v :: st) h) := xe_iload_n ec1 dX0_copyFrom_78
theorem e1_79 {ls st : List Value} {h : x_H} : x_run 1 79 ls st h = q_gr ls 1 (fun v => x_run 1 80 ls (.ref v :: st) h) := xe_aload_n ec1 dX0_copyFrom_79
theorem e1_80 {ls st : List Value} {h : x_H} {a : Nat}: x_run 1 80 ls (.ref a :: st) h = q_gf h a 2 12 (fun v => x_run 1 83 ls (v :: st) h) := xe_getfield ec1 dX0_copyFrom_80 ef0_50
theorem e1_83 {ls st : List Value} {h : x_H} : x_run 1 83 ls st h = q_gi ls 2 (fun v => x_run 1 84 ls (.int v :: st) h) := xe_iload_n ec1 dX0_copyFrom_83
theorem e1_84 {ls st : List Value} {h : x_H} {x : Int32} {a : Nat}: x_run 1 84 ls (.int x :: .ref a :: st) h = q_ra h a 1 x (fun v => x_run 1 85 ls (.int v :: st) h) := xe_baload ec1 dX0_copyFrom_84
theorem e1_85 {ls st : List Value} {h : x_H} {x y : Int32} {a : Nat}: x_run 1 85 ls (.int y :: .int x :: .ref a :: st) h = q_wa h a 1 x (vp_nar .boolean y) (fun h' => x_run 1 86 ls st h') := xe_bastore ec1 dX0_copyFrom_85
theorem e1_86 {ls st : List Value} {h : x_H} : x_run 1 86 ls st h = q_gi ls 2 (fun v => if x_nd ls 2 = true then x_run 1 89 (ls.set 2 (.int (v + q_i 1))) st h else none) := xe_iinc ec1 dX0_copyFrom_86
theorem e1_89 {ls st : List Value} {h : x_H} : x_run 1 89 ls st h = x_run 1 56 ls st h := xe_goto ec1 dX0_copyFrom_89 rfl
theorem e1_92 {ls st : List Value} {h : x_H} : x_run 1 92 ls st h = q_gr ls 1 (fun v => x_run 1 93 ls (.ref v :: st) h) := xe_aload_n ec1 dX0_copyFrom_92
theorem e1_93 {ls st : List Value} {h : x_H} {a : Nat}: x_run 1 93 ls (.ref a :: st) h = q_gf h a 2 4 (fun v => x_run 1 96 ls (v :: st) h) := xe_getfield ec1 dX0_copyFrom_93 ef0_25
theorem e1_96 {ls st : List Value} {h : x_H} : x_run 1 96 ls st h = x_run 1 97 ls (.int (q_i 0) :: st) h := xe_iconst ec1 dX0_copyFrom_96
theorem e1_97 {ls st : List Value} {h : x_H} : x_run 1 97 ls st h = q_gr ls 0 (fun v => x_run 1 98 ls (.ref v :: st) h) := xe_aload_n ec1 dX0_copyFrom_97
theorem e1_98 {ls st : List Value} {h : x_H} {a : Nat}: x_run 1 98 ls (.ref a :: st) h = q_gf h a 2 4 (fun v => x_run 1 101 ls (v :: st) h) := xe_getfield ec1 dX0_copyFrom_98 ef0_25
theorem e1_101 {ls st : List Value} {h : x_H} : x_run 1 101 ls st h = x_run 1 102 ls (.int (q_i 0) :: st) h := xe_iconst ec1 dX0_copyFrom_101
theorem e1_102 {ls st : List Value} {h : x_H} : x_run 1 102 ls st h = x_run 1 104 ls (.int (q_i 6) :: st) h := xe_bipush ec1 dX0_copyFrom_102 (by decide)
theorem e1_104 {ls st : List Value} {h : x_H} {u v w : Int32} {a b : Nat}: x_run 1 104 ls (.int u :: .int v :: .ref a :: .int w :: .ref b :: st) h = match h.1 a, h.1 b with
      | .inl (t, l), .inl (u', g) => if t = 0 ∧ u' = 0 ∧ a < h.2.1 ∧ b < h.2.1 ∧ w = 0 ∧ v = 0 ∧ ¬ u < 0 ∧ u.toNatClampNeg = l.length ∧ u.toNatClampNeg = g.length ∧ x_wt st ≤ 8 then x_run 1 107 ls st (x_up h.1 a (.inl (0, g)), h.2) else none
      | _, _ => none := xe_cpy ec1 dX0_copyFrom_104 ek0_53
theorem e1_107 {ls st : List Value} {h : x_H} : x_run 1 107 ls st h = q_gr ls 1 (fun v => x_run 1 108 ls (.ref v :: st) h) := xe_aload_n ec1 dX0_copyFrom_107
theorem e1_108 {ls st : List Value} {h : x_H} {a : Nat}: x_run 1 108 ls (.ref a :: st) h = q_gf h a 2 5 (fun v => x_run 1 111 ls (v :: st) h) := xe_getfield ec1 dX0_copyFrom_108 ef0_29
theorem e1_111 {ls st : List Value} {h : x_H} : x_run 1 111 ls st h = x_run 1 112 ls (.int (q_i 0) :: st) h := xe_iconst ec1 dX0_copyFrom_111
theorem e1_112 {ls st : List Value} {h : x_H} : x_run 1 112 ls st h = q_gr ls 0 (fun v => x_run 1 113 ls (.ref v :: st) h) := xe_aload_n ec1 dX0_copyFrom_112
theorem e1_113 {ls st : List Value} {h : x_H} {a : Nat}: x_run 1 113 ls (.ref a :: st) h = q_gf h a 2 5 (fun v => x_run 1 116 ls (v :: st) h) := xe_getfield ec1 dX0_copyFrom_113 ef0_29
theorem e1_116 {ls st : List Value} {h : x_H} : x_run 1 116 ls st h = x_run 1 117 ls (.int (q_i 0) :: st) h := xe_iconst ec1 dX0_copyFrom_116
theorem e1_117 {ls st : List Value} {h : x_H} : x_run 1 117 ls st h = x_run 1 119 ls (.int (q_i 6) :: st) h := xe_bipush ec1 dX0_copyFrom_117 (by decide)
theorem e1_119 {ls st : List Value} {h : x_H} {u v w : Int32} {a b : Nat}: x_run 1 119 ls (.int u :: .int v :: .ref a :: .int w :: .ref b :: st) h = match h.1 a, h.1 b with
      | .inl (t, l), .inl (u', g) => if t = 0 ∧ u' = 0 ∧ a < h.2.1 ∧ b < h.2.1 ∧ w = 0 ∧ v = 0 ∧ ¬ u < 0 ∧ u.toNatClampNeg = l.length ∧ u.toNatClampNeg = g.length ∧ x_wt st ≤ 8 then x_run 1 122 ls st (x_up h.1 a (.inl (0, g)), h.2) else none
      | _, _ => none := xe_cpy ec1 dX0_copyFrom_119 ek0_53
theorem e1_122 {ls st : List Value} {h : x_H} : x_run 1 122 ls st h = q_gr ls 1 (fun v => x_run 1 123 ls (.ref v :: st) h) := xe_aload_n ec1 dX0_copyFrom_122
theorem e1_123 {ls st : List Value} {h : x_H} {a : Nat}: x_run 1 123 ls (.ref a :: st) h = q_gf h a 2 6 (fun v => x_run 1 126 ls (v :: st) h) := xe_getfield ec1 dX0_copyFrom_123 ef0_32
theorem e1_126 {ls st : List Value} {h : x_H} : x_run 1 126 ls st h = x_run 1 127 ls (.int (q_i 0) :: st) h := xe_iconst ec1 dX0_copyFrom_126
theorem e1_127 {ls st : List Value} {h : x_H} : x_run 1 127 ls st h = q_gr ls 0 (fun v => x_run 1 128 ls (.ref v :: st) h) := xe_aload_n ec1 dX0_copyFrom_127
theorem e1_128 {ls st : List Value} {h : x_H} {a : Nat}: x_run 1 128 ls (.ref a :: st) h = q_gf h a 2 6 (fun v => x_run 1 131 ls (v :: st) h) := xe_getfield ec1 dX0_copyFrom_128 ef0_32
theorem e1_131 {ls st : List Value} {h : x_H} : x_run 1 131 ls st h = x_run 1 132 ls (.int (q_i 0) :: st) h := xe_iconst ec1 dX0_copyFrom_131
theorem e1_132 {ls st : List Value} {h : x_H} : x_run 1 132 ls st h = x_run 1 134 ls (.int (q_i 6) :: st) h := xe_bipush ec1 dX0_copyFrom_132 (by decide)
theorem e1_134 {ls st : List Value} {h : x_H} {u v w : Int32} {a b : Nat}: x_run 1 134 ls (.int u :: .int v :: .ref a :: .int w :: .ref b :: st) h = match h.1 a, h.1 b with
      | .inl (t, l), .inl (u', g) => if t = 0 ∧ u' = 0 ∧ a < h.2.1 ∧ b < h.2.1 ∧ w = 0 ∧ v = 0 ∧ ¬ u < 0 ∧ u.toNatClampNeg = l.length ∧ u.toNatClampNeg = g.length ∧ x_wt st ≤ 8 then x_run 1 137 ls st (x_up h.1 a (.inl (0, g)), h.2) else none
      | _, _ => none := xe_cpy ec1 dX0_copyFrom_134 ek0_53
theorem e1_137 {ls st : List Value} {h : x_H} : x_run 1 137 ls st h = q_gr ls 1 (fun v => x_run 1 138 ls (.ref v :: st) h) := xe_aload_n ec1 dX0_copyFrom_137
theorem e1_138 {ls st : List Value} {h : x_H} {a : Nat}: x_run 1 138 ls (.ref a :: st) h = q_gf h a 2 7 (fun v => x_run 1 141 ls (v :: st) h) := xe_getfield ec1 dX0_copyFrom_138 ef0_35
theorem e1_141 {ls st : List Value} {h : x_H} : x_run 1 141 ls st h = x_run 1 142 ls (.int (q_i 0) :: st) h := xe_iconst ec1 dX0_copyFrom_141
theorem e1_142 {ls st : List Value} {h : x_H} : x_run 1 142 ls st h = q_gr ls 0 (fun v => x_run 1 143 ls (.ref v :: st) h) := xe_aload_n ec1 dX0_copyFrom_142
theorem e1_143 {ls st : List Value} {h : x_H} {a : Nat}: x_run 1 143 ls (.ref a :: st) h = q_gf h a 2 7 (fun v => x_run 1 146 ls (v :: st) h) := xe_getfield ec1 dX0_copyFrom_143 ef0_35
theorem e1_146 {ls st : List Value} {h : x_H} : x_run 1 146 ls st h = x_run 1 147 ls (.int (q_i 0) :: st) h := xe_iconst ec1 dX0_copyFrom_146
theorem e1_147 {ls st : List Value} {h : x_H} : x_run 1 147 ls st h = x_run 1 149 ls (.int (q_i 6) :: st) h := xe_bipush ec1 dX0_copyFrom_147 (by decide)
theorem e1_149 {ls st : List Value} {h : x_H} {u v w : Int32} {a b : Nat}: x_run 1 149 ls (.int u :: .int v :: .ref a :: .int w :: .ref b :: st) h = match h.1 a, h.1 b with
      | .inl (t, l), .inl (u', g) => if t = 0 ∧ u' = 0 ∧ a < h.2.1 ∧ b < h.2.1 ∧ w = 0 ∧ v = 0 ∧ ¬ u < 0 ∧ u.toNatClampNeg = l.length ∧ u.toNatClampNeg = g.length ∧ x_wt st ≤ 8 then x_run 1 152 ls st (x_up h.1 a (.inl (0, g)), h.2) else none
      | _, _ => none := xe_cpy ec1 dX0_copyFrom_149 ek0_53
theorem e1_152 {ls st : List Value} {h : x_H} : x_run 1 152 ls st h = q_gr ls 1 (fun v => x_run 1 153 ls (.ref v :: st) h) := xe_aload_n ec1 dX0_copyFrom_152
theorem e1_153 {ls st : List Value} {h : x_H} {a : Nat}: x_run 1 153 ls (.ref a :: st) h = q_gf h a 2 8 (fun v => x_run 1 156 ls (v :: st) h) := xe_getfield ec1 dX0_copyFrom_153 ef0_38
theorem e1_156 {ls st : List Value} {h : x_H} : x_run 1 156 ls st h = x_run 1 157 ls (.int (q_i 0) :: st) h := xe_iconst ec1 dX0_copyFrom_156
theorem e1_157 {ls st : List Value} {h : x_H} : x_run 1 157 ls st h = q_gr ls 0 (fun v => x_run 1 158 ls (.ref v :: st) h) := xe_aload_n ec1 dX0_copyFrom_157
theorem e1_158 {ls st : List Value} {h : x_H} {a : Nat}: x_run 1 158 ls (.ref a :: st) h = q_gf h a 2 8 (fun v => x_run 1 161 ls (v :: st) h) := xe_getfield ec1 dX0_copyFrom_158 ef0_38
theorem e1_161 {ls st : List Value} {h : x_H} : x_run 1 161 ls st h = x_run 1 162 ls (.int (q_i 0) :: st) h := xe_iconst ec1 dX0_copyFrom_161
theorem e1_162 {ls st : List Value} {h : x_H} : x_run 1 162 ls st h = x_run 1 164 ls (.int (q_i 6) :: st) h := xe_bipush ec1 dX0_copyFrom_162 (by decide)
theorem e1_164 {ls st : List Value} {h : x_H} {u v w : Int32} {a b : Nat}: x_run 1 164 ls (.int u :: .int v :: .ref a :: .int w :: .ref b :: st) h = match h.1 a, h.1 b with
      | .inl (t, l), .inl (u', g) => if t = 0 ∧ u' = 0 ∧ a < h.2.1 ∧ b < h.2.1 ∧ w = 0 ∧ v = 0 ∧ ¬ u < 0 ∧ u.toNatClampNeg = l.length ∧ u.toNatClampNeg = g.length ∧ x_wt st ≤ 8 then x_run 1 167 ls st (x_up h.1 a (.inl (0, g)), h.2) else none
      | _, _ => none := xe_cpy ec1 dX0_copyFrom_164 ek0_53
theorem e1_167 {ls st : List Value} {h : x_H} : x_run 1 167 ls st h = q_gr ls 1 (fun v => x_run 1 168 ls (.ref v :: st) h) := xe_aload_n ec1 dX0_copyFrom_167
theorem e1_168 {ls st : List Value} {h : x_H} {a : Nat}: x_run 1 168 ls (.ref a :: st) h = q_gf h a 2 9 (fun v => x_run 1 171 ls (v :: st) h) := xe_getfield ec1 dX0_copyFrom_168 ef0_41
theorem e1_171 {ls st : List Value} {h : x_H} : x_run 1 171 ls st h = x_run 1 172 ls (.int (q_i 0) :: st) h := xe_iconst ec1 dX0_copyFrom_171
theorem e1_172 {ls st : List Value} {h : x_H} : x_run 1 172 ls st h = q_gr ls 0 (fun v => x_run 1 173 ls (.ref v :: st) h) := xe_aload_n ec1 dX0_copyFrom_172
theorem e1_173 {ls st : List Value} {h : x_H} {a : Nat}: x_run 1 173 ls (.ref a :: st) h = q_gf h a 2 9 (fun v => x_run 1 176 ls (v :: st) h) := xe_getfield ec1 dX0_copyFrom_173 ef0_41
theorem e1_176 {ls st : List Value} {h : x_H} : x_run 1 176 ls st h = x_run 1 177 ls (.int (q_i 0) :: st) h := xe_iconst ec1 dX0_copyFrom_176
theorem e1_177 {ls st : List Value} {h : x_H} : x_run 1 177 ls st h = x_run 1 179 ls (.int (q_i 24) :: st) h := xe_bipush ec1 dX0_copyFrom_177 (by decide)
theorem e1_179 {ls st : List Value} {h : x_H} {u v w : Int32} {a b : Nat}: x_run 1 179 ls (.int u :: .int v :: .ref a :: .int w :: .ref b :: st) h = match h.1 a, h.1 b with
      | .inl (t, l), .inl (u', g) => if t = 0 ∧ u' = 0 ∧ a < h.2.1 ∧ b < h.2.1 ∧ w = 0 ∧ v = 0 ∧ ¬ u < 0 ∧ u.toNatClampNeg = l.length ∧ u.toNatClampNeg = g.length ∧ x_wt st ≤ 8 then x_run 1 182 ls st (x_up h.1 a (.inl (0, g)), h.2) else none
      | _, _ => none := xe_cpy ec1 dX0_copyFrom_179 ek0_53
theorem e1_182 {ls st : List Value} {h : x_H} : x_run 1 182 ls st h = q_gr ls 1 (fun v => x_run 1 183 ls (.ref v :: st) h) := xe_aload_n ec1 dX0_copyFrom_182
theorem e1_183 {ls st : List Value} {h : x_H} {a : Nat}: x_run 1 183 ls (.ref a :: st) h = q_gf h a 2 10 (fun v => x_run 1 186 ls (v :: st) h) := xe_getfield ec1 dX0_copyFrom_183 ef0_44
theorem e1_186 {ls st : List Value} {h : x_H} : x_run 1 186 ls st h = x_run 1 187 ls (.int (q_i 0) :: st) h := xe_iconst ec1 dX0_copyFrom_186
theorem e1_187 {ls st : List Value} {h : x_H} : x_run 1 187 ls st h = q_gr ls 0 (fun v => x_run 1 188 ls (.ref v :: st) h) := xe_aload_n ec1 dX0_copyFrom_187
theorem e1_188 {ls st : List Value} {h : x_H} {a : Nat}: x_run 1 188 ls (.ref a :: st) h = q_gf h a 2 10 (fun v => x_run 1 191 ls (v :: st) h) := xe_getfield ec1 dX0_copyFrom_188 ef0_44
theorem e1_191 {ls st : List Value} {h : x_H} : x_run 1 191 ls st h = x_run 1 192 ls (.int (q_i 0) :: st) h := xe_iconst ec1 dX0_copyFrom_191
theorem e1_192 {ls st : List Value} {h : x_H} : x_run 1 192 ls st h = x_run 1 194 ls (.int (q_i 96) :: st) h := xe_bipush ec1 dX0_copyFrom_192 (by decide)
theorem e1_194 {ls st : List Value} {h : x_H} {u v w : Int32} {a b : Nat}: x_run 1 194 ls (.int u :: .int v :: .ref a :: .int w :: .ref b :: st) h = match h.1 a, h.1 b with
      | .inl (t, l), .inl (u', g) => if t = 0 ∧ u' = 0 ∧ a < h.2.1 ∧ b < h.2.1 ∧ w = 0 ∧ v = 0 ∧ ¬ u < 0 ∧ u.toNatClampNeg = l.length ∧ u.toNatClampNeg = g.length ∧ x_wt st ≤ 8 then x_run 1 197 ls st (x_up h.1 a (.inl (0, g)), h.2) else none
      | _, _ => none := xe_cpy ec1 dX0_copyFrom_194 ek0_53
theorem e1_197 {ls : List Value} {h : x_H} : x_run 1 197 ls [] h = some (.inl (none), h) := xe_return ec1 dX0_copyFrom_197 rfl
theorem ec2 : x_code 2 = cX0_hasNet := rfl
theorem e2_0 {ls st : List Value} {h : x_H} : x_run 2 0 ls st h = q_gi ls 1 (fun v => x_run 2 1 ls (.int v :: st) h) := xe_iload_n ec2 dX0_hasNet_0
theorem e2_1 {ls st : List Value} {h : x_H} {x : Int32}: x_run 2 1 ls (.int x :: st) h = if x < 0 then x_run 2 16 ls st h else x_run 2 4 ls st h := xe_if_lt ec2 dX0_hasNet_1 rfl
theorem e2_4 {ls st : List Value} {h : x_H} : x_run 2 4 ls st h = q_gi ls 1 (fun v => x_run 2 5 ls (.int v :: st) h) := xe_iload_n ec2 dX0_hasNet_4
theorem e2_5 {ls st : List Value} {h : x_H} : x_run 2 5 ls st h = q_gr ls 0 (fun v => x_run 2 6 ls (.ref v :: st) h) := xe_aload_n ec2 dX0_hasNet_5
theorem e2_6 {ls st : List Value} {h : x_H} {a : Nat}: x_run 2 6 ls (.ref a :: st) h = q_gf h a 2 0 (fun v => x_run 2 9 ls (v :: st) h) := xe_getfield ec2 dX0_hasNet_6 ef0_9
theorem e2_9 {ls st : List Value} {h : x_H} {x y : Int32}: x_run 2 9 ls (.int y :: .int x :: st) h = if y ≤ x then x_run 2 16 ls st h else x_run 2 12 ls st h := xe_ic_ge ec2 dX0_hasNet_9 rfl
theorem e2_12 {ls st : List Value} {h : x_H} : x_run 2 12 ls st h = x_run 2 13 ls (.int (q_i 1) :: st) h := xe_iconst ec2 dX0_hasNet_12
theorem e2_13 {ls st : List Value} {h : x_H} : x_run 2 13 ls st h = x_run 2 17 ls st h := xe_goto ec2 dX0_hasNet_13 rfl
theorem e2_16 {ls st : List Value} {h : x_H} : x_run 2 16 ls st h = x_run 2 17 ls (.int (q_i 0) :: st) h := xe_iconst ec2 dX0_hasNet_16
theorem e2_17 {ls : List Value} {h : x_H} {x : Int32} : x_run 2 17 ls [.int x] h = if narrow .boolean (.int x) = .int x then some (.inl (some (.int x)), h) else none := xe_ireturn ec2 dX0_hasNet_17 rfl
theorem ec3 : x_code 3 = cX0_placeOfPin := rfl
theorem e3_0 {ls st : List Value} {h : x_H} : x_run 3 0 ls st h = q_gr ls 0 (fun v => x_run 3 1 ls (.ref v :: st) h) := xe_aload_n ec3 dX0_placeOfPin_0
theorem e3_1 {ls st : List Value} {h : x_H} {a : Nat}: x_run 3 1 ls (.ref a :: st) h = q_gf h a 2 9 (fun v => x_run 3 4 ls (v :: st) h) := xe_getfield ec3 dX0_placeOfPin_1 ef0_41
theorem e3_4 {ls st : List Value} {h : x_H} : x_run 3 4 ls st h = q_gi ls 1 (fun v => x_run 3 5 ls (.int v :: st) h) := xe_iload_n ec3 dX0_placeOfPin_4
theorem e3_5 {ls st : List Value} {h : x_H} : x_run 3 5 ls st h = x_run 3 6 ls (.int (q_i 4) :: st) h := xe_iconst ec3 dX0_placeOfPin_5
theorem e3_6 {ls st : List Value} {h : x_H} {x y : Int32}: x_run 3 6 ls (.int y :: .int x :: st) h = x_run 3 7 ls (.int (x * y) :: st) h := xe_imul ec3 dX0_placeOfPin_6
theorem e3_7 {ls st : List Value} {h : x_H} : x_run 3 7 ls st h = q_gi ls 2 (fun v => x_run 3 8 ls (.int v :: st) h) := xe_iload_n ec3 dX0_placeOfPin_7
theorem e3_8 {ls st : List Value} {h : x_H} {x y : Int32}: x_run 3 8 ls (.int y :: .int x :: st) h = x_run 3 9 ls (.int (x + y) :: st) h := xe_iadd ec3 dX0_placeOfPin_8
theorem e3_9 {ls st : List Value} {h : x_H} {x : Int32} {a : Nat}: x_run 3 9 ls (.int x :: .ref a :: st) h = q_ra h a 0 x (fun v => x_run 3 10 ls (.int v :: st) h) := xe_iaload ec3 dX0_placeOfPin_9
theorem e3_10 {ls : List Value} {h : x_H} {x : Int32} : x_run 3 10 ls [.int x] h = if narrow .int (.int x) = .int x then some (.inl (some (.int x)), h) else none := xe_ireturn ec3 dX0_placeOfPin_10 rfl
theorem ec4 : x_code 4 = cX0_netsNear := rfl
theorem e4_0 {ls st : List Value} {h : x_H} : x_run 4 0 ls st h = x_run 4 1 ls (.int (q_i 0) :: st) h := xe_iconst ec4 dX0_netsNear_0
theorem e4_1 {ls st : List Value} {h : x_H} {x : Int32}: x_run 4 1 ls (.int x :: st) h = q_ls ls 5 (.int x) (fun ls' => x_run 4 3 ls' st h) := xe_istore ec4 dX0_netsNear_1
theorem e4_3 {ls st : List Value} {h : x_H} : x_run 4 3 ls st h = x_run 4 4 ls (.int (q_i 0) :: st) h := xe_iconst ec4 dX0_netsNear_3
theorem e4_4 {ls st : List Value} {h : x_H} {x : Int32}: x_run 4 4 ls (.int x :: st) h = q_ls ls 6 (.int x) (fun ls' => x_run 4 6 ls' st h) := xe_istore ec4 dX0_netsNear_4
theorem e4_6 {ls st : List Value} {h : x_H} : x_run 4 6 ls st h = q_gi ls 6 (fun v => x_run 4 8 ls (.int v :: st) h) := xe_iload ec4 dX0_netsNear_6
theorem e4_8 {ls st : List Value} {h : x_H} : x_run 4 8 ls st h = x_run 4 9 ls (.int (q_i 4) :: st) h := xe_iconst ec4 dX0_netsNear_8
theorem e4_9 {ls st : List Value} {h : x_H} {x y : Int32}: x_run 4 9 ls (.int y :: .int x :: st) h = if y ≤ x then x_run 4 108 ls st h else x_run 4 12 ls st h := xe_ic_ge ec4 dX0_netsNear_9 rfl
theorem e4_12 {ls st : List Value} {h : x_H} : x_run 4 12 ls st h = q_gi ls 2 (fun v => x_run 4 13 ls (.int v :: st) h) := xe_iload_n ec4 dX0_netsNear_12
theorem e4_13 {ls st : List Value} {h : x_H} : x_run 4 13 ls st h = q_gi ls 6 (fun v => x_run 4 15 ls (.int v :: st) h) := xe_iload ec4 dX0_netsNear_13
theorem e4_15 {ls st : List Value} {h : x_H} {a1 a2 : Value}: x_run 4 15 ls (a2 :: a1 :: st) h = if x_wt st ≤ 8 ∧ x_wt [a1, a2] = 2 then q_cl (x_m 741 [a1, a2] h) (fun v h' => x_run 4 18 ls (v.toList ++ st) h') else none := xe_stat (args := [a1, a2]) ec4 dX0_netsNear_15 ek0_59 (by decide) rfl (by decide +kernel) (by decide +kernel)
theorem e4_18 {ls st : List Value} {h : x_H} {x : Int32}: x_run 4 18 ls (.int x :: st) h = q_ls ls 7 (.int x) (fun ls' => x_run 4 20 ls' st h) := xe_istore ec4 dX0_netsNear_18
theorem e4_20 {ls st : List Value} {h : x_H} : x_run 4 20 ls st h = q_gi ls 7 (fun v => x_run 4 22 ls (.int v :: st) h) := xe_iload ec4 dX0_netsNear_20
theorem e4_22 {ls st : List Value} {h : x_H} {x : Int32}: x_run 4 22 ls (.int x :: st) h = if 0 ≤ x then x_run 4 29 ls st h else x_run 4 25 ls st h := xe_if_ge ec4 dX0_netsNear_22 rfl
theorem e4_25 {ls st : List Value} {h : x_H} : x_run 4 25 ls st h = x_run 4 26 ls (.int (q_i (-1)) :: st) h := xe_iconst ec4 dX0_netsNear_25
theorem e4_26 {ls st : List Value} {h : x_H} : x_run 4 26 ls st h = x_run 4 36 ls st h := xe_goto ec4 dX0_netsNear_26 rfl
theorem e4_29 {ls st : List Value} {h : x_H} : x_run 4 29 ls st h = q_gr ls 0 (fun v => x_run 4 30 ls (.ref v :: st) h) := xe_aload_n ec4 dX0_netsNear_29
theorem e4_30 {ls st : List Value} {h : x_H} {a : Nat}: x_run 4 30 ls (.ref a :: st) h = q_gf h a 2 10 (fun v => x_run 4 33 ls (v :: st) h) := xe_getfield ec4 dX0_netsNear_30 ef0_44
theorem e4_33 {ls st : List Value} {h : x_H} : x_run 4 33 ls st h = q_gi ls 7 (fun v => x_run 4 35 ls (.int v :: st) h) := xe_iload ec4 dX0_netsNear_33
theorem e4_35 {ls st : List Value} {h : x_H} {x : Int32} {a : Nat}: x_run 4 35 ls (.int x :: .ref a :: st) h = q_ra h a 0 x (fun v => x_run 4 36 ls (.int v :: st) h) := xe_iaload ec4 dX0_netsNear_35
theorem e4_36 {ls st : List Value} {h : x_H} {x : Int32}: x_run 4 36 ls (.int x :: st) h = q_ls ls 8 (.int x) (fun ls' => x_run 4 38 ls' st h) := xe_istore ec4 dX0_netsNear_36
theorem e4_38 {ls st : List Value} {h : x_H} : x_run 4 38 ls st h = q_gi ls 8 (fun v => x_run 4 40 ls (.int v :: st) h) := xe_iload ec4 dX0_netsNear_38
theorem e4_40 {ls st : List Value} {h : x_H} {x : Int32}: x_run 4 40 ls (.int x :: st) h = if x < 0 then x_run 4 102 ls st h else x_run 4 43 ls st h := xe_if_lt ec4 dX0_netsNear_40 rfl
theorem e4_43 {ls st : List Value} {h : x_H} : x_run 4 43 ls st h = q_gi ls 8 (fun v => x_run 4 45 ls (.int v :: st) h) := xe_iload ec4 dX0_netsNear_43
theorem e4_45 {ls st : List Value} {h : x_H} : x_run 4 45 ls st h = q_gi ls 1 (fun v => x_run 4 46 ls (.int v :: st) h) := xe_iload_n ec4 dX0_netsNear_45
theorem e4_46 {ls st : List Value} {h : x_H} {x y : Int32}: x_run 4 46 ls (.int y :: .int x :: st) h = if x = y then x_run 4 102 ls st h else x_run 4 49 ls st h := xe_ic_eq ec4 dX0_netsNear_46 rfl
theorem e4_49 {ls st : List Value} {h : x_H} : x_run 4 49 ls st h = q_gr ls 0 (fun v => x_run 4 50 ls (.ref v :: st) h) := xe_aload_n ec4 dX0_netsNear_49
theorem e4_50 {ls st : List Value} {h : x_H} {a : Nat}: x_run 4 50 ls (.ref a :: st) h = q_gf h a 2 2 (fun v => x_run 4 53 ls (v :: st) h) := xe_getfield ec4 dX0_netsNear_50 ef0_18
theorem e4_53 {ls st : List Value} {h : x_H} : x_run 4 53 ls st h = q_gi ls 1 (fun v => x_run 4 54 ls (.int v :: st) h) := xe_iload_n ec4 dX0_netsNear_53
theorem e4_54 {ls st : List Value} {h : x_H} {x : Int32} {a : Nat}: x_run 4 54 ls (.int x :: .ref a :: st) h = q_ra h a 1 x (fun v => x_run 4 55 ls (.int v :: st) h) := xe_baload ec4 dX0_netsNear_54
theorem e4_55 {ls st : List Value} {h : x_H} {x : Int32}: x_run 4 55 ls (.int x :: st) h = if ¬ x = 0 then x_run 4 68 ls st h else x_run 4 58 ls st h := xe_if_ne ec4 dX0_netsNear_55 rfl
theorem e4_58 {ls st : List Value} {h : x_H} : x_run 4 58 ls st h = q_gr ls 0 (fun v => x_run 4 59 ls (.ref v :: st) h) := xe_aload_n ec4 dX0_netsNear_58
theorem e4_59 {ls st : List Value} {h : x_H} {a : Nat}: x_run 4 59 ls (.ref a :: st) h = q_gf h a 2 2 (fun v => x_run 4 62 ls (v :: st) h) := xe_getfield ec4 dX0_netsNear_59 ef0_18
theorem e4_62 {ls st : List Value} {h : x_H} : x_run 4 62 ls st h = q_gi ls 8 (fun v => x_run 4 64 ls (.int v :: st) h) := xe_iload ec4 dX0_netsNear_62
theorem e4_64 {ls st : List Value} {h : x_H} {x : Int32} {a : Nat}: x_run 4 64 ls (.int x :: .ref a :: st) h = q_ra h a 1 x (fun v => x_run 4 65 ls (.int v :: st) h) := xe_baload ec4 dX0_netsNear_64
theorem e4_65 {ls st : List Value} {h : x_H} {x : Int32}: x_run 4 65 ls (.int x :: st) h = if x = 0 then x_run 4 102 ls st h else x_run 4 68 ls st h := xe_if_eq ec4 dX0_netsNear_65 rfl
theorem e4_68 {ls st : List Value} {h : x_H} : x_run 4 68 ls st h = q_gr ls 0 (fun v => x_run 4 69 ls (.ref v :: st) h) := xe_aload_n ec4 dX0_netsNear_68
theorem e4_69 {ls st : List Value} {h : x_H} {a : Nat}: x_run 4 69 ls (.ref a :: st) h = q_gf h a 2 11 (fun v => x_run 4 72 ls (v :: st) h) := xe_getfield ec4 dX0_netsNear_69 ef0_47
theorem e4_72 {ls st : List Value} {h : x_H} : x_run 4 72 ls st h = q_gi ls 7 (fun v => x_run 4 74 ls (.int v :: st) h) := xe_iload ec4 dX0_netsNear_72
theorem e4_74 {ls st : List Value} {h : x_H} : x_run 4 74 ls st h = x_run 4 76 ls (.int (q_i 48) :: st) h := xe_bipush ec4 dX0_netsNear_74 (by decide)
theorem e4_76 {ls st : List Value} {h : x_H} {x y : Int32}: x_run 4 76 ls (.int y :: .int x :: st) h = if y = 0 then none else x_run 4 77 ls (.int (x - (x / y) * y) :: st) h := xe_irem ec4 dX0_netsNear_76
theorem e4_77 {ls st : List Value} {h : x_H} {x : Int32} {a : Nat}: x_run 4 77 ls (.int x :: .ref a :: st) h = q_ra h a 1 x (fun v => x_run 4 78 ls (.int v :: st) h) := xe_baload ec4 dX0_netsNear_77
theorem e4_78 {ls st : List Value} {h : x_H} {x : Int32}: x_run 4 78 ls (.int x :: st) h = if x = 0 then x_run 4 88 ls st h else x_run 4 81 ls st h := xe_if_eq ec4 dX0_netsNear_78 rfl
theorem e4_81 {ls st : List Value} {h : x_H} : x_run 4 81 ls st h = q_gi ls 3 (fun v => x_run 4 82 ls (.int v :: st) h) := xe_iload_n ec4 dX0_netsNear_81
theorem e4_82 {ls st : List Value} {h : x_H} {x : Int32}: x_run 4 82 ls (.int x :: st) h = if x = 0 then x_run 4 102 ls st h else x_run 4 85 ls st h := xe_if_eq ec4 dX0_netsNear_82 rfl
theorem e4_85 {ls st : List Value} {h : x_H} : x_run 4 85 ls st h = x_run 4 93 ls st h := xe_goto ec4 dX0_netsNear_85 rfl
theorem e4_88 {ls st : List Value} {h : x_H} : x_run 4 88 ls st h = q_gi ls 4 (fun v => x_run 4 90 ls (.int v :: st) h) := xe_iload ec4 dX0_netsNear_88
theorem e4_90 {ls st : List Value} {h : x_H} {x : Int32}: x_run 4 90 ls (.int x :: st) h = if x = 0 then x_run 4 102 ls st h else x_run 4 93 ls st h := xe_if_eq ec4 dX0_netsNear_90 rfl
theorem e4_93 {ls st : List Value} {h : x_H} : x_run 4 93 ls st h = q_gi ls 5 (fun v => x_run 4 95 ls (.int v :: st) h) := xe_iload ec4 dX0_netsNear_93
theorem e4_95 {ls st : List Value} {h : x_H} : x_run 4 95 ls st h = x_run 4 96 ls (.int (q_i 1) :: st) h := xe_iconst ec4 dX0_netsNear_95
theorem e4_96 {ls st : List Value} {h : x_H} : x_run 4 96 ls st h = q_gi ls 8 (fun v => x_run 4 98 ls (.int v :: st) h) := xe_iload ec4 dX0_netsNear_96
theorem e4_98 {ls st : List Value} {h : x_H} {x y : Int32}: x_run 4 98 ls (.int y :: .int x :: st) h = x_run 4 99 ls (.int (x <<< (y &&& 31)) :: st) h := xe_ishl ec4 dX0_netsNear_98
theorem e4_99 {ls st : List Value} {h : x_H} {x y : Int32}: x_run 4 99 ls (.int y :: .int x :: st) h = x_run 4 100 ls (.int (x ||| y) :: st) h := xe_ior ec4 dX0_netsNear_99
theorem e4_100 {ls st : List Value} {h : x_H} {x : Int32}: x_run 4 100 ls (.int x :: st) h = q_ls ls 5 (.int x) (fun ls' => x_run 4 102 ls' st h) := xe_istore ec4 dX0_netsNear_100
theorem e4_102 {ls st : List Value} {h : x_H} : x_run 4 102 ls st h = q_gi ls 6 (fun v => if x_nd ls 6 = true then x_run 4 105 (ls.set 6 (.int (v + q_i 1))) st h else none) := xe_iinc ec4 dX0_netsNear_102
theorem e4_105 {ls st : List Value} {h : x_H} : x_run 4 105 ls st h = x_run 4 6 ls st h := xe_goto ec4 dX0_netsNear_105 rfl
theorem e4_108 {ls st : List Value} {h : x_H} : x_run 4 108 ls st h = q_gi ls 5 (fun v => x_run 4 110 ls (.int v :: st) h) := xe_iload ec4 dX0_netsNear_108
theorem e4_110 {ls : List Value} {h : x_H} {x : Int32} : x_run 4 110 ls [.int x] h = if narrow .int (.int x) = .int x then some (.inl (some (.int x)), h) else none := xe_ireturn ec4 dX0_netsNear_110 rfl
theorem ec5 : x_code 5 = cX0_wiresInTheWay := rfl
theorem e5_0 {ls st : List Value} {h : x_H} : x_run 5 0 ls st h = q_gr ls 0 (fun v => x_run 5 1 ls (.ref v :: st) h) := xe_aload_n ec5 dX0_wiresInTheWay_0
theorem e5_1 {ls st : List Value} {h : x_H} : x_run 5 1 ls st h = q_gi ls 1 (fun v => x_run 5 2 ls (.int v :: st) h) := xe_iload_n ec5 dX0_wiresInTheWay_1
theorem e5_2 {ls st : List Value} {h : x_H} : x_run 5 2 ls st h = q_gi ls 2 (fun v => x_run 5 3 ls (.int v :: st) h) := xe_iload_n ec5 dX0_wiresInTheWay_2
theorem e5_3 {ls st : List Value} {h : x_H} : x_run 5 3 ls st h = x_run 5 4 ls (.int (q_i 0) :: st) h := xe_iconst ec5 dX0_wiresInTheWay_3
theorem e5_4 {ls st : List Value} {h : x_H} : x_run 5 4 ls st h = x_run 5 5 ls (.int (q_i 1) :: st) h := xe_iconst ec5 dX0_wiresInTheWay_4
theorem e5_5 {ls st : List Value} {h : x_H} {b : Nat} {a1 a2 a3 a4 : Value}: x_run 5 5 ls (a4 :: a3 :: a2 :: a1 :: .ref b :: st) h = if q_rcv h b 2 = true then (if x_wt st ≤ 8 ∧ x_wt [.ref b, a1, a2, a3, a4] = 5 then q_cl (x_m 4 [.ref b, a1, a2, a3, a4] h) (fun v h' => x_run 5 8 ls (v.toList ++ st) h') else none) else none := xe_virt (r := [a1, a2, a3, a4]) ec5 dX0_wiresInTheWay_5 ek0_63 rfl (by decide +kernel) (by decide +kernel)
theorem e5_8 {ls st : List Value} {h : x_H} {x : Int32}: x_run 5 8 ls (.int x :: st) h = q_ls ls 3 (.int x) (fun ls' => x_run 5 9 ls' st h) := xe_istore_n ec5 dX0_wiresInTheWay_8
theorem e5_9 {ls st : List Value} {h : x_H} : x_run 5 9 ls st h = q_gr ls 0 (fun v => x_run 5 10 ls (.ref v :: st) h) := xe_aload_n ec5 dX0_wiresInTheWay_9
theorem e5_10 {ls st : List Value} {h : x_H} {a : Nat}: x_run 5 10 ls (.ref a :: st) h = q_gf h a 2 10 (fun v => x_run 5 13 ls (v :: st) h) := xe_getfield ec5 dX0_wiresInTheWay_10 ef0_44
theorem e5_13 {ls st : List Value} {h : x_H} : x_run 5 13 ls st h = q_gi ls 2 (fun v => x_run 5 14 ls (.int v :: st) h) := xe_iload_n ec5 dX0_wiresInTheWay_13
theorem e5_14 {ls st : List Value} {h : x_H} {x : Int32} {a : Nat}: x_run 5 14 ls (.int x :: .ref a :: st) h = q_ra h a 0 x (fun v => x_run 5 15 ls (.int v :: st) h) := xe_iaload ec5 dX0_wiresInTheWay_14
theorem e5_15 {ls st : List Value} {h : x_H} {x : Int32}: x_run 5 15 ls (.int x :: st) h = q_ls ls 4 (.int x) (fun ls' => x_run 5 17 ls' st h) := xe_istore ec5 dX0_wiresInTheWay_15
theorem e5_17 {ls st : List Value} {h : x_H} : x_run 5 17 ls st h = q_gi ls 4 (fun v => x_run 5 19 ls (.int v :: st) h) := xe_iload ec5 dX0_wiresInTheWay_17
theorem e5_19 {ls st : List Value} {h : x_H} {x : Int32}: x_run 5 19 ls (.int x :: st) h = if x < 0 then x_run 5 47 ls st h else x_run 5 22 ls st h := xe_if_lt ec5 dX0_wiresInTheWay_19 rfl
theorem e5_22 {ls st : List Value} {h : x_H} : x_run 5 22 ls st h = q_gi ls 4 (fun v => x_run 5 24 ls (.int v :: st) h) := xe_iload ec5 dX0_wiresInTheWay_22
theorem e5_24 {ls st : List Value} {h : x_H} : x_run 5 24 ls st h = q_gi ls 1 (fun v => x_run 5 25 ls (.int v :: st) h) := xe_iload_n ec5 dX0_wiresInTheWay_24
theorem e5_25 {ls st : List Value} {h : x_H} {x y : Int32}: x_run 5 25 ls (.int y :: .int x :: st) h = if x = y then x_run 5 47 ls st h else x_run 5 28 ls st h := xe_ic_eq ec5 dX0_wiresInTheWay_25 rfl
theorem e5_28 {ls st : List Value} {h : x_H} : x_run 5 28 ls st h = q_gr ls 0 (fun v => x_run 5 29 ls (.ref v :: st) h) := xe_aload_n ec5 dX0_wiresInTheWay_28
theorem e5_29 {ls st : List Value} {h : x_H} {a : Nat}: x_run 5 29 ls (.ref a :: st) h = q_gf h a 2 11 (fun v => x_run 5 32 ls (v :: st) h) := xe_getfield ec5 dX0_wiresInTheWay_29 ef0_47
theorem e5_32 {ls st : List Value} {h : x_H} : x_run 5 32 ls st h = q_gi ls 2 (fun v => x_run 5 33 ls (.int v :: st) h) := xe_iload_n ec5 dX0_wiresInTheWay_32
theorem e5_33 {ls st : List Value} {h : x_H} : x_run 5 33 ls st h = x_run 5 35 ls (.int (q_i 48) :: st) h := xe_bipush ec5 dX0_wiresInTheWay_33 (by decide)
theorem e5_35 {ls st : List Value} {h : x_H} {x y : Int32}: x_run 5 35 ls (.int y :: .int x :: st) h = if y = 0 then none else x_run 5 36 ls (.int (x - (x / y) * y) :: st) h := xe_irem ec5 dX0_wiresInTheWay_35
theorem e5_36 {ls st : List Value} {h : x_H} {x : Int32} {a : Nat}: x_run 5 36 ls (.int x :: .ref a :: st) h = q_ra h a 1 x (fun v => x_run 5 37 ls (.int v :: st) h) := xe_baload ec5 dX0_wiresInTheWay_36
theorem e5_37 {ls st : List Value} {h : x_H} {x : Int32}: x_run 5 37 ls (.int x :: st) h = if ¬ x = 0 then x_run 5 47 ls st h else x_run 5 40 ls st h := xe_if_ne ec5 dX0_wiresInTheWay_37 rfl
theorem e5_40 {ls st : List Value} {h : x_H} : x_run 5 40 ls st h = q_gi ls 3 (fun v => x_run 5 41 ls (.int v :: st) h) := xe_iload_n ec5 dX0_wiresInTheWay_40
theorem e5_41 {ls st : List Value} {h : x_H} : x_run 5 41 ls st h = x_run 5 42 ls (.int (q_i 1) :: st) h := xe_iconst ec5 dX0_wiresInTheWay_41
theorem e5_42 {ls st : List Value} {h : x_H} : x_run 5 42 ls st h = q_gi ls 4 (fun v => x_run 5 44 ls (.int v :: st) h) := xe_iload ec5 dX0_wiresInTheWay_42
theorem e5_44 {ls st : List Value} {h : x_H} {x y : Int32}: x_run 5 44 ls (.int y :: .int x :: st) h = x_run 5 45 ls (.int (x <<< (y &&& 31)) :: st) h := xe_ishl ec5 dX0_wiresInTheWay_44
theorem e5_45 {ls st : List Value} {h : x_H} {x y : Int32}: x_run 5 45 ls (.int y :: .int x :: st) h = x_run 5 46 ls (.int (x ||| y) :: st) h := xe_ior ec5 dX0_wiresInTheWay_45
theorem e5_46 {ls st : List Value} {h : x_H} {x : Int32}: x_run 5 46 ls (.int x :: st) h = q_ls ls 3 (.int x) (fun ls' => x_run 5 47 ls' st h) := xe_istore_n ec5 dX0_wiresInTheWay_46
theorem e5_47 {ls st : List Value} {h : x_H} : x_run 5 47 ls st h = q_gi ls 3 (fun v => x_run 5 48 ls (.int v :: st) h) := xe_iload_n ec5 dX0_wiresInTheWay_47
theorem e5_48 {ls : List Value} {h : x_H} {x : Int32} : x_run 5 48 ls [.int x] h = if narrow .int (.int x) = .int x then some (.inl (some (.int x)), h) else none := xe_ireturn ec5 dX0_wiresInTheWay_48 rfl
theorem ec6 : x_code 6 = cX0_priceFor := rfl
theorem e6_0 {ls st : List Value} {h : x_H} : x_run 6 0 ls st h = q_gr ls 0 (fun v => x_run 6 1 ls (.ref v :: st) h) := xe_aload_n ec6 dX0_priceFor_0
theorem e6_1 {ls st : List Value} {h : x_H} {a : Nat}: x_run 6 1 ls (.ref a :: st) h = q_gf h a 2 10 (fun v => x_run 6 4 ls (v :: st) h) := xe_getfield ec6 dX0_priceFor_1 ef0_44
theorem e6_4 {ls st : List Value} {h : x_H} : x_run 6 4 ls st h = q_gi ls 2 (fun v => x_run 6 5 ls (.int v :: st) h) := xe_iload_n ec6 dX0_priceFor_4
theorem e6_5 {ls st : List Value} {h : x_H} {x : Int32} {a : Nat}: x_run 6 5 ls (.int x :: .ref a :: st) h = q_ra h a 0 x (fun v => x_run 6 6 ls (.int v :: st) h) := xe_iaload ec6 dX0_priceFor_5
theorem e6_6 {ls st : List Value} {h : x_H} {x : Int32}: x_run 6 6 ls (.int x :: st) h = q_ls ls 3 (.int x) (fun ls' => x_run 6 7 ls' st h) := xe_istore_n ec6 dX0_priceFor_6
theorem e6_7 {ls st : List Value} {h : x_H} : x_run 6 7 ls st h = q_gi ls 3 (fun v => x_run 6 8 ls (.int v :: st) h) := xe_iload_n ec6 dX0_priceFor_7
theorem e6_8 {ls st : List Value} {h : x_H} {x : Int32}: x_run 6 8 ls (.int x :: st) h = if x < 0 then x_run 6 20 ls st h else x_run 6 11 ls st h := xe_if_lt ec6 dX0_priceFor_8 rfl
theorem e6_11 {ls st : List Value} {h : x_H} : x_run 6 11 ls st h = q_gi ls 3 (fun v => x_run 6 12 ls (.int v :: st) h) := xe_iload_n ec6 dX0_priceFor_11
theorem e6_12 {ls st : List Value} {h : x_H} : x_run 6 12 ls st h = q_gi ls 1 (fun v => x_run 6 13 ls (.int v :: st) h) := xe_iload_n ec6 dX0_priceFor_12
theorem e6_13 {ls st : List Value} {h : x_H} {x y : Int32}: x_run 6 13 ls (.int y :: .int x :: st) h = if x = y then x_run 6 20 ls st h else x_run 6 16 ls st h := xe_ic_eq ec6 dX0_priceFor_13 rfl
theorem e6_16 {ls st : List Value} {h : x_H} : x_run 6 16 ls st h = x_run 6 17 ls (.int (q_i 1) :: st) h := xe_iconst ec6 dX0_priceFor_16
theorem e6_17 {ls st : List Value} {h : x_H} : x_run 6 17 ls st h = x_run 6 21 ls st h := xe_goto ec6 dX0_priceFor_17 rfl
theorem e6_20 {ls st : List Value} {h : x_H} : x_run 6 20 ls st h = x_run 6 21 ls (.int (q_i 0) :: st) h := xe_iconst ec6 dX0_priceFor_20
theorem e6_21 {ls st : List Value} {h : x_H} {x : Int32}: x_run 6 21 ls (.int x :: st) h = q_ls ls 4 (.int x) (fun ls' => x_run 6 23 ls' st h) := xe_istore ec6 dX0_priceFor_21
theorem e6_23 {ls st : List Value} {h : x_H} : x_run 6 23 ls st h = q_gi ls 4 (fun v => x_run 6 25 ls (.int v :: st) h) := xe_iload ec6 dX0_priceFor_23
theorem e6_25 {ls st : List Value} {h : x_H} {x : Int32}: x_run 6 25 ls (.int x :: st) h = if x = 0 then x_run 6 44 ls st h else x_run 6 28 ls st h := xe_if_eq ec6 dX0_priceFor_25 rfl
theorem e6_28 {ls st : List Value} {h : x_H} : x_run 6 28 ls st h = q_gr ls 0 (fun v => x_run 6 29 ls (.ref v :: st) h) := xe_aload_n ec6 dX0_priceFor_28
theorem e6_29 {ls st : List Value} {h : x_H} {a : Nat}: x_run 6 29 ls (.ref a :: st) h = q_gf h a 2 11 (fun v => x_run 6 32 ls (v :: st) h) := xe_getfield ec6 dX0_priceFor_29 ef0_47
theorem e6_32 {ls st : List Value} {h : x_H} : x_run 6 32 ls st h = q_gi ls 2 (fun v => x_run 6 33 ls (.int v :: st) h) := xe_iload_n ec6 dX0_priceFor_32
theorem e6_33 {ls st : List Value} {h : x_H} : x_run 6 33 ls st h = x_run 6 35 ls (.int (q_i 48) :: st) h := xe_bipush ec6 dX0_priceFor_33 (by decide)
theorem e6_35 {ls st : List Value} {h : x_H} {x y : Int32}: x_run 6 35 ls (.int y :: .int x :: st) h = if y = 0 then none else x_run 6 36 ls (.int (x - (x / y) * y) :: st) h := xe_irem ec6 dX0_priceFor_35
theorem e6_36 {ls st : List Value} {h : x_H} {x : Int32} {a : Nat}: x_run 6 36 ls (.int x :: .ref a :: st) h = q_ra h a 1 x (fun v => x_run 6 37 ls (.int v :: st) h) := xe_baload ec6 dX0_priceFor_36
theorem e6_37 {ls st : List Value} {h : x_H} {x : Int32}: x_run 6 37 ls (.int x :: st) h = if x = 0 then x_run 6 44 ls st h else x_run 6 40 ls st h := xe_if_eq ec6 dX0_priceFor_37 rfl
theorem e6_40 {ls st : List Value} {h : x_H} : x_run 6 40 ls st h = x_run 6 41 ls (.int (q_i 1) :: st) h := xe_iconst ec6 dX0_priceFor_40
theorem e6_41 {ls st : List Value} {h : x_H} : x_run 6 41 ls st h = x_run 6 45 ls st h := xe_goto ec6 dX0_priceFor_41 rfl
theorem e6_44 {ls st : List Value} {h : x_H} : x_run 6 44 ls st h = x_run 6 45 ls (.int (q_i 0) :: st) h := xe_iconst ec6 dX0_priceFor_44
theorem e6_45 {ls st : List Value} {h : x_H} {x : Int32}: x_run 6 45 ls (.int x :: st) h = q_ls ls 5 (.int x) (fun ls' => x_run 6 47 ls' st h) := xe_istore ec6 dX0_priceFor_45
theorem e6_47 {ls st : List Value} {h : x_H} : x_run 6 47 ls st h = q_gi ls 3 (fun v => x_run 6 48 ls (.int v :: st) h) := xe_iload_n ec6 dX0_priceFor_47
theorem e6_48 {ls st : List Value} {h : x_H} : x_run 6 48 ls st h = x_run 6 50 ls (.int (q_i (-2)) :: st) h := xe_bipush ec6 dX0_priceFor_48 (by decide)
theorem e6_50 {ls st : List Value} {h : x_H} {x y : Int32}: x_run 6 50 ls (.int y :: .int x :: st) h = if x = y then x_run 6 69 ls st h else x_run 6 53 ls st h := xe_ic_eq ec6 dX0_priceFor_50 rfl
theorem e6_53 {ls st : List Value} {h : x_H} : x_run 6 53 ls st h = q_gi ls 5 (fun v => x_run 6 55 ls (.int v :: st) h) := xe_iload ec6 dX0_priceFor_53
theorem e6_55 {ls st : List Value} {h : x_H} {x : Int32}: x_run 6 55 ls (.int x :: st) h = if ¬ x = 0 then x_run 6 69 ls st h else x_run 6 58 ls st h := xe_if_ne ec6 dX0_priceFor_55 rfl
theorem e6_58 {ls st : List Value} {h : x_H} : x_run 6 58 ls st h = q_gr ls 0 (fun v => x_run 6 59 ls (.ref v :: st) h) := xe_aload_n ec6 dX0_priceFor_58
theorem e6_59 {ls st : List Value} {h : x_H} : x_run 6 59 ls st h = q_gi ls 1 (fun v => x_run 6 60 ls (.int v :: st) h) := xe_iload_n ec6 dX0_priceFor_59
theorem e6_60 {ls st : List Value} {h : x_H} : x_run 6 60 ls st h = q_gi ls 2 (fun v => x_run 6 61 ls (.int v :: st) h) := xe_iload_n ec6 dX0_priceFor_60
theorem e6_61 {ls st : List Value} {h : x_H} : x_run 6 61 ls st h = x_run 6 62 ls (.int (q_i 1) :: st) h := xe_iconst ec6 dX0_priceFor_61
theorem e6_62 {ls st : List Value} {h : x_H} : x_run 6 62 ls st h = x_run 6 63 ls (.int (q_i 0) :: st) h := xe_iconst ec6 dX0_priceFor_62
theorem e6_63 {ls st : List Value} {h : x_H} {b : Nat} {a1 a2 a3 a4 : Value}: x_run 6 63 ls (a4 :: a3 :: a2 :: a1 :: .ref b :: st) h = if q_rcv h b 2 = true then (if x_wt st ≤ 8 ∧ x_wt [.ref b, a1, a2, a3, a4] = 5 then q_cl (x_m 4 [.ref b, a1, a2, a3, a4] h) (fun v h' => x_run 6 66 ls (v.toList ++ st) h') else none) else none := xe_virt (r := [a1, a2, a3, a4]) ec6 dX0_priceFor_63 ek0_63 rfl (by decide +kernel) (by decide +kernel)
theorem e6_66 {ls st : List Value} {h : x_H} {x : Int32}: x_run 6 66 ls (.int x :: st) h = if x = 0 then x_run 6 71 ls st h else x_run 6 69 ls st h := xe_if_eq ec6 dX0_priceFor_66 rfl
theorem e6_69 {ls st : List Value} {h : x_H} : x_run 6 69 ls st h = x_run 6 70 ls (.int (q_i (-1)) :: st) h := xe_iconst ec6 dX0_priceFor_69
theorem e6_70 {ls : List Value} {h : x_H} {x : Int32} : x_run 6 70 ls [.int x] h = if narrow .int (.int x) = .int x then some (.inl (some (.int x)), h) else none := xe_ireturn ec6 dX0_priceFor_70 rfl
theorem e6_71 {ls st : List Value} {h : x_H} : x_run 6 71 ls st h = q_gi ls 4 (fun v => x_run 6 73 ls (.int v :: st) h) := xe_iload ec6 dX0_priceFor_71
theorem e6_73 {ls st : List Value} {h : x_H} {x : Int32}: x_run 6 73 ls (.int x :: st) h = if ¬ x = 0 then x_run 6 87 ls st h else x_run 6 76 ls st h := xe_if_ne ec6 dX0_priceFor_73 rfl
theorem e6_76 {ls st : List Value} {h : x_H} : x_run 6 76 ls st h = q_gr ls 0 (fun v => x_run 6 77 ls (.ref v :: st) h) := xe_aload_n ec6 dX0_priceFor_76
theorem e6_77 {ls st : List Value} {h : x_H} : x_run 6 77 ls st h = q_gi ls 1 (fun v => x_run 6 78 ls (.int v :: st) h) := xe_iload_n ec6 dX0_priceFor_77
theorem e6_78 {ls st : List Value} {h : x_H} : x_run 6 78 ls st h = q_gi ls 2 (fun v => x_run 6 79 ls (.int v :: st) h) := xe_iload_n ec6 dX0_priceFor_78
theorem e6_79 {ls st : List Value} {h : x_H} : x_run 6 79 ls st h = x_run 6 80 ls (.int (q_i 0) :: st) h := xe_iconst ec6 dX0_priceFor_79
theorem e6_80 {ls st : List Value} {h : x_H} : x_run 6 80 ls st h = x_run 6 81 ls (.int (q_i 1) :: st) h := xe_iconst ec6 dX0_priceFor_80
theorem e6_81 {ls st : List Value} {h : x_H} {b : Nat} {a1 a2 a3 a4 : Value}: x_run 6 81 ls (a4 :: a3 :: a2 :: a1 :: .ref b :: st) h = if q_rcv h b 2 = true then (if x_wt st ≤ 8 ∧ x_wt [.ref b, a1, a2, a3, a4] = 5 then q_cl (x_m 4 [.ref b, a1, a2, a3, a4] h) (fun v h' => x_run 6 84 ls (v.toList ++ st) h') else none) else none := xe_virt (r := [a1, a2, a3, a4]) ec6 dX0_priceFor_81 ek0_63 rfl (by decide +kernel) (by decide +kernel)
theorem e6_84 {ls st : List Value} {h : x_H} {x : Int32}: x_run 6 84 ls (.int x :: st) h = if x = 0 then x_run 6 92 ls st h else x_run 6 87 ls st h := xe_if_eq ec6 dX0_priceFor_84 rfl
theorem e6_87 {ls st : List Value} {h : x_H} : x_run 6 87 ls st h = x_run 6 89 ls (.int (q_i 8) :: st) h := xe_bipush ec6 dX0_priceFor_87 (by decide)
theorem e6_89 {ls st : List Value} {h : x_H} : x_run 6 89 ls st h = x_run 6 93 ls st h := xe_goto ec6 dX0_priceFor_89 rfl
theorem e6_92 {ls st : List Value} {h : x_H} : x_run 6 92 ls st h = x_run 6 93 ls (.int (q_i 0) :: st) h := xe_iconst ec6 dX0_priceFor_92
theorem e6_93 {ls : List Value} {h : x_H} {x : Int32} : x_run 6 93 ls [.int x] h = if narrow .int (.int x) = .int x then some (.inl (some (.int x)), h) else none := xe_ireturn ec6 dX0_priceFor_93 rfl
theorem ec7 : x_code 7 = cX0_countHeld := rfl
theorem e7_0 {ls st : List Value} {h : x_H} : x_run 7 0 ls st h = x_run 7 1 ls (.int (q_i 0) :: st) h := xe_iconst ec7 dX0_countHeld_0
theorem e7_1 {ls st : List Value} {h : x_H} {x : Int32}: x_run 7 1 ls (.int x :: st) h = q_ls ls 2 (.int x) (fun ls' => x_run 7 2 ls' st h) := xe_istore_n ec7 dX0_countHeld_1
theorem e7_2 {ls st : List Value} {h : x_H} : x_run 7 2 ls st h = x_run 7 3 ls (.int (q_i 0) :: st) h := xe_iconst ec7 dX0_countHeld_2
theorem e7_3 {ls st : List Value} {h : x_H} {x : Int32}: x_run 7 3 ls (.int x :: st) h = q_ls ls 3 (.int x) (fun ls' => x_run 7 4 ls' st h) := xe_istore_n ec7 dX0_countHeld_3
theorem e7_4 {ls st : List Value} {h : x_H} : x_run 7 4 ls st h = q_gi ls 3 (fun v => x_run 7 5 ls (.int v :: st) h) := xe_iload_n ec7 dX0_countHeld_4
theorem e7_5 {ls st : List Value} {h : x_H} : x_run 7 5 ls st h = x_run 7 7 ls (.int (q_i 96) :: st) h := xe_bipush ec7 dX0_countHeld_5 (by decide)
theorem e7_7 {ls st : List Value} {h : x_H} {x y : Int32}: x_run 7 7 ls (.int y :: .int x :: st) h = if y ≤ x then x_run 7 29 ls st h else x_run 7 10 ls st h := xe_ic_ge ec7 dX0_countHeld_7 rfl
theorem e7_10 {ls st : List Value} {h : x_H} : x_run 7 10 ls st h = q_gr ls 0 (fun v => x_run 7 11 ls (.ref v :: st) h) := xe_aload_n ec7 dX0_countHeld_10
theorem e7_11 {ls st : List Value} {h : x_H} {a : Nat}: x_run 7 11 ls (.ref a :: st) h = q_gf h a 2 10 (fun v => x_run 7 14 ls (v :: st) h) := xe_getfield ec7 dX0_countHeld_11 ef0_44
theorem e7_14 {ls st : List Value} {h : x_H} : x_run 7 14 ls st h = q_gi ls 3 (fun v => x_run 7 15 ls (.int v :: st) h) := xe_iload_n ec7 dX0_countHeld_14
theorem e7_15 {ls st : List Value} {h : x_H} {x : Int32} {a : Nat}: x_run 7 15 ls (.int x :: .ref a :: st) h = q_ra h a 0 x (fun v => x_run 7 16 ls (.int v :: st) h) := xe_iaload ec7 dX0_countHeld_15
theorem e7_16 {ls st : List Value} {h : x_H} : x_run 7 16 ls st h = q_gi ls 1 (fun v => x_run 7 17 ls (.int v :: st) h) := xe_iload_n ec7 dX0_countHeld_16
theorem e7_17 {ls st : List Value} {h : x_H} {x y : Int32}: x_run 7 17 ls (.int y :: .int x :: st) h = if ¬ x = y then x_run 7 23 ls st h else x_run 7 20 ls st h := xe_ic_ne ec7 dX0_countHeld_17 rfl
theorem e7_20 {ls st : List Value} {h : x_H} : x_run 7 20 ls st h = q_gi ls 2 (fun v => if x_nd ls 2 = true then x_run 7 23 (ls.set 2 (.int (v + q_i 1))) st h else none) := xe_iinc ec7 dX0_countHeld_20
theorem e7_23 {ls st : List Value} {h : x_H} : x_run 7 23 ls st h = q_gi ls 3 (fun v => if x_nd ls 3 = true then x_run 7 26 (ls.set 3 (.int (v + q_i 1))) st h else none) := xe_iinc ec7 dX0_countHeld_23
theorem e7_26 {ls st : List Value} {h : x_H} : x_run 7 26 ls st h = x_run 7 4 ls st h := xe_goto ec7 dX0_countHeld_26 rfl
theorem e7_29 {ls st : List Value} {h : x_H} : x_run 7 29 ls st h = q_gi ls 2 (fun v => x_run 7 30 ls (.int v :: st) h) := xe_iload_n ec7 dX0_countHeld_29
theorem e7_30 {ls : List Value} {h : x_H} {x : Int32} : x_run 7 30 ls [.int x] h = if narrow .int (.int x) = .int x then some (.inl (some (.int x)), h) else none := xe_ireturn ec7 dX0_countHeld_30 rfl
theorem ec8 : x_code 8 = cX0_countHoles := rfl
theorem e8_0 {ls st : List Value} {h : x_H} : x_run 8 0 ls st h = x_run 8 1 ls (.int (q_i 0) :: st) h := xe_iconst ec8 dX0_countHoles_0
theorem e8_1 {ls st : List Value} {h : x_H} {x : Int32}: x_run 8 1 ls (.int x :: st) h = q_ls ls 1 (.int x) (fun ls' => x_run 8 2 ls' st h) := xe_istore_n ec8 dX0_countHoles_1
theorem e8_2 {ls st : List Value} {h : x_H} : x_run 8 2 ls st h = x_run 8 3 ls (.int (q_i 0) :: st) h := xe_iconst ec8 dX0_countHoles_2
theorem e8_3 {ls st : List Value} {h : x_H} {x : Int32}: x_run 8 3 ls (.int x :: st) h = q_ls ls 2 (.int x) (fun ls' => x_run 8 4 ls' st h) := xe_istore_n ec8 dX0_countHoles_3
theorem e8_4 {ls st : List Value} {h : x_H} : x_run 8 4 ls st h = q_gi ls 2 (fun v => x_run 8 5 ls (.int v :: st) h) := xe_iload_n ec8 dX0_countHoles_4
theorem e8_5 {ls st : List Value} {h : x_H} : x_run 8 5 ls st h = x_run 8 7 ls (.int (q_i 48) :: st) h := xe_bipush ec8 dX0_countHoles_5 (by decide)
theorem e8_7 {ls st : List Value} {h : x_H} {x y : Int32}: x_run 8 7 ls (.int y :: .int x :: st) h = if y ≤ x then x_run 8 28 ls st h else x_run 8 10 ls st h := xe_ic_ge ec8 dX0_countHoles_7 rfl
theorem e8_10 {ls st : List Value} {h : x_H} : x_run 8 10 ls st h = q_gr ls 0 (fun v => x_run 8 11 ls (.ref v :: st) h) := xe_aload_n ec8 dX0_countHoles_10
theorem e8_11 {ls st : List Value} {h : x_H} {a : Nat}: x_run 8 11 ls (.ref a :: st) h = q_gf h a 2 12 (fun v => x_run 8 14 ls (v :: st) h) := xe_getfield ec8 dX0_countHoles_11 ef0_50
theorem e8_14 {ls st : List Value} {h : x_H} : x_run 8 14 ls st h = q_gi ls 2 (fun v => x_run 8 15 ls (.int v :: st) h) := xe_iload_n ec8 dX0_countHoles_14
theorem e8_15 {ls st : List Value} {h : x_H} {x : Int32} {a : Nat}: x_run 8 15 ls (.int x :: .ref a :: st) h = q_ra h a 1 x (fun v => x_run 8 16 ls (.int v :: st) h) := xe_baload ec8 dX0_countHoles_15
theorem e8_16 {ls st : List Value} {h : x_H} {x : Int32}: x_run 8 16 ls (.int x :: st) h = if x = 0 then x_run 8 22 ls st h else x_run 8 19 ls st h := xe_if_eq ec8 dX0_countHoles_16 rfl
theorem e8_19 {ls st : List Value} {h : x_H} : x_run 8 19 ls st h = q_gi ls 1 (fun v => if x_nd ls 1 = true then x_run 8 22 (ls.set 1 (.int (v + q_i 1))) st h else none) := xe_iinc ec8 dX0_countHoles_19
theorem e8_22 {ls st : List Value} {h : x_H} : x_run 8 22 ls st h = q_gi ls 2 (fun v => if x_nd ls 2 = true then x_run 8 25 (ls.set 2 (.int (v + q_i 1))) st h else none) := xe_iinc ec8 dX0_countHoles_22
theorem e8_25 {ls st : List Value} {h : x_H} : x_run 8 25 ls st h = x_run 8 4 ls st h := xe_goto ec8 dX0_countHoles_25 rfl
theorem e8_28 {ls st : List Value} {h : x_H} : x_run 8 28 ls st h = q_gi ls 1 (fun v => x_run 8 29 ls (.int v :: st) h) := xe_iload_n ec8 dX0_countHoles_28
theorem e8_29 {ls : List Value} {h : x_H} {x : Int32} : x_run 8 29 ls [.int x] h = if narrow .int (.int x) = .int x then some (.inl (some (.int x)), h) else none := xe_ireturn ec8 dX0_countHoles_29 rfl
theorem ec9 : x_code 9 = cX0_countRouted := rfl
theorem e9_0 {ls st : List Value} {h : x_H} : x_run 9 0 ls st h = x_run 9 1 ls (.int (q_i 0) :: st) h := xe_iconst ec9 dX0_countRouted_0
theorem e9_1 {ls st : List Value} {h : x_H} {x : Int32}: x_run 9 1 ls (.int x :: st) h = q_ls ls 1 (.int x) (fun ls' => x_run 9 2 ls' st h) := xe_istore_n ec9 dX0_countRouted_1
theorem e9_2 {ls st : List Value} {h : x_H} : x_run 9 2 ls st h = x_run 9 3 ls (.int (q_i 0) :: st) h := xe_iconst ec9 dX0_countRouted_2
theorem e9_3 {ls st : List Value} {h : x_H} {x : Int32}: x_run 9 3 ls (.int x :: st) h = q_ls ls 2 (.int x) (fun ls' => x_run 9 4 ls' st h) := xe_istore_n ec9 dX0_countRouted_3
theorem e9_4 {ls st : List Value} {h : x_H} : x_run 9 4 ls st h = q_gi ls 2 (fun v => x_run 9 5 ls (.int v :: st) h) := xe_iload_n ec9 dX0_countRouted_4
theorem e9_5 {ls st : List Value} {h : x_H} : x_run 9 5 ls st h = q_gr ls 0 (fun v => x_run 9 6 ls (.ref v :: st) h) := xe_aload_n ec9 dX0_countRouted_5
theorem e9_6 {ls st : List Value} {h : x_H} {a : Nat}: x_run 9 6 ls (.ref a :: st) h = q_gf h a 2 0 (fun v => x_run 9 9 ls (v :: st) h) := xe_getfield ec9 dX0_countRouted_6 ef0_9
theorem e9_9 {ls st : List Value} {h : x_H} {x y : Int32}: x_run 9 9 ls (.int y :: .int x :: st) h = if y ≤ x then x_run 9 30 ls st h else x_run 9 12 ls st h := xe_ic_ge ec9 dX0_countRouted_9 rfl
theorem e9_12 {ls st : List Value} {h : x_H} : x_run 9 12 ls st h = q_gr ls 0 (fun v => x_run 9 13 ls (.ref v :: st) h) := xe_aload_n ec9 dX0_countRouted_12
theorem e9_13 {ls st : List Value} {h : x_H} {a : Nat}: x_run 9 13 ls (.ref a :: st) h = q_gf h a 2 3 (fun v => x_run 9 16 ls (v :: st) h) := xe_getfield ec9 dX0_countRouted_13 ef0_22
theorem e9_16 {ls st : List Value} {h : x_H} : x_run 9 16 ls st h = q_gi ls 2 (fun v => x_run 9 17 ls (.int v :: st) h) := xe_iload_n ec9 dX0_countRouted_16
theorem e9_17 {ls st : List Value} {h : x_H} {x : Int32} {a : Nat}: x_run 9 17 ls (.int x :: .ref a :: st) h = q_ra h a 1 x (fun v => x_run 9 18 ls (.int v :: st) h) := xe_baload ec9 dX0_countRouted_17
theorem e9_18 {ls st : List Value} {h : x_H} {x : Int32}: x_run 9 18 ls (.int x :: st) h = if x = 0 then x_run 9 24 ls st h else x_run 9 21 ls st h := xe_if_eq ec9 dX0_countRouted_18 rfl
theorem e9_21 {ls st : List Value} {h : x_H} : x_run 9 21 ls st h = q_gi ls 1 (fun v => if x_nd ls 1 = true then x_run 9 24 (ls.set 1 (.int (v + q_i 1))) st h else none) := xe_iinc ec9 dX0_countRouted_21
theorem e9_24 {ls st : List Value} {h : x_H} : x_run 9 24 ls st h = q_gi ls 2 (fun v => if x_nd ls 2 = true then x_run 9 27 (ls.set 2 (.int (v + q_i 1))) st h else none) := xe_iinc ec9 dX0_countRouted_24
theorem e9_27 {ls st : List Value} {h : x_H} : x_run 9 27 ls st h = x_run 9 4 ls st h := xe_goto ec9 dX0_countRouted_27 rfl
theorem e9_30 {ls st : List Value} {h : x_H} : x_run 9 30 ls st h = q_gi ls 1 (fun v => x_run 9 31 ls (.int v :: st) h) := xe_iload_n ec9 dX0_countRouted_30
theorem e9_31 {ls : List Value} {h : x_H} {x : Int32} : x_run 9 31 ls [.int x] h = if narrow .int (.int x) = .int x then some (.inl (some (.int x)), h) else none := xe_ireturn ec9 dX0_countRouted_31 rfl
theorem ec10 : x_code 10 = cX0_countTouches := rfl
theorem e10_0 {ls st : List Value} {h : x_H} : x_run 10 0 ls st h = x_run 10 1 ls (.int (q_i 0) :: st) h := xe_iconst ec10 dX0_countTouches_0
theorem e10_1 {ls st : List Value} {h : x_H} {x : Int32}: x_run 10 1 ls (.int x :: st) h = q_ls ls 2 (.int x) (fun ls' => x_run 10 2 ls' st h) := xe_istore_n ec10 dX0_countTouches_1
theorem e10_2 {ls st : List Value} {h : x_H} : x_run 10 2 ls st h = x_run 10 3 ls (.int (q_i 0) :: st) h := xe_iconst ec10 dX0_countTouches_2
theorem e10_3 {ls st : List Value} {h : x_H} {x : Int32}: x_run 10 3 ls (.int x :: st) h = q_ls ls 3 (.int x) (fun ls' => x_run 10 4 ls' st h) := xe_istore_n ec10 dX0_countTouches_3
theorem e10_4 {ls st : List Value} {h : x_H} : x_run 10 4 ls st h = q_gi ls 3 (fun v => x_run 10 5 ls (.int v :: st) h) := xe_iload_n ec10 dX0_countTouches_4
theorem e10_5 {ls st : List Value} {h : x_H} : x_run 10 5 ls st h = x_run 10 7 ls (.int (q_i 96) :: st) h := xe_bipush ec10 dX0_countTouches_5 (by decide)
theorem e10_7 {ls st : List Value} {h : x_H} {x y : Int32}: x_run 10 7 ls (.int y :: .int x :: st) h = if y ≤ x then x_run 10 78 ls st h else x_run 10 10 ls st h := xe_ic_ge ec10 dX0_countTouches_7 rfl
theorem e10_10 {ls st : List Value} {h : x_H} : x_run 10 10 ls st h = x_run 10 11 ls (.int (q_i 0) :: st) h := xe_iconst ec10 dX0_countTouches_10
theorem e10_11 {ls st : List Value} {h : x_H} {x : Int32}: x_run 10 11 ls (.int x :: st) h = q_ls ls 4 (.int x) (fun ls' => x_run 10 13 ls' st h) := xe_istore ec10 dX0_countTouches_11
theorem e10_13 {ls st : List Value} {h : x_H} : x_run 10 13 ls st h = q_gi ls 4 (fun v => x_run 10 15 ls (.int v :: st) h) := xe_iload ec10 dX0_countTouches_13
theorem e10_15 {ls st : List Value} {h : x_H} : x_run 10 15 ls st h = x_run 10 16 ls (.int (q_i 4) :: st) h := xe_iconst ec10 dX0_countTouches_15
theorem e10_16 {ls st : List Value} {h : x_H} {x y : Int32}: x_run 10 16 ls (.int y :: .int x :: st) h = if y ≤ x then x_run 10 72 ls st h else x_run 10 19 ls st h := xe_ic_ge ec10 dX0_countTouches_16 rfl
theorem e10_19 {ls st : List Value} {h : x_H} : x_run 10 19 ls st h = q_gr ls 0 (fun v => x_run 10 20 ls (.ref v :: st) h) := xe_aload_n ec10 dX0_countTouches_19
theorem e10_20 {ls st : List Value} {h : x_H} {a : Nat}: x_run 10 20 ls (.ref a :: st) h = q_gf h a 2 10 (fun v => x_run 10 23 ls (v :: st) h) := xe_getfield ec10 dX0_countTouches_20 ef0_44
theorem e10_23 {ls st : List Value} {h : x_H} : x_run 10 23 ls st h = q_gi ls 3 (fun v => x_run 10 24 ls (.int v :: st) h) := xe_iload_n ec10 dX0_countTouches_23
theorem e10_24 {ls st : List Value} {h : x_H} {x : Int32} {a : Nat}: x_run 10 24 ls (.int x :: .ref a :: st) h = q_ra h a 0 x (fun v => x_run 10 25 ls (.int v :: st) h) := xe_iaload ec10 dX0_countTouches_24
theorem e10_25 {ls st : List Value} {h : x_H} : x_run 10 25 ls st h = q_gi ls 1 (fun v => x_run 10 26 ls (.int v :: st) h) := xe_iload_n ec10 dX0_countTouches_25
theorem e10_26 {ls st : List Value} {h : x_H} {x y : Int32}: x_run 10 26 ls (.int y :: .int x :: st) h = if ¬ x = y then x_run 10 72 ls st h else x_run 10 29 ls st h := xe_ic_ne ec10 dX0_countTouches_26 rfl
theorem e10_29 {ls st : List Value} {h : x_H} : x_run 10 29 ls st h = q_gi ls 3 (fun v => x_run 10 30 ls (.int v :: st) h) := xe_iload_n ec10 dX0_countTouches_29
theorem e10_30 {ls st : List Value} {h : x_H} : x_run 10 30 ls st h = q_gi ls 4 (fun v => x_run 10 32 ls (.int v :: st) h) := xe_iload ec10 dX0_countTouches_30
theorem e10_32 {ls st : List Value} {h : x_H} {a1 a2 : Value}: x_run 10 32 ls (a2 :: a1 :: st) h = if x_wt st ≤ 8 ∧ x_wt [a1, a2] = 2 then q_cl (x_m 741 [a1, a2] h) (fun v h' => x_run 10 35 ls (v.toList ++ st) h') else none := xe_stat (args := [a1, a2]) ec10 dX0_countTouches_32 ek0_59 (by decide) rfl (by decide +kernel) (by decide +kernel)
theorem e10_35 {ls st : List Value} {h : x_H} {x : Int32}: x_run 10 35 ls (.int x :: st) h = q_ls ls 5 (.int x) (fun ls' => x_run 10 37 ls' st h) := xe_istore ec10 dX0_countTouches_35
theorem e10_37 {ls st : List Value} {h : x_H} : x_run 10 37 ls st h = q_gi ls 5 (fun v => x_run 10 39 ls (.int v :: st) h) := xe_iload ec10 dX0_countTouches_37
theorem e10_39 {ls st : List Value} {h : x_H} {x : Int32}: x_run 10 39 ls (.int x :: st) h = if x < 0 then x_run 10 66 ls st h else x_run 10 42 ls st h := xe_if_lt ec10 dX0_countTouches_39 rfl
theorem e10_42 {ls st : List Value} {h : x_H} : x_run 10 42 ls st h = q_gr ls 0 (fun v => x_run 10 43 ls (.ref v :: st) h) := xe_aload_n ec10 dX0_countTouches_42
theorem e10_43 {ls st : List Value} {h : x_H} {a : Nat}: x_run 10 43 ls (.ref a :: st) h = q_gf h a 2 10 (fun v => x_run 10 46 ls (v :: st) h) := xe_getfield ec10 dX0_countTouches_43 ef0_44
theorem e10_46 {ls st : List Value} {h : x_H} : x_run 10 46 ls st h = q_gi ls 5 (fun v => x_run 10 48 ls (.int v :: st) h) := xe_iload ec10 dX0_countTouches_46
theorem e10_48 {ls st : List Value} {h : x_H} {x : Int32} {a : Nat}: x_run 10 48 ls (.int x :: .ref a :: st) h = q_ra h a 0 x (fun v => x_run 10 49 ls (.int v :: st) h) := xe_iaload ec10 dX0_countTouches_48
theorem e10_49 {ls st : List Value} {h : x_H} {x : Int32}: x_run 10 49 ls (.int x :: st) h = if x < 0 then x_run 10 66 ls st h else x_run 10 52 ls st h := xe_if_lt ec10 dX0_countTouches_49 rfl
theorem e10_52 {ls st : List Value} {h : x_H} : x_run 10 52 ls st h = q_gr ls 0 (fun v => x_run 10 53 ls (.ref v :: st) h) := xe_aload_n ec10 dX0_countTouches_52
theorem e10_53 {ls st : List Value} {h : x_H} {a : Nat}: x_run 10 53 ls (.ref a :: st) h = q_gf h a 2 10 (fun v => x_run 10 56 ls (v :: st) h) := xe_getfield ec10 dX0_countTouches_53 ef0_44
theorem e10_56 {ls st : List Value} {h : x_H} : x_run 10 56 ls st h = q_gi ls 5 (fun v => x_run 10 58 ls (.int v :: st) h) := xe_iload ec10 dX0_countTouches_56
theorem e10_58 {ls st : List Value} {h : x_H} {x : Int32} {a : Nat}: x_run 10 58 ls (.int x :: .ref a :: st) h = q_ra h a 0 x (fun v => x_run 10 59 ls (.int v :: st) h) := xe_iaload ec10 dX0_countTouches_58
theorem e10_59 {ls st : List Value} {h : x_H} : x_run 10 59 ls st h = q_gi ls 1 (fun v => x_run 10 60 ls (.int v :: st) h) := xe_iload_n ec10 dX0_countTouches_59
theorem e10_60 {ls st : List Value} {h : x_H} {x y : Int32}: x_run 10 60 ls (.int y :: .int x :: st) h = if x = y then x_run 10 66 ls st h else x_run 10 63 ls st h := xe_ic_eq ec10 dX0_countTouches_60 rfl
theorem e10_63 {ls st : List Value} {h : x_H} : x_run 10 63 ls st h = q_gi ls 2 (fun v => if x_nd ls 2 = true then x_run 10 66 (ls.set 2 (.int (v + q_i 1))) st h else none) := xe_iinc ec10 dX0_countTouches_63
theorem e10_66 {ls st : List Value} {h : x_H} : x_run 10 66 ls st h = q_gi ls 4 (fun v => if x_nd ls 4 = true then x_run 10 69 (ls.set 4 (.int (v + q_i 1))) st h else none) := xe_iinc ec10 dX0_countTouches_66
theorem e10_69 {ls st : List Value} {h : x_H} : x_run 10 69 ls st h = x_run 10 13 ls st h := xe_goto ec10 dX0_countTouches_69 rfl
theorem e10_72 {ls st : List Value} {h : x_H} : x_run 10 72 ls st h = q_gi ls 3 (fun v => if x_nd ls 3 = true then x_run 10 75 (ls.set 3 (.int (v + q_i 1))) st h else none) := xe_iinc ec10 dX0_countTouches_72
theorem e10_75 {ls st : List Value} {h : x_H} : x_run 10 75 ls st h = x_run 10 4 ls st h := xe_goto ec10 dX0_countTouches_75 rfl
theorem e10_78 {ls st : List Value} {h : x_H} : x_run 10 78 ls st h = q_gi ls 2 (fun v => x_run 10 79 ls (.int v :: st) h) := xe_iload_n ec10 dX0_countTouches_78
theorem e10_79 {ls : List Value} {h : x_H} {x : Int32} : x_run 10 79 ls [.int x] h = if narrow .int (.int x) = .int x then some (.inl (some (.int x)), h) else none := xe_ireturn ec10 dX0_countTouches_79 rfl
theorem ec11 : x_code 11 = cX0_sumOver := rfl
theorem e11_0 {ls st : List Value} {h : x_H} : x_run 11 0 ls st h = x_run 11 1 ls (.int (q_i 0) :: st) h := xe_iconst ec11 dX0_sumOver_0
theorem e11_1 {ls st : List Value} {h : x_H} {x : Int32}: x_run 11 1 ls (.int x :: st) h = q_ls ls 2 (.int x) (fun ls' => x_run 11 2 ls' st h) := xe_istore_n ec11 dX0_sumOver_1
theorem e11_2 {ls st : List Value} {h : x_H} : x_run 11 2 ls st h = x_run 11 3 ls (.int (q_i 0) :: st) h := xe_iconst ec11 dX0_sumOver_2
theorem e11_3 {ls st : List Value} {h : x_H} {x : Int32}: x_run 11 3 ls (.int x :: st) h = q_ls ls 3 (.int x) (fun ls' => x_run 11 4 ls' st h) := xe_istore_n ec11 dX0_sumOver_3
theorem e11_4 {ls st : List Value} {h : x_H} : x_run 11 4 ls st h = q_gi ls 3 (fun v => x_run 11 5 ls (.int v :: st) h) := xe_iload_n ec11 dX0_sumOver_4
theorem e11_5 {ls st : List Value} {h : x_H} : x_run 11 5 ls st h = q_gr ls 0 (fun v => x_run 11 6 ls (.ref v :: st) h) := xe_aload_n ec11 dX0_sumOver_5
theorem e11_6 {ls st : List Value} {h : x_H} {a : Nat}: x_run 11 6 ls (.ref a :: st) h = q_gf h a 2 0 (fun v => x_run 11 9 ls (v :: st) h) := xe_getfield ec11 dX0_sumOver_6 ef0_9
theorem e11_9 {ls st : List Value} {h : x_H} {x y : Int32}: x_run 11 9 ls (.int y :: .int x :: st) h = if y ≤ x then x_run 11 24 ls st h else x_run 11 12 ls st h := xe_ic_ge ec11 dX0_sumOver_9 rfl
theorem e11_12 {ls st : List Value} {h : x_H} : x_run 11 12 ls st h = q_gi ls 2 (fun v => x_run 11 13 ls (.int v :: st) h) := xe_iload_n ec11 dX0_sumOver_12
theorem e11_13 {ls st : List Value} {h : x_H} : x_run 11 13 ls st h = q_gr ls 1 (fun v => x_run 11 14 ls (.ref v :: st) h) := xe_aload_n ec11 dX0_sumOver_13
theorem e11_14 {ls st : List Value} {h : x_H} : x_run 11 14 ls st h = q_gi ls 3 (fun v => x_run 11 15 ls (.int v :: st) h) := xe_iload_n ec11 dX0_sumOver_14
theorem e11_15 {ls st : List Value} {h : x_H} {x : Int32} {a : Nat}: x_run 11 15 ls (.int x :: .ref a :: st) h = q_ra h a 0 x (fun v => x_run 11 16 ls (.int v :: st) h) := xe_iaload ec11 dX0_sumOver_15
theorem e11_16 {ls st : List Value} {h : x_H} {x y : Int32}: x_run 11 16 ls (.int y :: .int x :: st) h = x_run 11 17 ls (.int (x + y) :: st) h := xe_iadd ec11 dX0_sumOver_16
theorem e11_17 {ls st : List Value} {h : x_H} {x : Int32}: x_run 11 17 ls (.int x :: st) h = q_ls ls 2 (.int x) (fun ls' => x_run 11 18 ls' st h) := xe_istore_n ec11 dX0_sumOver_17
theorem e11_18 {ls st : List Value} {h : x_H} : x_run 11 18 ls st h = q_gi ls 3 (fun v => if x_nd ls 3 = true then x_run 11 21 (ls.set 3 (.int (v + q_i 1))) st h else none) := xe_iinc ec11 dX0_sumOver_18
theorem e11_21 {ls st : List Value} {h : x_H} : x_run 11 21 ls st h = x_run 11 4 ls st h := xe_goto ec11 dX0_sumOver_21 rfl
theorem e11_24 {ls st : List Value} {h : x_H} : x_run 11 24 ls st h = q_gi ls 2 (fun v => x_run 11 25 ls (.int v :: st) h) := xe_iload_n ec11 dX0_sumOver_24
theorem e11_25 {ls : List Value} {h : x_H} {x : Int32} : x_run 11 25 ls [.int x] h = if narrow .int (.int x) = .int x then some (.inl (some (.int x)), h) else none := xe_ireturn ec11 dX0_sumOver_25 rfl
theorem ec12 : x_code 12 = cX0_countBefore := rfl
theorem e12_0 {ls st : List Value} {h : x_H} : x_run 12 0 ls st h = x_run 12 1 ls (.int (q_i 0) :: st) h := xe_iconst ec12 dX0_countBefore_0
theorem e12_1 {ls st : List Value} {h : x_H} {x : Int32}: x_run 12 1 ls (.int x :: st) h = q_ls ls 2 (.int x) (fun ls' => x_run 12 2 ls' st h) := xe_istore_n ec12 dX0_countBefore_1
theorem e12_2 {ls st : List Value} {h : x_H} : x_run 12 2 ls st h = x_run 12 3 ls (.int (q_i 0) :: st) h := xe_iconst ec12 dX0_countBefore_2
theorem e12_3 {ls st : List Value} {h : x_H} {x : Int32}: x_run 12 3 ls (.int x :: st) h = q_ls ls 3 (.int x) (fun ls' => x_run 12 4 ls' st h) := xe_istore_n ec12 dX0_countBefore_3
theorem e12_4 {ls st : List Value} {h : x_H} : x_run 12 4 ls st h = q_gi ls 3 (fun v => x_run 12 5 ls (.int v :: st) h) := xe_iload_n ec12 dX0_countBefore_4
theorem e12_5 {ls st : List Value} {h : x_H} : x_run 12 5 ls st h = q_gr ls 0 (fun v => x_run 12 6 ls (.ref v :: st) h) := xe_aload_n ec12 dX0_countBefore_5
theorem e12_6 {ls st : List Value} {h : x_H} {a : Nat}: x_run 12 6 ls (.ref a :: st) h = q_gf h a 2 0 (fun v => x_run 12 9 ls (v :: st) h) := xe_getfield ec12 dX0_countBefore_6 ef0_9
theorem e12_9 {ls st : List Value} {h : x_H} {x y : Int32}: x_run 12 9 ls (.int y :: .int x :: st) h = if y ≤ x then x_run 12 113 ls st h else x_run 12 12 ls st h := xe_ic_ge ec12 dX0_countBefore_9 rfl
theorem e12_12 {ls st : List Value} {h : x_H} : x_run 12 12 ls st h = q_gr ls 0 (fun v => x_run 12 13 ls (.ref v :: st) h) := xe_aload_n ec12 dX0_countBefore_12
theorem e12_13 {ls st : List Value} {h : x_H} {a : Nat}: x_run 12 13 ls (.ref a :: st) h = q_gf h a 2 5 (fun v => x_run 12 16 ls (v :: st) h) := xe_getfield ec12 dX0_countBefore_13 ef0_29
theorem e12_16 {ls st : List Value} {h : x_H} : x_run 12 16 ls st h = q_gi ls 3 (fun v => x_run 12 17 ls (.int v :: st) h) := xe_iload_n ec12 dX0_countBefore_16
theorem e12_17 {ls st : List Value} {h : x_H} {x : Int32} {a : Nat}: x_run 12 17 ls (.int x :: .ref a :: st) h = q_ra h a 0 x (fun v => x_run 12 18 ls (.int v :: st) h) := xe_iaload ec12 dX0_countBefore_17
theorem e12_18 {ls st : List Value} {h : x_H} : x_run 12 18 ls st h = q_gr ls 0 (fun v => x_run 12 19 ls (.ref v :: st) h) := xe_aload_n ec12 dX0_countBefore_18
theorem e12_19 {ls st : List Value} {h : x_H} {a : Nat}: x_run 12 19 ls (.ref a :: st) h = q_gf h a 2 5 (fun v => x_run 12 22 ls (v :: st) h) := xe_getfield ec12 dX0_countBefore_19 ef0_29
theorem e12_22 {ls st : List Value} {h : x_H} : x_run 12 22 ls st h = q_gi ls 1 (fun v => x_run 12 23 ls (.int v :: st) h) := xe_iload_n ec12 dX0_countBefore_22
theorem e12_23 {ls st : List Value} {h : x_H} {x : Int32} {a : Nat}: x_run 12 23 ls (.int x :: .ref a :: st) h = q_ra h a 0 x (fun v => x_run 12 24 ls (.int v :: st) h) := xe_iaload ec12 dX0_countBefore_23
theorem e12_24 {ls st : List Value} {h : x_H} {x y : Int32}: x_run 12 24 ls (.int y :: .int x :: st) h = if x = y then x_run 12 53 ls st h else x_run 12 27 ls st h := xe_ic_eq ec12 dX0_countBefore_24 rfl
theorem e12_27 {ls st : List Value} {h : x_H} : x_run 12 27 ls st h = q_gi ls 2 (fun v => x_run 12 28 ls (.int v :: st) h) := xe_iload_n ec12 dX0_countBefore_27
theorem e12_28 {ls st : List Value} {h : x_H} : x_run 12 28 ls st h = q_gr ls 0 (fun v => x_run 12 29 ls (.ref v :: st) h) := xe_aload_n ec12 dX0_countBefore_28
theorem e12_29 {ls st : List Value} {h : x_H} {a : Nat}: x_run 12 29 ls (.ref a :: st) h = q_gf h a 2 5 (fun v => x_run 12 32 ls (v :: st) h) := xe_getfield ec12 dX0_countBefore_29 ef0_29
theorem e12_32 {ls st : List Value} {h : x_H} : x_run 12 32 ls st h = q_gi ls 3 (fun v => x_run 12 33 ls (.int v :: st) h) := xe_iload_n ec12 dX0_countBefore_32
theorem e12_33 {ls st : List Value} {h : x_H} {x : Int32} {a : Nat}: x_run 12 33 ls (.int x :: .ref a :: st) h = q_ra h a 0 x (fun v => x_run 12 34 ls (.int v :: st) h) := xe_iaload ec12 dX0_countBefore_33
theorem e12_34 {ls st : List Value} {h : x_H} : x_run 12 34 ls st h = q_gr ls 0 (fun v => x_run 12 35 ls (.ref v :: st) h) := xe_aload_n ec12 dX0_countBefore_34
theorem e12_35 {ls st : List Value} {h : x_H} {a : Nat}: x_run 12 35 ls (.ref a :: st) h = q_gf h a 2 5 (fun v => x_run 12 38 ls (v :: st) h) := xe_getfield ec12 dX0_countBefore_35 ef0_29
theorem e12_38 {ls st : List Value} {h : x_H} : x_run 12 38 ls st h = q_gi ls 1 (fun v => x_run 12 39 ls (.int v :: st) h) := xe_iload_n ec12 dX0_countBefore_38
theorem e12_39 {ls st : List Value} {h : x_H} {x : Int32} {a : Nat}: x_run 12 39 ls (.int x :: .ref a :: st) h = q_ra h a 0 x (fun v => x_run 12 40 ls (.int v :: st) h) := xe_iaload ec12 dX0_countBefore_39
theorem e12_40 {ls st : List Value} {h : x_H} {x y : Int32}: x_run 12 40 ls (.int y :: .int x :: st) h = if x ≤ y then x_run 12 47 ls st h else x_run 12 43 ls st h := xe_ic_le ec12 dX0_countBefore_40 rfl
theorem e12_43 {ls st : List Value} {h : x_H} : x_run 12 43 ls st h = x_run 12 44 ls (.int (q_i 1) :: st) h := xe_iconst ec12 dX0_countBefore_43
theorem e12_44 {ls st : List Value} {h : x_H} : x_run 12 44 ls st h = x_run 12 48 ls st h := xe_goto ec12 dX0_countBefore_44 rfl
theorem e12_47 {ls st : List Value} {h : x_H} : x_run 12 47 ls st h = x_run 12 48 ls (.int (q_i 0) :: st) h := xe_iconst ec12 dX0_countBefore_47
theorem e12_48 {ls st : List Value} {h : x_H} {x y : Int32}: x_run 12 48 ls (.int y :: .int x :: st) h = x_run 12 49 ls (.int (x + y) :: st) h := xe_iadd ec12 dX0_countBefore_48
theorem e12_49 {ls st : List Value} {h : x_H} {x : Int32}: x_run 12 49 ls (.int x :: st) h = q_ls ls 2 (.int x) (fun ls' => x_run 12 50 ls' st h) := xe_istore_n ec12 dX0_countBefore_49
theorem e12_50 {ls st : List Value} {h : x_H} : x_run 12 50 ls st h = x_run 12 107 ls st h := xe_goto ec12 dX0_countBefore_50 rfl
theorem e12_53 {ls st : List Value} {h : x_H} : x_run 12 53 ls st h = q_gr ls 0 (fun v => x_run 12 54 ls (.ref v :: st) h) := xe_aload_n ec12 dX0_countBefore_53
theorem e12_54 {ls st : List Value} {h : x_H} {a : Nat}: x_run 12 54 ls (.ref a :: st) h = q_gf h a 2 8 (fun v => x_run 12 57 ls (v :: st) h) := xe_getfield ec12 dX0_countBefore_54 ef0_38
theorem e12_57 {ls st : List Value} {h : x_H} : x_run 12 57 ls st h = q_gi ls 3 (fun v => x_run 12 58 ls (.int v :: st) h) := xe_iload_n ec12 dX0_countBefore_57
theorem e12_58 {ls st : List Value} {h : x_H} {x : Int32} {a : Nat}: x_run 12 58 ls (.int x :: .ref a :: st) h = q_ra h a 0 x (fun v => x_run 12 59 ls (.int v :: st) h) := xe_iaload ec12 dX0_countBefore_58
theorem e12_59 {ls st : List Value} {h : x_H} : x_run 12 59 ls st h = q_gr ls 0 (fun v => x_run 12 60 ls (.ref v :: st) h) := xe_aload_n ec12 dX0_countBefore_59
theorem e12_60 {ls st : List Value} {h : x_H} {a : Nat}: x_run 12 60 ls (.ref a :: st) h = q_gf h a 2 8 (fun v => x_run 12 63 ls (v :: st) h) := xe_getfield ec12 dX0_countBefore_60 ef0_38
theorem e12_63 {ls st : List Value} {h : x_H} : x_run 12 63 ls st h = q_gi ls 1 (fun v => x_run 12 64 ls (.int v :: st) h) := xe_iload_n ec12 dX0_countBefore_63
theorem e12_64 {ls st : List Value} {h : x_H} {x : Int32} {a : Nat}: x_run 12 64 ls (.int x :: .ref a :: st) h = q_ra h a 0 x (fun v => x_run 12 65 ls (.int v :: st) h) := xe_iaload ec12 dX0_countBefore_64
theorem e12_65 {ls st : List Value} {h : x_H} {x y : Int32}: x_run 12 65 ls (.int y :: .int x :: st) h = if x = y then x_run 12 94 ls st h else x_run 12 68 ls st h := xe_ic_eq ec12 dX0_countBefore_65 rfl
theorem e12_68 {ls st : List Value} {h : x_H} : x_run 12 68 ls st h = q_gi ls 2 (fun v => x_run 12 69 ls (.int v :: st) h) := xe_iload_n ec12 dX0_countBefore_68
theorem e12_69 {ls st : List Value} {h : x_H} : x_run 12 69 ls st h = q_gr ls 0 (fun v => x_run 12 70 ls (.ref v :: st) h) := xe_aload_n ec12 dX0_countBefore_69
theorem e12_70 {ls st : List Value} {h : x_H} {a : Nat}: x_run 12 70 ls (.ref a :: st) h = q_gf h a 2 8 (fun v => x_run 12 73 ls (v :: st) h) := xe_getfield ec12 dX0_countBefore_70 ef0_38
theorem e12_73 {ls st : List Value} {h : x_H} : x_run 12 73 ls st h = q_gi ls 3 (fun v => x_run 12 74 ls (.int v :: st) h) := xe_iload_n ec12 dX0_countBefore_73
theorem e12_74 {ls st : List Value} {h : x_H} {x : Int32} {a : Nat}: x_run 12 74 ls (.int x :: .ref a :: st) h = q_ra h a 0 x (fun v => x_run 12 75 ls (.int v :: st) h) := xe_iaload ec12 dX0_countBefore_74
theorem e12_75 {ls st : List Value} {h : x_H} : x_run 12 75 ls st h = q_gr ls 0 (fun v => x_run 12 76 ls (.ref v :: st) h) := xe_aload_n ec12 dX0_countBefore_75
theorem e12_76 {ls st : List Value} {h : x_H} {a : Nat}: x_run 12 76 ls (.ref a :: st) h = q_gf h a 2 8 (fun v => x_run 12 79 ls (v :: st) h) := xe_getfield ec12 dX0_countBefore_76 ef0_38
theorem e12_79 {ls st : List Value} {h : x_H} : x_run 12 79 ls st h = q_gi ls 1 (fun v => x_run 12 80 ls (.int v :: st) h) := xe_iload_n ec12 dX0_countBefore_79
theorem e12_80 {ls st : List Value} {h : x_H} {x : Int32} {a : Nat}: x_run 12 80 ls (.int x :: .ref a :: st) h = q_ra h a 0 x (fun v => x_run 12 81 ls (.int v :: st) h) := xe_iaload ec12 dX0_countBefore_80
theorem e12_81 {ls st : List Value} {h : x_H} {x y : Int32}: x_run 12 81 ls (.int y :: .int x :: st) h = if x ≤ y then x_run 12 88 ls st h else x_run 12 84 ls st h := xe_ic_le ec12 dX0_countBefore_81 rfl
theorem e12_84 {ls st : List Value} {h : x_H} : x_run 12 84 ls st h = x_run 12 85 ls (.int (q_i 1) :: st) h := xe_iconst ec12 dX0_countBefore_84
theorem e12_85 {ls st : List Value} {h : x_H} : x_run 12 85 ls st h = x_run 12 89 ls st h := xe_goto ec12 dX0_countBefore_85 rfl
theorem e12_88 {ls st : List Value} {h : x_H} : x_run 12 88 ls st h = x_run 12 89 ls (.int (q_i 0) :: st) h := xe_iconst ec12 dX0_countBefore_88
theorem e12_89 {ls st : List Value} {h : x_H} {x y : Int32}: x_run 12 89 ls (.int y :: .int x :: st) h = x_run 12 90 ls (.int (x + y) :: st) h := xe_iadd ec12 dX0_countBefore_89
theorem e12_90 {ls st : List Value} {h : x_H} {x : Int32}: x_run 12 90 ls (.int x :: st) h = q_ls ls 2 (.int x) (fun ls' => x_run 12 91 ls' st h) := xe_istore_n ec12 dX0_countBefore_90
theorem e12_91 {ls st : List Value} {h : x_H} : x_run 12 91 ls st h = x_run 12 107 ls st h := xe_goto ec12 dX0_countBefore_91 rfl
theorem e12_94 {ls st : List Value} {h : x_H} : x_run 12 94 ls st h = q_gi ls 2 (fun v => x_run 12 95 ls (.int v :: st) h) := xe_iload_n ec12 dX0_countBefore_94
theorem e12_95 {ls st : List Value} {h : x_H} : x_run 12 95 ls st h = q_gi ls 3 (fun v => x_run 12 96 ls (.int v :: st) h) := xe_iload_n ec12 dX0_countBefore_95
theorem e12_96 {ls st : List Value} {h : x_H} : x_run 12 96 ls st h = q_gi ls 1 (fun v => x_run 12 97 ls (.int v :: st) h) := xe_iload_n ec12 dX0_countBefore_96
theorem e12_97 {ls st : List Value} {h : x_H} {x y : Int32}: x_run 12 97 ls (.int y :: .int x :: st) h = if y ≤ x then x_run 12 104 ls st h else x_run 12 100 ls st h := xe_ic_ge ec12 dX0_countBefore_97 rfl
theorem e12_100 {ls st : List Value} {h : x_H} : x_run 12 100 ls st h = x_run 12 101 ls (.int (q_i 1) :: st) h := xe_iconst ec12 dX0_countBefore_100
theorem e12_101 {ls st : List Value} {h : x_H} : x_run 12 101 ls st h = x_run 12 105 ls st h := xe_goto ec12 dX0_countBefore_101 rfl
theorem e12_104 {ls st : List Value} {h : x_H} : x_run 12 104 ls st h = x_run 12 105 ls (.int (q_i 0) :: st) h := xe_iconst ec12 dX0_countBefore_104
theorem e12_105 {ls st : List Value} {h : x_H} {x y : Int32}: x_run 12 105 ls (.int y :: .int x :: st) h = x_run 12 106 ls (.int (x + y) :: st) h := xe_iadd ec12 dX0_countBefore_105
theorem e12_106 {ls st : List Value} {h : x_H} {x : Int32}: x_run 12 106 ls (.int x :: st) h = q_ls ls 2 (.int x) (fun ls' => x_run 12 107 ls' st h) := xe_istore_n ec12 dX0_countBefore_106
theorem e12_107 {ls st : List Value} {h : x_H} : x_run 12 107 ls st h = q_gi ls 3 (fun v => if x_nd ls 3 = true then x_run 12 110 (ls.set 3 (.int (v + q_i 1))) st h else none) := xe_iinc ec12 dX0_countBefore_107
theorem e12_110 {ls st : List Value} {h : x_H} : x_run 12 110 ls st h = x_run 12 4 ls st h := xe_goto ec12 dX0_countBefore_110 rfl
theorem e12_113 {ls st : List Value} {h : x_H} : x_run 12 113 ls st h = q_gi ls 2 (fun v => x_run 12 114 ls (.int v :: st) h) := xe_iload_n ec12 dX0_countBefore_113
theorem e12_114 {ls : List Value} {h : x_H} {x : Int32} : x_run 12 114 ls [.int x] h = if narrow .int (.int x) = .int x then some (.inl (some (.int x)), h) else none := xe_ireturn ec12 dX0_countBefore_114 rfl
theorem ec13 : x_code 13 = cX0_putNet := rfl
theorem e13_0 {ls st : List Value} {h : x_H} : x_run 13 0 ls st h = q_gr ls 0 (fun v => x_run 13 1 ls (.ref v :: st) h) := xe_aload_n ec13 dX0_putNet_0
theorem e13_1 {ls st : List Value} {h : x_H} {a : Nat}: x_run 13 1 ls (.ref a :: st) h = q_gf h a 2 2 (fun v => x_run 13 4 ls (v :: st) h) := xe_getfield ec13 dX0_putNet_1 ef0_18
theorem e13_4 {ls st : List Value} {h : x_H} : x_run 13 4 ls st h = q_gr ls 0 (fun v => x_run 13 5 ls (.ref v :: st) h) := xe_aload_n ec13 dX0_putNet_4
theorem e13_5 {ls st : List Value} {h : x_H} {a : Nat}: x_run 13 5 ls (.ref a :: st) h = q_gf h a 2 0 (fun v => x_run 13 8 ls (v :: st) h) := xe_getfield ec13 dX0_putNet_5 ef0_9
theorem e13_8 {ls st : List Value} {h : x_H} : x_run 13 8 ls st h = q_gi ls 1 (fun v => x_run 13 9 ls (.int v :: st) h) := xe_iload_n ec13 dX0_putNet_8
theorem e13_9 {ls st : List Value} {h : x_H} {x y : Int32} {a : Nat}: x_run 13 9 ls (.int y :: .int x :: .ref a :: st) h = q_wa h a 1 x (vp_nar .boolean y) (fun h' => x_run 13 10 ls st h') := xe_bastore ec13 dX0_putNet_9
theorem e13_10 {ls st : List Value} {h : x_H} : x_run 13 10 ls st h = q_gr ls 0 (fun v => x_run 13 11 ls (.ref v :: st) h) := xe_aload_n ec13 dX0_putNet_10
theorem e13_11 {ls st : List Value} {h : x_H} {v : Value} (hv : v.category = 1): x_run 13 11 ls (v :: st) h = x_run 13 12 ls (v :: v :: st) h := xe_dup ec13 dX0_putNet_11 hv
theorem e13_12 {ls st : List Value} {h : x_H} {a : Nat}: x_run 13 12 ls (.ref a :: st) h = q_gf h a 2 0 (fun v => x_run 13 15 ls (v :: st) h) := xe_getfield ec13 dX0_putNet_12 ef0_9
theorem e13_15 {ls st : List Value} {h : x_H} : x_run 13 15 ls st h = x_run 13 16 ls (.int (q_i 1) :: st) h := xe_iconst ec13 dX0_putNet_15
theorem e13_16 {ls st : List Value} {h : x_H} {x y : Int32}: x_run 13 16 ls (.int y :: .int x :: st) h = x_run 13 17 ls (.int (x + y) :: st) h := xe_iadd ec13 dX0_putNet_16
theorem e13_17 {ls st : List Value} {h : x_H} {v : Value} {a : Nat}: x_run 13 17 ls (v :: .ref a :: st) h = if x_fit (x_ty 2 0) v = true then q_pf h a 2 0 v (fun h' => x_run 13 20 ls st h') else none := xe_putfield ec13 dX0_putNet_17 ef0_9 (by decide +kernel)
theorem e13_20 {ls st : List Value} {h : x_H} : x_run 13 20 ls st h = q_gr ls 0 (fun v => x_run 13 21 ls (.ref v :: st) h) := xe_aload_n ec13 dX0_putNet_20
theorem e13_21 {ls st : List Value} {h : x_H} {a : Nat}: x_run 13 21 ls (.ref a :: st) h = q_gf h a 2 0 (fun v => x_run 13 24 ls (v :: st) h) := xe_getfield ec13 dX0_putNet_21 ef0_9
theorem e13_24 {ls st : List Value} {h : x_H} : x_run 13 24 ls st h = x_run 13 25 ls (.int (q_i 1) :: st) h := xe_iconst ec13 dX0_putNet_24
theorem e13_25 {ls st : List Value} {h : x_H} {x y : Int32}: x_run 13 25 ls (.int y :: .int x :: st) h = x_run 13 26 ls (.int (x - y) :: st) h := xe_isub ec13 dX0_putNet_25
theorem e13_26 {ls : List Value} {h : x_H} {x : Int32} : x_run 13 26 ls [.int x] h = if narrow .int (.int x) = .int x then some (.inl (some (.int x)), h) else none := xe_ireturn ec13 dX0_putNet_26 rfl
theorem ec14 : x_code 14 = cX0_putPin := rfl
theorem e14_0 {ls st : List Value} {h : x_H} : x_run 14 0 ls st h = q_gr ls 0 (fun v => x_run 14 1 ls (.ref v :: st) h) := xe_aload_n ec14 dX0_putPin_0
theorem e14_1 {ls st : List Value} {h : x_H} {a : Nat}: x_run 14 1 ls (.ref a :: st) h = q_gf h a 2 4 (fun v => x_run 14 4 ls (v :: st) h) := xe_getfield ec14 dX0_putPin_1 ef0_25
theorem e14_4 {ls st : List Value} {h : x_H} : x_run 14 4 ls st h = q_gi ls 1 (fun v => x_run 14 5 ls (.int v :: st) h) := xe_iload_n ec14 dX0_putPin_4
theorem e14_5 {ls st : List Value} {h : x_H} {x : Int32} {a : Nat}: x_run 14 5 ls (.int x :: .ref a :: st) h = q_ra h a 0 x (fun v => x_run 14 6 ls (.int v :: st) h) := xe_iaload ec14 dX0_putPin_5
theorem e14_6 {ls st : List Value} {h : x_H} {x : Int32}: x_run 14 6 ls (.int x :: st) h = q_ls ls 3 (.int x) (fun ls' => x_run 14 7 ls' st h) := xe_istore_n ec14 dX0_putPin_6
theorem e14_7 {ls st : List Value} {h : x_H} : x_run 14 7 ls st h = q_gr ls 0 (fun v => x_run 14 8 ls (.ref v :: st) h) := xe_aload_n ec14 dX0_putPin_7
theorem e14_8 {ls st : List Value} {h : x_H} {a : Nat}: x_run 14 8 ls (.ref a :: st) h = q_gf h a 2 9 (fun v => x_run 14 11 ls (v :: st) h) := xe_getfield ec14 dX0_putPin_8 ef0_41
theorem e14_11 {ls st : List Value} {h : x_H} : x_run 14 11 ls st h = q_gi ls 1 (fun v => x_run 14 12 ls (.int v :: st) h) := xe_iload_n ec14 dX0_putPin_11
theorem e14_12 {ls st : List Value} {h : x_H} : x_run 14 12 ls st h = x_run 14 13 ls (.int (q_i 4) :: st) h := xe_iconst ec14 dX0_putPin_12
theorem e14_13 {ls st : List Value} {h : x_H} {x y : Int32}: x_run 14 13 ls (.int y :: .int x :: st) h = x_run 14 14 ls (.int (x * y) :: st) h := xe_imul ec14 dX0_putPin_13
theorem e14_14 {ls st : List Value} {h : x_H} : x_run 14 14 ls st h = q_gi ls 3 (fun v => x_run 14 15 ls (.int v :: st) h) := xe_iload_n ec14 dX0_putPin_14
theorem e14_15 {ls st : List Value} {h : x_H} {x y : Int32}: x_run 14 15 ls (.int y :: .int x :: st) h = x_run 14 16 ls (.int (x + y) :: st) h := xe_iadd ec14 dX0_putPin_15
theorem e14_16 {ls st : List Value} {h : x_H} : x_run 14 16 ls st h = q_gi ls 2 (fun v => x_run 14 17 ls (.int v :: st) h) := xe_iload_n ec14 dX0_putPin_16
theorem e14_17 {ls st : List Value} {h : x_H} {x y : Int32} {a : Nat}: x_run 14 17 ls (.int y :: .int x :: .ref a :: st) h = q_wa h a 0 x y (fun h' => x_run 14 18 ls st h') := xe_iastore ec14 dX0_putPin_17
theorem e14_18 {ls st : List Value} {h : x_H} : x_run 14 18 ls st h = q_gr ls 0 (fun v => x_run 14 19 ls (.ref v :: st) h) := xe_aload_n ec14 dX0_putPin_18
theorem e14_19 {ls st : List Value} {h : x_H} {a : Nat}: x_run 14 19 ls (.ref a :: st) h = q_gf h a 2 4 (fun v => x_run 14 22 ls (v :: st) h) := xe_getfield ec14 dX0_putPin_19 ef0_25
theorem e14_22 {ls st : List Value} {h : x_H} : x_run 14 22 ls st h = q_gi ls 1 (fun v => x_run 14 23 ls (.int v :: st) h) := xe_iload_n ec14 dX0_putPin_22
theorem e14_23 {ls st : List Value} {h : x_H} : x_run 14 23 ls st h = q_gi ls 3 (fun v => x_run 14 24 ls (.int v :: st) h) := xe_iload_n ec14 dX0_putPin_23
theorem e14_24 {ls st : List Value} {h : x_H} : x_run 14 24 ls st h = x_run 14 25 ls (.int (q_i 1) :: st) h := xe_iconst ec14 dX0_putPin_24
theorem e14_25 {ls st : List Value} {h : x_H} {x y : Int32}: x_run 14 25 ls (.int y :: .int x :: st) h = x_run 14 26 ls (.int (x + y) :: st) h := xe_iadd ec14 dX0_putPin_25
theorem e14_26 {ls st : List Value} {h : x_H} {x y : Int32} {a : Nat}: x_run 14 26 ls (.int y :: .int x :: .ref a :: st) h = q_wa h a 0 x y (fun h' => x_run 14 27 ls st h') := xe_iastore ec14 dX0_putPin_26
theorem e14_27 {ls st : List Value} {h : x_H} : x_run 14 27 ls st h = q_gr ls 0 (fun v => x_run 14 28 ls (.ref v :: st) h) := xe_aload_n ec14 dX0_putPin_27
theorem e14_28 {ls st : List Value} {h : x_H} {a : Nat}: x_run 14 28 ls (.ref a :: st) h = q_gf h a 2 11 (fun v => x_run 14 31 ls (v :: st) h) := xe_getfield ec14 dX0_putPin_28 ef0_47
theorem e14_31 {ls st : List Value} {h : x_H} : x_run 14 31 ls st h = q_gi ls 2 (fun v => x_run 14 32 ls (.int v :: st) h) := xe_iload_n ec14 dX0_putPin_31
theorem e14_32 {ls st : List Value} {h : x_H} : x_run 14 32 ls st h = x_run 14 33 ls (.int (q_i 1) :: st) h := xe_iconst ec14 dX0_putPin_32
theorem e14_33 {ls st : List Value} {h : x_H} {x y : Int32} {a : Nat}: x_run 14 33 ls (.int y :: .int x :: .ref a :: st) h = q_wa h a 1 x (vp_nar .boolean y) (fun h' => x_run 14 34 ls st h') := xe_bastore ec14 dX0_putPin_33
theorem e14_34 {ls st : List Value} {h : x_H} : x_run 14 34 ls st h = q_gr ls 0 (fun v => x_run 14 35 ls (.ref v :: st) h) := xe_aload_n ec14 dX0_putPin_34
theorem e14_35 {ls st : List Value} {h : x_H} {a : Nat}: x_run 14 35 ls (.ref a :: st) h = q_gf h a 2 10 (fun v => x_run 14 38 ls (v :: st) h) := xe_getfield ec14 dX0_putPin_35 ef0_44
theorem e14_38 {ls st : List Value} {h : x_H} : x_run 14 38 ls st h = q_gi ls 2 (fun v => x_run 14 39 ls (.int v :: st) h) := xe_iload_n ec14 dX0_putPin_38
theorem e14_39 {ls st : List Value} {h : x_H} : x_run 14 39 ls st h = q_gi ls 1 (fun v => x_run 14 40 ls (.int v :: st) h) := xe_iload_n ec14 dX0_putPin_39
theorem e14_40 {ls st : List Value} {h : x_H} {x y : Int32} {a : Nat}: x_run 14 40 ls (.int y :: .int x :: .ref a :: st) h = q_wa h a 0 x y (fun h' => x_run 14 41 ls st h') := xe_iastore ec14 dX0_putPin_40
theorem e14_41 {ls st : List Value} {h : x_H} : x_run 14 41 ls st h = q_gr ls 0 (fun v => x_run 14 42 ls (.ref v :: st) h) := xe_aload_n ec14 dX0_putPin_41
theorem e14_42 {ls st : List Value} {h : x_H} {a : Nat}: x_run 14 42 ls (.ref a :: st) h = q_gf h a 2 10 (fun v => x_run 14 45 ls (v :: st) h) := xe_getfield ec14 dX0_putPin_42 ef0_44
theorem e14_45 {ls st : List Value} {h : x_H} : x_run 14 45 ls st h = q_gi ls 2 (fun v => x_run 14 46 ls (.int v :: st) h) := xe_iload_n ec14 dX0_putPin_45
theorem e14_46 {ls st : List Value} {h : x_H} : x_run 14 46 ls st h = x_run 14 48 ls (.int (q_i 48) :: st) h := xe_bipush ec14 dX0_putPin_46 (by decide)
theorem e14_48 {ls st : List Value} {h : x_H} {x y : Int32}: x_run 14 48 ls (.int y :: .int x :: st) h = x_run 14 49 ls (.int (x + y) :: st) h := xe_iadd ec14 dX0_putPin_48
theorem e14_49 {ls st : List Value} {h : x_H} : x_run 14 49 ls st h = q_gi ls 1 (fun v => x_run 14 50 ls (.int v :: st) h) := xe_iload_n ec14 dX0_putPin_49
theorem e14_50 {ls st : List Value} {h : x_H} {x y : Int32} {a : Nat}: x_run 14 50 ls (.int y :: .int x :: .ref a :: st) h = q_wa h a 0 x y (fun h' => x_run 14 51 ls st h') := xe_iastore ec14 dX0_putPin_50
theorem e14_51 {ls st : List Value} {h : x_H} : x_run 14 51 ls st h = q_gi ls 3 (fun v => x_run 14 52 ls (.int v :: st) h) := xe_iload_n ec14 dX0_putPin_51
theorem e14_52 {ls : List Value} {h : x_H} {x : Int32} : x_run 14 52 ls [.int x] h = if narrow .int (.int x) = .int x then some (.inl (some (.int x)), h) else none := xe_ireturn ec14 dX0_putPin_52 rfl
theorem ec15 : x_code 15 = cX0_putWire := rfl
theorem e15_0 {ls st : List Value} {h : x_H} : x_run 15 0 ls st h = q_gr ls 0 (fun v => x_run 15 1 ls (.ref v :: st) h) := xe_aload_n ec15 dX0_putWire_0
theorem e15_1 {ls st : List Value} {h : x_H} {a : Nat}: x_run 15 1 ls (.ref a :: st) h = q_gf h a 2 3 (fun v => x_run 15 4 ls (v :: st) h) := xe_getfield ec15 dX0_putWire_1 ef0_22
theorem e15_4 {ls st : List Value} {h : x_H} : x_run 15 4 ls st h = q_gi ls 1 (fun v => x_run 15 5 ls (.int v :: st) h) := xe_iload_n ec15 dX0_putWire_4
theorem e15_5 {ls st : List Value} {h : x_H} : x_run 15 5 ls st h = x_run 15 6 ls (.int (q_i 1) :: st) h := xe_iconst ec15 dX0_putWire_5
theorem e15_6 {ls st : List Value} {h : x_H} {x y : Int32} {a : Nat}: x_run 15 6 ls (.int y :: .int x :: .ref a :: st) h = q_wa h a 1 x (vp_nar .boolean y) (fun h' => x_run 15 7 ls st h') := xe_bastore ec15 dX0_putWire_6
theorem e15_7 {ls st : List Value} {h : x_H} : x_run 15 7 ls st h = x_run 15 8 ls (.int (q_i 0) :: st) h := xe_iconst ec15 dX0_putWire_7
theorem e15_8 {ls st : List Value} {h : x_H} {x : Int32}: x_run 15 8 ls (.int x :: st) h = q_ls ls 4 (.int x) (fun ls' => x_run 15 10 ls' st h) := xe_istore ec15 dX0_putWire_8
theorem e15_10 {ls st : List Value} {h : x_H} : x_run 15 10 ls st h = q_gi ls 4 (fun v => x_run 15 12 ls (.int v :: st) h) := xe_iload ec15 dX0_putWire_10
theorem e15_12 {ls st : List Value} {h : x_H} : x_run 15 12 ls st h = x_run 15 14 ls (.int (q_i 96) :: st) h := xe_bipush ec15 dX0_putWire_12 (by decide)
theorem e15_14 {ls st : List Value} {h : x_H} {x y : Int32}: x_run 15 14 ls (.int y :: .int x :: st) h = if y ≤ x then x_run 15 61 ls st h else x_run 15 17 ls st h := xe_ic_ge ec15 dX0_putWire_14 rfl
theorem e15_17 {ls st : List Value} {h : x_H} : x_run 15 17 ls st h = q_gr ls 2 (fun v => x_run 15 18 ls (.ref v :: st) h) := xe_aload_n ec15 dX0_putWire_17
theorem e15_18 {ls st : List Value} {h : x_H} : x_run 15 18 ls st h = q_gi ls 4 (fun v => x_run 15 20 ls (.int v :: st) h) := xe_iload ec15 dX0_putWire_18
theorem e15_20 {ls st : List Value} {h : x_H} {x : Int32} {a : Nat}: x_run 15 20 ls (.int x :: .ref a :: st) h = q_ra h a 1 x (fun v => x_run 15 21 ls (.int v :: st) h) := xe_baload ec15 dX0_putWire_20
theorem e15_21 {ls st : List Value} {h : x_H} {x : Int32}: x_run 15 21 ls (.int x :: st) h = if x = 0 then x_run 15 55 ls st h else x_run 15 24 ls st h := xe_if_eq ec15 dX0_putWire_21 rfl
theorem e15_24 {ls st : List Value} {h : x_H} : x_run 15 24 ls st h = q_gr ls 0 (fun v => x_run 15 25 ls (.ref v :: st) h) := xe_aload_n ec15 dX0_putWire_24
theorem e15_25 {ls st : List Value} {h : x_H} {a : Nat}: x_run 15 25 ls (.ref a :: st) h = q_gf h a 2 11 (fun v => x_run 15 28 ls (v :: st) h) := xe_getfield ec15 dX0_putWire_25 ef0_47
theorem e15_28 {ls st : List Value} {h : x_H} : x_run 15 28 ls st h = q_gi ls 4 (fun v => x_run 15 30 ls (.int v :: st) h) := xe_iload ec15 dX0_putWire_28
theorem e15_30 {ls st : List Value} {h : x_H} : x_run 15 30 ls st h = x_run 15 32 ls (.int (q_i 48) :: st) h := xe_bipush ec15 dX0_putWire_30 (by decide)
theorem e15_32 {ls st : List Value} {h : x_H} {x y : Int32}: x_run 15 32 ls (.int y :: .int x :: st) h = if y = 0 then none else x_run 15 33 ls (.int (x - (x / y) * y) :: st) h := xe_irem ec15 dX0_putWire_32
theorem e15_33 {ls st : List Value} {h : x_H} {x : Int32} {a : Nat}: x_run 15 33 ls (.int x :: .ref a :: st) h = q_ra h a 1 x (fun v => x_run 15 34 ls (.int v :: st) h) := xe_baload ec15 dX0_putWire_33
theorem e15_34 {ls st : List Value} {h : x_H} {x : Int32}: x_run 15 34 ls (.int x :: st) h = if ¬ x = 0 then x_run 15 55 ls st h else x_run 15 37 ls st h := xe_if_ne ec15 dX0_putWire_34 rfl
theorem e15_37 {ls st : List Value} {h : x_H} : x_run 15 37 ls st h = q_gr ls 0 (fun v => x_run 15 38 ls (.ref v :: st) h) := xe_aload_n ec15 dX0_putWire_37
theorem e15_38 {ls st : List Value} {h : x_H} {a : Nat}: x_run 15 38 ls (.ref a :: st) h = q_gf h a 2 10 (fun v => x_run 15 41 ls (v :: st) h) := xe_getfield ec15 dX0_putWire_38 ef0_44
theorem e15_41 {ls st : List Value} {h : x_H} : x_run 15 41 ls st h = q_gi ls 4 (fun v => x_run 15 43 ls (.int v :: st) h) := xe_iload ec15 dX0_putWire_41
theorem e15_43 {ls st : List Value} {h : x_H} : x_run 15 43 ls st h = q_gi ls 1 (fun v => x_run 15 44 ls (.int v :: st) h) := xe_iload_n ec15 dX0_putWire_43
theorem e15_44 {ls st : List Value} {h : x_H} {x y : Int32} {a : Nat}: x_run 15 44 ls (.int y :: .int x :: .ref a :: st) h = q_wa h a 0 x y (fun h' => x_run 15 45 ls st h') := xe_iastore ec15 dX0_putWire_44
theorem e15_45 {ls st : List Value} {h : x_H} : x_run 15 45 ls st h = q_gr ls 0 (fun v => x_run 15 46 ls (.ref v :: st) h) := xe_aload_n ec15 dX0_putWire_45
theorem e15_46 {ls st : List Value} {h : x_H} {a : Nat}: x_run 15 46 ls (.ref a :: st) h = q_gf h a 2 6 (fun v => x_run 15 49 ls (v :: st) h) := xe_getfield ec15 dX0_putWire_46 ef0_32
theorem e15_49 {ls st : List Value} {h : x_H} : x_run 15 49 ls st h = q_gi ls 1 (fun v => x_run 15 50 ls (.int v :: st) h) := xe_iload_n ec15 dX0_putWire_49
theorem e15_50 {ls st : List Value} {h : x_H} {v w : Value} (hv : v.category = 1 ∧ w.category = 1): x_run 15 50 ls (v :: w :: st) h = x_run 15 51 ls (v :: w :: v :: w :: st) h := xe_dup2 ec15 dX0_putWire_50 hv
theorem e15_51 {ls st : List Value} {h : x_H} {x : Int32} {a : Nat}: x_run 15 51 ls (.int x :: .ref a :: st) h = q_ra h a 0 x (fun v => x_run 15 52 ls (.int v :: st) h) := xe_iaload ec15 dX0_putWire_51
theorem e15_52 {ls st : List Value} {h : x_H} : x_run 15 52 ls st h = x_run 15 53 ls (.int (q_i 1) :: st) h := xe_iconst ec15 dX0_putWire_52
theorem e15_53 {ls st : List Value} {h : x_H} {x y : Int32}: x_run 15 53 ls (.int y :: .int x :: st) h = x_run 15 54 ls (.int (x + y) :: st) h := xe_iadd ec15 dX0_putWire_53
theorem e15_54 {ls st : List Value} {h : x_H} {x y : Int32} {a : Nat}: x_run 15 54 ls (.int y :: .int x :: .ref a :: st) h = q_wa h a 0 x y (fun h' => x_run 15 55 ls st h') := xe_iastore ec15 dX0_putWire_54
theorem e15_55 {ls st : List Value} {h : x_H} : x_run 15 55 ls st h = q_gi ls 4 (fun v => if x_nd ls 4 = true then x_run 15 58 (ls.set 4 (.int (v + q_i 1))) st h else none) := xe_iinc ec15 dX0_putWire_55
theorem e15_58 {ls st : List Value} {h : x_H} : x_run 15 58 ls st h = x_run 15 10 ls st h := xe_goto ec15 dX0_putWire_58 rfl
theorem e15_61 {ls st : List Value} {h : x_H} : x_run 15 61 ls st h = x_run 15 62 ls (.int (q_i 0) :: st) h := xe_iconst ec15 dX0_putWire_61
theorem e15_62 {ls st : List Value} {h : x_H} {x : Int32}: x_run 15 62 ls (.int x :: st) h = q_ls ls 4 (.int x) (fun ls' => x_run 15 64 ls' st h) := xe_istore ec15 dX0_putWire_62
theorem e15_64 {ls st : List Value} {h : x_H} : x_run 15 64 ls st h = q_gi ls 4 (fun v => x_run 15 66 ls (.int v :: st) h) := xe_iload ec15 dX0_putWire_64
theorem e15_66 {ls st : List Value} {h : x_H} : x_run 15 66 ls st h = x_run 15 68 ls (.int (q_i 48) :: st) h := xe_bipush ec15 dX0_putWire_66 (by decide)
theorem e15_68 {ls st : List Value} {h : x_H} {x y : Int32}: x_run 15 68 ls (.int y :: .int x :: st) h = if y ≤ x then x_run 15 102 ls st h else x_run 15 71 ls st h := xe_ic_ge ec15 dX0_putWire_68 rfl
theorem e15_71 {ls st : List Value} {h : x_H} : x_run 15 71 ls st h = q_gr ls 3 (fun v => x_run 15 72 ls (.ref v :: st) h) := xe_aload_n ec15 dX0_putWire_71
theorem e15_72 {ls st : List Value} {h : x_H} : x_run 15 72 ls st h = q_gi ls 4 (fun v => x_run 15 74 ls (.int v :: st) h) := xe_iload ec15 dX0_putWire_72
theorem e15_74 {ls st : List Value} {h : x_H} {x : Int32} {a : Nat}: x_run 15 74 ls (.int x :: .ref a :: st) h = q_ra h a 1 x (fun v => x_run 15 75 ls (.int v :: st) h) := xe_baload ec15 dX0_putWire_74
theorem e15_75 {ls st : List Value} {h : x_H} {x : Int32}: x_run 15 75 ls (.int x :: st) h = if x = 0 then x_run 15 96 ls st h else x_run 15 78 ls st h := xe_if_eq ec15 dX0_putWire_75 rfl
theorem e15_78 {ls st : List Value} {h : x_H} : x_run 15 78 ls st h = q_gr ls 0 (fun v => x_run 15 79 ls (.ref v :: st) h) := xe_aload_n ec15 dX0_putWire_78
theorem e15_79 {ls st : List Value} {h : x_H} {a : Nat}: x_run 15 79 ls (.ref a :: st) h = q_gf h a 2 12 (fun v => x_run 15 82 ls (v :: st) h) := xe_getfield ec15 dX0_putWire_79 ef0_50
theorem e15_82 {ls st : List Value} {h : x_H} : x_run 15 82 ls st h = q_gi ls 4 (fun v => x_run 15 84 ls (.int v :: st) h) := xe_iload ec15 dX0_putWire_82
theorem e15_84 {ls st : List Value} {h : x_H} : x_run 15 84 ls st h = x_run 15 85 ls (.int (q_i 1) :: st) h := xe_iconst ec15 dX0_putWire_84
theorem e15_85 {ls st : List Value} {h : x_H} {x y : Int32} {a : Nat}: x_run 15 85 ls (.int y :: .int x :: .ref a :: st) h = q_wa h a 1 x (vp_nar .boolean y) (fun h' => x_run 15 86 ls st h') := xe_bastore ec15 dX0_putWire_85
theorem e15_86 {ls st : List Value} {h : x_H} : x_run 15 86 ls st h = q_gr ls 0 (fun v => x_run 15 87 ls (.ref v :: st) h) := xe_aload_n ec15 dX0_putWire_86
theorem e15_87 {ls st : List Value} {h : x_H} {a : Nat}: x_run 15 87 ls (.ref a :: st) h = q_gf h a 2 7 (fun v => x_run 15 90 ls (v :: st) h) := xe_getfield ec15 dX0_putWire_87 ef0_35
theorem e15_90 {ls st : List Value} {h : x_H} : x_run 15 90 ls st h = q_gi ls 1 (fun v => x_run 15 91 ls (.int v :: st) h) := xe_iload_n ec15 dX0_putWire_90
theorem e15_91 {ls st : List Value} {h : x_H} {v w : Value} (hv : v.category = 1 ∧ w.category = 1): x_run 15 91 ls (v :: w :: st) h = x_run 15 92 ls (v :: w :: v :: w :: st) h := xe_dup2 ec15 dX0_putWire_91 hv
theorem e15_92 {ls st : List Value} {h : x_H} {x : Int32} {a : Nat}: x_run 15 92 ls (.int x :: .ref a :: st) h = q_ra h a 0 x (fun v => x_run 15 93 ls (.int v :: st) h) := xe_iaload ec15 dX0_putWire_92
theorem e15_93 {ls st : List Value} {h : x_H} : x_run 15 93 ls st h = x_run 15 94 ls (.int (q_i 1) :: st) h := xe_iconst ec15 dX0_putWire_93
theorem e15_94 {ls st : List Value} {h : x_H} {x y : Int32}: x_run 15 94 ls (.int y :: .int x :: st) h = x_run 15 95 ls (.int (x + y) :: st) h := xe_iadd ec15 dX0_putWire_94
theorem e15_95 {ls st : List Value} {h : x_H} {x y : Int32} {a : Nat}: x_run 15 95 ls (.int y :: .int x :: .ref a :: st) h = q_wa h a 0 x y (fun h' => x_run 15 96 ls st h') := xe_iastore ec15 dX0_putWire_95
theorem e15_96 {ls st : List Value} {h : x_H} : x_run 15 96 ls st h = q_gi ls 4 (fun v => if x_nd ls 4 = true then x_run 15 99 (ls.set 4 (.int (v + q_i 1))) st h else none) := xe_iinc ec15 dX0_putWire_96
theorem e15_99 {ls st : List Value} {h : x_H} : x_run 15 99 ls st h = x_run 15 64 ls st h := xe_goto ec15 dX0_putWire_99 rfl
theorem e15_102 {ls : List Value} {h : x_H} : x_run 15 102 ls [] h = some (.inl (none), h) := xe_return ec15 dX0_putWire_102 rfl
theorem ec16 : x_code 16 = cX0_removeWire := rfl
theorem e16_0 {ls st : List Value} {h : x_H} : x_run 16 0 ls st h = x_run 16 1 ls (.int (q_i 0) :: st) h := xe_iconst ec16 dX0_removeWire_0
theorem e16_1 {ls st : List Value} {h : x_H} {x : Int32}: x_run 16 1 ls (.int x :: st) h = q_ls ls 2 (.int x) (fun ls' => x_run 16 2 ls' st h) := xe_istore_n ec16 dX0_removeWire_1
theorem e16_2 {ls st : List Value} {h : x_H} : x_run 16 2 ls st h = q_gi ls 2 (fun v => x_run 16 3 ls (.int v :: st) h) := xe_iload_n ec16 dX0_removeWire_2
theorem e16_3 {ls st : List Value} {h : x_H} : x_run 16 3 ls st h = x_run 16 5 ls (.int (q_i 96) :: st) h := xe_bipush ec16 dX0_removeWire_3 (by decide)
theorem e16_5 {ls st : List Value} {h : x_H} {x y : Int32}: x_run 16 5 ls (.int y :: .int x :: st) h = if y ≤ x then x_run 16 52 ls st h else x_run 16 8 ls st h := xe_ic_ge ec16 dX0_removeWire_5 rfl
theorem e16_8 {ls st : List Value} {h : x_H} : x_run 16 8 ls st h = q_gi ls 2 (fun v => x_run 16 9 ls (.int v :: st) h) := xe_iload_n ec16 dX0_removeWire_8
theorem e16_9 {ls st : List Value} {h : x_H} : x_run 16 9 ls st h = x_run 16 11 ls (.int (q_i 48) :: st) h := xe_bipush ec16 dX0_removeWire_9 (by decide)
theorem e16_11 {ls st : List Value} {h : x_H} {x y : Int32}: x_run 16 11 ls (.int y :: .int x :: st) h = if y = 0 then none else x_run 16 12 ls (.int (x - (x / y) * y) :: st) h := xe_irem ec16 dX0_removeWire_11
theorem e16_12 {ls st : List Value} {h : x_H} {x : Int32}: x_run 16 12 ls (.int x :: st) h = q_ls ls 3 (.int x) (fun ls' => x_run 16 13 ls' st h) := xe_istore_n ec16 dX0_removeWire_12
theorem e16_13 {ls st : List Value} {h : x_H} : x_run 16 13 ls st h = q_gr ls 0 (fun v => x_run 16 14 ls (.ref v :: st) h) := xe_aload_n ec16 dX0_removeWire_13
theorem e16_14 {ls st : List Value} {h : x_H} {a : Nat}: x_run 16 14 ls (.ref a :: st) h = q_gf h a 2 10 (fun v => x_run 16 17 ls (v :: st) h) := xe_getfield ec16 dX0_removeWire_14 ef0_44
theorem e16_17 {ls st : List Value} {h : x_H} : x_run 16 17 ls st h = q_gi ls 2 (fun v => x_run 16 18 ls (.int v :: st) h) := xe_iload_n ec16 dX0_removeWire_17
theorem e16_18 {ls st : List Value} {h : x_H} {x : Int32} {a : Nat}: x_run 16 18 ls (.int x :: .ref a :: st) h = q_ra h a 0 x (fun v => x_run 16 19 ls (.int v :: st) h) := xe_iaload ec16 dX0_removeWire_18
theorem e16_19 {ls st : List Value} {h : x_H} : x_run 16 19 ls st h = q_gi ls 1 (fun v => x_run 16 20 ls (.int v :: st) h) := xe_iload_n ec16 dX0_removeWire_19
theorem e16_20 {ls st : List Value} {h : x_H} {x y : Int32}: x_run 16 20 ls (.int y :: .int x :: st) h = if ¬ x = y then x_run 16 46 ls st h else x_run 16 23 ls st h := xe_ic_ne ec16 dX0_removeWire_20 rfl
theorem e16_23 {ls st : List Value} {h : x_H} : x_run 16 23 ls st h = q_gr ls 0 (fun v => x_run 16 24 ls (.ref v :: st) h) := xe_aload_n ec16 dX0_removeWire_23
theorem e16_24 {ls st : List Value} {h : x_H} {a : Nat}: x_run 16 24 ls (.ref a :: st) h = q_gf h a 2 11 (fun v => x_run 16 27 ls (v :: st) h) := xe_getfield ec16 dX0_removeWire_24 ef0_47
theorem e16_27 {ls st : List Value} {h : x_H} : x_run 16 27 ls st h = q_gi ls 3 (fun v => x_run 16 28 ls (.int v :: st) h) := xe_iload_n ec16 dX0_removeWire_27
theorem e16_28 {ls st : List Value} {h : x_H} {x : Int32} {a : Nat}: x_run 16 28 ls (.int x :: .ref a :: st) h = q_ra h a 1 x (fun v => x_run 16 29 ls (.int v :: st) h) := xe_baload ec16 dX0_removeWire_28
theorem e16_29 {ls st : List Value} {h : x_H} {x : Int32}: x_run 16 29 ls (.int x :: st) h = if ¬ x = 0 then x_run 16 46 ls st h else x_run 16 32 ls st h := xe_if_ne ec16 dX0_removeWire_29 rfl
theorem e16_32 {ls st : List Value} {h : x_H} : x_run 16 32 ls st h = q_gr ls 0 (fun v => x_run 16 33 ls (.ref v :: st) h) := xe_aload_n ec16 dX0_removeWire_32
theorem e16_33 {ls st : List Value} {h : x_H} {a : Nat}: x_run 16 33 ls (.ref a :: st) h = q_gf h a 2 10 (fun v => x_run 16 36 ls (v :: st) h) := xe_getfield ec16 dX0_removeWire_33 ef0_44
theorem e16_36 {ls st : List Value} {h : x_H} : x_run 16 36 ls st h = q_gi ls 2 (fun v => x_run 16 37 ls (.int v :: st) h) := xe_iload_n ec16 dX0_removeWire_36
theorem e16_37 {ls st : List Value} {h : x_H} : x_run 16 37 ls st h = x_run 16 38 ls (.int (q_i (-1)) :: st) h := xe_iconst ec16 dX0_removeWire_37
theorem e16_38 {ls st : List Value} {h : x_H} {x y : Int32} {a : Nat}: x_run 16 38 ls (.int y :: .int x :: .ref a :: st) h = q_wa h a 0 x y (fun h' => x_run 16 39 ls st h') := xe_iastore ec16 dX0_removeWire_38
theorem e16_39 {ls st : List Value} {h : x_H} : x_run 16 39 ls st h = q_gr ls 0 (fun v => x_run 16 40 ls (.ref v :: st) h) := xe_aload_n ec16 dX0_removeWire_39
theorem e16_40 {ls st : List Value} {h : x_H} {a : Nat}: x_run 16 40 ls (.ref a :: st) h = q_gf h a 2 12 (fun v => x_run 16 43 ls (v :: st) h) := xe_getfield ec16 dX0_removeWire_40 ef0_50
theorem e16_43 {ls st : List Value} {h : x_H} : x_run 16 43 ls st h = q_gi ls 3 (fun v => x_run 16 44 ls (.int v :: st) h) := xe_iload_n ec16 dX0_removeWire_43
theorem e16_44 {ls st : List Value} {h : x_H} : x_run 16 44 ls st h = x_run 16 45 ls (.int (q_i 0) :: st) h := xe_iconst ec16 dX0_removeWire_44
theorem e16_45 {ls st : List Value} {h : x_H} {x y : Int32} {a : Nat}: x_run 16 45 ls (.int y :: .int x :: .ref a :: st) h = q_wa h a 1 x (vp_nar .boolean y) (fun h' => x_run 16 46 ls st h') := xe_bastore ec16 dX0_removeWire_45
theorem e16_46 {ls st : List Value} {h : x_H} : x_run 16 46 ls st h = q_gi ls 2 (fun v => if x_nd ls 2 = true then x_run 16 49 (ls.set 2 (.int (v + q_i 1))) st h else none) := xe_iinc ec16 dX0_removeWire_46
theorem e16_49 {ls st : List Value} {h : x_H} : x_run 16 49 ls st h = x_run 16 2 ls st h := xe_goto ec16 dX0_removeWire_49 rfl
theorem e16_52 {ls st : List Value} {h : x_H} : x_run 16 52 ls st h = q_gr ls 0 (fun v => x_run 16 53 ls (.ref v :: st) h) := xe_aload_n ec16 dX0_removeWire_52
theorem e16_53 {ls st : List Value} {h : x_H} {a : Nat}: x_run 16 53 ls (.ref a :: st) h = q_gf h a 2 3 (fun v => x_run 16 56 ls (v :: st) h) := xe_getfield ec16 dX0_removeWire_53 ef0_22
theorem e16_56 {ls st : List Value} {h : x_H} : x_run 16 56 ls st h = q_gi ls 1 (fun v => x_run 16 57 ls (.int v :: st) h) := xe_iload_n ec16 dX0_removeWire_56
theorem e16_57 {ls st : List Value} {h : x_H} : x_run 16 57 ls st h = x_run 16 58 ls (.int (q_i 0) :: st) h := xe_iconst ec16 dX0_removeWire_57
theorem e16_58 {ls st : List Value} {h : x_H} {x y : Int32} {a : Nat}: x_run 16 58 ls (.int y :: .int x :: .ref a :: st) h = q_wa h a 1 x (vp_nar .boolean y) (fun h' => x_run 16 59 ls st h') := xe_bastore ec16 dX0_removeWire_58
theorem e16_59 {ls st : List Value} {h : x_H} : x_run 16 59 ls st h = q_gr ls 0 (fun v => x_run 16 60 ls (.ref v :: st) h) := xe_aload_n ec16 dX0_removeWire_59
theorem e16_60 {ls st : List Value} {h : x_H} {a : Nat}: x_run 16 60 ls (.ref a :: st) h = q_gf h a 2 5 (fun v => x_run 16 63 ls (v :: st) h) := xe_getfield ec16 dX0_removeWire_60 ef0_29
theorem e16_63 {ls st : List Value} {h : x_H} : x_run 16 63 ls st h = q_gi ls 1 (fun v => x_run 16 64 ls (.int v :: st) h) := xe_iload_n ec16 dX0_removeWire_63
theorem e16_64 {ls st : List Value} {h : x_H} : x_run 16 64 ls st h = x_run 16 65 ls (.int (q_i 0) :: st) h := xe_iconst ec16 dX0_removeWire_64
theorem e16_65 {ls st : List Value} {h : x_H} {x y : Int32} {a : Nat}: x_run 16 65 ls (.int y :: .int x :: .ref a :: st) h = q_wa h a 0 x y (fun h' => x_run 16 66 ls st h') := xe_iastore ec16 dX0_removeWire_65
theorem e16_66 {ls st : List Value} {h : x_H} : x_run 16 66 ls st h = q_gr ls 0 (fun v => x_run 16 67 ls (.ref v :: st) h) := xe_aload_n ec16 dX0_removeWire_66
theorem e16_67 {ls st : List Value} {h : x_H} {a : Nat}: x_run 16 67 ls (.ref a :: st) h = q_gf h a 2 6 (fun v => x_run 16 70 ls (v :: st) h) := xe_getfield ec16 dX0_removeWire_67 ef0_32
theorem e16_70 {ls st : List Value} {h : x_H} : x_run 16 70 ls st h = q_gi ls 1 (fun v => x_run 16 71 ls (.int v :: st) h) := xe_iload_n ec16 dX0_removeWire_70
theorem e16_71 {ls st : List Value} {h : x_H} : x_run 16 71 ls st h = x_run 16 72 ls (.int (q_i 0) :: st) h := xe_iconst ec16 dX0_removeWire_71
theorem e16_72 {ls st : List Value} {h : x_H} {x y : Int32} {a : Nat}: x_run 16 72 ls (.int y :: .int x :: .ref a :: st) h = q_wa h a 0 x y (fun h' => x_run 16 73 ls st h') := xe_iastore ec16 dX0_removeWire_72
theorem e16_73 {ls st : List Value} {h : x_H} : x_run 16 73 ls st h = q_gr ls 0 (fun v => x_run 16 74 ls (.ref v :: st) h) := xe_aload_n ec16 dX0_removeWire_73
theorem e16_74 {ls st : List Value} {h : x_H} {a : Nat}: x_run 16 74 ls (.ref a :: st) h = q_gf h a 2 7 (fun v => x_run 16 77 ls (v :: st) h) := xe_getfield ec16 dX0_removeWire_74 ef0_35
theorem e16_77 {ls st : List Value} {h : x_H} : x_run 16 77 ls st h = q_gi ls 1 (fun v => x_run 16 78 ls (.int v :: st) h) := xe_iload_n ec16 dX0_removeWire_77
theorem e16_78 {ls st : List Value} {h : x_H} : x_run 16 78 ls st h = x_run 16 79 ls (.int (q_i 0) :: st) h := xe_iconst ec16 dX0_removeWire_78
theorem e16_79 {ls st : List Value} {h : x_H} {x y : Int32} {a : Nat}: x_run 16 79 ls (.int y :: .int x :: .ref a :: st) h = q_wa h a 0 x y (fun h' => x_run 16 80 ls st h') := xe_iastore ec16 dX0_removeWire_79
theorem e16_80 {ls st : List Value} {h : x_H} : x_run 16 80 ls st h = q_gr ls 0 (fun v => x_run 16 81 ls (.ref v :: st) h) := xe_aload_n ec16 dX0_removeWire_80
theorem e16_81 {ls st : List Value} {h : x_H} {a : Nat}: x_run 16 81 ls (.ref a :: st) h = q_gf h a 2 8 (fun v => x_run 16 84 ls (v :: st) h) := xe_getfield ec16 dX0_removeWire_81 ef0_38
theorem e16_84 {ls st : List Value} {h : x_H} : x_run 16 84 ls st h = q_gi ls 1 (fun v => x_run 16 85 ls (.int v :: st) h) := xe_iload_n ec16 dX0_removeWire_84
theorem e16_85 {ls st : List Value} {h : x_H} {v w : Value} (hv : v.category = 1 ∧ w.category = 1): x_run 16 85 ls (v :: w :: st) h = x_run 16 86 ls (v :: w :: v :: w :: st) h := xe_dup2 ec16 dX0_removeWire_85 hv
theorem e16_86 {ls st : List Value} {h : x_H} {x : Int32} {a : Nat}: x_run 16 86 ls (.int x :: .ref a :: st) h = q_ra h a 0 x (fun v => x_run 16 87 ls (.int v :: st) h) := xe_iaload ec16 dX0_removeWire_86
theorem e16_87 {ls st : List Value} {h : x_H} : x_run 16 87 ls st h = x_run 16 88 ls (.int (q_i 1) :: st) h := xe_iconst ec16 dX0_removeWire_87
theorem e16_88 {ls st : List Value} {h : x_H} {x y : Int32}: x_run 16 88 ls (.int y :: .int x :: st) h = x_run 16 89 ls (.int (x + y) :: st) h := xe_iadd ec16 dX0_removeWire_88
theorem e16_89 {ls st : List Value} {h : x_H} {x y : Int32} {a : Nat}: x_run 16 89 ls (.int y :: .int x :: .ref a :: st) h = q_wa h a 0 x y (fun h' => x_run 16 90 ls st h') := xe_iastore ec16 dX0_removeWire_89
theorem e16_90 {ls : List Value} {h : x_H} : x_run 16 90 ls [] h = some (.inl (none), h) := xe_return ec16 dX0_removeWire_90 rfl
