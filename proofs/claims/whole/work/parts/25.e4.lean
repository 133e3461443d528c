theorem ec400 : x_code 400 = cX4_init := rfl
theorem e400_0 {ls st : List Value} {h : x_H} : x_run 400 0 ls st h = q_gr ls 0 (fun v => x_run 400 1 ls (.ref v :: st) h) := xe_aload_n ec400 dX4_init_0
theorem e400_1 {ls st : List Value} {h : x_H} {a : Nat}: x_run 400 1 ls (.ref a :: st) h = if x_wt st ≤ 8 then x_run 400 4 ls st h else none := xe_obj ec400 dX4_init_1 ek4_3
theorem e400_4 {ls st : List Value} {h : x_H} : x_run 400 4 ls st h = q_gr ls 0 (fun v => x_run 400 5 ls (.ref v :: st) h) := xe_aload_n ec400 dX4_init_4
theorem e400_5 {ls st : List Value} {h : x_H} : x_run 400 5 ls st h = x_run 400 6 ls (.int (q_i 0) :: st) h := xe_iconst ec400 dX4_init_5
theorem e400_6 {ls st : List Value} {h : x_H} {v : Value} {a : Nat}: x_run 400 6 ls (v :: .ref a :: st) h = if x_fit (x_ty 6 0) v = true then q_pf h a 6 0 v (fun h' => x_run 400 9 ls st h') else none := xe_putfield ec400 dX4_init_6 ef4_9 (by decide +kernel)
theorem e400_9 {ls st : List Value} {h : x_H} : x_run 400 9 ls st h = q_gr ls 0 (fun v => x_run 400 10 ls (.ref v :: st) h) := xe_aload_n ec400 dX4_init_9
theorem e400_10 {ls st : List Value} {h : x_H} : x_run 400 10 ls st h = x_run 400 11 ls (.int (q_i 0) :: st) h := xe_iconst ec400 dX4_init_10
theorem e400_11 {ls st : List Value} {h : x_H} {v : Value} {a : Nat}: x_run 400 11 ls (v :: .ref a :: st) h = if x_fit (x_ty 6 1) v = true then q_pf h a 6 1 v (fun h' => x_run 400 14 ls st h') else none := xe_putfield ec400 dX4_init_11 ef4_15 (by decide +kernel)
theorem e400_14 {ls st : List Value} {h : x_H} : x_run 400 14 ls st h = q_gr ls 0 (fun v => x_run 400 15 ls (.ref v :: st) h) := xe_aload_n ec400 dX4_init_14
theorem e400_15 {ls st : List Value} {h : x_H} : x_run 400 15 ls st h = x_run 400 16 ls (.int (q_i 0) :: st) h := xe_iconst ec400 dX4_init_15
theorem e400_16 {ls st : List Value} {h : x_H} {v : Value} {a : Nat}: x_run 400 16 ls (v :: .ref a :: st) h = if x_fit (x_ty 6 2) v = true then q_pf h a 6 2 v (fun h' => x_run 400 19 ls st h') else none := xe_putfield ec400 dX4_init_16 ef4_18 (by decide +kernel)
theorem e400_19 {ls st : List Value} {h : x_H} : x_run 400 19 ls st h = q_gr ls 0 (fun v => x_run 400 20 ls (.ref v :: st) h) := xe_aload_n ec400 dX4_init_19
theorem e400_20 {ls st : List Value} {h : x_H} : x_run 400 20 ls st h = x_run 400 21 ls (.int (q_i 0) :: st) h := xe_iconst ec400 dX4_init_20
theorem e400_21 {ls st : List Value} {h : x_H} {v : Value} {a : Nat}: x_run 400 21 ls (v :: .ref a :: st) h = if x_fit (x_ty 6 3) v = true then q_pf h a 6 3 v (fun h' => x_run 400 24 ls st h') else none := xe_putfield ec400 dX4_init_21 ef4_21 (by decide +kernel)
theorem e400_24 {ls : List Value} {h : x_H} : x_run 400 24 ls [] h = some (.inl (none), h) := xe_return ec400 dX4_init_24 rfl
theorem ec401 : x_code 401 = cX4_keep := rfl
theorem e401_0 {ls st : List Value} {h : x_H} : x_run 401 0 ls st h = q_gr ls 0 (fun v => x_run 401 1 ls (.ref v :: st) h) := xe_aload_n ec401 dX4_keep_0
theorem e401_1 {ls st : List Value} {h : x_H} : x_run 401 1 ls st h = q_gi ls 1 (fun v => x_run 401 2 ls (.int v :: st) h) := xe_iload_n ec401 dX4_keep_1
theorem e401_2 {ls st : List Value} {h : x_H} {v : Value} {a : Nat}: x_run 401 2 ls (v :: .ref a :: st) h = if x_fit (x_ty 6 0) v = true then q_pf h a 6 0 v (fun h' => x_run 401 5 ls st h') else none := xe_putfield ec401 dX4_keep_2 ef4_9 (by decide +kernel)
theorem e401_5 {ls st : List Value} {h : x_H} : x_run 401 5 ls st h = q_gr ls 0 (fun v => x_run 401 6 ls (.ref v :: st) h) := xe_aload_n ec401 dX4_keep_5
theorem e401_6 {ls st : List Value} {h : x_H} : x_run 401 6 ls st h = q_gi ls 2 (fun v => x_run 401 7 ls (.int v :: st) h) := xe_iload_n ec401 dX4_keep_6
theorem e401_7 {ls st : List Value} {h : x_H} {v : Value} {a : Nat}: x_run 401 7 ls (v :: .ref a :: st) h = if x_fit (x_ty 6 1) v = true then q_pf h a 6 1 v (fun h' => x_run 401 10 ls st h') else none := xe_putfield ec401 dX4_keep_7 ef4_15 (by decide +kernel)
theorem e401_10 {ls st : List Value} {h : x_H} : x_run 401 10 ls st h = q_gr ls 0 (fun v => x_run 401 11 ls (.ref v :: st) h) := xe_aload_n ec401 dX4_keep_10
theorem e401_11 {ls st : List Value} {h : x_H} : x_run 401 11 ls st h = q_gr ls 0 (fun v => x_run 401 12 ls (.ref v :: st) h) := xe_aload_n ec401 dX4_keep_11
theorem e401_12 {ls st : List Value} {h : x_H} {a : Nat}: x_run 401 12 ls (.ref a :: st) h = q_gf h a 6 3 (fun v => x_run 401 15 ls (v :: st) h) := xe_getfield ec401 dX4_keep_12 ef4_21
theorem e401_15 {ls st : List Value} {h : x_H} {v : Value} {a : Nat}: x_run 401 15 ls (v :: .ref a :: st) h = if x_fit (x_ty 6 2) v = true then q_pf h a 6 2 v (fun h' => x_run 401 18 ls st h') else none := xe_putfield ec401 dX4_keep_15 ef4_18 (by decide +kernel)
theorem e401_18 {ls st : List Value} {h : x_H} : x_run 401 18 ls st h = x_run 401 19 ls (.int (q_i (-1)) :: st) h := xe_iconst ec401 dX4_keep_18
theorem e401_19 {ls : List Value} {h : x_H} {x : Int32} : x_run 401 19 ls [.int x] h = if narrow .int (.int x) = .int x then some (.inl (some (.int x)), h) else none := xe_ireturn ec401 dX4_keep_19 rfl
