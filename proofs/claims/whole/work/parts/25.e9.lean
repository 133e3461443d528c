theorem ec900 : x_code 900 = cL_net := rfl
theorem e900_0 {ls st : List Value} {h : x_H} : x_run 900 0 ls st h = q_gr ls 2 (fun v => x_run 900 1 ls (.ref v :: st) h) := xe_aload_n ec900 dL_net_0
theorem e900_1 {ls st : List Value} {h : x_H} : x_run 900 1 ls st h = x_run 900 2 ls (.int (q_i 0) :: st) h := xe_iconst ec900 dL_net_1
theorem e900_2 {ls st : List Value} {h : x_H} : x_run 900 2 ls st h = q_gr ls 0 (fun v => x_run 900 3 ls (.ref v :: st) h) := xe_aload_n ec900 dL_net_2
theorem e900_3 {ls st : List Value} {h : x_H} : x_run 900 3 ls st h = q_gi ls 1 (fun v => x_run 900 4 ls (.int v :: st) h) := xe_iload_n ec900 dL_net_3
theorem e900_4 {ls st : List Value} {h : x_H} {b : Nat} {a1 : Value}: x_run 900 4 ls (a1 :: .ref b :: st) h = if q_rcv h b 9 = true then (if x_wt st ≤ 8 ∧ x_wt [.ref b, a1] = 2 then q_ct (x_m 701 [.ref b, a1] h) (q_ho 900 4) (fun v h' => x_run 900 7 ls (v.toList ++ st) h') else none) else none := xe_virtT (r := [a1]) ec900 dL_net_4 ek9_7 rfl (by decide +kernel) (by decide +kernel)
theorem e900_7 {ls st : List Value} {h : x_H} {x : Int32}: x_run 900 7 ls (.int x :: st) h = x_run 900 8 ls (.long x.toInt64 :: st) h := xe_i2l ec900 dL_net_7
theorem e900_8 {ls st : List Value} {h : x_H} {v : Value} {x : Int32} {a : Nat}: x_run 900 8 ls (v :: .int x :: .ref a :: st) h = q_wv h a 100 x_isL x v (fun h' => x_run 900 9 ls st h') := xe_lastore ec900 dL_net_8
theorem e900_9 {ls st : List Value} {h : x_H} : x_run 900 9 ls st h = x_run 900 15 ls st h := xe_goto ec900 dL_net_9 rfl
theorem e900_12 {ls st : List Value} {h : x_H} {a : Nat}: x_run 900 12 ls (.ref a :: st) h = q_ls ls 3 (.ref a) (fun ls' => x_run 900 13 ls' st h) := xe_astore_n ec900 dL_net_12
theorem e900_13 {ls st : List Value} {h : x_H} : x_run 900 13 ls st h = x_run 900 14 ls (.int (q_i 1) :: st) h := xe_iconst ec900 dL_net_13
theorem e900_14 {ls : List Value} {h : x_H} {x : Int32} : x_run 900 14 ls [.int x] h = if narrow .int (.int x) = .int x then some (.inl (some (.int x)), h) else none := xe_ireturn ec900 dL_net_14 rfl
theorem e900_15 {ls st : List Value} {h : x_H} : x_run 900 15 ls st h = x_run 900 16 ls (.int (q_i 0) :: st) h := xe_iconst ec900 dL_net_15
theorem e900_16 {ls : List Value} {h : x_H} {x : Int32} : x_run 900 16 ls [.int x] h = if narrow .int (.int x) = .int x then some (.inl (some (.int x)), h) else none := xe_ireturn ec900 dL_net_16 rfl
theorem ec901 : x_code 901 = cL_pin := rfl
theorem e901_0 {ls st : List Value} {h : x_H} : x_run 901 0 ls st h = q_gr ls 4 (fun v => x_run 901 2 ls (.ref v :: st) h) := xe_aload ec901 dL_pin_0
theorem e901_2 {ls st : List Value} {h : x_H} : x_run 901 2 ls st h = x_run 901 3 ls (.int (q_i 0) :: st) h := xe_iconst ec901 dL_pin_2
theorem e901_3 {ls st : List Value} {h : x_H} : x_run 901 3 ls st h = q_gr ls 0 (fun v => x_run 901 4 ls (.ref v :: st) h) := xe_aload_n ec901 dL_pin_3
theorem e901_4 {ls st : List Value} {h : x_H} : x_run 901 4 ls st h = q_gi ls 1 (fun v => x_run 901 5 ls (.int v :: st) h) := xe_iload_n ec901 dL_pin_4
theorem e901_5 {ls st : List Value} {h : x_H} : x_run 901 5 ls st h = q_gi ls 2 (fun v => x_run 901 6 ls (.int v :: st) h) := xe_iload_n ec901 dL_pin_5
theorem e901_6 {ls st : List Value} {h : x_H} : x_run 901 6 ls st h = q_gi ls 3 (fun v => x_run 901 7 ls (.int v :: st) h) := xe_iload_n ec901 dL_pin_6
theorem e901_7 {ls st : List Value} {h : x_H} {b : Nat} {a1 a2 a3 : Value}: x_run 901 7 ls (a3 :: a2 :: a1 :: .ref b :: st) h = if q_rcv h b 9 = true then (if x_wt st ≤ 8 ∧ x_wt [.ref b, a1, a2, a3] = 4 then q_ct (x_m 702 [.ref b, a1, a2, a3] h) (q_ho 901 7) (fun v h' => x_run 901 10 ls (v.toList ++ st) h') else none) else none := xe_virtT (r := [a1, a2, a3]) ec901 dL_pin_7 ek9_15 rfl (by decide +kernel) (by decide +kernel)
theorem e901_10 {ls st : List Value} {h : x_H} {x : Int32}: x_run 901 10 ls (.int x :: st) h = x_run 901 11 ls (.long x.toInt64 :: st) h := xe_i2l ec901 dL_pin_10
theorem e901_11 {ls st : List Value} {h : x_H} {v : Value} {x : Int32} {a : Nat}: x_run 901 11 ls (v :: .int x :: .ref a :: st) h = q_wv h a 100 x_isL x v (fun h' => x_run 901 12 ls st h') := xe_lastore ec901 dL_pin_11
theorem e901_12 {ls st : List Value} {h : x_H} : x_run 901 12 ls st h = x_run 901 19 ls st h := xe_goto ec901 dL_pin_12 rfl
theorem e901_15 {ls st : List Value} {h : x_H} {a : Nat}: x_run 901 15 ls (.ref a :: st) h = q_ls ls 5 (.ref a) (fun ls' => x_run 901 17 ls' st h) := xe_astore ec901 dL_pin_15
theorem e901_17 {ls st : List Value} {h : x_H} : x_run 901 17 ls st h = x_run 901 18 ls (.int (q_i 1) :: st) h := xe_iconst ec901 dL_pin_17
theorem e901_18 {ls : List Value} {h : x_H} {x : Int32} : x_run 901 18 ls [.int x] h = if narrow .int (.int x) = .int x then some (.inl (some (.int x)), h) else none := xe_ireturn ec901 dL_pin_18 rfl
theorem e901_19 {ls st : List Value} {h : x_H} : x_run 901 19 ls st h = x_run 901 20 ls (.int (q_i 0) :: st) h := xe_iconst ec901 dL_pin_19
theorem e901_20 {ls : List Value} {h : x_H} {x : Int32} : x_run 901 20 ls [.int x] h = if narrow .int (.int x) = .int x then some (.inl (some (.int x)), h) else none := xe_ireturn ec901 dL_pin_20 rfl
theorem ec902 : x_code 902 = cL_wall := rfl
theorem e902_0 {ls st : List Value} {h : x_H} : x_run 902 0 ls st h = q_gr ls 4 (fun v => x_run 902 2 ls (.ref v :: st) h) := xe_aload ec902 dL_wall_0
theorem e902_2 {ls st : List Value} {h : x_H} : x_run 902 2 ls st h = x_run 902 3 ls (.int (q_i 0) :: st) h := xe_iconst ec902 dL_wall_2
theorem e902_3 {ls st : List Value} {h : x_H} : x_run 902 3 ls st h = q_gr ls 0 (fun v => x_run 902 4 ls (.ref v :: st) h) := xe_aload_n ec902 dL_wall_3
theorem e902_4 {ls st : List Value} {h : x_H} : x_run 902 4 ls st h = q_gi ls 1 (fun v => x_run 902 5 ls (.int v :: st) h) := xe_iload_n ec902 dL_wall_4
theorem e902_5 {ls st : List Value} {h : x_H} : x_run 902 5 ls st h = q_gi ls 2 (fun v => x_run 902 6 ls (.int v :: st) h) := xe_iload_n ec902 dL_wall_5
theorem e902_6 {ls st : List Value} {h : x_H} : x_run 902 6 ls st h = q_gi ls 3 (fun v => x_run 902 7 ls (.int v :: st) h) := xe_iload_n ec902 dL_wall_6
theorem e902_7 {ls st : List Value} {h : x_H} {b : Nat} {a1 a2 a3 : Value}: x_run 902 7 ls (a3 :: a2 :: a1 :: .ref b :: st) h = if q_rcv h b 9 = true then (if x_wt st ≤ 8 ∧ x_wt [.ref b, a1, a2, a3] = 4 then q_ct (x_m 703 [.ref b, a1, a2, a3] h) (q_ho 902 7) (fun v h' => x_run 902 10 ls (v.toList ++ st) h') else none) else none := xe_virtT (r := [a1, a2, a3]) ec902 dL_wall_7 ek9_19 rfl (by decide +kernel) (by decide +kernel)
theorem e902_10 {ls st : List Value} {h : x_H} {x : Int32}: x_run 902 10 ls (.int x :: st) h = x_run 902 11 ls (.long x.toInt64 :: st) h := xe_i2l ec902 dL_wall_10
theorem e902_11 {ls st : List Value} {h : x_H} {v : Value} {x : Int32} {a : Nat}: x_run 902 11 ls (v :: .int x :: .ref a :: st) h = q_wv h a 100 x_isL x v (fun h' => x_run 902 12 ls st h') := xe_lastore ec902 dL_wall_11
theorem e902_12 {ls st : List Value} {h : x_H} : x_run 902 12 ls st h = x_run 902 19 ls st h := xe_goto ec902 dL_wall_12 rfl
theorem e902_15 {ls st : List Value} {h : x_H} {a : Nat}: x_run 902 15 ls (.ref a :: st) h = q_ls ls 5 (.ref a) (fun ls' => x_run 902 17 ls' st h) := xe_astore ec902 dL_wall_15
theorem e902_17 {ls st : List Value} {h : x_H} : x_run 902 17 ls st h = x_run 902 18 ls (.int (q_i 1) :: st) h := xe_iconst ec902 dL_wall_17
theorem e902_18 {ls : List Value} {h : x_H} {x : Int32} : x_run 902 18 ls [.int x] h = if narrow .int (.int x) = .int x then some (.inl (some (.int x)), h) else none := xe_ireturn ec902 dL_wall_18 rfl
theorem e902_19 {ls st : List Value} {h : x_H} : x_run 902 19 ls st h = x_run 902 20 ls (.int (q_i 0) :: st) h := xe_iconst ec902 dL_wall_19
theorem e902_20 {ls : List Value} {h : x_H} {x : Int32} : x_run 902 20 ls [.int x] h = if narrow .int (.int x) = .int x then some (.inl (some (.int x)), h) else none := xe_ireturn ec902 dL_wall_20 rfl
theorem ec903 : x_code 903 = cL_tearDown := rfl
theorem e903_0 {ls st : List Value} {h : x_H} : x_run 903 0 ls st h = q_gr ls 4 (fun v => x_run 903 2 ls (.ref v :: st) h) := xe_aload ec903 dL_tearDown_0
theorem e903_2 {ls st : List Value} {h : x_H} : x_run 903 2 ls st h = x_run 903 3 ls (.int (q_i 0) :: st) h := xe_iconst ec903 dL_tearDown_2
theorem e903_3 {ls st : List Value} {h : x_H} : x_run 903 3 ls st h = q_gr ls 0 (fun v => x_run 903 4 ls (.ref v :: st) h) := xe_aload_n ec903 dL_tearDown_3
theorem e903_4 {ls st : List Value} {h : x_H} : x_run 903 4 ls st h = q_gi ls 1 (fun v => x_run 903 5 ls (.int v :: st) h) := xe_iload_n ec903 dL_tearDown_4
theorem e903_5 {ls st : List Value} {h : x_H} : x_run 903 5 ls st h = q_gi ls 2 (fun v => x_run 903 6 ls (.int v :: st) h) := xe_iload_n ec903 dL_tearDown_5
theorem e903_6 {ls st : List Value} {h : x_H} : x_run 903 6 ls st h = q_gi ls 3 (fun v => x_run 903 7 ls (.int v :: st) h) := xe_iload_n ec903 dL_tearDown_6
theorem e903_7 {ls st : List Value} {h : x_H} {b : Nat} {a1 a2 a3 : Value}: x_run 903 7 ls (a3 :: a2 :: a1 :: .ref b :: st) h = if q_rcv h b 9 = true then (if x_wt st ≤ 8 ∧ x_wt [.ref b, a1, a2, a3] = 4 then q_ct (x_m 704 [.ref b, a1, a2, a3] h) (q_ho 903 7) (fun v h' => x_run 903 10 ls (v.toList ++ st) h') else none) else none := xe_virtT (r := [a1, a2, a3]) ec903 dL_tearDown_7 ek9_22 rfl (by decide +kernel) (by decide +kernel)
theorem e903_10 {ls st : List Value} {h : x_H} {x : Int32}: x_run 903 10 ls (.int x :: st) h = x_run 903 11 ls (.long x.toInt64 :: st) h := xe_i2l ec903 dL_tearDown_10
theorem e903_11 {ls st : List Value} {h : x_H} {v : Value} {x : Int32} {a : Nat}: x_run 903 11 ls (v :: .int x :: .ref a :: st) h = q_wv h a 100 x_isL x v (fun h' => x_run 903 12 ls st h') := xe_lastore ec903 dL_tearDown_11
theorem e903_12 {ls st : List Value} {h : x_H} : x_run 903 12 ls st h = x_run 903 19 ls st h := xe_goto ec903 dL_tearDown_12 rfl
theorem e903_15 {ls st : List Value} {h : x_H} {a : Nat}: x_run 903 15 ls (.ref a :: st) h = q_ls ls 5 (.ref a) (fun ls' => x_run 903 17 ls' st h) := xe_astore ec903 dL_tearDown_15
theorem e903_17 {ls st : List Value} {h : x_H} : x_run 903 17 ls st h = x_run 903 18 ls (.int (q_i 1) :: st) h := xe_iconst ec903 dL_tearDown_17
theorem e903_18 {ls : List Value} {h : x_H} {x : Int32} : x_run 903 18 ls [.int x] h = if narrow .int (.int x) = .int x then some (.inl (some (.int x)), h) else none := xe_ireturn ec903 dL_tearDown_18 rfl
theorem e903_19 {ls st : List Value} {h : x_H} : x_run 903 19 ls st h = x_run 903 20 ls (.int (q_i 0) :: st) h := xe_iconst ec903 dL_tearDown_19
theorem e903_20 {ls : List Value} {h : x_H} {x : Int32} : x_run 903 20 ls [.int x] h = if narrow .int (.int x) = .int x then some (.inl (some (.int x)), h) else none := xe_ireturn ec903 dL_tearDown_20 rfl
theorem ec904 : x_code 904 = cL_route := rfl
theorem e904_0 {ls st : List Value} {h : x_H} : x_run 904 0 ls st h = q_gr ls 2 (fun v => x_run 904 1 ls (.ref v :: st) h) := xe_aload_n ec904 dL_route_0
theorem e904_1 {ls st : List Value} {h : x_H} : x_run 904 1 ls st h = x_run 904 2 ls (.int (q_i 0) :: st) h := xe_iconst ec904 dL_route_1
theorem e904_2 {ls st : List Value} {h : x_H} : x_run 904 2 ls st h = q_gr ls 0 (fun v => x_run 904 3 ls (.ref v :: st) h) := xe_aload_n ec904 dL_route_2
theorem e904_3 {ls st : List Value} {h : x_H} : x_run 904 3 ls st h = q_gi ls 1 (fun v => x_run 904 4 ls (.int v :: st) h) := xe_iload_n ec904 dL_route_3
theorem e904_4 {ls st : List Value} {h : x_H} {b : Nat} {a1 : Value}: x_run 904 4 ls (a1 :: .ref b :: st) h = if q_rcv h b 9 = true then (if x_wt st ≤ 8 ∧ x_wt [.ref b, a1] = 2 then q_ct (x_m 705 [.ref b, a1] h) (q_ho 904 4) (fun v h' => x_run 904 7 ls (v.toList ++ st) h') else none) else none := xe_virtT (r := [a1]) ec904 dL_route_4 ek9_25 rfl (by decide +kernel) (by decide +kernel)
theorem e904_7 {ls st : List Value} {h : x_H} {x : Int32}: x_run 904 7 ls (.int x :: st) h = x_run 904 8 ls (.long x.toInt64 :: st) h := xe_i2l ec904 dL_route_7
theorem e904_8 {ls st : List Value} {h : x_H} {v : Value} {x : Int32} {a : Nat}: x_run 904 8 ls (v :: .int x :: .ref a :: st) h = q_wv h a 100 x_isL x v (fun h' => x_run 904 9 ls st h') := xe_lastore ec904 dL_route_8
theorem e904_9 {ls st : List Value} {h : x_H} : x_run 904 9 ls st h = x_run 904 15 ls st h := xe_goto ec904 dL_route_9 rfl
theorem e904_12 {ls st : List Value} {h : x_H} {a : Nat}: x_run 904 12 ls (.ref a :: st) h = q_ls ls 3 (.ref a) (fun ls' => x_run 904 13 ls' st h) := xe_astore_n ec904 dL_route_12
theorem e904_13 {ls st : List Value} {h : x_H} : x_run 904 13 ls st h = x_run 904 14 ls (.int (q_i 1) :: st) h := xe_iconst ec904 dL_route_13
theorem e904_14 {ls : List Value} {h : x_H} {x : Int32} : x_run 904 14 ls [.int x] h = if narrow .int (.int x) = .int x then some (.inl (some (.int x)), h) else none := xe_ireturn ec904 dL_route_14 rfl
theorem e904_15 {ls st : List Value} {h : x_H} : x_run 904 15 ls st h = x_run 904 16 ls (.int (q_i 0) :: st) h := xe_iconst ec904 dL_route_15
theorem e904_16 {ls : List Value} {h : x_H} {x : Int32} : x_run 904 16 ls [.int x] h = if narrow .int (.int x) = .int x then some (.inl (some (.int x)), h) else none := xe_ireturn ec904 dL_route_16 rfl
theorem ec905 : x_code 905 = cL_hard := rfl
theorem e905_0 {ls st : List Value} {h : x_H} : x_run 905 0 ls st h = q_gr ls 2 (fun v => x_run 905 1 ls (.ref v :: st) h) := xe_aload_n ec905 dL_hard_0
theorem e905_1 {ls st : List Value} {h : x_H} : x_run 905 1 ls st h = x_run 905 2 ls (.int (q_i 0) :: st) h := xe_iconst ec905 dL_hard_1
theorem e905_2 {ls st : List Value} {h : x_H} : x_run 905 2 ls st h = q_gr ls 0 (fun v => x_run 905 3 ls (.ref v :: st) h) := xe_aload_n ec905 dL_hard_2
theorem e905_3 {ls st : List Value} {h : x_H} : x_run 905 3 ls st h = q_gi ls 1 (fun v => x_run 905 4 ls (.int v :: st) h) := xe_iload_n ec905 dL_hard_3
theorem e905_4 {ls st : List Value} {h : x_H} {b : Nat} {a1 : Value}: x_run 905 4 ls (a1 :: .ref b :: st) h = if q_rcv h b 9 = true then (if x_wt st ≤ 8 ∧ x_wt [.ref b, a1] = 2 then q_ct (x_m 706 [.ref b, a1] h) (q_ho 905 4) (fun v h' => x_run 905 7 ls (v.toList ++ st) h') else none) else none := xe_virtT (r := [a1]) ec905 dL_hard_4 ek9_29 rfl (by decide +kernel) (by decide +kernel)
theorem e905_7 {ls st : List Value} {h : x_H} {x : Int32}: x_run 905 7 ls (.int x :: st) h = x_run 905 8 ls (.long x.toInt64 :: st) h := xe_i2l ec905 dL_hard_7
theorem e905_8 {ls st : List Value} {h : x_H} {v : Value} {x : Int32} {a : Nat}: x_run 905 8 ls (v :: .int x :: .ref a :: st) h = q_wv h a 100 x_isL x v (fun h' => x_run 905 9 ls st h') := xe_lastore ec905 dL_hard_8
theorem e905_9 {ls st : List Value} {h : x_H} : x_run 905 9 ls st h = x_run 905 15 ls st h := xe_goto ec905 dL_hard_9 rfl
theorem e905_12 {ls st : List Value} {h : x_H} {a : Nat}: x_run 905 12 ls (.ref a :: st) h = q_ls ls 3 (.ref a) (fun ls' => x_run 905 13 ls' st h) := xe_astore_n ec905 dL_hard_12
theorem e905_13 {ls st : List Value} {h : x_H} : x_run 905 13 ls st h = x_run 905 14 ls (.int (q_i 1) :: st) h := xe_iconst ec905 dL_hard_13
theorem e905_14 {ls : List Value} {h : x_H} {x : Int32} : x_run 905 14 ls [.int x] h = if narrow .int (.int x) = .int x then some (.inl (some (.int x)), h) else none := xe_ireturn ec905 dL_hard_14 rfl
theorem e905_15 {ls st : List Value} {h : x_H} : x_run 905 15 ls st h = x_run 905 16 ls (.int (q_i 0) :: st) h := xe_iconst ec905 dL_hard_15
theorem e905_16 {ls : List Value} {h : x_H} {x : Int32} : x_run 905 16 ls [.int x] h = if narrow .int (.int x) = .int x then some (.inl (some (.int x)), h) else none := xe_ireturn ec905 dL_hard_16 rfl
theorem ec906 : x_code 906 = cL_rip := rfl
theorem e906_0 {ls st : List Value} {h : x_H} : x_run 906 0 ls st h = q_gr ls 2 (fun v => x_run 906 1 ls (.ref v :: st) h) := xe_aload_n ec906 dL_rip_0
theorem e906_1 {ls st : List Value} {h : x_H} : x_run 906 1 ls st h = x_run 906 2 ls (.int (q_i 0) :: st) h := xe_iconst ec906 dL_rip_1
theorem e906_2 {ls st : List Value} {h : x_H} : x_run 906 2 ls st h = q_gr ls 0 (fun v => x_run 906 3 ls (.ref v :: st) h) := xe_aload_n ec906 dL_rip_2
theorem e906_3 {ls st : List Value} {h : x_H} : x_run 906 3 ls st h = q_gi ls 1 (fun v => x_run 906 4 ls (.int v :: st) h) := xe_iload_n ec906 dL_rip_3
theorem e906_4 {ls st : List Value} {h : x_H} {b : Nat} {a1 : Value}: x_run 906 4 ls (a1 :: .ref b :: st) h = if q_rcv h b 9 = true then (if x_wt st ≤ 8 ∧ x_wt [.ref b, a1] = 2 then q_ct (x_m 707 [.ref b, a1] h) (q_ho 906 4) (fun v h' => x_run 906 7 ls (v.toList ++ st) h') else none) else none := xe_virtT (r := [a1]) ec906 dL_rip_4 ek9_32 rfl (by decide +kernel) (by decide +kernel)
theorem e906_7 {ls st : List Value} {h : x_H} {x : Int32}: x_run 906 7 ls (.int x :: st) h = x_run 906 8 ls (.long x.toInt64 :: st) h := xe_i2l ec906 dL_rip_7
theorem e906_8 {ls st : List Value} {h : x_H} {v : Value} {x : Int32} {a : Nat}: x_run 906 8 ls (v :: .int x :: .ref a :: st) h = q_wv h a 100 x_isL x v (fun h' => x_run 906 9 ls st h') := xe_lastore ec906 dL_rip_8
theorem e906_9 {ls st : List Value} {h : x_H} : x_run 906 9 ls st h = x_run 906 15 ls st h := xe_goto ec906 dL_rip_9 rfl
theorem e906_12 {ls st : List Value} {h : x_H} {a : Nat}: x_run 906 12 ls (.ref a :: st) h = q_ls ls 3 (.ref a) (fun ls' => x_run 906 13 ls' st h) := xe_astore_n ec906 dL_rip_12
theorem e906_13 {ls st : List Value} {h : x_H} : x_run 906 13 ls st h = x_run 906 14 ls (.int (q_i 1) :: st) h := xe_iconst ec906 dL_rip_13
theorem e906_14 {ls : List Value} {h : x_H} {x : Int32} : x_run 906 14 ls [.int x] h = if narrow .int (.int x) = .int x then some (.inl (some (.int x)), h) else none := xe_ireturn ec906 dL_rip_14 rfl
theorem e906_15 {ls st : List Value} {h : x_H} : x_run 906 15 ls st h = x_run 906 16 ls (.int (q_i 0) :: st) h := xe_iconst ec906 dL_rip_15
theorem e906_16 {ls : List Value} {h : x_H} {x : Int32} : x_run 906 16 ls [.int x] h = if narrow .int (.int x) = .int x then some (.inl (some (.int x)), h) else none := xe_ireturn ec906 dL_rip_16 rfl
theorem ec907 : x_code 907 = cL_netOf := rfl
theorem e907_0 {ls st : List Value} {h : x_H} : x_run 907 0 ls st h = q_gr ls 3 (fun v => x_run 907 1 ls (.ref v :: st) h) := xe_aload_n ec907 dL_netOf_0
theorem e907_1 {ls st : List Value} {h : x_H} : x_run 907 1 ls st h = x_run 907 2 ls (.int (q_i 0) :: st) h := xe_iconst ec907 dL_netOf_1
theorem e907_2 {ls st : List Value} {h : x_H} : x_run 907 2 ls st h = q_gr ls 0 (fun v => x_run 907 3 ls (.ref v :: st) h) := xe_aload_n ec907 dL_netOf_2
theorem e907_3 {ls st : List Value} {h : x_H} : x_run 907 3 ls st h = q_gi ls 1 (fun v => x_run 907 4 ls (.int v :: st) h) := xe_iload_n ec907 dL_netOf_3
theorem e907_4 {ls st : List Value} {h : x_H} : x_run 907 4 ls st h = q_gi ls 2 (fun v => x_run 907 5 ls (.int v :: st) h) := xe_iload_n ec907 dL_netOf_4
theorem e907_5 {ls st : List Value} {h : x_H} {b : Nat} {a1 a2 : Value}: x_run 907 5 ls (a2 :: a1 :: .ref b :: st) h = if q_rcv h b 9 = true then (if x_wt st ≤ 8 ∧ x_wt [.ref b, a1, a2] = 3 then q_ct (x_m 708 [.ref b, a1, a2] h) (q_ho 907 5) (fun v h' => x_run 907 8 ls (v.toList ++ st) h') else none) else none := xe_virtT (r := [a1, a2]) ec907 dL_netOf_5 ek9_35 rfl (by decide +kernel) (by decide +kernel)
theorem e907_8 {ls st : List Value} {h : x_H} {x : Int32}: x_run 907 8 ls (.int x :: st) h = x_run 907 9 ls (.long x.toInt64 :: st) h := xe_i2l ec907 dL_netOf_8
theorem e907_9 {ls st : List Value} {h : x_H} {v : Value} {x : Int32} {a : Nat}: x_run 907 9 ls (v :: .int x :: .ref a :: st) h = q_wv h a 100 x_isL x v (fun h' => x_run 907 10 ls st h') := xe_lastore ec907 dL_netOf_9
theorem e907_10 {ls st : List Value} {h : x_H} : x_run 907 10 ls st h = x_run 907 21 ls st h := xe_goto ec907 dL_netOf_10 rfl
theorem e907_13 {ls st : List Value} {h : x_H} {a : Nat}: x_run 907 13 ls (.ref a :: st) h = q_ls ls 4 (.ref a) (fun ls' => x_run 907 15 ls' st h) := xe_astore ec907 dL_netOf_13
theorem e907_15 {ls st : List Value} {h : x_H} : x_run 907 15 ls st h = x_run 907 16 ls (.int (q_i 1) :: st) h := xe_iconst ec907 dL_netOf_15
theorem e907_16 {ls : List Value} {h : x_H} {x : Int32} : x_run 907 16 ls [.int x] h = if narrow .int (.int x) = .int x then some (.inl (some (.int x)), h) else none := xe_ireturn ec907 dL_netOf_16 rfl
theorem e907_17 {ls st : List Value} {h : x_H} {a : Nat}: x_run 907 17 ls (.ref a :: st) h = q_ls ls 4 (.ref a) (fun ls' => x_run 907 19 ls' st h) := xe_astore ec907 dL_netOf_17
theorem e907_19 {ls st : List Value} {h : x_H} : x_run 907 19 ls st h = x_run 907 20 ls (.int (q_i 2) :: st) h := xe_iconst ec907 dL_netOf_19
theorem e907_20 {ls : List Value} {h : x_H} {x : Int32} : x_run 907 20 ls [.int x] h = if narrow .int (.int x) = .int x then some (.inl (some (.int x)), h) else none := xe_ireturn ec907 dL_netOf_20 rfl
theorem e907_21 {ls st : List Value} {h : x_H} : x_run 907 21 ls st h = x_run 907 22 ls (.int (q_i 0) :: st) h := xe_iconst ec907 dL_netOf_21
theorem e907_22 {ls : List Value} {h : x_H} {x : Int32} : x_run 907 22 ls [.int x] h = if narrow .int (.int x) = .int x then some (.inl (some (.int x)), h) else none := xe_ireturn ec907 dL_netOf_22 rfl
theorem ec908 : x_code 908 = cL_pinOf := rfl
theorem e908_0 {ls st : List Value} {h : x_H} : x_run 908 0 ls st h = q_gr ls 3 (fun v => x_run 908 1 ls (.ref v :: st) h) := xe_aload_n ec908 dL_pinOf_0
theorem e908_1 {ls st : List Value} {h : x_H} : x_run 908 1 ls st h = x_run 908 2 ls (.int (q_i 0) :: st) h := xe_iconst ec908 dL_pinOf_1
theorem e908_2 {ls st : List Value} {h : x_H} : x_run 908 2 ls st h = q_gr ls 0 (fun v => x_run 908 3 ls (.ref v :: st) h) := xe_aload_n ec908 dL_pinOf_2
theorem e908_3 {ls st : List Value} {h : x_H} : x_run 908 3 ls st h = q_gi ls 1 (fun v => x_run 908 4 ls (.int v :: st) h) := xe_iload_n ec908 dL_pinOf_3
theorem e908_4 {ls st : List Value} {h : x_H} : x_run 908 4 ls st h = q_gi ls 2 (fun v => x_run 908 5 ls (.int v :: st) h) := xe_iload_n ec908 dL_pinOf_4
theorem e908_5 {ls st : List Value} {h : x_H} {b : Nat} {a1 a2 : Value}: x_run 908 5 ls (a2 :: a1 :: .ref b :: st) h = if q_rcv h b 9 = true then (if x_wt st ≤ 8 ∧ x_wt [.ref b, a1, a2] = 3 then q_ct (x_m 709 [.ref b, a1, a2] h) (q_ho 908 5) (fun v h' => x_run 908 8 ls (v.toList ++ st) h') else none) else none := xe_virtT (r := [a1, a2]) ec908 dL_pinOf_5 ek9_43 rfl (by decide +kernel) (by decide +kernel)
theorem e908_8 {ls st : List Value} {h : x_H} {x : Int32}: x_run 908 8 ls (.int x :: st) h = x_run 908 9 ls (.long x.toInt64 :: st) h := xe_i2l ec908 dL_pinOf_8
theorem e908_9 {ls st : List Value} {h : x_H} {v : Value} {x : Int32} {a : Nat}: x_run 908 9 ls (v :: .int x :: .ref a :: st) h = q_wv h a 100 x_isL x v (fun h' => x_run 908 10 ls st h') := xe_lastore ec908 dL_pinOf_9
theorem e908_10 {ls st : List Value} {h : x_H} : x_run 908 10 ls st h = x_run 908 17 ls st h := xe_goto ec908 dL_pinOf_10 rfl
theorem e908_13 {ls st : List Value} {h : x_H} {a : Nat}: x_run 908 13 ls (.ref a :: st) h = q_ls ls 4 (.ref a) (fun ls' => x_run 908 15 ls' st h) := xe_astore ec908 dL_pinOf_13
theorem e908_15 {ls st : List Value} {h : x_H} : x_run 908 15 ls st h = x_run 908 16 ls (.int (q_i 1) :: st) h := xe_iconst ec908 dL_pinOf_15
theorem e908_16 {ls : List Value} {h : x_H} {x : Int32} : x_run 908 16 ls [.int x] h = if narrow .int (.int x) = .int x then some (.inl (some (.int x)), h) else none := xe_ireturn ec908 dL_pinOf_16 rfl
theorem e908_17 {ls st : List Value} {h : x_H} : x_run 908 17 ls st h = x_run 908 18 ls (.int (q_i 0) :: st) h := xe_iconst ec908 dL_pinOf_17
theorem e908_18 {ls : List Value} {h : x_H} {x : Int32} : x_run 908 18 ls [.int x] h = if narrow .int (.int x) = .int x then some (.inl (some (.int x)), h) else none := xe_ireturn ec908 dL_pinOf_18 rfl
theorem ec909 : x_code 909 = cL_at := rfl
theorem e909_0 {ls st : List Value} {h : x_H} : x_run 909 0 ls st h = q_gr ls 4 (fun v => x_run 909 2 ls (.ref v :: st) h) := xe_aload ec909 dL_at_0
theorem e909_2 {ls st : List Value} {h : x_H} : x_run 909 2 ls st h = x_run 909 3 ls (.int (q_i 0) :: st) h := xe_iconst ec909 dL_at_2
theorem e909_3 {ls st : List Value} {h : x_H} : x_run 909 3 ls st h = q_gr ls 0 (fun v => x_run 909 4 ls (.ref v :: st) h) := xe_aload_n ec909 dL_at_3
theorem e909_4 {ls st : List Value} {h : x_H} : x_run 909 4 ls st h = q_gi ls 1 (fun v => x_run 909 5 ls (.int v :: st) h) := xe_iload_n ec909 dL_at_4
theorem e909_5 {ls st : List Value} {h : x_H} : x_run 909 5 ls st h = q_gi ls 2 (fun v => x_run 909 6 ls (.int v :: st) h) := xe_iload_n ec909 dL_at_5
theorem e909_6 {ls st : List Value} {h : x_H} : x_run 909 6 ls st h = q_gi ls 3 (fun v => x_run 909 7 ls (.int v :: st) h) := xe_iload_n ec909 dL_at_6
theorem e909_7 {ls st : List Value} {h : x_H} {b : Nat} {a1 a2 a3 : Value}: x_run 909 7 ls (a3 :: a2 :: a1 :: .ref b :: st) h = if q_rcv h b 9 = true then (if x_wt st ≤ 8 ∧ x_wt [.ref b, a1, a2, a3] = 4 then q_ct (x_m 710 [.ref b, a1, a2, a3] h) (q_ho 909 7) (fun v h' => x_run 909 10 ls (v.toList ++ st) h') else none) else none := xe_virtT (r := [a1, a2, a3]) ec909 dL_at_7 ek9_46 rfl (by decide +kernel) (by decide +kernel)
theorem e909_10 {ls st : List Value} {h : x_H} {x : Int32}: x_run 909 10 ls (.int x :: st) h = x_run 909 11 ls (.long x.toInt64 :: st) h := xe_i2l ec909 dL_at_10
theorem e909_11 {ls st : List Value} {h : x_H} {v : Value} {x : Int32} {a : Nat}: x_run 909 11 ls (v :: .int x :: .ref a :: st) h = q_wv h a 100 x_isL x v (fun h' => x_run 909 12 ls st h') := xe_lastore ec909 dL_at_11
theorem e909_12 {ls st : List Value} {h : x_H} : x_run 909 12 ls st h = x_run 909 19 ls st h := xe_goto ec909 dL_at_12 rfl
theorem e909_15 {ls st : List Value} {h : x_H} {a : Nat}: x_run 909 15 ls (.ref a :: st) h = q_ls ls 5 (.ref a) (fun ls' => x_run 909 17 ls' st h) := xe_astore ec909 dL_at_15
theorem e909_17 {ls st : List Value} {h : x_H} : x_run 909 17 ls st h = x_run 909 18 ls (.int (q_i 1) :: st) h := xe_iconst ec909 dL_at_17
theorem e909_18 {ls : List Value} {h : x_H} {x : Int32} : x_run 909 18 ls [.int x] h = if narrow .int (.int x) = .int x then some (.inl (some (.int x)), h) else none := xe_ireturn ec909 dL_at_18 rfl
theorem e909_19 {ls st : List Value} {h : x_H} : x_run 909 19 ls st h = x_run 909 20 ls (.int (q_i 0) :: st) h := xe_iconst ec909 dL_at_19
theorem e909_20 {ls : List Value} {h : x_H} {x : Int32} : x_run 909 20 ls [.int x] h = if narrow .int (.int x) = .int x then some (.inl (some (.int x)), h) else none := xe_ireturn ec909 dL_at_20 rfl
theorem ec910 : x_code 910 = cL_isHole := rfl
theorem e910_0 {ls st : List Value} {h : x_H} : x_run 910 0 ls st h = q_gr ls 3 (fun v => x_run 910 1 ls (.ref v :: st) h) := xe_aload_n ec910 dL_isHole_0
theorem e910_1 {ls st : List Value} {h : x_H} : x_run 910 1 ls st h = x_run 910 2 ls (.int (q_i 0) :: st) h := xe_iconst ec910 dL_isHole_1
theorem e910_2 {ls st : List Value} {h : x_H} : x_run 910 2 ls st h = q_gr ls 0 (fun v => x_run 910 3 ls (.ref v :: st) h) := xe_aload_n ec910 dL_isHole_2
theorem e910_3 {ls st : List Value} {h : x_H} : x_run 910 3 ls st h = q_gi ls 1 (fun v => x_run 910 4 ls (.int v :: st) h) := xe_iload_n ec910 dL_isHole_3
theorem e910_4 {ls st : List Value} {h : x_H} : x_run 910 4 ls st h = q_gi ls 2 (fun v => x_run 910 5 ls (.int v :: st) h) := xe_iload_n ec910 dL_isHole_4
theorem e910_5 {ls st : List Value} {h : x_H} {b : Nat} {a1 a2 : Value}: x_run 910 5 ls (a2 :: a1 :: .ref b :: st) h = if q_rcv h b 9 = true then (if x_wt st ≤ 8 ∧ x_wt [.ref b, a1, a2] = 3 then q_ct (x_m 711 [.ref b, a1, a2] h) (q_ho 910 5) (fun v h' => x_run 910 8 ls (v.toList ++ st) h') else none) else none := xe_virtT (r := [a1, a2]) ec910 dL_isHole_5 ek9_49 rfl (by decide +kernel) (by decide +kernel)
theorem e910_8 {ls st : List Value} {h : x_H} {x : Int32}: x_run 910 8 ls (.int x :: st) h = if x = 0 then x_run 910 15 ls st h else x_run 910 11 ls st h := xe_if_eq ec910 dL_isHole_8 rfl
theorem e910_11 {ls st : List Value} {h : x_H} : x_run 910 11 ls st h = x_run 910 12 ls (.long 1 :: st) h := xe_lconst ec910 dL_isHole_11
theorem e910_12 {ls st : List Value} {h : x_H} : x_run 910 12 ls st h = x_run 910 16 ls st h := xe_goto ec910 dL_isHole_12 rfl
theorem e910_15 {ls st : List Value} {h : x_H} : x_run 910 15 ls st h = x_run 910 16 ls (.long 0 :: st) h := xe_lconst ec910 dL_isHole_15
theorem e910_16 {ls st : List Value} {h : x_H} {v : Value} {x : Int32} {a : Nat}: x_run 910 16 ls (v :: .int x :: .ref a :: st) h = q_wv h a 100 x_isL x v (fun h' => x_run 910 17 ls st h') := xe_lastore ec910 dL_isHole_16
theorem e910_17 {ls st : List Value} {h : x_H} : x_run 910 17 ls st h = x_run 910 24 ls st h := xe_goto ec910 dL_isHole_17 rfl
theorem e910_20 {ls st : List Value} {h : x_H} {a : Nat}: x_run 910 20 ls (.ref a :: st) h = q_ls ls 4 (.ref a) (fun ls' => x_run 910 22 ls' st h) := xe_astore ec910 dL_isHole_20
theorem e910_22 {ls st : List Value} {h : x_H} : x_run 910 22 ls st h = x_run 910 23 ls (.int (q_i 1) :: st) h := xe_iconst ec910 dL_isHole_22
theorem e910_23 {ls : List Value} {h : x_H} {x : Int32} : x_run 910 23 ls [.int x] h = if narrow .int (.int x) = .int x then some (.inl (some (.int x)), h) else none := xe_ireturn ec910 dL_isHole_23 rfl
theorem e910_24 {ls st : List Value} {h : x_H} : x_run 910 24 ls st h = x_run 910 25 ls (.int (q_i 0) :: st) h := xe_iconst ec910 dL_isHole_24
theorem e910_25 {ls : List Value} {h : x_H} {x : Int32} : x_run 910 25 ls [.int x] h = if narrow .int (.int x) = .int x then some (.inl (some (.int x)), h) else none := xe_ireturn ec910 dL_isHole_25 rfl
theorem ec911 : x_code 911 = cL_price := rfl
theorem e911_0 {ls st : List Value} {h : x_H} : x_run 911 0 ls st h = q_gr ls 5 (fun v => x_run 911 2 ls (.ref v :: st) h) := xe_aload ec911 dL_price_0
theorem e911_2 {ls st : List Value} {h : x_H} : x_run 911 2 ls st h = x_run 911 3 ls (.int (q_i 0) :: st) h := xe_iconst ec911 dL_price_2
theorem e911_3 {ls st : List Value} {h : x_H} : x_run 911 3 ls st h = q_gr ls 0 (fun v => x_run 911 4 ls (.ref v :: st) h) := xe_aload_n ec911 dL_price_3
theorem e911_4 {ls st : List Value} {h : x_H} : x_run 911 4 ls st h = q_gi ls 1 (fun v => x_run 911 5 ls (.int v :: st) h) := xe_iload_n ec911 dL_price_4
theorem e911_5 {ls st : List Value} {h : x_H} : x_run 911 5 ls st h = q_gi ls 2 (fun v => x_run 911 6 ls (.int v :: st) h) := xe_iload_n ec911 dL_price_5
theorem e911_6 {ls st : List Value} {h : x_H} : x_run 911 6 ls st h = q_gi ls 3 (fun v => x_run 911 7 ls (.int v :: st) h) := xe_iload_n ec911 dL_price_6
theorem e911_7 {ls st : List Value} {h : x_H} : x_run 911 7 ls st h = q_gi ls 4 (fun v => x_run 911 9 ls (.int v :: st) h) := xe_iload ec911 dL_price_7
theorem e911_9 {ls st : List Value} {h : x_H} {b : Nat} {a1 a2 a3 a4 : Value}: x_run 911 9 ls (a4 :: a3 :: a2 :: a1 :: .ref b :: st) h = if q_rcv h b 9 = true then (if x_wt st ≤ 8 ∧ x_wt [.ref b, a1, a2, a3, a4] = 5 then q_ct (x_m 712 [.ref b, a1, a2, a3, a4] h) (q_ho 911 9) (fun v h' => x_run 911 12 ls (v.toList ++ st) h') else none) else none := xe_virtT (r := [a1, a2, a3, a4]) ec911 dL_price_9 ek9_53 rfl (by decide +kernel) (by decide +kernel)
theorem e911_12 {ls st : List Value} {h : x_H} {x : Int32}: x_run 911 12 ls (.int x :: st) h = x_run 911 13 ls (.long x.toInt64 :: st) h := xe_i2l ec911 dL_price_12
theorem e911_13 {ls st : List Value} {h : x_H} {v : Value} {x : Int32} {a : Nat}: x_run 911 13 ls (v :: .int x :: .ref a :: st) h = q_wv h a 100 x_isL x v (fun h' => x_run 911 14 ls st h') := xe_lastore ec911 dL_price_13
theorem e911_14 {ls st : List Value} {h : x_H} : x_run 911 14 ls st h = x_run 911 21 ls st h := xe_goto ec911 dL_price_14 rfl
theorem e911_17 {ls st : List Value} {h : x_H} {a : Nat}: x_run 911 17 ls (.ref a :: st) h = q_ls ls 6 (.ref a) (fun ls' => x_run 911 19 ls' st h) := xe_astore ec911 dL_price_17
theorem e911_19 {ls st : List Value} {h : x_H} : x_run 911 19 ls st h = x_run 911 20 ls (.int (q_i 1) :: st) h := xe_iconst ec911 dL_price_19
theorem e911_20 {ls : List Value} {h : x_H} {x : Int32} : x_run 911 20 ls [.int x] h = if narrow .int (.int x) = .int x then some (.inl (some (.int x)), h) else none := xe_ireturn ec911 dL_price_20 rfl
theorem e911_21 {ls st : List Value} {h : x_H} : x_run 911 21 ls st h = x_run 911 22 ls (.int (q_i 0) :: st) h := xe_iconst ec911 dL_price_21
theorem e911_22 {ls : List Value} {h : x_H} {x : Int32} : x_run 911 22 ls [.int x] h = if narrow .int (.int x) = .int x then some (.inl (some (.int x)), h) else none := xe_ireturn ec911 dL_price_22 rfl
theorem ec912 : x_code 912 = cL_wouldCost := rfl
theorem e912_0 {ls st : List Value} {h : x_H} : x_run 912 0 ls st h = q_gr ls 2 (fun v => x_run 912 1 ls (.ref v :: st) h) := xe_aload_n ec912 dL_wouldCost_0
theorem e912_1 {ls st : List Value} {h : x_H} : x_run 912 1 ls st h = x_run 912 2 ls (.int (q_i 0) :: st) h := xe_iconst ec912 dL_wouldCost_1
theorem e912_2 {ls st : List Value} {h : x_H} : x_run 912 2 ls st h = q_gr ls 0 (fun v => x_run 912 3 ls (.ref v :: st) h) := xe_aload_n ec912 dL_wouldCost_2
theorem e912_3 {ls st : List Value} {h : x_H} : x_run 912 3 ls st h = q_gi ls 1 (fun v => x_run 912 4 ls (.int v :: st) h) := xe_iload_n ec912 dL_wouldCost_3
theorem e912_4 {ls st : List Value} {h : x_H} {b : Nat} {a1 : Value}: x_run 912 4 ls (a1 :: .ref b :: st) h = if q_rcv h b 9 = true then (if x_wt st ≤ 8 ∧ x_wt [.ref b, a1] = 2 then q_ct (x_m 713 [.ref b, a1] h) (q_ho 912 4) (fun v h' => x_run 912 7 ls (v.toList ++ st) h') else none) else none := xe_virtT (r := [a1]) ec912 dL_wouldCost_4 ek9_57 rfl (by decide +kernel) (by decide +kernel)
theorem e912_7 {ls st : List Value} {h : x_H} {x : Int32}: x_run 912 7 ls (.int x :: st) h = x_run 912 8 ls (.long x.toInt64 :: st) h := xe_i2l ec912 dL_wouldCost_7
theorem e912_8 {ls st : List Value} {h : x_H} {v : Value} {x : Int32} {a : Nat}: x_run 912 8 ls (v :: .int x :: .ref a :: st) h = q_wv h a 100 x_isL x v (fun h' => x_run 912 9 ls st h') := xe_lastore ec912 dL_wouldCost_8
theorem e912_9 {ls st : List Value} {h : x_H} : x_run 912 9 ls st h = x_run 912 18 ls st h := xe_goto ec912 dL_wouldCost_9 rfl
theorem e912_12 {ls st : List Value} {h : x_H} {a : Nat}: x_run 912 12 ls (.ref a :: st) h = q_ls ls 3 (.ref a) (fun ls' => x_run 912 13 ls' st h) := xe_astore_n ec912 dL_wouldCost_12
theorem e912_13 {ls st : List Value} {h : x_H} : x_run 912 13 ls st h = x_run 912 14 ls (.int (q_i 1) :: st) h := xe_iconst ec912 dL_wouldCost_13
theorem e912_14 {ls : List Value} {h : x_H} {x : Int32} : x_run 912 14 ls [.int x] h = if narrow .int (.int x) = .int x then some (.inl (some (.int x)), h) else none := xe_ireturn ec912 dL_wouldCost_14 rfl
theorem e912_15 {ls st : List Value} {h : x_H} {a : Nat}: x_run 912 15 ls (.ref a :: st) h = q_ls ls 3 (.ref a) (fun ls' => x_run 912 16 ls' st h) := xe_astore_n ec912 dL_wouldCost_15
theorem e912_16 {ls st : List Value} {h : x_H} : x_run 912 16 ls st h = x_run 912 17 ls (.int (q_i 2) :: st) h := xe_iconst ec912 dL_wouldCost_16
theorem e912_17 {ls : List Value} {h : x_H} {x : Int32} : x_run 912 17 ls [.int x] h = if narrow .int (.int x) = .int x then some (.inl (some (.int x)), h) else none := xe_ireturn ec912 dL_wouldCost_17 rfl
theorem e912_18 {ls st : List Value} {h : x_H} : x_run 912 18 ls st h = x_run 912 19 ls (.int (q_i 0) :: st) h := xe_iconst ec912 dL_wouldCost_18
theorem e912_19 {ls : List Value} {h : x_H} {x : Int32} : x_run 912 19 ls [.int x] h = if narrow .int (.int x) = .int x then some (.inl (some (.int x)), h) else none := xe_ireturn ec912 dL_wouldCost_19 rfl
theorem ec913 : x_code 913 = cL_wouldRip := rfl
theorem e913_0 {ls st : List Value} {h : x_H} : x_run 913 0 ls st h = q_gr ls 2 (fun v => x_run 913 1 ls (.ref v :: st) h) := xe_aload_n ec913 dL_wouldRip_0
theorem e913_1 {ls st : List Value} {h : x_H} : x_run 913 1 ls st h = x_run 913 2 ls (.int (q_i 0) :: st) h := xe_iconst ec913 dL_wouldRip_1
theorem e913_2 {ls st : List Value} {h : x_H} : x_run 913 2 ls st h = q_gr ls 0 (fun v => x_run 913 3 ls (.ref v :: st) h) := xe_aload_n ec913 dL_wouldRip_2
theorem e913_3 {ls st : List Value} {h : x_H} : x_run 913 3 ls st h = q_gi ls 1 (fun v => x_run 913 4 ls (.int v :: st) h) := xe_iload_n ec913 dL_wouldRip_3
theorem e913_4 {ls st : List Value} {h : x_H} {b : Nat} {a1 : Value}: x_run 913 4 ls (a1 :: .ref b :: st) h = if q_rcv h b 9 = true then (if x_wt st ≤ 8 ∧ x_wt [.ref b, a1] = 2 then q_ct (x_m 714 [.ref b, a1] h) (q_ho 913 4) (fun v h' => x_run 913 7 ls (v.toList ++ st) h') else none) else none := xe_virtT (r := [a1]) ec913 dL_wouldRip_4 ek9_62 rfl (by decide +kernel) (by decide +kernel)
theorem e913_7 {ls st : List Value} {h : x_H} {x : Int32}: x_run 913 7 ls (.int x :: st) h = x_run 913 8 ls (.long x.toInt64 :: st) h := xe_i2l ec913 dL_wouldRip_7
theorem e913_8 {ls st : List Value} {h : x_H} {v : Value} {x : Int32} {a : Nat}: x_run 913 8 ls (v :: .int x :: .ref a :: st) h = q_wv h a 100 x_isL x v (fun h' => x_run 913 9 ls st h') := xe_lastore ec913 dL_wouldRip_8
theorem e913_9 {ls st : List Value} {h : x_H} : x_run 913 9 ls st h = x_run 913 18 ls st h := xe_goto ec913 dL_wouldRip_9 rfl
theorem e913_12 {ls st : List Value} {h : x_H} {a : Nat}: x_run 913 12 ls (.ref a :: st) h = q_ls ls 3 (.ref a) (fun ls' => x_run 913 13 ls' st h) := xe_astore_n ec913 dL_wouldRip_12
theorem e913_13 {ls st : List Value} {h : x_H} : x_run 913 13 ls st h = x_run 913 14 ls (.int (q_i 1) :: st) h := xe_iconst ec913 dL_wouldRip_13
theorem e913_14 {ls : List Value} {h : x_H} {x : Int32} : x_run 913 14 ls [.int x] h = if narrow .int (.int x) = .int x then some (.inl (some (.int x)), h) else none := xe_ireturn ec913 dL_wouldRip_14 rfl
theorem e913_15 {ls st : List Value} {h : x_H} {a : Nat}: x_run 913 15 ls (.ref a :: st) h = q_ls ls 3 (.ref a) (fun ls' => x_run 913 16 ls' st h) := xe_astore_n ec913 dL_wouldRip_15
theorem e913_16 {ls st : List Value} {h : x_H} : x_run 913 16 ls st h = x_run 913 17 ls (.int (q_i 2) :: st) h := xe_iconst ec913 dL_wouldRip_16
theorem e913_17 {ls : List Value} {h : x_H} {x : Int32} : x_run 913 17 ls [.int x] h = if narrow .int (.int x) = .int x then some (.inl (some (.int x)), h) else none := xe_ireturn ec913 dL_wouldRip_17 rfl
theorem e913_18 {ls st : List Value} {h : x_H} : x_run 913 18 ls st h = x_run 913 19 ls (.int (q_i 0) :: st) h := xe_iconst ec913 dL_wouldRip_18
theorem e913_19 {ls : List Value} {h : x_H} {x : Int32} : x_run 913 19 ls [.int x] h = if narrow .int (.int x) = .int x then some (.inl (some (.int x)), h) else none := xe_ireturn ec913 dL_wouldRip_19 rfl
theorem ec914 : x_code 914 = cL_reach := rfl
theorem e914_0 {ls st : List Value} {h : x_H} : x_run 914 0 ls st h = q_gr ls 3 (fun v => x_run 914 1 ls (.ref v :: st) h) := xe_aload_n ec914 dL_reach_0
theorem e914_1 {ls st : List Value} {h : x_H} : x_run 914 1 ls st h = x_run 914 2 ls (.int (q_i 0) :: st) h := xe_iconst ec914 dL_reach_1
theorem e914_2 {ls st : List Value} {h : x_H} : x_run 914 2 ls st h = q_gr ls 0 (fun v => x_run 914 3 ls (.ref v :: st) h) := xe_aload_n ec914 dL_reach_2
theorem e914_3 {ls st : List Value} {h : x_H} : x_run 914 3 ls st h = q_gi ls 1 (fun v => x_run 914 4 ls (.int v :: st) h) := xe_iload_n ec914 dL_reach_3
theorem e914_4 {ls st : List Value} {h : x_H} : x_run 914 4 ls st h = q_gi ls 2 (fun v => x_run 914 5 ls (.int v :: st) h) := xe_iload_n ec914 dL_reach_4
theorem e914_5 {ls st : List Value} {h : x_H} {b : Nat} {a1 a2 : Value}: x_run 914 5 ls (a2 :: a1 :: .ref b :: st) h = if q_rcv h b 9 = true then (if x_wt st ≤ 8 ∧ x_wt [.ref b, a1, a2] = 3 then q_ct (x_m 715 [.ref b, a1, a2] h) (q_ho 914 5) (fun v h' => x_run 914 8 ls (v.toList ++ st) h') else none) else none := xe_virtT (r := [a1, a2]) ec914 dL_reach_5 ek9_65 rfl (by decide +kernel) (by decide +kernel)
theorem e914_8 {ls st : List Value} {h : x_H} {x : Int32}: x_run 914 8 ls (.int x :: st) h = x_run 914 9 ls (.long x.toInt64 :: st) h := xe_i2l ec914 dL_reach_8
theorem e914_9 {ls st : List Value} {h : x_H} {v : Value} {x : Int32} {a : Nat}: x_run 914 9 ls (v :: .int x :: .ref a :: st) h = q_wv h a 100 x_isL x v (fun h' => x_run 914 10 ls st h') := xe_lastore ec914 dL_reach_9
theorem e914_10 {ls st : List Value} {h : x_H} : x_run 914 10 ls st h = x_run 914 17 ls st h := xe_goto ec914 dL_reach_10 rfl
theorem e914_13 {ls st : List Value} {h : x_H} {a : Nat}: x_run 914 13 ls (.ref a :: st) h = q_ls ls 4 (.ref a) (fun ls' => x_run 914 15 ls' st h) := xe_astore ec914 dL_reach_13
theorem e914_15 {ls st : List Value} {h : x_H} : x_run 914 15 ls st h = x_run 914 16 ls (.int (q_i 1) :: st) h := xe_iconst ec914 dL_reach_15
theorem e914_16 {ls : List Value} {h : x_H} {x : Int32} : x_run 914 16 ls [.int x] h = if narrow .int (.int x) = .int x then some (.inl (some (.int x)), h) else none := xe_ireturn ec914 dL_reach_16 rfl
theorem e914_17 {ls st : List Value} {h : x_H} : x_run 914 17 ls st h = x_run 914 18 ls (.int (q_i 0) :: st) h := xe_iconst ec914 dL_reach_17
theorem e914_18 {ls : List Value} {h : x_H} {x : Int32} : x_run 914 18 ls [.int x] h = if narrow .int (.int x) = .int x then some (.inl (some (.int x)), h) else none := xe_ireturn ec914 dL_reach_18 rfl
theorem ec915 : x_code 915 = cL_cellsOf := rfl
theorem e915_0 {ls st : List Value} {h : x_H} : x_run 915 0 ls st h = q_gr ls 2 (fun v => x_run 915 1 ls (.ref v :: st) h) := xe_aload_n ec915 dL_cellsOf_0
theorem e915_1 {ls st : List Value} {h : x_H} : x_run 915 1 ls st h = x_run 915 2 ls (.int (q_i 0) :: st) h := xe_iconst ec915 dL_cellsOf_1
theorem e915_2 {ls st : List Value} {h : x_H} : x_run 915 2 ls st h = q_gr ls 0 (fun v => x_run 915 3 ls (.ref v :: st) h) := xe_aload_n ec915 dL_cellsOf_2
theorem e915_3 {ls st : List Value} {h : x_H} : x_run 915 3 ls st h = q_gi ls 1 (fun v => x_run 915 4 ls (.int v :: st) h) := xe_iload_n ec915 dL_cellsOf_3
theorem e915_4 {ls st : List Value} {h : x_H} {b : Nat} {a1 : Value}: x_run 915 4 ls (a1 :: .ref b :: st) h = if q_rcv h b 9 = true then (if x_wt st ≤ 8 ∧ x_wt [.ref b, a1] = 2 then q_ct (x_m 716 [.ref b, a1] h) (q_ho 915 4) (fun v h' => x_run 915 7 ls (v.toList ++ st) h') else none) else none := xe_virtT (r := [a1]) ec915 dL_cellsOf_4 ek9_68 rfl (by decide +kernel) (by decide +kernel)
theorem e915_7 {ls st : List Value} {h : x_H} {x : Int32}: x_run 915 7 ls (.int x :: st) h = x_run 915 8 ls (.long x.toInt64 :: st) h := xe_i2l ec915 dL_cellsOf_7
theorem e915_8 {ls st : List Value} {h : x_H} {v : Value} {x : Int32} {a : Nat}: x_run 915 8 ls (v :: .int x :: .ref a :: st) h = q_wv h a 100 x_isL x v (fun h' => x_run 915 9 ls st h') := xe_lastore ec915 dL_cellsOf_8
theorem e915_9 {ls st : List Value} {h : x_H} : x_run 915 9 ls st h = x_run 915 15 ls st h := xe_goto ec915 dL_cellsOf_9 rfl
theorem e915_12 {ls st : List Value} {h : x_H} {a : Nat}: x_run 915 12 ls (.ref a :: st) h = q_ls ls 3 (.ref a) (fun ls' => x_run 915 13 ls' st h) := xe_astore_n ec915 dL_cellsOf_12
theorem e915_13 {ls st : List Value} {h : x_H} : x_run 915 13 ls st h = x_run 915 14 ls (.int (q_i 1) :: st) h := xe_iconst ec915 dL_cellsOf_13
theorem e915_14 {ls : List Value} {h : x_H} {x : Int32} : x_run 915 14 ls [.int x] h = if narrow .int (.int x) = .int x then some (.inl (some (.int x)), h) else none := xe_ireturn ec915 dL_cellsOf_14 rfl
theorem e915_15 {ls st : List Value} {h : x_H} : x_run 915 15 ls st h = x_run 915 16 ls (.int (q_i 0) :: st) h := xe_iconst ec915 dL_cellsOf_15
theorem e915_16 {ls : List Value} {h : x_H} {x : Int32} : x_run 915 16 ls [.int x] h = if narrow .int (.int x) = .int x then some (.inl (some (.int x)), h) else none := xe_ireturn ec915 dL_cellsOf_16 rfl
theorem ec916 : x_code 916 = cL_cellsAgain := rfl
theorem e916_0 {ls st : List Value} {h : x_H} : x_run 916 0 ls st h = q_gr ls 2 (fun v => x_run 916 1 ls (.ref v :: st) h) := xe_aload_n ec916 dL_cellsAgain_0
theorem e916_1 {ls st : List Value} {h : x_H} : x_run 916 1 ls st h = x_run 916 2 ls (.int (q_i 0) :: st) h := xe_iconst ec916 dL_cellsAgain_1
theorem e916_2 {ls st : List Value} {h : x_H} : x_run 916 2 ls st h = q_gr ls 0 (fun v => x_run 916 3 ls (.ref v :: st) h) := xe_aload_n ec916 dL_cellsAgain_2
theorem e916_3 {ls st : List Value} {h : x_H} : x_run 916 3 ls st h = q_gi ls 1 (fun v => x_run 916 4 ls (.int v :: st) h) := xe_iload_n ec916 dL_cellsAgain_3
theorem e916_4 {ls st : List Value} {h : x_H} {b : Nat} {a1 : Value}: x_run 916 4 ls (a1 :: .ref b :: st) h = if q_rcv h b 9 = true then (if x_wt st ≤ 8 ∧ x_wt [.ref b, a1] = 2 then q_ct (x_m 717 [.ref b, a1] h) (q_ho 916 4) (fun v h' => x_run 916 7 ls (v.toList ++ st) h') else none) else none := xe_virtT (r := [a1]) ec916 dL_cellsAgain_4 ek9_71 rfl (by decide +kernel) (by decide +kernel)
theorem e916_7 {ls st : List Value} {h : x_H} {x : Int32}: x_run 916 7 ls (.int x :: st) h = x_run 916 8 ls (.long x.toInt64 :: st) h := xe_i2l ec916 dL_cellsAgain_7
theorem e916_8 {ls st : List Value} {h : x_H} {v : Value} {x : Int32} {a : Nat}: x_run 916 8 ls (v :: .int x :: .ref a :: st) h = q_wv h a 100 x_isL x v (fun h' => x_run 916 9 ls st h') := xe_lastore ec916 dL_cellsAgain_8
theorem e916_9 {ls st : List Value} {h : x_H} : x_run 916 9 ls st h = x_run 916 15 ls st h := xe_goto ec916 dL_cellsAgain_9 rfl
theorem e916_12 {ls st : List Value} {h : x_H} {a : Nat}: x_run 916 12 ls (.ref a :: st) h = q_ls ls 3 (.ref a) (fun ls' => x_run 916 13 ls' st h) := xe_astore_n ec916 dL_cellsAgain_12
theorem e916_13 {ls st : List Value} {h : x_H} : x_run 916 13 ls st h = x_run 916 14 ls (.int (q_i 1) :: st) h := xe_iconst ec916 dL_cellsAgain_13
theorem e916_14 {ls : List Value} {h : x_H} {x : Int32} : x_run 916 14 ls [.int x] h = if narrow .int (.int x) = .int x then some (.inl (some (.int x)), h) else none := xe_ireturn ec916 dL_cellsAgain_14 rfl
theorem e916_15 {ls st : List Value} {h : x_H} : x_run 916 15 ls st h = x_run 916 16 ls (.int (q_i 0) :: st) h := xe_iconst ec916 dL_cellsAgain_15
theorem e916_16 {ls : List Value} {h : x_H} {x : Int32} : x_run 916 16 ls [.int x] h = if narrow .int (.int x) = .int x then some (.inl (some (.int x)), h) else none := xe_ireturn ec916 dL_cellsAgain_16 rfl
theorem ec917 : x_code 917 = cL_touches := rfl
theorem e917_0 {ls st : List Value} {h : x_H} : x_run 917 0 ls st h = q_gr ls 2 (fun v => x_run 917 1 ls (.ref v :: st) h) := xe_aload_n ec917 dL_touches_0
theorem e917_1 {ls st : List Value} {h : x_H} : x_run 917 1 ls st h = x_run 917 2 ls (.int (q_i 0) :: st) h := xe_iconst ec917 dL_touches_1
theorem e917_2 {ls st : List Value} {h : x_H} : x_run 917 2 ls st h = q_gr ls 0 (fun v => x_run 917 3 ls (.ref v :: st) h) := xe_aload_n ec917 dL_touches_2
theorem e917_3 {ls st : List Value} {h : x_H} : x_run 917 3 ls st h = q_gi ls 1 (fun v => x_run 917 4 ls (.int v :: st) h) := xe_iload_n ec917 dL_touches_3
theorem e917_4 {ls st : List Value} {h : x_H} {b : Nat} {a1 : Value}: x_run 917 4 ls (a1 :: .ref b :: st) h = if q_rcv h b 9 = true then (if x_wt st ≤ 8 ∧ x_wt [.ref b, a1] = 2 then q_ct (x_m 720 [.ref b, a1] h) (q_ho 917 4) (fun v h' => x_run 917 7 ls (v.toList ++ st) h') else none) else none := xe_virtT (r := [a1]) ec917 dL_touches_4 ek9_74 rfl (by decide +kernel) (by decide +kernel)
theorem e917_7 {ls st : List Value} {h : x_H} {x : Int32}: x_run 917 7 ls (.int x :: st) h = x_run 917 8 ls (.long x.toInt64 :: st) h := xe_i2l ec917 dL_touches_7
theorem e917_8 {ls st : List Value} {h : x_H} {v : Value} {x : Int32} {a : Nat}: x_run 917 8 ls (v :: .int x :: .ref a :: st) h = q_wv h a 100 x_isL x v (fun h' => x_run 917 9 ls st h') := xe_lastore ec917 dL_touches_8
theorem e917_9 {ls st : List Value} {h : x_H} : x_run 917 9 ls st h = x_run 917 15 ls st h := xe_goto ec917 dL_touches_9 rfl
theorem e917_12 {ls st : List Value} {h : x_H} {a : Nat}: x_run 917 12 ls (.ref a :: st) h = q_ls ls 3 (.ref a) (fun ls' => x_run 917 13 ls' st h) := xe_astore_n ec917 dL_touches_12
theorem e917_13 {ls st : List Value} {h : x_H} : x_run 917 13 ls st h = x_run 917 14 ls (.int (q_i 1) :: st) h := xe_iconst ec917 dL_touches_13
theorem e917_14 {ls : List Value} {h : x_H} {x : Int32} : x_run 917 14 ls [.int x] h = if narrow .int (.int x) = .int x then some (.inl (some (.int x)), h) else none := xe_ireturn ec917 dL_touches_14 rfl
theorem e917_15 {ls st : List Value} {h : x_H} : x_run 917 15 ls st h = x_run 917 16 ls (.int (q_i 0) :: st) h := xe_iconst ec917 dL_touches_15
theorem e917_16 {ls : List Value} {h : x_H} {x : Int32} : x_run 917 16 ls [.int x] h = if narrow .int (.int x) = .int x then some (.inl (some (.int x)), h) else none := xe_ireturn ec917 dL_touches_16 rfl
theorem ec918 : x_code 918 = cL_ranked := rfl
theorem e918_0 {ls st : List Value} {h : x_H} : x_run 918 0 ls st h = q_gr ls 2 (fun v => x_run 918 1 ls (.ref v :: st) h) := xe_aload_n ec918 dL_ranked_0
theorem e918_1 {ls st : List Value} {h : x_H} : x_run 918 1 ls st h = x_run 918 2 ls (.int (q_i 0) :: st) h := xe_iconst ec918 dL_ranked_1
theorem e918_2 {ls st : List Value} {h : x_H} : x_run 918 2 ls st h = q_gr ls 0 (fun v => x_run 918 3 ls (.ref v :: st) h) := xe_aload_n ec918 dL_ranked_2
theorem e918_3 {ls st : List Value} {h : x_H} : x_run 918 3 ls st h = q_gi ls 1 (fun v => x_run 918 4 ls (.int v :: st) h) := xe_iload_n ec918 dL_ranked_3
theorem e918_4 {ls st : List Value} {h : x_H} {b : Nat} {a1 : Value}: x_run 918 4 ls (a1 :: .ref b :: st) h = if q_rcv h b 9 = true then (if x_wt st ≤ 8 ∧ x_wt [.ref b, a1] = 2 then q_ct (x_m 721 [.ref b, a1] h) (q_ho 918 4) (fun v h' => x_run 918 7 ls (v.toList ++ st) h') else none) else none := xe_virtT (r := [a1]) ec918 dL_ranked_4 ek9_77 rfl (by decide +kernel) (by decide +kernel)
theorem e918_7 {ls st : List Value} {h : x_H} {x : Int32}: x_run 918 7 ls (.int x :: st) h = x_run 918 8 ls (.long x.toInt64 :: st) h := xe_i2l ec918 dL_ranked_7
theorem e918_8 {ls st : List Value} {h : x_H} {v : Value} {x : Int32} {a : Nat}: x_run 918 8 ls (v :: .int x :: .ref a :: st) h = q_wv h a 100 x_isL x v (fun h' => x_run 918 9 ls st h') := xe_lastore ec918 dL_ranked_8
theorem e918_9 {ls st : List Value} {h : x_H} : x_run 918 9 ls st h = x_run 918 15 ls st h := xe_goto ec918 dL_ranked_9 rfl
theorem e918_12 {ls st : List Value} {h : x_H} {a : Nat}: x_run 918 12 ls (.ref a :: st) h = q_ls ls 3 (.ref a) (fun ls' => x_run 918 13 ls' st h) := xe_astore_n ec918 dL_ranked_12
theorem e918_13 {ls st : List Value} {h : x_H} : x_run 918 13 ls st h = x_run 918 14 ls (.int (q_i 1) :: st) h := xe_iconst ec918 dL_ranked_13
theorem e918_14 {ls : List Value} {h : x_H} {x : Int32} : x_run 918 14 ls [.int x] h = if narrow .int (.int x) = .int x then some (.inl (some (.int x)), h) else none := xe_ireturn ec918 dL_ranked_14 rfl
theorem e918_15 {ls st : List Value} {h : x_H} : x_run 918 15 ls st h = x_run 918 16 ls (.int (q_i 0) :: st) h := xe_iconst ec918 dL_ranked_15
theorem e918_16 {ls : List Value} {h : x_H} {x : Int32} : x_run 918 16 ls [.int x] h = if narrow .int (.int x) = .int x then some (.inl (some (.int x)), h) else none := xe_ireturn ec918 dL_ranked_16 rfl
theorem ec919 : x_code 919 = cL_append := rfl
theorem e919_0 {ls st : List Value} {h : x_H} : x_run 919 0 ls st h = q_gr ls 2 (fun v => x_run 919 1 ls (.ref v :: st) h) := xe_aload_n ec919 dL_append_0
theorem e919_1 {ls st : List Value} {h : x_H} : x_run 919 1 ls st h = x_run 919 2 ls (.int (q_i 0) :: st) h := xe_iconst ec919 dL_append_1
theorem e919_2 {ls st : List Value} {h : x_H} : x_run 919 2 ls st h = q_gr ls 0 (fun v => x_run 919 3 ls (.ref v :: st) h) := xe_aload_n ec919 dL_append_2
theorem e919_3 {ls st : List Value} {h : x_H} : x_run 919 3 ls st h = q_gi ls 1 (fun v => x_run 919 4 ls (.int v :: st) h) := xe_iload_n ec919 dL_append_3
theorem e919_4 {ls st : List Value} {h : x_H} {b : Nat} {a1 : Value}: x_run 919 4 ls (a1 :: .ref b :: st) h = if q_rcv h b 9 = true then (if x_wt st ≤ 8 ∧ x_wt [.ref b, a1] = 2 then q_ct (x_m 722 [.ref b, a1] h) (q_ho 919 4) (fun v h' => x_run 919 7 ls (v.toList ++ st) h') else none) else none := xe_virtT (r := [a1]) ec919 dL_append_4 ek9_80 rfl (by decide +kernel) (by decide +kernel)
theorem e919_7 {ls st : List Value} {h : x_H} {x : Int32}: x_run 919 7 ls (.int x :: st) h = x_run 919 8 ls (.long x.toInt64 :: st) h := xe_i2l ec919 dL_append_7
theorem e919_8 {ls st : List Value} {h : x_H} {v : Value} {x : Int32} {a : Nat}: x_run 919 8 ls (v :: .int x :: .ref a :: st) h = q_wv h a 100 x_isL x v (fun h' => x_run 919 9 ls st h') := xe_lastore ec919 dL_append_8
theorem e919_9 {ls st : List Value} {h : x_H} : x_run 919 9 ls st h = x_run 919 15 ls st h := xe_goto ec919 dL_append_9 rfl
theorem e919_12 {ls st : List Value} {h : x_H} {a : Nat}: x_run 919 12 ls (.ref a :: st) h = q_ls ls 3 (.ref a) (fun ls' => x_run 919 13 ls' st h) := xe_astore_n ec919 dL_append_12
theorem e919_13 {ls st : List Value} {h : x_H} : x_run 919 13 ls st h = x_run 919 14 ls (.int (q_i 1) :: st) h := xe_iconst ec919 dL_append_13
theorem e919_14 {ls : List Value} {h : x_H} {x : Int32} : x_run 919 14 ls [.int x] h = if narrow .int (.int x) = .int x then some (.inl (some (.int x)), h) else none := xe_ireturn ec919 dL_append_14 rfl
theorem e919_15 {ls st : List Value} {h : x_H} : x_run 919 15 ls st h = x_run 919 16 ls (.int (q_i 0) :: st) h := xe_iconst ec919 dL_append_15
theorem e919_16 {ls : List Value} {h : x_H} {x : Int32} : x_run 919 16 ls [.int x] h = if narrow .int (.int x) = .int x then some (.inl (some (.int x)), h) else none := xe_ireturn ec919 dL_append_16 rfl
theorem ec920 : x_code 920 = cL_commands := rfl
theorem e920_0 {ls st : List Value} {h : x_H} : x_run 920 0 ls st h = q_gr ls 1 (fun v => x_run 920 1 ls (.ref v :: st) h) := xe_aload_n ec920 dL_commands_0
theorem e920_1 {ls st : List Value} {h : x_H} : x_run 920 1 ls st h = x_run 920 2 ls (.int (q_i 0) :: st) h := xe_iconst ec920 dL_commands_1
theorem e920_2 {ls st : List Value} {h : x_H} : x_run 920 2 ls st h = q_gr ls 0 (fun v => x_run 920 3 ls (.ref v :: st) h) := xe_aload_n ec920 dL_commands_2
theorem e920_3 {ls st : List Value} {h : x_H} {b : Nat}: x_run 920 3 ls (.ref b :: st) h = if q_rcv h b 9 = true then (if x_wt st ≤ 8 ∧ x_wt [.ref b] = 1 then q_ct (x_m 723 [.ref b] h) (q_ho 920 3) (fun v h' => x_run 920 6 ls (v.toList ++ st) h') else none) else none := xe_virtT (r := []) ec920 dL_commands_3 ek9_86 rfl (by decide +kernel) (by decide +kernel)
theorem e920_6 {ls st : List Value} {h : x_H} {x : Int32}: x_run 920 6 ls (.int x :: st) h = x_run 920 7 ls (.long x.toInt64 :: st) h := xe_i2l ec920 dL_commands_6
theorem e920_7 {ls st : List Value} {h : x_H} {v : Value} {x : Int32} {a : Nat}: x_run 920 7 ls (v :: .int x :: .ref a :: st) h = q_wv h a 100 x_isL x v (fun h' => x_run 920 8 ls st h') := xe_lastore ec920 dL_commands_7
theorem e920_8 {ls st : List Value} {h : x_H} : x_run 920 8 ls st h = x_run 920 17 ls st h := xe_goto ec920 dL_commands_8 rfl
theorem e920_11 {ls st : List Value} {h : x_H} {a : Nat}: x_run 920 11 ls (.ref a :: st) h = q_ls ls 2 (.ref a) (fun ls' => x_run 920 12 ls' st h) := xe_astore_n ec920 dL_commands_11
theorem e920_12 {ls st : List Value} {h : x_H} : x_run 920 12 ls st h = x_run 920 13 ls (.int (q_i 1) :: st) h := xe_iconst ec920 dL_commands_12
theorem e920_13 {ls : List Value} {h : x_H} {x : Int32} : x_run 920 13 ls [.int x] h = if narrow .int (.int x) = .int x then some (.inl (some (.int x)), h) else none := xe_ireturn ec920 dL_commands_13 rfl
theorem e920_14 {ls st : List Value} {h : x_H} {a : Nat}: x_run 920 14 ls (.ref a :: st) h = q_ls ls 2 (.ref a) (fun ls' => x_run 920 15 ls' st h) := xe_astore_n ec920 dL_commands_14
theorem e920_15 {ls st : List Value} {h : x_H} : x_run 920 15 ls st h = x_run 920 16 ls (.int (q_i 2) :: st) h := xe_iconst ec920 dL_commands_15
theorem e920_16 {ls : List Value} {h : x_H} {x : Int32} : x_run 920 16 ls [.int x] h = if narrow .int (.int x) = .int x then some (.inl (some (.int x)), h) else none := xe_ireturn ec920 dL_commands_16 rfl
theorem e920_17 {ls st : List Value} {h : x_H} : x_run 920 17 ls st h = x_run 920 18 ls (.int (q_i 0) :: st) h := xe_iconst ec920 dL_commands_17
theorem e920_18 {ls : List Value} {h : x_H} {x : Int32} : x_run 920 18 ls [.int x] h = if narrow .int (.int x) = .int x then some (.inl (some (.int x)), h) else none := xe_ireturn ec920 dL_commands_18 rfl
theorem ec921 : x_code 921 = cL_reason := rfl
theorem e921_0 {ls st : List Value} {h : x_H} : x_run 921 0 ls st h = q_gr ls 2 (fun v => x_run 921 1 ls (.ref v :: st) h) := xe_aload_n ec921 dL_reason_0
theorem e921_1 {ls st : List Value} {h : x_H} : x_run 921 1 ls st h = x_run 921 2 ls (.int (q_i 0) :: st) h := xe_iconst ec921 dL_reason_1
theorem e921_2 {ls st : List Value} {h : x_H} : x_run 921 2 ls st h = q_gr ls 0 (fun v => x_run 921 3 ls (.ref v :: st) h) := xe_aload_n ec921 dL_reason_2
theorem e921_3 {ls st : List Value} {h : x_H} : x_run 921 3 ls st h = q_gi ls 1 (fun v => x_run 921 4 ls (.int v :: st) h) := xe_iload_n ec921 dL_reason_3
theorem e921_4 {ls st : List Value} {h : x_H} {b : Nat} {a1 : Value}: x_run 921 4 ls (a1 :: .ref b :: st) h = if q_rcv h b 9 = true then (if x_wt st ≤ 8 ∧ x_wt [.ref b, a1] = 2 then q_ct (x_m 725 [.ref b, a1] h) (q_ho 921 4) (fun v h' => x_run 921 7 ls (v.toList ++ st) h') else none) else none := xe_virtT (r := [a1]) ec921 dL_reason_4 ek9_90 rfl (by decide +kernel) (by decide +kernel)
theorem e921_7 {ls st : List Value} {h : x_H} {x : Int32}: x_run 921 7 ls (.int x :: st) h = x_run 921 8 ls (.long x.toInt64 :: st) h := xe_i2l ec921 dL_reason_7
theorem e921_8 {ls st : List Value} {h : x_H} {v : Value} {x : Int32} {a : Nat}: x_run 921 8 ls (v :: .int x :: .ref a :: st) h = q_wv h a 100 x_isL x v (fun h' => x_run 921 9 ls st h') := xe_lastore ec921 dL_reason_8
theorem e921_9 {ls st : List Value} {h : x_H} : x_run 921 9 ls st h = x_run 921 18 ls st h := xe_goto ec921 dL_reason_9 rfl
theorem e921_12 {ls st : List Value} {h : x_H} {a : Nat}: x_run 921 12 ls (.ref a :: st) h = q_ls ls 3 (.ref a) (fun ls' => x_run 921 13 ls' st h) := xe_astore_n ec921 dL_reason_12
theorem e921_13 {ls st : List Value} {h : x_H} : x_run 921 13 ls st h = x_run 921 14 ls (.int (q_i 1) :: st) h := xe_iconst ec921 dL_reason_13
theorem e921_14 {ls : List Value} {h : x_H} {x : Int32} : x_run 921 14 ls [.int x] h = if narrow .int (.int x) = .int x then some (.inl (some (.int x)), h) else none := xe_ireturn ec921 dL_reason_14 rfl
theorem e921_15 {ls st : List Value} {h : x_H} {a : Nat}: x_run 921 15 ls (.ref a :: st) h = q_ls ls 3 (.ref a) (fun ls' => x_run 921 16 ls' st h) := xe_astore_n ec921 dL_reason_15
theorem e921_16 {ls st : List Value} {h : x_H} : x_run 921 16 ls st h = x_run 921 17 ls (.int (q_i 2) :: st) h := xe_iconst ec921 dL_reason_16
theorem e921_17 {ls : List Value} {h : x_H} {x : Int32} : x_run 921 17 ls [.int x] h = if narrow .int (.int x) = .int x then some (.inl (some (.int x)), h) else none := xe_ireturn ec921 dL_reason_17 rfl
theorem e921_18 {ls st : List Value} {h : x_H} : x_run 921 18 ls st h = x_run 921 19 ls (.int (q_i 0) :: st) h := xe_iconst ec921 dL_reason_18
theorem e921_19 {ls : List Value} {h : x_H} {x : Int32} : x_run 921 19 ls [.int x] h = if narrow .int (.int x) = .int x then some (.inl (some (.int x)), h) else none := xe_ireturn ec921 dL_reason_19 rfl
theorem ec922 : x_code 922 = cL_line := rfl
theorem e922_0 {ls st : List Value} {h : x_H} : x_run 922 0 ls st h = q_gr ls 3 (fun v => x_run 922 1 ls (.ref v :: st) h) := xe_aload_n ec922 dL_line_0
theorem e922_1 {ls st : List Value} {h : x_H} : x_run 922 1 ls st h = x_run 922 2 ls (.int (q_i 0) :: st) h := xe_iconst ec922 dL_line_1
theorem e922_2 {ls st : List Value} {h : x_H} : x_run 922 2 ls st h = q_gr ls 0 (fun v => x_run 922 3 ls (.ref v :: st) h) := xe_aload_n ec922 dL_line_2
theorem e922_3 {ls st : List Value} {h : x_H} : x_run 922 3 ls st h = q_gi ls 1 (fun v => x_run 922 4 ls (.int v :: st) h) := xe_iload_n ec922 dL_line_3
theorem e922_4 {ls st : List Value} {h : x_H} : x_run 922 4 ls st h = q_gi ls 2 (fun v => x_run 922 5 ls (.int v :: st) h) := xe_iload_n ec922 dL_line_4
theorem e922_5 {ls st : List Value} {h : x_H} {b : Nat} {a1 a2 : Value}: x_run 922 5 ls (a2 :: a1 :: .ref b :: st) h = if q_rcv h b 9 = true then (if x_wt st ≤ 8 ∧ x_wt [.ref b, a1, a2] = 3 then q_ct (x_m 726 [.ref b, a1, a2] h) (q_ho 922 5) (fun v h' => x_run 922 8 ls (v.toList ++ st) h') else none) else none := xe_virtT (r := [a1, a2]) ec922 dL_line_5 ek9_93 rfl (by decide +kernel) (by decide +kernel)
theorem e922_8 {ls st : List Value} {h : x_H} {x : Int32}: x_run 922 8 ls (.int x :: st) h = x_run 922 9 ls (.long x.toInt64 :: st) h := xe_i2l ec922 dL_line_8
theorem e922_9 {ls st : List Value} {h : x_H} {v : Value} {x : Int32} {a : Nat}: x_run 922 9 ls (v :: .int x :: .ref a :: st) h = q_wv h a 100 x_isL x v (fun h' => x_run 922 10 ls st h') := xe_lastore ec922 dL_line_9
theorem e922_10 {ls st : List Value} {h : x_H} : x_run 922 10 ls st h = x_run 922 17 ls st h := xe_goto ec922 dL_line_10 rfl
theorem e922_13 {ls st : List Value} {h : x_H} {a : Nat}: x_run 922 13 ls (.ref a :: st) h = q_ls ls 4 (.ref a) (fun ls' => x_run 922 15 ls' st h) := xe_astore ec922 dL_line_13
theorem e922_15 {ls st : List Value} {h : x_H} : x_run 922 15 ls st h = x_run 922 16 ls (.int (q_i 1) :: st) h := xe_iconst ec922 dL_line_15
theorem e922_16 {ls : List Value} {h : x_H} {x : Int32} : x_run 922 16 ls [.int x] h = if narrow .int (.int x) = .int x then some (.inl (some (.int x)), h) else none := xe_ireturn ec922 dL_line_16 rfl
theorem e922_17 {ls st : List Value} {h : x_H} : x_run 922 17 ls st h = x_run 922 18 ls (.int (q_i 0) :: st) h := xe_iconst ec922 dL_line_17
theorem e922_18 {ls : List Value} {h : x_H} {x : Int32} : x_run 922 18 ls [.int x] h = if narrow .int (.int x) = .int x then some (.inl (some (.int x)), h) else none := xe_ireturn ec922 dL_line_18 rfl
theorem ec923 : x_code 923 = cL_character := rfl
theorem e923_0 {ls st : List Value} {h : x_H} : x_run 923 0 ls st h = q_gr ls 2 (fun v => x_run 923 1 ls (.ref v :: st) h) := xe_aload_n ec923 dL_character_0
theorem e923_1 {ls st : List Value} {h : x_H} : x_run 923 1 ls st h = x_run 923 2 ls (.int (q_i 0) :: st) h := xe_iconst ec923 dL_character_1
theorem e923_2 {ls st : List Value} {h : x_H} : x_run 923 2 ls st h = q_gr ls 0 (fun v => x_run 923 3 ls (.ref v :: st) h) := xe_aload_n ec923 dL_character_2
theorem e923_3 {ls st : List Value} {h : x_H} : x_run 923 3 ls st h = q_gi ls 1 (fun v => x_run 923 4 ls (.int v :: st) h) := xe_iload_n ec923 dL_character_3
theorem e923_4 {ls st : List Value} {h : x_H} {b : Nat} {a1 : Value}: x_run 923 4 ls (a1 :: .ref b :: st) h = if q_rcv h b 9 = true then (if x_wt st ≤ 8 ∧ x_wt [.ref b, a1] = 2 then q_ct (x_m 727 [.ref b, a1] h) (q_ho 923 4) (fun v h' => x_run 923 7 ls (v.toList ++ st) h') else none) else none := xe_virtT (r := [a1]) ec923 dL_character_4 ek9_96 rfl (by decide +kernel) (by decide +kernel)
theorem e923_7 {ls st : List Value} {h : x_H} {x : Int32}: x_run 923 7 ls (.int x :: st) h = x_run 923 8 ls (.long x.toInt64 :: st) h := xe_i2l ec923 dL_character_7
theorem e923_8 {ls st : List Value} {h : x_H} {v : Value} {x : Int32} {a : Nat}: x_run 923 8 ls (v :: .int x :: .ref a :: st) h = q_wv h a 100 x_isL x v (fun h' => x_run 923 9 ls st h') := xe_lastore ec923 dL_character_8
theorem e923_9 {ls st : List Value} {h : x_H} : x_run 923 9 ls st h = x_run 923 15 ls st h := xe_goto ec923 dL_character_9 rfl
theorem e923_12 {ls st : List Value} {h : x_H} {a : Nat}: x_run 923 12 ls (.ref a :: st) h = q_ls ls 3 (.ref a) (fun ls' => x_run 923 13 ls' st h) := xe_astore_n ec923 dL_character_12
theorem e923_13 {ls st : List Value} {h : x_H} : x_run 923 13 ls st h = x_run 923 14 ls (.int (q_i 1) :: st) h := xe_iconst ec923 dL_character_13
theorem e923_14 {ls : List Value} {h : x_H} {x : Int32} : x_run 923 14 ls [.int x] h = if narrow .int (.int x) = .int x then some (.inl (some (.int x)), h) else none := xe_ireturn ec923 dL_character_14 rfl
theorem e923_15 {ls st : List Value} {h : x_H} : x_run 923 15 ls st h = x_run 923 16 ls (.int (q_i 0) :: st) h := xe_iconst ec923 dL_character_15
theorem e923_16 {ls : List Value} {h : x_H} {x : Int32} : x_run 923 16 ls [.int x] h = if narrow .int (.int x) = .int x then some (.inl (some (.int x)), h) else none := xe_ireturn ec923 dL_character_16 rfl
theorem ec924 : x_code 924 = cL_meanCost := rfl
theorem e924_0 {ls st : List Value} {h : x_H} : x_run 924 0 ls st h = q_gr ls 1 (fun v => x_run 924 1 ls (.ref v :: st) h) := xe_aload_n ec924 dL_meanCost_0
theorem e924_1 {ls st : List Value} {h : x_H} : x_run 924 1 ls st h = x_run 924 2 ls (.int (q_i 0) :: st) h := xe_iconst ec924 dL_meanCost_1
theorem e924_2 {ls st : List Value} {h : x_H} : x_run 924 2 ls st h = q_gr ls 0 (fun v => x_run 924 3 ls (.ref v :: st) h) := xe_aload_n ec924 dL_meanCost_2
theorem e924_3 {ls st : List Value} {h : x_H} {b : Nat}: x_run 924 3 ls (.ref b :: st) h = if q_rcv h b 9 = true then (if x_wt st ≤ 8 ∧ x_wt [.ref b] = 1 then q_ct (x_m 728 [.ref b] h) (q_ho 924 3) (fun v h' => x_run 924 6 ls (v.toList ++ st) h') else none) else none := xe_virtT (r := []) ec924 dL_meanCost_3 ek9_100 rfl (by decide +kernel) (by decide +kernel)
theorem e924_6 {ls st : List Value} {h : x_H} {v : UInt32}: x_run 924 6 ls (.float v :: st) h = if FP.f2d v &&& 0x7fffffffffffffff ≤ 0x7ff0000000000000 then x_run 924 7 ls (.double (FP.f2d v) :: st) h else none := xe_f2d ec924 dL_meanCost_6
theorem e924_7 {ls st : List Value} {h : x_H} {v : Value} {x : Int32} {a : Nat}: x_run 924 7 ls (v :: .int x :: .ref a :: st) h = q_wv h a 101 x_isD x v (fun h' => x_run 924 8 ls st h') := xe_dastore ec924 dL_meanCost_7
theorem e924_8 {ls st : List Value} {h : x_H} : x_run 924 8 ls st h = x_run 924 14 ls st h := xe_goto ec924 dL_meanCost_8 rfl
theorem e924_11 {ls st : List Value} {h : x_H} {a : Nat}: x_run 924 11 ls (.ref a :: st) h = q_ls ls 2 (.ref a) (fun ls' => x_run 924 12 ls' st h) := xe_astore_n ec924 dL_meanCost_11
theorem e924_12 {ls st : List Value} {h : x_H} : x_run 924 12 ls st h = x_run 924 13 ls (.int (q_i 1) :: st) h := xe_iconst ec924 dL_meanCost_12
theorem e924_13 {ls : List Value} {h : x_H} {x : Int32} : x_run 924 13 ls [.int x] h = if narrow .int (.int x) = .int x then some (.inl (some (.int x)), h) else none := xe_ireturn ec924 dL_meanCost_13 rfl
theorem e924_14 {ls st : List Value} {h : x_H} : x_run 924 14 ls st h = x_run 924 15 ls (.int (q_i 0) :: st) h := xe_iconst ec924 dL_meanCost_14
theorem e924_15 {ls : List Value} {h : x_H} {x : Int32} : x_run 924 15 ls [.int x] h = if narrow .int (.int x) = .int x then some (.inl (some (.int x)), h) else none := xe_ireturn ec924 dL_meanCost_15 rfl
theorem ec925 : x_code 925 = cL_account := rfl
theorem e925_0 {ls st : List Value} {h : x_H} : x_run 925 0 ls st h = q_gr ls 2 (fun v => x_run 925 1 ls (.ref v :: st) h) := xe_aload_n ec925 dL_account_0
theorem e925_1 {ls st : List Value} {h : x_H} : x_run 925 1 ls st h = x_run 925 2 ls (.int (q_i 0) :: st) h := xe_iconst ec925 dL_account_1
theorem e925_2 {ls st : List Value} {h : x_H} : x_run 925 2 ls st h = q_gr ls 0 (fun v => x_run 925 3 ls (.ref v :: st) h) := xe_aload_n ec925 dL_account_2
theorem e925_3 {ls st : List Value} {h : x_H} : x_run 925 3 ls st h = q_gi ls 1 (fun v => x_run 925 4 ls (.int v :: st) h) := xe_iload_n ec925 dL_account_3
theorem e925_4 {ls st : List Value} {h : x_H} {b : Nat} {a1 : Value}: x_run 925 4 ls (a1 :: .ref b :: st) h = if q_rcv h b 9 = true then (if x_wt st ≤ 8 ∧ x_wt [.ref b, a1] = 2 then q_ct (x_m 730 [.ref b, a1] h) (q_ho 925 4) (fun v h' => x_run 925 7 ls (v.toList ++ st) h') else none) else none := xe_virtT (r := [a1]) ec925 dL_account_4 ek9_106 rfl (by decide +kernel) (by decide +kernel)
theorem e925_7 {ls st : List Value} {h : x_H} {x : Int32}: x_run 925 7 ls (.int x :: st) h = x_run 925 8 ls (.long x.toInt64 :: st) h := xe_i2l ec925 dL_account_7
theorem e925_8 {ls st : List Value} {h : x_H} {v : Value} {x : Int32} {a : Nat}: x_run 925 8 ls (v :: .int x :: .ref a :: st) h = q_wv h a 100 x_isL x v (fun h' => x_run 925 9 ls st h') := xe_lastore ec925 dL_account_8
theorem e925_9 {ls st : List Value} {h : x_H} : x_run 925 9 ls st h = x_run 925 15 ls st h := xe_goto ec925 dL_account_9 rfl
theorem e925_12 {ls st : List Value} {h : x_H} {a : Nat}: x_run 925 12 ls (.ref a :: st) h = q_ls ls 3 (.ref a) (fun ls' => x_run 925 13 ls' st h) := xe_astore_n ec925 dL_account_12
theorem e925_13 {ls st : List Value} {h : x_H} : x_run 925 13 ls st h = x_run 925 14 ls (.int (q_i 1) :: st) h := xe_iconst ec925 dL_account_13
theorem e925_14 {ls : List Value} {h : x_H} {x : Int32} : x_run 925 14 ls [.int x] h = if narrow .int (.int x) = .int x then some (.inl (some (.int x)), h) else none := xe_ireturn ec925 dL_account_14 rfl
theorem e925_15 {ls st : List Value} {h : x_H} : x_run 925 15 ls st h = x_run 925 16 ls (.int (q_i 0) :: st) h := xe_iconst ec925 dL_account_15
theorem e925_16 {ls : List Value} {h : x_H} {x : Int32} : x_run 925 16 ls [.int x] h = if narrow .int (.int x) = .int x then some (.inl (some (.int x)), h) else none := xe_ireturn ec925 dL_account_16 rfl
theorem ec926 : x_code 926 = cL_undo := rfl
theorem e926_0 {ls st : List Value} {h : x_H} : x_run 926 0 ls st h = q_gr ls 1 (fun v => x_run 926 1 ls (.ref v :: st) h) := xe_aload_n ec926 dL_undo_0
theorem e926_1 {ls st : List Value} {h : x_H} : x_run 926 1 ls st h = x_run 926 2 ls (.int (q_i 0) :: st) h := xe_iconst ec926 dL_undo_1
theorem e926_2 {ls st : List Value} {h : x_H} : x_run 926 2 ls st h = q_gr ls 0 (fun v => x_run 926 3 ls (.ref v :: st) h) := xe_aload_n ec926 dL_undo_2
theorem e926_3 {ls st : List Value} {h : x_H} {b : Nat}: x_run 926 3 ls (.ref b :: st) h = if q_rcv h b 9 = true then (if x_wt st ≤ 8 ∧ x_wt [.ref b] = 1 then q_ct (x_m 731 [.ref b] h) (q_ho 926 3) (fun v h' => x_run 926 6 ls (v.toList ++ st) h') else none) else none := xe_virtT (r := []) ec926 dL_undo_3 ek9_109 rfl (by decide +kernel) (by decide +kernel)
theorem e926_6 {ls st : List Value} {h : x_H} {x : Int32}: x_run 926 6 ls (.int x :: st) h = x_run 926 7 ls (.long x.toInt64 :: st) h := xe_i2l ec926 dL_undo_6
theorem e926_7 {ls st : List Value} {h : x_H} {v : Value} {x : Int32} {a : Nat}: x_run 926 7 ls (v :: .int x :: .ref a :: st) h = q_wv h a 100 x_isL x v (fun h' => x_run 926 8 ls st h') := xe_lastore ec926 dL_undo_7
theorem e926_8 {ls st : List Value} {h : x_H} : x_run 926 8 ls st h = x_run 926 14 ls st h := xe_goto ec926 dL_undo_8 rfl
theorem e926_11 {ls st : List Value} {h : x_H} {a : Nat}: x_run 926 11 ls (.ref a :: st) h = q_ls ls 2 (.ref a) (fun ls' => x_run 926 12 ls' st h) := xe_astore_n ec926 dL_undo_11
theorem e926_12 {ls st : List Value} {h : x_H} : x_run 926 12 ls st h = x_run 926 13 ls (.int (q_i 1) :: st) h := xe_iconst ec926 dL_undo_12
theorem e926_13 {ls : List Value} {h : x_H} {x : Int32} : x_run 926 13 ls [.int x] h = if narrow .int (.int x) = .int x then some (.inl (some (.int x)), h) else none := xe_ireturn ec926 dL_undo_13 rfl
theorem e926_14 {ls st : List Value} {h : x_H} : x_run 926 14 ls st h = x_run 926 15 ls (.int (q_i 0) :: st) h := xe_iconst ec926 dL_undo_14
theorem e926_15 {ls : List Value} {h : x_H} {x : Int32} : x_run 926 15 ls [.int x] h = if narrow .int (.int x) = .int x then some (.inl (some (.int x)), h) else none := xe_ireturn ec926 dL_undo_15 rfl
theorem ec927 : x_code 927 = cL_restore := rfl
theorem e927_0 {ls st : List Value} {h : x_H} : x_run 927 0 ls st h = q_gr ls 1 (fun v => x_run 927 1 ls (.ref v :: st) h) := xe_aload_n ec927 dL_restore_0
theorem e927_1 {ls st : List Value} {h : x_H} : x_run 927 1 ls st h = x_run 927 2 ls (.int (q_i 0) :: st) h := xe_iconst ec927 dL_restore_1
theorem e927_2 {ls st : List Value} {h : x_H} : x_run 927 2 ls st h = q_gr ls 0 (fun v => x_run 927 3 ls (.ref v :: st) h) := xe_aload_n ec927 dL_restore_2
theorem e927_3 {ls st : List Value} {h : x_H} {b : Nat}: x_run 927 3 ls (.ref b :: st) h = if q_rcv h b 9 = true then (if x_wt st ≤ 8 ∧ x_wt [.ref b] = 1 then q_ct (x_m 733 [.ref b] h) (q_ho 927 3) (fun v h' => x_run 927 6 ls (v.toList ++ st) h') else none) else none := xe_virtT (r := []) ec927 dL_restore_3 ek9_112 rfl (by decide +kernel) (by decide +kernel)
theorem e927_6 {ls st : List Value} {h : x_H} {x : Int32}: x_run 927 6 ls (.int x :: st) h = x_run 927 7 ls (.long x.toInt64 :: st) h := xe_i2l ec927 dL_restore_6
theorem e927_7 {ls st : List Value} {h : x_H} {v : Value} {x : Int32} {a : Nat}: x_run 927 7 ls (v :: .int x :: .ref a :: st) h = q_wv h a 100 x_isL x v (fun h' => x_run 927 8 ls st h') := xe_lastore ec927 dL_restore_7
theorem e927_8 {ls st : List Value} {h : x_H} : x_run 927 8 ls st h = x_run 927 14 ls st h := xe_goto ec927 dL_restore_8 rfl
theorem e927_11 {ls st : List Value} {h : x_H} {a : Nat}: x_run 927 11 ls (.ref a :: st) h = q_ls ls 2 (.ref a) (fun ls' => x_run 927 12 ls' st h) := xe_astore_n ec927 dL_restore_11
theorem e927_12 {ls st : List Value} {h : x_H} : x_run 927 12 ls st h = x_run 927 13 ls (.int (q_i 1) :: st) h := xe_iconst ec927 dL_restore_12
theorem e927_13 {ls : List Value} {h : x_H} {x : Int32} : x_run 927 13 ls [.int x] h = if narrow .int (.int x) = .int x then some (.inl (some (.int x)), h) else none := xe_ireturn ec927 dL_restore_13 rfl
theorem e927_14 {ls st : List Value} {h : x_H} : x_run 927 14 ls st h = x_run 927 15 ls (.int (q_i 0) :: st) h := xe_iconst ec927 dL_restore_14
theorem e927_15 {ls : List Value} {h : x_H} {x : Int32} : x_run 927 15 ls [.int x] h = if narrow .int (.int x) = .int x then some (.inl (some (.int x)), h) else none := xe_ireturn ec927 dL_restore_15 rfl
theorem ec928 : x_code 928 = cL_law := rfl
theorem e928_0 {ls st : List Value} {h : x_H} : x_run 928 0 ls st h = q_al2 h (.inr (9, x_defs 9)) (x_N 9) (fun a h' => x_run 928 3 ls (.ref a :: st) h') := xe_new ec928 dL_law_0 (by decide +kernel)
theorem e928_3 {ls st : List Value} {h : x_H} {v : Value} (hv : v.category = 1): x_run 928 3 ls (v :: st) h = x_run 928 4 ls (v :: v :: st) h := xe_dup ec928 dL_law_3 hv
theorem e928_4 {ls st : List Value} {h : x_H} {b : Nat}: x_run 928 4 ls (.ref b :: st) h = if q_rcv h b 9 = true then (if x_wt st ≤ 8 ∧ x_wt [.ref b] = 1 then q_cl (x_m 700 [.ref b] h) (fun v h' => x_run 928 7 ls (v.toList ++ st) h') else none) else none := xe_spec (r := []) ec928 dL_law_4 ek9_115 (by decide) rfl (by decide +kernel) (by decide +kernel)
theorem e928_7 {ls st : List Value} {h : x_H} {a : Nat}: x_run 928 7 ls (.ref a :: st) h = q_ls ls 1 (.ref a) (fun ls' => x_run 928 8 ls' st h) := xe_astore_n ec928 dL_law_7
theorem e928_8 {ls st : List Value} {h : x_H} : x_run 928 8 ls st h = q_al2 h (.inr (10, x_defs 10)) (x_N 10) (fun a h' => x_run 928 11 ls (.ref a :: st) h') := xe_new ec928 dL_law_8 (by decide +kernel)
theorem e928_11 {ls st : List Value} {h : x_H} {v : Value} (hv : v.category = 1): x_run 928 11 ls (v :: st) h = x_run 928 12 ls (v :: v :: st) h := xe_dup ec928 dL_law_11 hv
theorem e928_12 {ls st : List Value} {h : x_H} {b : Nat}: x_run 928 12 ls (.ref b :: st) h = if q_rcv h b 10 = true then (if x_wt st ≤ 8 ∧ x_wt [.ref b] = 1 then q_cl (x_m 800 [.ref b] h) (fun v h' => x_run 928 15 ls (v.toList ++ st) h') else none) else none := xe_spec (r := []) ec928 dL_law_12 ek9_118 (by decide) rfl (by decide +kernel) (by decide +kernel)
theorem e928_15 {ls st : List Value} {h : x_H} {a : Nat}: x_run 928 15 ls (.ref a :: st) h = q_ls ls 2 (.ref a) (fun ls' => x_run 928 16 ls' st h) := xe_astore_n ec928 dL_law_15
theorem e928_16 {ls st : List Value} {h : x_H} : x_run 928 16 ls st h = x_run 928 17 ls (.int (q_i 1) :: st) h := xe_iconst ec928 dL_law_16
theorem e928_17 {ls st : List Value} {h : x_H} {x : Int32}: x_run 928 17 ls (.int x :: st) h = q_na h x (fun n => .inr (100, List.replicate n (.long 0))) (fun a h' => x_run 928 19 ls (.ref a :: st) h') := xe_newarray_long ec928 dL_law_17
theorem e928_19 {ls st : List Value} {h : x_H} {a : Nat}: x_run 928 19 ls (.ref a :: st) h = q_ls ls 3 (.ref a) (fun ls' => x_run 928 20 ls' st h) := xe_astore_n ec928 dL_law_19
theorem e928_20 {ls st : List Value} {h : x_H} : x_run 928 20 ls st h = x_run 928 21 ls (.int (q_i 1) :: st) h := xe_iconst ec928 dL_law_20
theorem e928_21 {ls st : List Value} {h : x_H} {x : Int32}: x_run 928 21 ls (.int x :: st) h = q_na h x (fun n => .inr (101, List.replicate n (.double 0))) (fun a h' => x_run 928 23 ls (.ref a :: st) h') := xe_newarray_double ec928 dL_law_21
theorem e928_23 {ls st : List Value} {h : x_H} {a : Nat}: x_run 928 23 ls (.ref a :: st) h = q_ls ls 4 (.ref a) (fun ls' => x_run 928 25 ls' st h) := xe_astore ec928 dL_law_23
theorem e928_25 {ls st : List Value} {h : x_H} : x_run 928 25 ls st h = x_run 928 26 ls (.int (q_i 0) :: st) h := xe_iconst ec928 dL_law_25
theorem e928_26 {ls st : List Value} {h : x_H} {x : Int32}: x_run 928 26 ls (.int x :: st) h = q_ls ls 5 (.int x) (fun ls' => x_run 928 28 ls' st h) := xe_istore ec928 dL_law_26
theorem e928_28 {ls st : List Value} {h : x_H} : x_run 928 28 ls st h = q_gi ls 5 (fun v => x_run 928 30 ls (.int v :: st) h) := xe_iload ec928 dL_law_28
theorem e928_30 {ls st : List Value} {h : x_H} : x_run 928 30 ls st h = q_gr ls 0 (fun v => x_run 928 31 ls (.ref v :: st) h) := xe_aload_n ec928 dL_law_30
theorem e928_31 {ls st : List Value} {h : x_H} {a : Nat}: x_run 928 31 ls (.ref a :: st) h = q_ln h a (fun v => x_run 928 32 ls (.int v :: st) h) := xe_arraylength ec928 dL_law_31
theorem e928_32 {ls st : List Value} {h : x_H} : x_run 928 32 ls st h = x_run 928 33 ls (.int (q_i 5) :: st) h := xe_iconst ec928 dL_law_32
theorem e928_33 {ls st : List Value} {h : x_H} {x y : Int32}: x_run 928 33 ls (.int y :: .int x :: st) h = x_run 928 34 ls (.int (x - y) :: st) h := xe_isub ec928 dL_law_33
theorem e928_34 {ls st : List Value} {h : x_H} {x y : Int32}: x_run 928 34 ls (.int y :: .int x :: st) h = if y < x then x_run 928 2050 ls st h else x_run 928 37 ls st h := xe_ic_gt ec928 dL_law_34 rfl
theorem e928_37 {ls st : List Value} {h : x_H} : x_run 928 37 ls st h = q_gr ls 0 (fun v => x_run 928 38 ls (.ref v :: st) h) := xe_aload_n ec928 dL_law_37
theorem e928_38 {ls st : List Value} {h : x_H} : x_run 928 38 ls st h = q_gi ls 5 (fun v => x_run 928 40 ls (.int v :: st) h) := xe_iload ec928 dL_law_38
theorem e928_40 {ls st : List Value} {h : x_H} {x : Int32} {a : Nat}: x_run 928 40 ls (.int x :: .ref a :: st) h = q_ra h a 0 x (fun v => x_run 928 41 ls (.int v :: st) h) := xe_iaload ec928 dL_law_40
theorem e928_41 {ls st : List Value} {h : x_H} : x_run 928 41 ls st h = x_run 928 43 ls (.int (q_i 63) :: st) h := xe_bipush ec928 dL_law_41 (by decide)
theorem e928_43 {ls st : List Value} {h : x_H} {x y : Int32}: x_run 928 43 ls (.int y :: .int x :: st) h = x_run 928 44 ls (.int (x &&& y) :: st) h := xe_iand ec928 dL_law_43
theorem e928_44 {ls st : List Value} {h : x_H} {x : Int32}: x_run 928 44 ls (.int x :: st) h = q_so 44 (x_tsw 2000 0 32 #[148, 220, 300, 380, 460, 516, 572, 628, 696, 764, 844, 919, 1011, 1067, 1123, 1191, 1247, 1303, 1316, 1329, 1385, 1441, 1499, 1543, 1556, 1612, 1680, 1736, 1802, 1843, 1899, 1943, 1956] x) (fun t => x_run 928 t ls st h) := xe_tsw ec928 dL_law_44
theorem e928_192 {ls st : List Value} {h : x_H} : x_run 928 192 ls st h = q_gr ls 1 (fun v => x_run 928 193 ls (.ref v :: st) h) := xe_aload_n ec928 dL_law_192
theorem e928_193 {ls st : List Value} {h : x_H} : x_run 928 193 ls st h = q_gr ls 0 (fun v => x_run 928 194 ls (.ref v :: st) h) := xe_aload_n ec928 dL_law_193
theorem e928_194 {ls st : List Value} {h : x_H} : x_run 928 194 ls st h = q_gi ls 5 (fun v => x_run 928 196 ls (.int v :: st) h) := xe_iload ec928 dL_law_194
theorem e928_196 {ls st : List Value} {h : x_H} : x_run 928 196 ls st h = x_run 928 197 ls (.int (q_i 1) :: st) h := xe_iconst ec928 dL_law_196
theorem e928_197 {ls st : List Value} {h : x_H} {x y : Int32}: x_run 928 197 ls (.int y :: .int x :: st) h = x_run 928 198 ls (.int (x + y) :: st) h := xe_iadd ec928 dL_law_197
theorem e928_198 {ls st : List Value} {h : x_H} {x : Int32} {a : Nat}: x_run 928 198 ls (.int x :: .ref a :: st) h = q_ra h a 0 x (fun v => x_run 928 199 ls (.int v :: st) h) := xe_iaload ec928 dL_law_198
theorem e928_199 {ls st : List Value} {h : x_H} {x : Int32}: x_run 928 199 ls (.int x :: st) h = if x = 0 then x_run 928 206 ls st h else x_run 928 202 ls st h := xe_if_eq ec928 dL_law_199 rfl
theorem e928_202 {ls st : List Value} {h : x_H} : x_run 928 202 ls st h = x_run 928 203 ls (.int (q_i 1) :: st) h := xe_iconst ec928 dL_law_202
theorem e928_203 {ls st : List Value} {h : x_H} : x_run 928 203 ls st h = x_run 928 207 ls st h := xe_goto ec928 dL_law_203 rfl
theorem e928_206 {ls st : List Value} {h : x_H} : x_run 928 206 ls st h = x_run 928 207 ls (.int (q_i 0) :: st) h := xe_iconst ec928 dL_law_206
theorem e928_207 {ls st : List Value} {h : x_H} : x_run 928 207 ls st h = q_gr ls 3 (fun v => x_run 928 208 ls (.ref v :: st) h) := xe_aload_n ec928 dL_law_207
theorem e928_208 {ls st : List Value} {h : x_H} {a1 a2 a3 : Value}: x_run 928 208 ls (a3 :: a2 :: a1 :: st) h = if x_wt st ≤ 8 ∧ x_wt [a1, a2, a3] = 3 then q_cl (x_m 900 [a1, a2, a3] h) (fun v h' => x_run 928 211 ls (v.toList ++ st) h') else none := xe_stat (args := [a1, a2, a3]) ec928 dL_law_208 ek9_119 (by decide) rfl (by decide +kernel) (by decide +kernel)
theorem e928_211 {ls st : List Value} {h : x_H} {x : Int32}: x_run 928 211 ls (.int x :: st) h = q_ls ls 6 (.int x) (fun ls' => x_run 928 213 ls' st h) := xe_istore ec928 dL_law_211
theorem e928_213 {ls st : List Value} {h : x_H} : x_run 928 213 ls st h = q_gr ls 2 (fun v => x_run 928 214 ls (.ref v :: st) h) := xe_aload_n ec928 dL_law_213
theorem e928_214 {ls st : List Value} {h : x_H} : x_run 928 214 ls st h = q_gr ls 0 (fun v => x_run 928 215 ls (.ref v :: st) h) := xe_aload_n ec928 dL_law_214
theorem e928_215 {ls st : List Value} {h : x_H} : x_run 928 215 ls st h = q_gi ls 5 (fun v => x_run 928 217 ls (.int v :: st) h) := xe_iload ec928 dL_law_215
theorem e928_217 {ls st : List Value} {h : x_H} : x_run 928 217 ls st h = x_run 928 218 ls (.int (q_i 1) :: st) h := xe_iconst ec928 dL_law_217
theorem e928_218 {ls st : List Value} {h : x_H} {x y : Int32}: x_run 928 218 ls (.int y :: .int x :: st) h = x_run 928 219 ls (.int (x + y) :: st) h := xe_iadd ec928 dL_law_218
theorem e928_219 {ls st : List Value} {h : x_H} {x : Int32} {a : Nat}: x_run 928 219 ls (.int x :: .ref a :: st) h = q_ra h a 0 x (fun v => x_run 928 220 ls (.int v :: st) h) := xe_iaload ec928 dL_law_219
theorem e928_220 {ls st : List Value} {h : x_H} {x : Int32}: x_run 928 220 ls (.int x :: st) h = if x = 0 then x_run 928 227 ls st h else x_run 928 223 ls st h := xe_if_eq ec928 dL_law_220 rfl
theorem e928_223 {ls st : List Value} {h : x_H} : x_run 928 223 ls st h = x_run 928 224 ls (.int (q_i 1) :: st) h := xe_iconst ec928 dL_law_223
theorem e928_224 {ls st : List Value} {h : x_H} : x_run 928 224 ls st h = x_run 928 228 ls st h := xe_goto ec928 dL_law_224 rfl
theorem e928_227 {ls st : List Value} {h : x_H} : x_run 928 227 ls st h = x_run 928 228 ls (.int (q_i 0) :: st) h := xe_iconst ec928 dL_law_227
theorem e928_228 {ls st : List Value} {h : x_H} {b : Nat} {a1 : Value}: x_run 928 228 ls (a1 :: .ref b :: st) h = if q_rcv h b 10 = true then (if x_wt st ≤ 8 ∧ x_wt [.ref b, a1] = 2 then q_cl (x_m 820 [.ref b, a1] h) (fun v h' => x_run 928 231 ls (v.toList ++ st) h') else none) else none := xe_virt (r := [a1]) ec928 dL_law_228 ek9_124 rfl (by decide +kernel) (by decide +kernel)
theorem e928_231 {ls st : List Value} {h : x_H} {x : Int32}: x_run 928 231 ls (.int x :: st) h = q_ls ls 7 (.int x) (fun ls' => x_run 928 233 ls' st h) := xe_istore ec928 dL_law_231
theorem e928_233 {ls st : List Value} {h : x_H} : x_run 928 233 ls st h = q_gr ls 2 (fun v => x_run 928 234 ls (.ref v :: st) h) := xe_aload_n ec928 dL_law_233
theorem e928_234 {ls st : List Value} {h : x_H} {b : Nat}: x_run 928 234 ls (.ref b :: st) h = if q_rcv h b 10 = true then (if x_wt st ≤ 8 ∧ x_wt [.ref b] = 1 then q_cl (x_m 801 [.ref b] h) (fun v h' => x_run 928 237 ls (v.toList ++ st) h') else none) else none := xe_virt (r := []) ec928 dL_law_234 ek9_125 rfl (by decide +kernel) (by decide +kernel)
theorem e928_237 {ls st : List Value} {h : x_H} : x_run 928 237 ls st h = q_gi ls 6 (fun v => x_run 928 239 ls (.int v :: st) h) := xe_iload ec928 dL_law_237
theorem e928_239 {ls st : List Value} {h : x_H} {x y : Int32}: x_run 928 239 ls (.int y :: .int x :: st) h = if x = y then x_run 928 244 ls st h else x_run 928 242 ls st h := xe_ic_eq ec928 dL_law_239 rfl
theorem e928_242 {ls st : List Value} {h : x_H} : x_run 928 242 ls st h = x_run 928 243 ls (.int (q_i 0) :: st) h := xe_iconst ec928 dL_law_242
theorem e928_243 {ls : List Value} {h : x_H} {x : Int32} : x_run 928 243 ls [.int x] h = if narrow .boolean (.int x) = .int x then some (.inl (some (.int x)), h) else none := xe_ireturn ec928 dL_law_243 rfl
theorem e928_244 {ls st : List Value} {h : x_H} : x_run 928 244 ls st h = q_gi ls 6 (fun v => x_run 928 246 ls (.int v :: st) h) := xe_iload ec928 dL_law_244
theorem e928_246 {ls st : List Value} {h : x_H} {x : Int32}: x_run 928 246 ls (.int x :: st) h = if ¬ x = 0 then x_run 928 261 ls st h else x_run 928 249 ls st h := xe_if_ne ec928 dL_law_246 rfl
theorem e928_249 {ls st : List Value} {h : x_H} : x_run 928 249 ls st h = q_gr ls 3 (fun v => x_run 928 250 ls (.ref v :: st) h) := xe_aload_n ec928 dL_law_249
theorem e928_250 {ls st : List Value} {h : x_H} : x_run 928 250 ls st h = x_run 928 251 ls (.int (q_i 0) :: st) h := xe_iconst ec928 dL_law_250
theorem e928_251 {ls st : List Value} {h : x_H} {x : Int32} {a : Nat}: x_run 928 251 ls (.int x :: .ref a :: st) h = q_rv2 h a 100 x_isL x (fun v => x_run 928 252 ls (v :: st) h) := xe_laload ec928 dL_law_251
theorem e928_252 {ls st : List Value} {h : x_H} : x_run 928 252 ls st h = q_gi ls 7 (fun v => x_run 928 254 ls (.int v :: st) h) := xe_iload ec928 dL_law_252
theorem e928_254 {ls st : List Value} {h : x_H} {x : Int32}: x_run 928 254 ls (.int x :: st) h = x_run 928 255 ls (.long x.toInt64 :: st) h := xe_i2l ec928 dL_law_254
theorem e928_255 {ls st : List Value} {h : x_H} {v w : Int64}: x_run 928 255 ls (.long v :: .long w :: st) h = x_run 928 256 ls (.int (lg_cmp w v) :: st) h := xe_lcmp ec928 dL_law_255
theorem e928_256 {ls st : List Value} {h : x_H} {x : Int32}: x_run 928 256 ls (.int x :: st) h = if x = 0 then x_run 928 261 ls st h else x_run 928 259 ls st h := xe_if_eq ec928 dL_law_256 rfl
theorem e928_259 {ls st : List Value} {h : x_H} : x_run 928 259 ls st h = x_run 928 260 ls (.int (q_i 0) :: st) h := xe_iconst ec928 dL_law_259
theorem e928_260 {ls : List Value} {h : x_H} {x : Int32} : x_run 928 260 ls [.int x] h = if narrow .boolean (.int x) = .int x then some (.inl (some (.int x)), h) else none := xe_ireturn ec928 dL_law_260 rfl
theorem e928_261 {ls st : List Value} {h : x_H} : x_run 928 261 ls st h = x_run 928 2044 ls st h := xe_goto ec928 dL_law_261 rfl
theorem e928_264 {ls st : List Value} {h : x_H} : x_run 928 264 ls st h = q_gr ls 1 (fun v => x_run 928 265 ls (.ref v :: st) h) := xe_aload_n ec928 dL_law_264
theorem e928_265 {ls st : List Value} {h : x_H} : x_run 928 265 ls st h = q_gr ls 0 (fun v => x_run 928 266 ls (.ref v :: st) h) := xe_aload_n ec928 dL_law_265
theorem e928_266 {ls st : List Value} {h : x_H} : x_run 928 266 ls st h = q_gi ls 5 (fun v => x_run 928 268 ls (.int v :: st) h) := xe_iload ec928 dL_law_266
theorem e928_268 {ls st : List Value} {h : x_H} : x_run 928 268 ls st h = x_run 928 269 ls (.int (q_i 1) :: st) h := xe_iconst ec928 dL_law_268
theorem e928_269 {ls st : List Value} {h : x_H} {x y : Int32}: x_run 928 269 ls (.int y :: .int x :: st) h = x_run 928 270 ls (.int (x + y) :: st) h := xe_iadd ec928 dL_law_269
theorem e928_270 {ls st : List Value} {h : x_H} {x : Int32} {a : Nat}: x_run 928 270 ls (.int x :: .ref a :: st) h = q_ra h a 0 x (fun v => x_run 928 271 ls (.int v :: st) h) := xe_iaload ec928 dL_law_270
theorem e928_271 {ls st : List Value} {h : x_H} : x_run 928 271 ls st h = q_gr ls 0 (fun v => x_run 928 272 ls (.ref v :: st) h) := xe_aload_n ec928 dL_law_271
theorem e928_272 {ls st : List Value} {h : x_H} : x_run 928 272 ls st h = q_gi ls 5 (fun v => x_run 928 274 ls (.int v :: st) h) := xe_iload ec928 dL_law_272
theorem e928_274 {ls st : List Value} {h : x_H} : x_run 928 274 ls st h = x_run 928 275 ls (.int (q_i 2) :: st) h := xe_iconst ec928 dL_law_274
theorem e928_275 {ls st : List Value} {h : x_H} {x y : Int32}: x_run 928 275 ls (.int y :: .int x :: st) h = x_run 928 276 ls (.int (x + y) :: st) h := xe_iadd ec928 dL_law_275
theorem e928_276 {ls st : List Value} {h : x_H} {x : Int32} {a : Nat}: x_run 928 276 ls (.int x :: .ref a :: st) h = q_ra h a 0 x (fun v => x_run 928 277 ls (.int v :: st) h) := xe_iaload ec928 dL_law_276
theorem e928_277 {ls st : List Value} {h : x_H} : x_run 928 277 ls st h = q_gr ls 0 (fun v => x_run 928 278 ls (.ref v :: st) h) := xe_aload_n ec928 dL_law_277
theorem e928_278 {ls st : List Value} {h : x_H} : x_run 928 278 ls st h = q_gi ls 5 (fun v => x_run 928 280 ls (.int v :: st) h) := xe_iload ec928 dL_law_278
theorem e928_280 {ls st : List Value} {h : x_H} : x_run 928 280 ls st h = x_run 928 281 ls (.int (q_i 3) :: st) h := xe_iconst ec928 dL_law_280
theorem e928_281 {ls st : List Value} {h : x_H} {x y : Int32}: x_run 928 281 ls (.int y :: .int x :: st) h = x_run 928 282 ls (.int (x + y) :: st) h := xe_iadd ec928 dL_law_281
theorem e928_282 {ls st : List Value} {h : x_H} {x : Int32} {a : Nat}: x_run 928 282 ls (.int x :: .ref a :: st) h = q_ra h a 0 x (fun v => x_run 928 283 ls (.int v :: st) h) := xe_iaload ec928 dL_law_282
theorem e928_283 {ls st : List Value} {h : x_H} : x_run 928 283 ls st h = q_gr ls 3 (fun v => x_run 928 284 ls (.ref v :: st) h) := xe_aload_n ec928 dL_law_283
theorem e928_284 {ls st : List Value} {h : x_H} {a1 a2 a3 a4 a5 : Value}: x_run 928 284 ls (a5 :: a4 :: a3 :: a2 :: a1 :: st) h = if x_wt st ≤ 8 ∧ x_wt [a1, a2, a3, a4, a5] = 5 then q_cl (x_m 901 [a1, a2, a3, a4, a5] h) (fun v h' => x_run 928 287 ls (v.toList ++ st) h') else none := xe_stat (args := [a1, a2, a3, a4, a5]) ec928 dL_law_284 ek9_128 (by decide) rfl (by decide +kernel) (by decide +kernel)
theorem e928_287 {ls st : List Value} {h : x_H} {x : Int32}: x_run 928 287 ls (.int x :: st) h = q_ls ls 6 (.int x) (fun ls' => x_run 928 289 ls' st h) := xe_istore ec928 dL_law_287
theorem e928_289 {ls st : List Value} {h : x_H} : x_run 928 289 ls st h = q_gr ls 2 (fun v => x_run 928 290 ls (.ref v :: st) h) := xe_aload_n ec928 dL_law_289
theorem e928_290 {ls st : List Value} {h : x_H} : x_run 928 290 ls st h = q_gr ls 0 (fun v => x_run 928 291 ls (.ref v :: st) h) := xe_aload_n ec928 dL_law_290
theorem e928_291 {ls st : List Value} {h : x_H} : x_run 928 291 ls st h = q_gi ls 5 (fun v => x_run 928 293 ls (.int v :: st) h) := xe_iload ec928 dL_law_291
theorem e928_293 {ls st : List Value} {h : x_H} : x_run 928 293 ls st h = x_run 928 294 ls (.int (q_i 1) :: st) h := xe_iconst ec928 dL_law_293
theorem e928_294 {ls st : List Value} {h : x_H} {x y : Int32}: x_run 928 294 ls (.int y :: .int x :: st) h = x_run 928 295 ls (.int (x + y) :: st) h := xe_iadd ec928 dL_law_294
theorem e928_295 {ls st : List Value} {h : x_H} {x : Int32} {a : Nat}: x_run 928 295 ls (.int x :: .ref a :: st) h = q_ra h a 0 x (fun v => x_run 928 296 ls (.int v :: st) h) := xe_iaload ec928 dL_law_295
theorem e928_296 {ls st : List Value} {h : x_H} : x_run 928 296 ls st h = q_gr ls 0 (fun v => x_run 928 297 ls (.ref v :: st) h) := xe_aload_n ec928 dL_law_296
theorem e928_297 {ls st : List Value} {h : x_H} : x_run 928 297 ls st h = q_gi ls 5 (fun v => x_run 928 299 ls (.int v :: st) h) := xe_iload ec928 dL_law_297
theorem e928_299 {ls st : List Value} {h : x_H} : x_run 928 299 ls st h = x_run 928 300 ls (.int (q_i 2) :: st) h := xe_iconst ec928 dL_law_299
theorem e928_300 {ls st : List Value} {h : x_H} {x y : Int32}: x_run 928 300 ls (.int y :: .int x :: st) h = x_run 928 301 ls (.int (x + y) :: st) h := xe_iadd ec928 dL_law_300
theorem e928_301 {ls st : List Value} {h : x_H} {x : Int32} {a : Nat}: x_run 928 301 ls (.int x :: .ref a :: st) h = q_ra h a 0 x (fun v => x_run 928 302 ls (.int v :: st) h) := xe_iaload ec928 dL_law_301
theorem e928_302 {ls st : List Value} {h : x_H} : x_run 928 302 ls st h = q_gr ls 0 (fun v => x_run 928 303 ls (.ref v :: st) h) := xe_aload_n ec928 dL_law_302
theorem e928_303 {ls st : List Value} {h : x_H} : x_run 928 303 ls st h = q_gi ls 5 (fun v => x_run 928 305 ls (.int v :: st) h) := xe_iload ec928 dL_law_303
theorem e928_305 {ls st : List Value} {h : x_H} : x_run 928 305 ls st h = x_run 928 306 ls (.int (q_i 3) :: st) h := xe_iconst ec928 dL_law_305
theorem e928_306 {ls st : List Value} {h : x_H} {x y : Int32}: x_run 928 306 ls (.int y :: .int x :: st) h = x_run 928 307 ls (.int (x + y) :: st) h := xe_iadd ec928 dL_law_306
theorem e928_307 {ls st : List Value} {h : x_H} {x : Int32} {a : Nat}: x_run 928 307 ls (.int x :: .ref a :: st) h = q_ra h a 0 x (fun v => x_run 928 308 ls (.int v :: st) h) := xe_iaload ec928 dL_law_307
theorem e928_308 {ls st : List Value} {h : x_H} {b : Nat} {a1 a2 a3 : Value}: x_run 928 308 ls (a3 :: a2 :: a1 :: .ref b :: st) h = if q_rcv h b 10 = true then (if x_wt st ≤ 8 ∧ x_wt [.ref b, a1, a2, a3] = 4 then q_cl (x_m 821 [.ref b, a1, a2, a3] h) (fun v h' => x_run 928 311 ls (v.toList ++ st) h') else none) else none := xe_virt (r := [a1, a2, a3]) ec928 dL_law_308 ek9_131 rfl (by decide +kernel) (by decide +kernel)
theorem e928_311 {ls st : List Value} {h : x_H} {x : Int32}: x_run 928 311 ls (.int x :: st) h = q_ls ls 7 (.int x) (fun ls' => x_run 928 313 ls' st h) := xe_istore ec928 dL_law_311
theorem e928_313 {ls st : List Value} {h : x_H} : x_run 928 313 ls st h = q_gr ls 2 (fun v => x_run 928 314 ls (.ref v :: st) h) := xe_aload_n ec928 dL_law_313
theorem e928_314 {ls st : List Value} {h : x_H} {b : Nat}: x_run 928 314 ls (.ref b :: st) h = if q_rcv h b 10 = true then (if x_wt st ≤ 8 ∧ x_wt [.ref b] = 1 then q_cl (x_m 801 [.ref b] h) (fun v h' => x_run 928 317 ls (v.toList ++ st) h') else none) else none := xe_virt (r := []) ec928 dL_law_314 ek9_125 rfl (by decide +kernel) (by decide +kernel)
theorem e928_317 {ls st : List Value} {h : x_H} : x_run 928 317 ls st h = q_gi ls 6 (fun v => x_run 928 319 ls (.int v :: st) h) := xe_iload ec928 dL_law_317
theorem e928_319 {ls st : List Value} {h : x_H} {x y : Int32}: x_run 928 319 ls (.int y :: .int x :: st) h = if x = y then x_run 928 324 ls st h else x_run 928 322 ls st h := xe_ic_eq ec928 dL_law_319 rfl
theorem e928_322 {ls st : List Value} {h : x_H} : x_run 928 322 ls st h = x_run 928 323 ls (.int (q_i 0) :: st) h := xe_iconst ec928 dL_law_322
theorem e928_323 {ls : List Value} {h : x_H} {x : Int32} : x_run 928 323 ls [.int x] h = if narrow .boolean (.int x) = .int x then some (.inl (some (.int x)), h) else none := xe_ireturn ec928 dL_law_323 rfl
theorem e928_324 {ls st : List Value} {h : x_H} : x_run 928 324 ls st h = q_gi ls 6 (fun v => x_run 928 326 ls (.int v :: st) h) := xe_iload ec928 dL_law_324
theorem e928_326 {ls st : List Value} {h : x_H} {x : Int32}: x_run 928 326 ls (.int x :: st) h = if ¬ x = 0 then x_run 928 341 ls st h else x_run 928 329 ls st h := xe_if_ne ec928 dL_law_326 rfl
theorem e928_329 {ls st : List Value} {h : x_H} : x_run 928 329 ls st h = q_gr ls 3 (fun v => x_run 928 330 ls (.ref v :: st) h) := xe_aload_n ec928 dL_law_329
theorem e928_330 {ls st : List Value} {h : x_H} : x_run 928 330 ls st h = x_run 928 331 ls (.int (q_i 0) :: st) h := xe_iconst ec928 dL_law_330
theorem e928_331 {ls st : List Value} {h : x_H} {x : Int32} {a : Nat}: x_run 928 331 ls (.int x :: .ref a :: st) h = q_rv2 h a 100 x_isL x (fun v => x_run 928 332 ls (v :: st) h) := xe_laload ec928 dL_law_331
theorem e928_332 {ls st : List Value} {h : x_H} : x_run 928 332 ls st h = q_gi ls 7 (fun v => x_run 928 334 ls (.int v :: st) h) := xe_iload ec928 dL_law_332
theorem e928_334 {ls st : List Value} {h : x_H} {x : Int32}: x_run 928 334 ls (.int x :: st) h = x_run 928 335 ls (.long x.toInt64 :: st) h := xe_i2l ec928 dL_law_334
theorem e928_335 {ls st : List Value} {h : x_H} {v w : Int64}: x_run 928 335 ls (.long v :: .long w :: st) h = x_run 928 336 ls (.int (lg_cmp w v) :: st) h := xe_lcmp ec928 dL_law_335
theorem e928_336 {ls st : List Value} {h : x_H} {x : Int32}: x_run 928 336 ls (.int x :: st) h = if x = 0 then x_run 928 341 ls st h else x_run 928 339 ls st h := xe_if_eq ec928 dL_law_336 rfl
theorem e928_339 {ls st : List Value} {h : x_H} : x_run 928 339 ls st h = x_run 928 340 ls (.int (q_i 0) :: st) h := xe_iconst ec928 dL_law_339
theorem e928_340 {ls : List Value} {h : x_H} {x : Int32} : x_run 928 340 ls [.int x] h = if narrow .boolean (.int x) = .int x then some (.inl (some (.int x)), h) else none := xe_ireturn ec928 dL_law_340 rfl
theorem e928_341 {ls st : List Value} {h : x_H} : x_run 928 341 ls st h = x_run 928 2044 ls st h := xe_goto ec928 dL_law_341 rfl
theorem e928_344 {ls st : List Value} {h : x_H} : x_run 928 344 ls st h = q_gr ls 1 (fun v => x_run 928 345 ls (.ref v :: st) h) := xe_aload_n ec928 dL_law_344
theorem e928_345 {ls st : List Value} {h : x_H} : x_run 928 345 ls st h = q_gr ls 0 (fun v => x_run 928 346 ls (.ref v :: st) h) := xe_aload_n ec928 dL_law_345
theorem e928_346 {ls st : List Value} {h : x_H} : x_run 928 346 ls st h = q_gi ls 5 (fun v => x_run 928 348 ls (.int v :: st) h) := xe_iload ec928 dL_law_346
theorem e928_348 {ls st : List Value} {h : x_H} : x_run 928 348 ls st h = x_run 928 349 ls (.int (q_i 1) :: st) h := xe_iconst ec928 dL_law_348
theorem e928_349 {ls st : List Value} {h : x_H} {x y : Int32}: x_run 928 349 ls (.int y :: .int x :: st) h = x_run 928 350 ls (.int (x + y) :: st) h := xe_iadd ec928 dL_law_349
theorem e928_350 {ls st : List Value} {h : x_H} {x : Int32} {a : Nat}: x_run 928 350 ls (.int x :: .ref a :: st) h = q_ra h a 0 x (fun v => x_run 928 351 ls (.int v :: st) h) := xe_iaload ec928 dL_law_350
theorem e928_351 {ls st : List Value} {h : x_H} : x_run 928 351 ls st h = q_gr ls 0 (fun v => x_run 928 352 ls (.ref v :: st) h) := xe_aload_n ec928 dL_law_351
theorem e928_352 {ls st : List Value} {h : x_H} : x_run 928 352 ls st h = q_gi ls 5 (fun v => x_run 928 354 ls (.int v :: st) h) := xe_iload ec928 dL_law_352
theorem e928_354 {ls st : List Value} {h : x_H} : x_run 928 354 ls st h = x_run 928 355 ls (.int (q_i 2) :: st) h := xe_iconst ec928 dL_law_354
theorem e928_355 {ls st : List Value} {h : x_H} {x y : Int32}: x_run 928 355 ls (.int y :: .int x :: st) h = x_run 928 356 ls (.int (x + y) :: st) h := xe_iadd ec928 dL_law_355
theorem e928_356 {ls st : List Value} {h : x_H} {x : Int32} {a : Nat}: x_run 928 356 ls (.int x :: .ref a :: st) h = q_ra h a 0 x (fun v => x_run 928 357 ls (.int v :: st) h) := xe_iaload ec928 dL_law_356
theorem e928_357 {ls st : List Value} {h : x_H} : x_run 928 357 ls st h = q_gr ls 0 (fun v => x_run 928 358 ls (.ref v :: st) h) := xe_aload_n ec928 dL_law_357
theorem e928_358 {ls st : List Value} {h : x_H} : x_run 928 358 ls st h = q_gi ls 5 (fun v => x_run 928 360 ls (.int v :: st) h) := xe_iload ec928 dL_law_358
theorem e928_360 {ls st : List Value} {h : x_H} : x_run 928 360 ls st h = x_run 928 361 ls (.int (q_i 3) :: st) h := xe_iconst ec928 dL_law_360
theorem e928_361 {ls st : List Value} {h : x_H} {x y : Int32}: x_run 928 361 ls (.int y :: .int x :: st) h = x_run 928 362 ls (.int (x + y) :: st) h := xe_iadd ec928 dL_law_361
theorem e928_362 {ls st : List Value} {h : x_H} {x : Int32} {a : Nat}: x_run 928 362 ls (.int x :: .ref a :: st) h = q_ra h a 0 x (fun v => x_run 928 363 ls (.int v :: st) h) := xe_iaload ec928 dL_law_362
theorem e928_363 {ls st : List Value} {h : x_H} : x_run 928 363 ls st h = q_gr ls 3 (fun v => x_run 928 364 ls (.ref v :: st) h) := xe_aload_n ec928 dL_law_363
theorem e928_364 {ls st : List Value} {h : x_H} {a1 a2 a3 a4 a5 : Value}: x_run 928 364 ls (a5 :: a4 :: a3 :: a2 :: a1 :: st) h = if x_wt st ≤ 8 ∧ x_wt [a1, a2, a3, a4, a5] = 5 then q_cl (x_m 902 [a1, a2, a3, a4, a5] h) (fun v h' => x_run 928 367 ls (v.toList ++ st) h') else none := xe_stat (args := [a1, a2, a3, a4, a5]) ec928 dL_law_364 ek9_132 (by decide) rfl (by decide +kernel) (by decide +kernel)
theorem e928_367 {ls st : List Value} {h : x_H} {x : Int32}: x_run 928 367 ls (.int x :: st) h = q_ls ls 6 (.int x) (fun ls' => x_run 928 369 ls' st h) := xe_istore ec928 dL_law_367
theorem e928_369 {ls st : List Value} {h : x_H} : x_run 928 369 ls st h = q_gr ls 2 (fun v => x_run 928 370 ls (.ref v :: st) h) := xe_aload_n ec928 dL_law_369
theorem e928_370 {ls st : List Value} {h : x_H} : x_run 928 370 ls st h = q_gr ls 0 (fun v => x_run 928 371 ls (.ref v :: st) h) := xe_aload_n ec928 dL_law_370
theorem e928_371 {ls st : List Value} {h : x_H} : x_run 928 371 ls st h = q_gi ls 5 (fun v => x_run 928 373 ls (.int v :: st) h) := xe_iload ec928 dL_law_371
theorem e928_373 {ls st : List Value} {h : x_H} : x_run 928 373 ls st h = x_run 928 374 ls (.int (q_i 1) :: st) h := xe_iconst ec928 dL_law_373
theorem e928_374 {ls st : List Value} {h : x_H} {x y : Int32}: x_run 928 374 ls (.int y :: .int x :: st) h = x_run 928 375 ls (.int (x + y) :: st) h := xe_iadd ec928 dL_law_374
theorem e928_375 {ls st : List Value} {h : x_H} {x : Int32} {a : Nat}: x_run 928 375 ls (.int x :: .ref a :: st) h = q_ra h a 0 x (fun v => x_run 928 376 ls (.int v :: st) h) := xe_iaload ec928 dL_law_375
theorem e928_376 {ls st : List Value} {h : x_H} : x_run 928 376 ls st h = q_gr ls 0 (fun v => x_run 928 377 ls (.ref v :: st) h) := xe_aload_n ec928 dL_law_376
theorem e928_377 {ls st : List Value} {h : x_H} : x_run 928 377 ls st h = q_gi ls 5 (fun v => x_run 928 379 ls (.int v :: st) h) := xe_iload ec928 dL_law_377
theorem e928_379 {ls st : List Value} {h : x_H} : x_run 928 379 ls st h = x_run 928 380 ls (.int (q_i 2) :: st) h := xe_iconst ec928 dL_law_379
theorem e928_380 {ls st : List Value} {h : x_H} {x y : Int32}: x_run 928 380 ls (.int y :: .int x :: st) h = x_run 928 381 ls (.int (x + y) :: st) h := xe_iadd ec928 dL_law_380
theorem e928_381 {ls st : List Value} {h : x_H} {x : Int32} {a : Nat}: x_run 928 381 ls (.int x :: .ref a :: st) h = q_ra h a 0 x (fun v => x_run 928 382 ls (.int v :: st) h) := xe_iaload ec928 dL_law_381
theorem e928_382 {ls st : List Value} {h : x_H} : x_run 928 382 ls st h = q_gr ls 0 (fun v => x_run 928 383 ls (.ref v :: st) h) := xe_aload_n ec928 dL_law_382
theorem e928_383 {ls st : List Value} {h : x_H} : x_run 928 383 ls st h = q_gi ls 5 (fun v => x_run 928 385 ls (.int v :: st) h) := xe_iload ec928 dL_law_383
theorem e928_385 {ls st : List Value} {h : x_H} : x_run 928 385 ls st h = x_run 928 386 ls (.int (q_i 3) :: st) h := xe_iconst ec928 dL_law_385
theorem e928_386 {ls st : List Value} {h : x_H} {x y : Int32}: x_run 928 386 ls (.int y :: .int x :: st) h = x_run 928 387 ls (.int (x + y) :: st) h := xe_iadd ec928 dL_law_386
theorem e928_387 {ls st : List Value} {h : x_H} {x : Int32} {a : Nat}: x_run 928 387 ls (.int x :: .ref a :: st) h = q_ra h a 0 x (fun v => x_run 928 388 ls (.int v :: st) h) := xe_iaload ec928 dL_law_387
theorem e928_388 {ls st : List Value} {h : x_H} {b : Nat} {a1 a2 a3 : Value}: x_run 928 388 ls (a3 :: a2 :: a1 :: .ref b :: st) h = if q_rcv h b 10 = true then (if x_wt st ≤ 8 ∧ x_wt [.ref b, a1, a2, a3] = 4 then q_cl (x_m 823 [.ref b, a1, a2, a3] h) (fun v h' => x_run 928 391 ls (v.toList ++ st) h') else none) else none := xe_virt (r := [a1, a2, a3]) ec928 dL_law_388 ek9_134 rfl (by decide +kernel) (by decide +kernel)
theorem e928_391 {ls st : List Value} {h : x_H} {x : Int32}: x_run 928 391 ls (.int x :: st) h = q_ls ls 7 (.int x) (fun ls' => x_run 928 393 ls' st h) := xe_istore ec928 dL_law_391
theorem e928_393 {ls st : List Value} {h : x_H} : x_run 928 393 ls st h = q_gr ls 2 (fun v => x_run 928 394 ls (.ref v :: st) h) := xe_aload_n ec928 dL_law_393
theorem e928_394 {ls st : List Value} {h : x_H} {b : Nat}: x_run 928 394 ls (.ref b :: st) h = if q_rcv h b 10 = true then (if x_wt st ≤ 8 ∧ x_wt [.ref b] = 1 then q_cl (x_m 801 [.ref b] h) (fun v h' => x_run 928 397 ls (v.toList ++ st) h') else none) else none := xe_virt (r := []) ec928 dL_law_394 ek9_125 rfl (by decide +kernel) (by decide +kernel)
theorem e928_397 {ls st : List Value} {h : x_H} : x_run 928 397 ls st h = q_gi ls 6 (fun v => x_run 928 399 ls (.int v :: st) h) := xe_iload ec928 dL_law_397
theorem e928_399 {ls st : List Value} {h : x_H} {x y : Int32}: x_run 928 399 ls (.int y :: .int x :: st) h = if x = y then x_run 928 404 ls st h else x_run 928 402 ls st h := xe_ic_eq ec928 dL_law_399 rfl
theorem e928_402 {ls st : List Value} {h : x_H} : x_run 928 402 ls st h = x_run 928 403 ls (.int (q_i 0) :: st) h := xe_iconst ec928 dL_law_402
theorem e928_403 {ls : List Value} {h : x_H} {x : Int32} : x_run 928 403 ls [.int x] h = if narrow .boolean (.int x) = .int x then some (.inl (some (.int x)), h) else none := xe_ireturn ec928 dL_law_403 rfl
theorem e928_404 {ls st : List Value} {h : x_H} : x_run 928 404 ls st h = q_gi ls 6 (fun v => x_run 928 406 ls (.int v :: st) h) := xe_iload ec928 dL_law_404
theorem e928_406 {ls st : List Value} {h : x_H} {x : Int32}: x_run 928 406 ls (.int x :: st) h = if ¬ x = 0 then x_run 928 421 ls st h else x_run 928 409 ls st h := xe_if_ne ec928 dL_law_406 rfl
theorem e928_409 {ls st : List Value} {h : x_H} : x_run 928 409 ls st h = q_gr ls 3 (fun v => x_run 928 410 ls (.ref v :: st) h) := xe_aload_n ec928 dL_law_409
theorem e928_410 {ls st : List Value} {h : x_H} : x_run 928 410 ls st h = x_run 928 411 ls (.int (q_i 0) :: st) h := xe_iconst ec928 dL_law_410
theorem e928_411 {ls st : List Value} {h : x_H} {x : Int32} {a : Nat}: x_run 928 411 ls (.int x :: .ref a :: st) h = q_rv2 h a 100 x_isL x (fun v => x_run 928 412 ls (v :: st) h) := xe_laload ec928 dL_law_411
theorem e928_412 {ls st : List Value} {h : x_H} : x_run 928 412 ls st h = q_gi ls 7 (fun v => x_run 928 414 ls (.int v :: st) h) := xe_iload ec928 dL_law_412
theorem e928_414 {ls st : List Value} {h : x_H} {x : Int32}: x_run 928 414 ls (.int x :: st) h = x_run 928 415 ls (.long x.toInt64 :: st) h := xe_i2l ec928 dL_law_414
theorem e928_415 {ls st : List Value} {h : x_H} {v w : Int64}: x_run 928 415 ls (.long v :: .long w :: st) h = x_run 928 416 ls (.int (lg_cmp w v) :: st) h := xe_lcmp ec928 dL_law_415
theorem e928_416 {ls st : List Value} {h : x_H} {x : Int32}: x_run 928 416 ls (.int x :: st) h = if x = 0 then x_run 928 421 ls st h else x_run 928 419 ls st h := xe_if_eq ec928 dL_law_416 rfl
theorem e928_419 {ls st : List Value} {h : x_H} : x_run 928 419 ls st h = x_run 928 420 ls (.int (q_i 0) :: st) h := xe_iconst ec928 dL_law_419
theorem e928_420 {ls : List Value} {h : x_H} {x : Int32} : x_run 928 420 ls [.int x] h = if narrow .boolean (.int x) = .int x then some (.inl (some (.int x)), h) else none := xe_ireturn ec928 dL_law_420 rfl
theorem e928_421 {ls st : List Value} {h : x_H} : x_run 928 421 ls st h = x_run 928 2044 ls st h := xe_goto ec928 dL_law_421 rfl
theorem e928_424 {ls st : List Value} {h : x_H} : x_run 928 424 ls st h = q_gr ls 1 (fun v => x_run 928 425 ls (.ref v :: st) h) := xe_aload_n ec928 dL_law_424
theorem e928_425 {ls st : List Value} {h : x_H} : x_run 928 425 ls st h = q_gr ls 0 (fun v => x_run 928 426 ls (.ref v :: st) h) := xe_aload_n ec928 dL_law_425
theorem e928_426 {ls st : List Value} {h : x_H} : x_run 928 426 ls st h = q_gi ls 5 (fun v => x_run 928 428 ls (.int v :: st) h) := xe_iload ec928 dL_law_426
theorem e928_428 {ls st : List Value} {h : x_H} : x_run 928 428 ls st h = x_run 928 429 ls (.int (q_i 1) :: st) h := xe_iconst ec928 dL_law_428
theorem e928_429 {ls st : List Value} {h : x_H} {x y : Int32}: x_run 928 429 ls (.int y :: .int x :: st) h = x_run 928 430 ls (.int (x + y) :: st) h := xe_iadd ec928 dL_law_429
theorem e928_430 {ls st : List Value} {h : x_H} {x : Int32} {a : Nat}: x_run 928 430 ls (.int x :: .ref a :: st) h = q_ra h a 0 x (fun v => x_run 928 431 ls (.int v :: st) h) := xe_iaload ec928 dL_law_430
theorem e928_431 {ls st : List Value} {h : x_H} : x_run 928 431 ls st h = q_gr ls 0 (fun v => x_run 928 432 ls (.ref v :: st) h) := xe_aload_n ec928 dL_law_431
theorem e928_432 {ls st : List Value} {h : x_H} : x_run 928 432 ls st h = q_gi ls 5 (fun v => x_run 928 434 ls (.int v :: st) h) := xe_iload ec928 dL_law_432
theorem e928_434 {ls st : List Value} {h : x_H} : x_run 928 434 ls st h = x_run 928 435 ls (.int (q_i 2) :: st) h := xe_iconst ec928 dL_law_434
theorem e928_435 {ls st : List Value} {h : x_H} {x y : Int32}: x_run 928 435 ls (.int y :: .int x :: st) h = x_run 928 436 ls (.int (x + y) :: st) h := xe_iadd ec928 dL_law_435
theorem e928_436 {ls st : List Value} {h : x_H} {x : Int32} {a : Nat}: x_run 928 436 ls (.int x :: .ref a :: st) h = q_ra h a 0 x (fun v => x_run 928 437 ls (.int v :: st) h) := xe_iaload ec928 dL_law_436
theorem e928_437 {ls st : List Value} {h : x_H} : x_run 928 437 ls st h = q_gr ls 0 (fun v => x_run 928 438 ls (.ref v :: st) h) := xe_aload_n ec928 dL_law_437
theorem e928_438 {ls st : List Value} {h : x_H} : x_run 928 438 ls st h = q_gi ls 5 (fun v => x_run 928 440 ls (.int v :: st) h) := xe_iload ec928 dL_law_438
theorem e928_440 {ls st : List Value} {h : x_H} : x_run 928 440 ls st h = x_run 928 441 ls (.int (q_i 3) :: st) h := xe_iconst ec928 dL_law_440
theorem e928_441 {ls st : List Value} {h : x_H} {x y : Int32}: x_run 928 441 ls (.int y :: .int x :: st) h = x_run 928 442 ls (.int (x + y) :: st) h := xe_iadd ec928 dL_law_441
theorem e928_442 {ls st : List Value} {h : x_H} {x : Int32} {a : Nat}: x_run 928 442 ls (.int x :: .ref a :: st) h = q_ra h a 0 x (fun v => x_run 928 443 ls (.int v :: st) h) := xe_iaload ec928 dL_law_442
theorem e928_443 {ls st : List Value} {h : x_H} : x_run 928 443 ls st h = q_gr ls 3 (fun v => x_run 928 444 ls (.ref v :: st) h) := xe_aload_n ec928 dL_law_443
theorem e928_444 {ls st : List Value} {h : x_H} {a1 a2 a3 a4 a5 : Value}: x_run 928 444 ls (a5 :: a4 :: a3 :: a2 :: a1 :: st) h = if x_wt st ≤ 8 ∧ x_wt [a1, a2, a3, a4, a5] = 5 then q_cl (x_m 903 [a1, a2, a3, a4, a5] h) (fun v h' => x_run 928 447 ls (v.toList ++ st) h') else none := xe_stat (args := [a1, a2, a3, a4, a5]) ec928 dL_law_444 ek9_135 (by decide) rfl (by decide +kernel) (by decide +kernel)
theorem e928_447 {ls st : List Value} {h : x_H} {x : Int32}: x_run 928 447 ls (.int x :: st) h = q_ls ls 6 (.int x) (fun ls' => x_run 928 449 ls' st h) := xe_istore ec928 dL_law_447
theorem e928_449 {ls st : List Value} {h : x_H} : x_run 928 449 ls st h = q_gr ls 2 (fun v => x_run 928 450 ls (.ref v :: st) h) := xe_aload_n ec928 dL_law_449
theorem e928_450 {ls st : List Value} {h : x_H} : x_run 928 450 ls st h = q_gr ls 0 (fun v => x_run 928 451 ls (.ref v :: st) h) := xe_aload_n ec928 dL_law_450
theorem e928_451 {ls st : List Value} {h : x_H} : x_run 928 451 ls st h = q_gi ls 5 (fun v => x_run 928 453 ls (.int v :: st) h) := xe_iload ec928 dL_law_451
theorem e928_453 {ls st : List Value} {h : x_H} : x_run 928 453 ls st h = x_run 928 454 ls (.int (q_i 1) :: st) h := xe_iconst ec928 dL_law_453
theorem e928_454 {ls st : List Value} {h : x_H} {x y : Int32}: x_run 928 454 ls (.int y :: .int x :: st) h = x_run 928 455 ls (.int (x + y) :: st) h := xe_iadd ec928 dL_law_454
theorem e928_455 {ls st : List Value} {h : x_H} {x : Int32} {a : Nat}: x_run 928 455 ls (.int x :: .ref a :: st) h = q_ra h a 0 x (fun v => x_run 928 456 ls (.int v :: st) h) := xe_iaload ec928 dL_law_455
theorem e928_456 {ls st : List Value} {h : x_H} : x_run 928 456 ls st h = q_gr ls 0 (fun v => x_run 928 457 ls (.ref v :: st) h) := xe_aload_n ec928 dL_law_456
theorem e928_457 {ls st : List Value} {h : x_H} : x_run 928 457 ls st h = q_gi ls 5 (fun v => x_run 928 459 ls (.int v :: st) h) := xe_iload ec928 dL_law_457
theorem e928_459 {ls st : List Value} {h : x_H} : x_run 928 459 ls st h = x_run 928 460 ls (.int (q_i 2) :: st) h := xe_iconst ec928 dL_law_459
theorem e928_460 {ls st : List Value} {h : x_H} {x y : Int32}: x_run 928 460 ls (.int y :: .int x :: st) h = x_run 928 461 ls (.int (x + y) :: st) h := xe_iadd ec928 dL_law_460
theorem e928_461 {ls st : List Value} {h : x_H} {x : Int32} {a : Nat}: x_run 928 461 ls (.int x :: .ref a :: st) h = q_ra h a 0 x (fun v => x_run 928 462 ls (.int v :: st) h) := xe_iaload ec928 dL_law_461
theorem e928_462 {ls st : List Value} {h : x_H} : x_run 928 462 ls st h = q_gr ls 0 (fun v => x_run 928 463 ls (.ref v :: st) h) := xe_aload_n ec928 dL_law_462
theorem e928_463 {ls st : List Value} {h : x_H} : x_run 928 463 ls st h = q_gi ls 5 (fun v => x_run 928 465 ls (.int v :: st) h) := xe_iload ec928 dL_law_463
theorem e928_465 {ls st : List Value} {h : x_H} : x_run 928 465 ls st h = x_run 928 466 ls (.int (q_i 3) :: st) h := xe_iconst ec928 dL_law_465
theorem e928_466 {ls st : List Value} {h : x_H} {x y : Int32}: x_run 928 466 ls (.int y :: .int x :: st) h = x_run 928 467 ls (.int (x + y) :: st) h := xe_iadd ec928 dL_law_466
theorem e928_467 {ls st : List Value} {h : x_H} {x : Int32} {a : Nat}: x_run 928 467 ls (.int x :: .ref a :: st) h = q_ra h a 0 x (fun v => x_run 928 468 ls (.int v :: st) h) := xe_iaload ec928 dL_law_467
theorem e928_468 {ls st : List Value} {h : x_H} {b : Nat} {a1 a2 a3 : Value}: x_run 928 468 ls (a3 :: a2 :: a1 :: .ref b :: st) h = if q_rcv h b 10 = true then (if x_wt st ≤ 8 ∧ x_wt [.ref b, a1, a2, a3] = 4 then q_cl (x_m 824 [.ref b, a1, a2, a3] h) (fun v h' => x_run 928 471 ls (v.toList ++ st) h') else none) else none := xe_virt (r := [a1, a2, a3]) ec928 dL_law_468 ek9_137 rfl (by decide +kernel) (by decide +kernel)
theorem e928_471 {ls st : List Value} {h : x_H} {x : Int32}: x_run 928 471 ls (.int x :: st) h = q_ls ls 7 (.int x) (fun ls' => x_run 928 473 ls' st h) := xe_istore ec928 dL_law_471
theorem e928_473 {ls st : List Value} {h : x_H} : x_run 928 473 ls st h = q_gr ls 2 (fun v => x_run 928 474 ls (.ref v :: st) h) := xe_aload_n ec928 dL_law_473
theorem e928_474 {ls st : List Value} {h : x_H} {b : Nat}: x_run 928 474 ls (.ref b :: st) h = if q_rcv h b 10 = true then (if x_wt st ≤ 8 ∧ x_wt [.ref b] = 1 then q_cl (x_m 801 [.ref b] h) (fun v h' => x_run 928 477 ls (v.toList ++ st) h') else none) else none := xe_virt (r := []) ec928 dL_law_474 ek9_125 rfl (by decide +kernel) (by decide +kernel)
theorem e928_477 {ls st : List Value} {h : x_H} : x_run 928 477 ls st h = q_gi ls 6 (fun v => x_run 928 479 ls (.int v :: st) h) := xe_iload ec928 dL_law_477
theorem e928_479 {ls st : List Value} {h : x_H} {x y : Int32}: x_run 928 479 ls (.int y :: .int x :: st) h = if x = y then x_run 928 484 ls st h else x_run 928 482 ls st h := xe_ic_eq ec928 dL_law_479 rfl
theorem e928_482 {ls st : List Value} {h : x_H} : x_run 928 482 ls st h = x_run 928 483 ls (.int (q_i 0) :: st) h := xe_iconst ec928 dL_law_482
theorem e928_483 {ls : List Value} {h : x_H} {x : Int32} : x_run 928 483 ls [.int x] h = if narrow .boolean (.int x) = .int x then some (.inl (some (.int x)), h) else none := xe_ireturn ec928 dL_law_483 rfl
theorem e928_484 {ls st : List Value} {h : x_H} : x_run 928 484 ls st h = q_gi ls 6 (fun v => x_run 928 486 ls (.int v :: st) h) := xe_iload ec928 dL_law_484
theorem e928_486 {ls st : List Value} {h : x_H} {x : Int32}: x_run 928 486 ls (.int x :: st) h = if ¬ x = 0 then x_run 928 501 ls st h else x_run 928 489 ls st h := xe_if_ne ec928 dL_law_486 rfl
theorem e928_489 {ls st : List Value} {h : x_H} : x_run 928 489 ls st h = q_gr ls 3 (fun v => x_run 928 490 ls (.ref v :: st) h) := xe_aload_n ec928 dL_law_489
theorem e928_490 {ls st : List Value} {h : x_H} : x_run 928 490 ls st h = x_run 928 491 ls (.int (q_i 0) :: st) h := xe_iconst ec928 dL_law_490
theorem e928_491 {ls st : List Value} {h : x_H} {x : Int32} {a : Nat}: x_run 928 491 ls (.int x :: .ref a :: st) h = q_rv2 h a 100 x_isL x (fun v => x_run 928 492 ls (v :: st) h) := xe_laload ec928 dL_law_491
theorem e928_492 {ls st : List Value} {h : x_H} : x_run 928 492 ls st h = q_gi ls 7 (fun v => x_run 928 494 ls (.int v :: st) h) := xe_iload ec928 dL_law_492
theorem e928_494 {ls st : List Value} {h : x_H} {x : Int32}: x_run 928 494 ls (.int x :: st) h = x_run 928 495 ls (.long x.toInt64 :: st) h := xe_i2l ec928 dL_law_494
theorem e928_495 {ls st : List Value} {h : x_H} {v w : Int64}: x_run 928 495 ls (.long v :: .long w :: st) h = x_run 928 496 ls (.int (lg_cmp w v) :: st) h := xe_lcmp ec928 dL_law_495
theorem e928_496 {ls st : List Value} {h : x_H} {x : Int32}: x_run 928 496 ls (.int x :: st) h = if x = 0 then x_run 928 501 ls st h else x_run 928 499 ls st h := xe_if_eq ec928 dL_law_496 rfl
theorem e928_499 {ls st : List Value} {h : x_H} : x_run 928 499 ls st h = x_run 928 500 ls (.int (q_i 0) :: st) h := xe_iconst ec928 dL_law_499
theorem e928_500 {ls : List Value} {h : x_H} {x : Int32} : x_run 928 500 ls [.int x] h = if narrow .boolean (.int x) = .int x then some (.inl (some (.int x)), h) else none := xe_ireturn ec928 dL_law_500 rfl
theorem e928_501 {ls st : List Value} {h : x_H} : x_run 928 501 ls st h = x_run 928 2044 ls st h := xe_goto ec928 dL_law_501 rfl
theorem e928_504 {ls st : List Value} {h : x_H} : x_run 928 504 ls st h = q_gr ls 1 (fun v => x_run 928 505 ls (.ref v :: st) h) := xe_aload_n ec928 dL_law_504
theorem e928_505 {ls st : List Value} {h : x_H} : x_run 928 505 ls st h = q_gr ls 0 (fun v => x_run 928 506 ls (.ref v :: st) h) := xe_aload_n ec928 dL_law_505
theorem e928_506 {ls st : List Value} {h : x_H} : x_run 928 506 ls st h = q_gi ls 5 (fun v => x_run 928 508 ls (.int v :: st) h) := xe_iload ec928 dL_law_506
theorem e928_508 {ls st : List Value} {h : x_H} : x_run 928 508 ls st h = x_run 928 509 ls (.int (q_i 1) :: st) h := xe_iconst ec928 dL_law_508
theorem e928_509 {ls st : List Value} {h : x_H} {x y : Int32}: x_run 928 509 ls (.int y :: .int x :: st) h = x_run 928 510 ls (.int (x + y) :: st) h := xe_iadd ec928 dL_law_509
theorem e928_510 {ls st : List Value} {h : x_H} {x : Int32} {a : Nat}: x_run 928 510 ls (.int x :: .ref a :: st) h = q_ra h a 0 x (fun v => x_run 928 511 ls (.int v :: st) h) := xe_iaload ec928 dL_law_510
theorem e928_511 {ls st : List Value} {h : x_H} : x_run 928 511 ls st h = q_gr ls 3 (fun v => x_run 928 512 ls (.ref v :: st) h) := xe_aload_n ec928 dL_law_511
theorem e928_512 {ls st : List Value} {h : x_H} {a1 a2 a3 : Value}: x_run 928 512 ls (a3 :: a2 :: a1 :: st) h = if x_wt st ≤ 8 ∧ x_wt [a1, a2, a3] = 3 then q_cl (x_m 904 [a1, a2, a3] h) (fun v h' => x_run 928 515 ls (v.toList ++ st) h') else none := xe_stat (args := [a1, a2, a3]) ec928 dL_law_512 ek9_138 (by decide) rfl (by decide +kernel) (by decide +kernel)
theorem e928_515 {ls st : List Value} {h : x_H} {x : Int32}: x_run 928 515 ls (.int x :: st) h = q_ls ls 6 (.int x) (fun ls' => x_run 928 517 ls' st h) := xe_istore ec928 dL_law_515
theorem e928_517 {ls st : List Value} {h : x_H} : x_run 928 517 ls st h = q_gr ls 2 (fun v => x_run 928 518 ls (.ref v :: st) h) := xe_aload_n ec928 dL_law_517
theorem e928_518 {ls st : List Value} {h : x_H} : x_run 928 518 ls st h = q_gr ls 0 (fun v => x_run 928 519 ls (.ref v :: st) h) := xe_aload_n ec928 dL_law_518
theorem e928_519 {ls st : List Value} {h : x_H} : x_run 928 519 ls st h = q_gi ls 5 (fun v => x_run 928 521 ls (.int v :: st) h) := xe_iload ec928 dL_law_519
theorem e928_521 {ls st : List Value} {h : x_H} : x_run 928 521 ls st h = x_run 928 522 ls (.int (q_i 1) :: st) h := xe_iconst ec928 dL_law_521
theorem e928_522 {ls st : List Value} {h : x_H} {x y : Int32}: x_run 928 522 ls (.int y :: .int x :: st) h = x_run 928 523 ls (.int (x + y) :: st) h := xe_iadd ec928 dL_law_522
theorem e928_523 {ls st : List Value} {h : x_H} {x : Int32} {a : Nat}: x_run 928 523 ls (.int x :: .ref a :: st) h = q_ra h a 0 x (fun v => x_run 928 524 ls (.int v :: st) h) := xe_iaload ec928 dL_law_523
theorem e928_524 {ls st : List Value} {h : x_H} {b : Nat} {a1 : Value}: x_run 928 524 ls (a1 :: .ref b :: st) h = if q_rcv h b 10 = true then (if x_wt st ≤ 8 ∧ x_wt [.ref b, a1] = 2 then q_cl (x_m 840 [.ref b, a1] h) (fun v h' => x_run 928 527 ls (v.toList ++ st) h') else none) else none := xe_virt (r := [a1]) ec928 dL_law_524 ek9_141 rfl (by decide +kernel) (by decide +kernel)
theorem e928_527 {ls st : List Value} {h : x_H} {x : Int32}: x_run 928 527 ls (.int x :: st) h = q_ls ls 7 (.int x) (fun ls' => x_run 928 529 ls' st h) := xe_istore ec928 dL_law_527
theorem e928_529 {ls st : List Value} {h : x_H} : x_run 928 529 ls st h = q_gr ls 2 (fun v => x_run 928 530 ls (.ref v :: st) h) := xe_aload_n ec928 dL_law_529
theorem e928_530 {ls st : List Value} {h : x_H} {b : Nat}: x_run 928 530 ls (.ref b :: st) h = if q_rcv h b 10 = true then (if x_wt st ≤ 8 ∧ x_wt [.ref b] = 1 then q_cl (x_m 801 [.ref b] h) (fun v h' => x_run 928 533 ls (v.toList ++ st) h') else none) else none := xe_virt (r := []) ec928 dL_law_530 ek9_125 rfl (by decide +kernel) (by decide +kernel)
theorem e928_533 {ls st : List Value} {h : x_H} : x_run 928 533 ls st h = q_gi ls 6 (fun v => x_run 928 535 ls (.int v :: st) h) := xe_iload ec928 dL_law_533
theorem e928_535 {ls st : List Value} {h : x_H} {x y : Int32}: x_run 928 535 ls (.int y :: .int x :: st) h = if x = y then x_run 928 540 ls st h else x_run 928 538 ls st h := xe_ic_eq ec928 dL_law_535 rfl
theorem e928_538 {ls st : List Value} {h : x_H} : x_run 928 538 ls st h = x_run 928 539 ls (.int (q_i 0) :: st) h := xe_iconst ec928 dL_law_538
theorem e928_539 {ls : List Value} {h : x_H} {x : Int32} : x_run 928 539 ls [.int x] h = if narrow .boolean (.int x) = .int x then some (.inl (some (.int x)), h) else none := xe_ireturn ec928 dL_law_539 rfl
theorem e928_540 {ls st : List Value} {h : x_H} : x_run 928 540 ls st h = q_gi ls 6 (fun v => x_run 928 542 ls (.int v :: st) h) := xe_iload ec928 dL_law_540
theorem e928_542 {ls st : List Value} {h : x_H} {x : Int32}: x_run 928 542 ls (.int x :: st) h = if ¬ x = 0 then x_run 928 557 ls st h else x_run 928 545 ls st h := xe_if_ne ec928 dL_law_542 rfl
theorem e928_545 {ls st : List Value} {h : x_H} : x_run 928 545 ls st h = q_gr ls 3 (fun v => x_run 928 546 ls (.ref v :: st) h) := xe_aload_n ec928 dL_law_545
theorem e928_546 {ls st : List Value} {h : x_H} : x_run 928 546 ls st h = x_run 928 547 ls (.int (q_i 0) :: st) h := xe_iconst ec928 dL_law_546
theorem e928_547 {ls st : List Value} {h : x_H} {x : Int32} {a : Nat}: x_run 928 547 ls (.int x :: .ref a :: st) h = q_rv2 h a 100 x_isL x (fun v => x_run 928 548 ls (v :: st) h) := xe_laload ec928 dL_law_547
theorem e928_548 {ls st : List Value} {h : x_H} : x_run 928 548 ls st h = q_gi ls 7 (fun v => x_run 928 550 ls (.int v :: st) h) := xe_iload ec928 dL_law_548
theorem e928_550 {ls st : List Value} {h : x_H} {x : Int32}: x_run 928 550 ls (.int x :: st) h = x_run 928 551 ls (.long x.toInt64 :: st) h := xe_i2l ec928 dL_law_550
theorem e928_551 {ls st : List Value} {h : x_H} {v w : Int64}: x_run 928 551 ls (.long v :: .long w :: st) h = x_run 928 552 ls (.int (lg_cmp w v) :: st) h := xe_lcmp ec928 dL_law_551
theorem e928_552 {ls st : List Value} {h : x_H} {x : Int32}: x_run 928 552 ls (.int x :: st) h = if x = 0 then x_run 928 557 ls st h else x_run 928 555 ls st h := xe_if_eq ec928 dL_law_552 rfl
theorem e928_555 {ls st : List Value} {h : x_H} : x_run 928 555 ls st h = x_run 928 556 ls (.int (q_i 0) :: st) h := xe_iconst ec928 dL_law_555
theorem e928_556 {ls : List Value} {h : x_H} {x : Int32} : x_run 928 556 ls [.int x] h = if narrow .boolean (.int x) = .int x then some (.inl (some (.int x)), h) else none := xe_ireturn ec928 dL_law_556 rfl
theorem e928_557 {ls st : List Value} {h : x_H} : x_run 928 557 ls st h = x_run 928 2044 ls st h := xe_goto ec928 dL_law_557 rfl
theorem e928_560 {ls st : List Value} {h : x_H} : x_run 928 560 ls st h = q_gr ls 1 (fun v => x_run 928 561 ls (.ref v :: st) h) := xe_aload_n ec928 dL_law_560
theorem e928_561 {ls st : List Value} {h : x_H} : x_run 928 561 ls st h = q_gr ls 0 (fun v => x_run 928 562 ls (.ref v :: st) h) := xe_aload_n ec928 dL_law_561
theorem e928_562 {ls st : List Value} {h : x_H} : x_run 928 562 ls st h = q_gi ls 5 (fun v => x_run 928 564 ls (.int v :: st) h) := xe_iload ec928 dL_law_562
theorem e928_564 {ls st : List Value} {h : x_H} : x_run 928 564 ls st h = x_run 928 565 ls (.int (q_i 1) :: st) h := xe_iconst ec928 dL_law_564
theorem e928_565 {ls st : List Value} {h : x_H} {x y : Int32}: x_run 928 565 ls (.int y :: .int x :: st) h = x_run 928 566 ls (.int (x + y) :: st) h := xe_iadd ec928 dL_law_565
theorem e928_566 {ls st : List Value} {h : x_H} {x : Int32} {a : Nat}: x_run 928 566 ls (.int x :: .ref a :: st) h = q_ra h a 0 x (fun v => x_run 928 567 ls (.int v :: st) h) := xe_iaload ec928 dL_law_566
theorem e928_567 {ls st : List Value} {h : x_H} : x_run 928 567 ls st h = q_gr ls 3 (fun v => x_run 928 568 ls (.ref v :: st) h) := xe_aload_n ec928 dL_law_567
theorem e928_568 {ls st : List Value} {h : x_H} {a1 a2 a3 : Value}: x_run 928 568 ls (a3 :: a2 :: a1 :: st) h = if x_wt st ≤ 8 ∧ x_wt [a1, a2, a3] = 3 then q_cl (x_m 905 [a1, a2, a3] h) (fun v h' => x_run 928 571 ls (v.toList ++ st) h') else none := xe_stat (args := [a1, a2, a3]) ec928 dL_law_568 ek9_142 (by decide) rfl (by decide +kernel) (by decide +kernel)
theorem e928_571 {ls st : List Value} {h : x_H} {x : Int32}: x_run 928 571 ls (.int x :: st) h = q_ls ls 6 (.int x) (fun ls' => x_run 928 573 ls' st h) := xe_istore ec928 dL_law_571
theorem e928_573 {ls st : List Value} {h : x_H} : x_run 928 573 ls st h = q_gr ls 2 (fun v => x_run 928 574 ls (.ref v :: st) h) := xe_aload_n ec928 dL_law_573
theorem e928_574 {ls st : List Value} {h : x_H} : x_run 928 574 ls st h = q_gr ls 0 (fun v => x_run 928 575 ls (.ref v :: st) h) := xe_aload_n ec928 dL_law_574
theorem e928_575 {ls st : List Value} {h : x_H} : x_run 928 575 ls st h = q_gi ls 5 (fun v => x_run 928 577 ls (.int v :: st) h) := xe_iload ec928 dL_law_575
theorem e928_577 {ls st : List Value} {h : x_H} : x_run 928 577 ls st h = x_run 928 578 ls (.int (q_i 1) :: st) h := xe_iconst ec928 dL_law_577
theorem e928_578 {ls st : List Value} {h : x_H} {x y : Int32}: x_run 928 578 ls (.int y :: .int x :: st) h = x_run 928 579 ls (.int (x + y) :: st) h := xe_iadd ec928 dL_law_578
theorem e928_579 {ls st : List Value} {h : x_H} {x : Int32} {a : Nat}: x_run 928 579 ls (.int x :: .ref a :: st) h = q_ra h a 0 x (fun v => x_run 928 580 ls (.int v :: st) h) := xe_iaload ec928 dL_law_579
theorem e928_580 {ls st : List Value} {h : x_H} {b : Nat} {a1 : Value}: x_run 928 580 ls (a1 :: .ref b :: st) h = if q_rcv h b 10 = true then (if x_wt st ≤ 8 ∧ x_wt [.ref b, a1] = 2 then q_cl (x_m 841 [.ref b, a1] h) (fun v h' => x_run 928 583 ls (v.toList ++ st) h') else none) else none := xe_virt (r := [a1]) ec928 dL_law_580 ek9_144 rfl (by decide +kernel) (by decide +kernel)
theorem e928_583 {ls st : List Value} {h : x_H} {x : Int32}: x_run 928 583 ls (.int x :: st) h = q_ls ls 7 (.int x) (fun ls' => x_run 928 585 ls' st h) := xe_istore ec928 dL_law_583
theorem e928_585 {ls st : List Value} {h : x_H} : x_run 928 585 ls st h = q_gr ls 2 (fun v => x_run 928 586 ls (.ref v :: st) h) := xe_aload_n ec928 dL_law_585
theorem e928_586 {ls st : List Value} {h : x_H} {b : Nat}: x_run 928 586 ls (.ref b :: st) h = if q_rcv h b 10 = true then (if x_wt st ≤ 8 ∧ x_wt [.ref b] = 1 then q_cl (x_m 801 [.ref b] h) (fun v h' => x_run 928 589 ls (v.toList ++ st) h') else none) else none := xe_virt (r := []) ec928 dL_law_586 ek9_125 rfl (by decide +kernel) (by decide +kernel)
theorem e928_589 {ls st : List Value} {h : x_H} : x_run 928 589 ls st h = q_gi ls 6 (fun v => x_run 928 591 ls (.int v :: st) h) := xe_iload ec928 dL_law_589
theorem e928_591 {ls st : List Value} {h : x_H} {x y : Int32}: x_run 928 591 ls (.int y :: .int x :: st) h = if x = y then x_run 928 596 ls st h else x_run 928 594 ls st h := xe_ic_eq ec928 dL_law_591 rfl
theorem e928_594 {ls st : List Value} {h : x_H} : x_run 928 594 ls st h = x_run 928 595 ls (.int (q_i 0) :: st) h := xe_iconst ec928 dL_law_594
theorem e928_595 {ls : List Value} {h : x_H} {x : Int32} : x_run 928 595 ls [.int x] h = if narrow .boolean (.int x) = .int x then some (.inl (some (.int x)), h) else none := xe_ireturn ec928 dL_law_595 rfl
theorem e928_596 {ls st : List Value} {h : x_H} : x_run 928 596 ls st h = q_gi ls 6 (fun v => x_run 928 598 ls (.int v :: st) h) := xe_iload ec928 dL_law_596
theorem e928_598 {ls st : List Value} {h : x_H} {x : Int32}: x_run 928 598 ls (.int x :: st) h = if ¬ x = 0 then x_run 928 613 ls st h else x_run 928 601 ls st h := xe_if_ne ec928 dL_law_598 rfl
theorem e928_601 {ls st : List Value} {h : x_H} : x_run 928 601 ls st h = q_gr ls 3 (fun v => x_run 928 602 ls (.ref v :: st) h) := xe_aload_n ec928 dL_law_601
theorem e928_602 {ls st : List Value} {h : x_H} : x_run 928 602 ls st h = x_run 928 603 ls (.int (q_i 0) :: st) h := xe_iconst ec928 dL_law_602
theorem e928_603 {ls st : List Value} {h : x_H} {x : Int32} {a : Nat}: x_run 928 603 ls (.int x :: .ref a :: st) h = q_rv2 h a 100 x_isL x (fun v => x_run 928 604 ls (v :: st) h) := xe_laload ec928 dL_law_603
theorem e928_604 {ls st : List Value} {h : x_H} : x_run 928 604 ls st h = q_gi ls 7 (fun v => x_run 928 606 ls (.int v :: st) h) := xe_iload ec928 dL_law_604
theorem e928_606 {ls st : List Value} {h : x_H} {x : Int32}: x_run 928 606 ls (.int x :: st) h = x_run 928 607 ls (.long x.toInt64 :: st) h := xe_i2l ec928 dL_law_606
theorem e928_607 {ls st : List Value} {h : x_H} {v w : Int64}: x_run 928 607 ls (.long v :: .long w :: st) h = x_run 928 608 ls (.int (lg_cmp w v) :: st) h := xe_lcmp ec928 dL_law_607
theorem e928_608 {ls st : List Value} {h : x_H} {x : Int32}: x_run 928 608 ls (.int x :: st) h = if x = 0 then x_run 928 613 ls st h else x_run 928 611 ls st h := xe_if_eq ec928 dL_law_608 rfl
theorem e928_611 {ls st : List Value} {h : x_H} : x_run 928 611 ls st h = x_run 928 612 ls (.int (q_i 0) :: st) h := xe_iconst ec928 dL_law_611
theorem e928_612 {ls : List Value} {h : x_H} {x : Int32} : x_run 928 612 ls [.int x] h = if narrow .boolean (.int x) = .int x then some (.inl (some (.int x)), h) else none := xe_ireturn ec928 dL_law_612 rfl
theorem e928_613 {ls st : List Value} {h : x_H} : x_run 928 613 ls st h = x_run 928 2044 ls st h := xe_goto ec928 dL_law_613 rfl
theorem e928_616 {ls st : List Value} {h : x_H} : x_run 928 616 ls st h = q_gr ls 1 (fun v => x_run 928 617 ls (.ref v :: st) h) := xe_aload_n ec928 dL_law_616
theorem e928_617 {ls st : List Value} {h : x_H} : x_run 928 617 ls st h = q_gr ls 0 (fun v => x_run 928 618 ls (.ref v :: st) h) := xe_aload_n ec928 dL_law_617
theorem e928_618 {ls st : List Value} {h : x_H} : x_run 928 618 ls st h = q_gi ls 5 (fun v => x_run 928 620 ls (.int v :: st) h) := xe_iload ec928 dL_law_618
theorem e928_620 {ls st : List Value} {h : x_H} : x_run 928 620 ls st h = x_run 928 621 ls (.int (q_i 1) :: st) h := xe_iconst ec928 dL_law_620
theorem e928_621 {ls st : List Value} {h : x_H} {x y : Int32}: x_run 928 621 ls (.int y :: .int x :: st) h = x_run 928 622 ls (.int (x + y) :: st) h := xe_iadd ec928 dL_law_621
theorem e928_622 {ls st : List Value} {h : x_H} {x : Int32} {a : Nat}: x_run 928 622 ls (.int x :: .ref a :: st) h = q_ra h a 0 x (fun v => x_run 928 623 ls (.int v :: st) h) := xe_iaload ec928 dL_law_622
theorem e928_623 {ls st : List Value} {h : x_H} : x_run 928 623 ls st h = q_gr ls 3 (fun v => x_run 928 624 ls (.ref v :: st) h) := xe_aload_n ec928 dL_law_623
theorem e928_624 {ls st : List Value} {h : x_H} {a1 a2 a3 : Value}: x_run 928 624 ls (a3 :: a2 :: a1 :: st) h = if x_wt st ≤ 8 ∧ x_wt [a1, a2, a3] = 3 then q_cl (x_m 906 [a1, a2, a3] h) (fun v h' => x_run 928 627 ls (v.toList ++ st) h') else none := xe_stat (args := [a1, a2, a3]) ec928 dL_law_624 ek9_145 (by decide) rfl (by decide +kernel) (by decide +kernel)
theorem e928_627 {ls st : List Value} {h : x_H} {x : Int32}: x_run 928 627 ls (.int x :: st) h = q_ls ls 6 (.int x) (fun ls' => x_run 928 629 ls' st h) := xe_istore ec928 dL_law_627
theorem e928_629 {ls st : List Value} {h : x_H} : x_run 928 629 ls st h = q_gr ls 2 (fun v => x_run 928 630 ls (.ref v :: st) h) := xe_aload_n ec928 dL_law_629
theorem e928_630 {ls st : List Value} {h : x_H} : x_run 928 630 ls st h = q_gr ls 0 (fun v => x_run 928 631 ls (.ref v :: st) h) := xe_aload_n ec928 dL_law_630
theorem e928_631 {ls st : List Value} {h : x_H} : x_run 928 631 ls st h = q_gi ls 5 (fun v => x_run 928 633 ls (.int v :: st) h) := xe_iload ec928 dL_law_631
theorem e928_633 {ls st : List Value} {h : x_H} : x_run 928 633 ls st h = x_run 928 634 ls (.int (q_i 1) :: st) h := xe_iconst ec928 dL_law_633
theorem e928_634 {ls st : List Value} {h : x_H} {x y : Int32}: x_run 928 634 ls (.int y :: .int x :: st) h = x_run 928 635 ls (.int (x + y) :: st) h := xe_iadd ec928 dL_law_634
theorem e928_635 {ls st : List Value} {h : x_H} {x : Int32} {a : Nat}: x_run 928 635 ls (.int x :: .ref a :: st) h = q_ra h a 0 x (fun v => x_run 928 636 ls (.int v :: st) h) := xe_iaload ec928 dL_law_635
theorem e928_636 {ls st : List Value} {h : x_H} {b : Nat} {a1 : Value}: x_run 928 636 ls (a1 :: .ref b :: st) h = if q_rcv h b 10 = true then (if x_wt st ≤ 8 ∧ x_wt [.ref b, a1] = 2 then q_cl (x_m 842 [.ref b, a1] h) (fun v h' => x_run 928 639 ls (v.toList ++ st) h') else none) else none := xe_virt (r := [a1]) ec928 dL_law_636 ek9_147 rfl (by decide +kernel) (by decide +kernel)
theorem e928_639 {ls st : List Value} {h : x_H} {x : Int32}: x_run 928 639 ls (.int x :: st) h = q_ls ls 7 (.int x) (fun ls' => x_run 928 641 ls' st h) := xe_istore ec928 dL_law_639
theorem e928_641 {ls st : List Value} {h : x_H} : x_run 928 641 ls st h = q_gr ls 2 (fun v => x_run 928 642 ls (.ref v :: st) h) := xe_aload_n ec928 dL_law_641
theorem e928_642 {ls st : List Value} {h : x_H} {b : Nat}: x_run 928 642 ls (.ref b :: st) h = if q_rcv h b 10 = true then (if x_wt st ≤ 8 ∧ x_wt [.ref b] = 1 then q_cl (x_m 801 [.ref b] h) (fun v h' => x_run 928 645 ls (v.toList ++ st) h') else none) else none := xe_virt (r := []) ec928 dL_law_642 ek9_125 rfl (by decide +kernel) (by decide +kernel)
theorem e928_645 {ls st : List Value} {h : x_H} : x_run 928 645 ls st h = q_gi ls 6 (fun v => x_run 928 647 ls (.int v :: st) h) := xe_iload ec928 dL_law_645
theorem e928_647 {ls st : List Value} {h : x_H} {x y : Int32}: x_run 928 647 ls (.int y :: .int x :: st) h = if x = y then x_run 928 652 ls st h else x_run 928 650 ls st h := xe_ic_eq ec928 dL_law_647 rfl
theorem e928_650 {ls st : List Value} {h : x_H} : x_run 928 650 ls st h = x_run 928 651 ls (.int (q_i 0) :: st) h := xe_iconst ec928 dL_law_650
theorem e928_651 {ls : List Value} {h : x_H} {x : Int32} : x_run 928 651 ls [.int x] h = if narrow .boolean (.int x) = .int x then some (.inl (some (.int x)), h) else none := xe_ireturn ec928 dL_law_651 rfl
theorem e928_652 {ls st : List Value} {h : x_H} : x_run 928 652 ls st h = q_gi ls 6 (fun v => x_run 928 654 ls (.int v :: st) h) := xe_iload ec928 dL_law_652
theorem e928_654 {ls st : List Value} {h : x_H} {x : Int32}: x_run 928 654 ls (.int x :: st) h = if ¬ x = 0 then x_run 928 669 ls st h else x_run 928 657 ls st h := xe_if_ne ec928 dL_law_654 rfl
theorem e928_657 {ls st : List Value} {h : x_H} : x_run 928 657 ls st h = q_gr ls 3 (fun v => x_run 928 658 ls (.ref v :: st) h) := xe_aload_n ec928 dL_law_657
theorem e928_658 {ls st : List Value} {h : x_H} : x_run 928 658 ls st h = x_run 928 659 ls (.int (q_i 0) :: st) h := xe_iconst ec928 dL_law_658
theorem e928_659 {ls st : List Value} {h : x_H} {x : Int32} {a : Nat}: x_run 928 659 ls (.int x :: .ref a :: st) h = q_rv2 h a 100 x_isL x (fun v => x_run 928 660 ls (v :: st) h) := xe_laload ec928 dL_law_659
theorem e928_660 {ls st : List Value} {h : x_H} : x_run 928 660 ls st h = q_gi ls 7 (fun v => x_run 928 662 ls (.int v :: st) h) := xe_iload ec928 dL_law_660
theorem e928_662 {ls st : List Value} {h : x_H} {x : Int32}: x_run 928 662 ls (.int x :: st) h = x_run 928 663 ls (.long x.toInt64 :: st) h := xe_i2l ec928 dL_law_662
theorem e928_663 {ls st : List Value} {h : x_H} {v w : Int64}: x_run 928 663 ls (.long v :: .long w :: st) h = x_run 928 664 ls (.int (lg_cmp w v) :: st) h := xe_lcmp ec928 dL_law_663
theorem e928_664 {ls st : List Value} {h : x_H} {x : Int32}: x_run 928 664 ls (.int x :: st) h = if x = 0 then x_run 928 669 ls st h else x_run 928 667 ls st h := xe_if_eq ec928 dL_law_664 rfl
theorem e928_667 {ls st : List Value} {h : x_H} : x_run 928 667 ls st h = x_run 928 668 ls (.int (q_i 0) :: st) h := xe_iconst ec928 dL_law_667
theorem e928_668 {ls : List Value} {h : x_H} {x : Int32} : x_run 928 668 ls [.int x] h = if narrow .boolean (.int x) = .int x then some (.inl (some (.int x)), h) else none := xe_ireturn ec928 dL_law_668 rfl
theorem e928_669 {ls st : List Value} {h : x_H} : x_run 928 669 ls st h = x_run 928 2044 ls st h := xe_goto ec928 dL_law_669 rfl
theorem e928_672 {ls st : List Value} {h : x_H} : x_run 928 672 ls st h = q_gr ls 1 (fun v => x_run 928 673 ls (.ref v :: st) h) := xe_aload_n ec928 dL_law_672
theorem e928_673 {ls st : List Value} {h : x_H} : x_run 928 673 ls st h = q_gr ls 0 (fun v => x_run 928 674 ls (.ref v :: st) h) := xe_aload_n ec928 dL_law_673
theorem e928_674 {ls st : List Value} {h : x_H} : x_run 928 674 ls st h = q_gi ls 5 (fun v => x_run 928 676 ls (.int v :: st) h) := xe_iload ec928 dL_law_674
theorem e928_676 {ls st : List Value} {h : x_H} : x_run 928 676 ls st h = x_run 928 677 ls (.int (q_i 1) :: st) h := xe_iconst ec928 dL_law_676
theorem e928_677 {ls st : List Value} {h : x_H} {x y : Int32}: x_run 928 677 ls (.int y :: .int x :: st) h = x_run 928 678 ls (.int (x + y) :: st) h := xe_iadd ec928 dL_law_677
theorem e928_678 {ls st : List Value} {h : x_H} {x : Int32} {a : Nat}: x_run 928 678 ls (.int x :: .ref a :: st) h = q_ra h a 0 x (fun v => x_run 928 679 ls (.int v :: st) h) := xe_iaload ec928 dL_law_678
theorem e928_679 {ls st : List Value} {h : x_H} : x_run 928 679 ls st h = q_gr ls 0 (fun v => x_run 928 680 ls (.ref v :: st) h) := xe_aload_n ec928 dL_law_679
theorem e928_680 {ls st : List Value} {h : x_H} : x_run 928 680 ls st h = q_gi ls 5 (fun v => x_run 928 682 ls (.int v :: st) h) := xe_iload ec928 dL_law_680
theorem e928_682 {ls st : List Value} {h : x_H} : x_run 928 682 ls st h = x_run 928 683 ls (.int (q_i 2) :: st) h := xe_iconst ec928 dL_law_682
theorem e928_683 {ls st : List Value} {h : x_H} {x y : Int32}: x_run 928 683 ls (.int y :: .int x :: st) h = x_run 928 684 ls (.int (x + y) :: st) h := xe_iadd ec928 dL_law_683
theorem e928_684 {ls st : List Value} {h : x_H} {x : Int32} {a : Nat}: x_run 928 684 ls (.int x :: .ref a :: st) h = q_ra h a 0 x (fun v => x_run 928 685 ls (.int v :: st) h) := xe_iaload ec928 dL_law_684
theorem e928_685 {ls st : List Value} {h : x_H} : x_run 928 685 ls st h = q_gr ls 3 (fun v => x_run 928 686 ls (.ref v :: st) h) := xe_aload_n ec928 dL_law_685
theorem e928_686 {ls st : List Value} {h : x_H} {a1 a2 a3 a4 : Value}: x_run 928 686 ls (a4 :: a3 :: a2 :: a1 :: st) h = if x_wt st ≤ 8 ∧ x_wt [a1, a2, a3, a4] = 4 then q_cl (x_m 907 [a1, a2, a3, a4] h) (fun v h' => x_run 928 689 ls (v.toList ++ st) h') else none := xe_stat (args := [a1, a2, a3, a4]) ec928 dL_law_686 ek9_148 (by decide) rfl (by decide +kernel) (by decide +kernel)
theorem e928_689 {ls st : List Value} {h : x_H} {x : Int32}: x_run 928 689 ls (.int x :: st) h = q_ls ls 6 (.int x) (fun ls' => x_run 928 691 ls' st h) := xe_istore ec928 dL_law_689
theorem e928_691 {ls st : List Value} {h : x_H} : x_run 928 691 ls st h = q_gr ls 2 (fun v => x_run 928 692 ls (.ref v :: st) h) := xe_aload_n ec928 dL_law_691
theorem e928_692 {ls st : List Value} {h : x_H} : x_run 928 692 ls st h = q_gr ls 0 (fun v => x_run 928 693 ls (.ref v :: st) h) := xe_aload_n ec928 dL_law_692
theorem e928_693 {ls st : List Value} {h : x_H} : x_run 928 693 ls st h = q_gi ls 5 (fun v => x_run 928 695 ls (.int v :: st) h) := xe_iload ec928 dL_law_693
theorem e928_695 {ls st : List Value} {h : x_H} : x_run 928 695 ls st h = x_run 928 696 ls (.int (q_i 1) :: st) h := xe_iconst ec928 dL_law_695
theorem e928_696 {ls st : List Value} {h : x_H} {x y : Int32}: x_run 928 696 ls (.int y :: .int x :: st) h = x_run 928 697 ls (.int (x + y) :: st) h := xe_iadd ec928 dL_law_696
theorem e928_697 {ls st : List Value} {h : x_H} {x : Int32} {a : Nat}: x_run 928 697 ls (.int x :: .ref a :: st) h = q_ra h a 0 x (fun v => x_run 928 698 ls (.int v :: st) h) := xe_iaload ec928 dL_law_697
theorem e928_698 {ls st : List Value} {h : x_H} : x_run 928 698 ls st h = q_gr ls 0 (fun v => x_run 928 699 ls (.ref v :: st) h) := xe_aload_n ec928 dL_law_698
theorem e928_699 {ls st : List Value} {h : x_H} : x_run 928 699 ls st h = q_gi ls 5 (fun v => x_run 928 701 ls (.int v :: st) h) := xe_iload ec928 dL_law_699
theorem e928_701 {ls st : List Value} {h : x_H} : x_run 928 701 ls st h = x_run 928 702 ls (.int (q_i 2) :: st) h := xe_iconst ec928 dL_law_701
theorem e928_702 {ls st : List Value} {h : x_H} {x y : Int32}: x_run 928 702 ls (.int y :: .int x :: st) h = x_run 928 703 ls (.int (x + y) :: st) h := xe_iadd ec928 dL_law_702
theorem e928_703 {ls st : List Value} {h : x_H} {x : Int32} {a : Nat}: x_run 928 703 ls (.int x :: .ref a :: st) h = q_ra h a 0 x (fun v => x_run 928 704 ls (.int v :: st) h) := xe_iaload ec928 dL_law_703
theorem e928_704 {ls st : List Value} {h : x_H} {b : Nat} {a1 a2 : Value}: x_run 928 704 ls (a2 :: a1 :: .ref b :: st) h = if q_rcv h b 10 = true then (if x_wt st ≤ 8 ∧ x_wt [.ref b, a1, a2] = 3 then q_cl (x_m 843 [.ref b, a1, a2] h) (fun v h' => x_run 928 707 ls (v.toList ++ st) h') else none) else none := xe_virt (r := [a1, a2]) ec928 dL_law_704 ek9_151 rfl (by decide +kernel) (by decide +kernel)
theorem e928_707 {ls st : List Value} {h : x_H} {x : Int32}: x_run 928 707 ls (.int x :: st) h = q_ls ls 7 (.int x) (fun ls' => x_run 928 709 ls' st h) := xe_istore ec928 dL_law_707
theorem e928_709 {ls st : List Value} {h : x_H} : x_run 928 709 ls st h = q_gr ls 2 (fun v => x_run 928 710 ls (.ref v :: st) h) := xe_aload_n ec928 dL_law_709
theorem e928_710 {ls st : List Value} {h : x_H} {b : Nat}: x_run 928 710 ls (.ref b :: st) h = if q_rcv h b 10 = true then (if x_wt st ≤ 8 ∧ x_wt [.ref b] = 1 then q_cl (x_m 801 [.ref b] h) (fun v h' => x_run 928 713 ls (v.toList ++ st) h') else none) else none := xe_virt (r := []) ec928 dL_law_710 ek9_125 rfl (by decide +kernel) (by decide +kernel)
theorem e928_713 {ls st : List Value} {h : x_H} : x_run 928 713 ls st h = q_gi ls 6 (fun v => x_run 928 715 ls (.int v :: st) h) := xe_iload ec928 dL_law_713
theorem e928_715 {ls st : List Value} {h : x_H} {x y : Int32}: x_run 928 715 ls (.int y :: .int x :: st) h = if x = y then x_run 928 720 ls st h else x_run 928 718 ls st h := xe_ic_eq ec928 dL_law_715 rfl
theorem e928_718 {ls st : List Value} {h : x_H} : x_run 928 718 ls st h = x_run 928 719 ls (.int (q_i 0) :: st) h := xe_iconst ec928 dL_law_718
theorem e928_719 {ls : List Value} {h : x_H} {x : Int32} : x_run 928 719 ls [.int x] h = if narrow .boolean (.int x) = .int x then some (.inl (some (.int x)), h) else none := xe_ireturn ec928 dL_law_719 rfl
theorem e928_720 {ls st : List Value} {h : x_H} : x_run 928 720 ls st h = q_gi ls 6 (fun v => x_run 928 722 ls (.int v :: st) h) := xe_iload ec928 dL_law_720
theorem e928_722 {ls st : List Value} {h : x_H} {x : Int32}: x_run 928 722 ls (.int x :: st) h = if ¬ x = 0 then x_run 928 737 ls st h else x_run 928 725 ls st h := xe_if_ne ec928 dL_law_722 rfl
theorem e928_725 {ls st : List Value} {h : x_H} : x_run 928 725 ls st h = q_gr ls 3 (fun v => x_run 928 726 ls (.ref v :: st) h) := xe_aload_n ec928 dL_law_725
theorem e928_726 {ls st : List Value} {h : x_H} : x_run 928 726 ls st h = x_run 928 727 ls (.int (q_i 0) :: st) h := xe_iconst ec928 dL_law_726
theorem e928_727 {ls st : List Value} {h : x_H} {x : Int32} {a : Nat}: x_run 928 727 ls (.int x :: .ref a :: st) h = q_rv2 h a 100 x_isL x (fun v => x_run 928 728 ls (v :: st) h) := xe_laload ec928 dL_law_727
theorem e928_728 {ls st : List Value} {h : x_H} : x_run 928 728 ls st h = q_gi ls 7 (fun v => x_run 928 730 ls (.int v :: st) h) := xe_iload ec928 dL_law_728
theorem e928_730 {ls st : List Value} {h : x_H} {x : Int32}: x_run 928 730 ls (.int x :: st) h = x_run 928 731 ls (.long x.toInt64 :: st) h := xe_i2l ec928 dL_law_730
theorem e928_731 {ls st : List Value} {h : x_H} {v w : Int64}: x_run 928 731 ls (.long v :: .long w :: st) h = x_run 928 732 ls (.int (lg_cmp w v) :: st) h := xe_lcmp ec928 dL_law_731
theorem e928_732 {ls st : List Value} {h : x_H} {x : Int32}: x_run 928 732 ls (.int x :: st) h = if x = 0 then x_run 928 737 ls st h else x_run 928 735 ls st h := xe_if_eq ec928 dL_law_732 rfl
theorem e928_735 {ls st : List Value} {h : x_H} : x_run 928 735 ls st h = x_run 928 736 ls (.int (q_i 0) :: st) h := xe_iconst ec928 dL_law_735
theorem e928_736 {ls : List Value} {h : x_H} {x : Int32} : x_run 928 736 ls [.int x] h = if narrow .boolean (.int x) = .int x then some (.inl (some (.int x)), h) else none := xe_ireturn ec928 dL_law_736 rfl
theorem e928_737 {ls st : List Value} {h : x_H} : x_run 928 737 ls st h = x_run 928 2044 ls st h := xe_goto ec928 dL_law_737 rfl
theorem e928_740 {ls st : List Value} {h : x_H} : x_run 928 740 ls st h = q_gr ls 1 (fun v => x_run 928 741 ls (.ref v :: st) h) := xe_aload_n ec928 dL_law_740
theorem e928_741 {ls st : List Value} {h : x_H} : x_run 928 741 ls st h = q_gr ls 0 (fun v => x_run 928 742 ls (.ref v :: st) h) := xe_aload_n ec928 dL_law_741
theorem e928_742 {ls st : List Value} {h : x_H} : x_run 928 742 ls st h = q_gi ls 5 (fun v => x_run 928 744 ls (.int v :: st) h) := xe_iload ec928 dL_law_742
theorem e928_744 {ls st : List Value} {h : x_H} : x_run 928 744 ls st h = x_run 928 745 ls (.int (q_i 1) :: st) h := xe_iconst ec928 dL_law_744
theorem e928_745 {ls st : List Value} {h : x_H} {x y : Int32}: x_run 928 745 ls (.int y :: .int x :: st) h = x_run 928 746 ls (.int (x + y) :: st) h := xe_iadd ec928 dL_law_745
theorem e928_746 {ls st : List Value} {h : x_H} {x : Int32} {a : Nat}: x_run 928 746 ls (.int x :: .ref a :: st) h = q_ra h a 0 x (fun v => x_run 928 747 ls (.int v :: st) h) := xe_iaload ec928 dL_law_746
theorem e928_747 {ls st : List Value} {h : x_H} : x_run 928 747 ls st h = q_gr ls 0 (fun v => x_run 928 748 ls (.ref v :: st) h) := xe_aload_n ec928 dL_law_747
theorem e928_748 {ls st : List Value} {h : x_H} : x_run 928 748 ls st h = q_gi ls 5 (fun v => x_run 928 750 ls (.int v :: st) h) := xe_iload ec928 dL_law_748
theorem e928_750 {ls st : List Value} {h : x_H} : x_run 928 750 ls st h = x_run 928 751 ls (.int (q_i 2) :: st) h := xe_iconst ec928 dL_law_750
theorem e928_751 {ls st : List Value} {h : x_H} {x y : Int32}: x_run 928 751 ls (.int y :: .int x :: st) h = x_run 928 752 ls (.int (x + y) :: st) h := xe_iadd ec928 dL_law_751
theorem e928_752 {ls st : List Value} {h : x_H} {x : Int32} {a : Nat}: x_run 928 752 ls (.int x :: .ref a :: st) h = q_ra h a 0 x (fun v => x_run 928 753 ls (.int v :: st) h) := xe_iaload ec928 dL_law_752
theorem e928_753 {ls st : List Value} {h : x_H} : x_run 928 753 ls st h = q_gr ls 3 (fun v => x_run 928 754 ls (.ref v :: st) h) := xe_aload_n ec928 dL_law_753
theorem e928_754 {ls st : List Value} {h : x_H} {a1 a2 a3 a4 : Value}: x_run 928 754 ls (a4 :: a3 :: a2 :: a1 :: st) h = if x_wt st ≤ 8 ∧ x_wt [a1, a2, a3, a4] = 4 then q_cl (x_m 908 [a1, a2, a3, a4] h) (fun v h' => x_run 928 757 ls (v.toList ++ st) h') else none := xe_stat (args := [a1, a2, a3, a4]) ec928 dL_law_754 ek9_152 (by decide) rfl (by decide +kernel) (by decide +kernel)
theorem e928_757 {ls st : List Value} {h : x_H} {x : Int32}: x_run 928 757 ls (.int x :: st) h = q_ls ls 6 (.int x) (fun ls' => x_run 928 759 ls' st h) := xe_istore ec928 dL_law_757
theorem e928_759 {ls st : List Value} {h : x_H} : x_run 928 759 ls st h = q_gr ls 2 (fun v => x_run 928 760 ls (.ref v :: st) h) := xe_aload_n ec928 dL_law_759
theorem e928_760 {ls st : List Value} {h : x_H} : x_run 928 760 ls st h = q_gr ls 0 (fun v => x_run 928 761 ls (.ref v :: st) h) := xe_aload_n ec928 dL_law_760
theorem e928_761 {ls st : List Value} {h : x_H} : x_run 928 761 ls st h = q_gi ls 5 (fun v => x_run 928 763 ls (.int v :: st) h) := xe_iload ec928 dL_law_761
theorem e928_763 {ls st : List Value} {h : x_H} : x_run 928 763 ls st h = x_run 928 764 ls (.int (q_i 1) :: st) h := xe_iconst ec928 dL_law_763
theorem e928_764 {ls st : List Value} {h : x_H} {x y : Int32}: x_run 928 764 ls (.int y :: .int x :: st) h = x_run 928 765 ls (.int (x + y) :: st) h := xe_iadd ec928 dL_law_764
theorem e928_765 {ls st : List Value} {h : x_H} {x : Int32} {a : Nat}: x_run 928 765 ls (.int x :: .ref a :: st) h = q_ra h a 0 x (fun v => x_run 928 766 ls (.int v :: st) h) := xe_iaload ec928 dL_law_765
theorem e928_766 {ls st : List Value} {h : x_H} : x_run 928 766 ls st h = q_gr ls 0 (fun v => x_run 928 767 ls (.ref v :: st) h) := xe_aload_n ec928 dL_law_766
theorem e928_767 {ls st : List Value} {h : x_H} : x_run 928 767 ls st h = q_gi ls 5 (fun v => x_run 928 769 ls (.int v :: st) h) := xe_iload ec928 dL_law_767
theorem e928_769 {ls st : List Value} {h : x_H} : x_run 928 769 ls st h = x_run 928 770 ls (.int (q_i 2) :: st) h := xe_iconst ec928 dL_law_769
theorem e928_770 {ls st : List Value} {h : x_H} {x y : Int32}: x_run 928 770 ls (.int y :: .int x :: st) h = x_run 928 771 ls (.int (x + y) :: st) h := xe_iadd ec928 dL_law_770
theorem e928_771 {ls st : List Value} {h : x_H} {x : Int32} {a : Nat}: x_run 928 771 ls (.int x :: .ref a :: st) h = q_ra h a 0 x (fun v => x_run 928 772 ls (.int v :: st) h) := xe_iaload ec928 dL_law_771
theorem e928_772 {ls st : List Value} {h : x_H} {b : Nat} {a1 a2 : Value}: x_run 928 772 ls (a2 :: a1 :: .ref b :: st) h = if q_rcv h b 10 = true then (if x_wt st ≤ 8 ∧ x_wt [.ref b, a1, a2] = 3 then q_cl (x_m 844 [.ref b, a1, a2] h) (fun v h' => x_run 928 775 ls (v.toList ++ st) h') else none) else none := xe_virt (r := [a1, a2]) ec928 dL_law_772 ek9_154 rfl (by decide +kernel) (by decide +kernel)
theorem e928_775 {ls st : List Value} {h : x_H} {x : Int32}: x_run 928 775 ls (.int x :: st) h = q_ls ls 7 (.int x) (fun ls' => x_run 928 777 ls' st h) := xe_istore ec928 dL_law_775
theorem e928_777 {ls st : List Value} {h : x_H} : x_run 928 777 ls st h = q_gr ls 2 (fun v => x_run 928 778 ls (.ref v :: st) h) := xe_aload_n ec928 dL_law_777
theorem e928_778 {ls st : List Value} {h : x_H} {b : Nat}: x_run 928 778 ls (.ref b :: st) h = if q_rcv h b 10 = true then (if x_wt st ≤ 8 ∧ x_wt [.ref b] = 1 then q_cl (x_m 801 [.ref b] h) (fun v h' => x_run 928 781 ls (v.toList ++ st) h') else none) else none := xe_virt (r := []) ec928 dL_law_778 ek9_125 rfl (by decide +kernel) (by decide +kernel)
theorem e928_781 {ls st : List Value} {h : x_H} : x_run 928 781 ls st h = q_gi ls 6 (fun v => x_run 928 783 ls (.int v :: st) h) := xe_iload ec928 dL_law_781
theorem e928_783 {ls st : List Value} {h : x_H} {x y : Int32}: x_run 928 783 ls (.int y :: .int x :: st) h = if x = y then x_run 928 788 ls st h else x_run 928 786 ls st h := xe_ic_eq ec928 dL_law_783 rfl
theorem e928_786 {ls st : List Value} {h : x_H} : x_run 928 786 ls st h = x_run 928 787 ls (.int (q_i 0) :: st) h := xe_iconst ec928 dL_law_786
theorem e928_787 {ls : List Value} {h : x_H} {x : Int32} : x_run 928 787 ls [.int x] h = if narrow .boolean (.int x) = .int x then some (.inl (some (.int x)), h) else none := xe_ireturn ec928 dL_law_787 rfl
theorem e928_788 {ls st : List Value} {h : x_H} : x_run 928 788 ls st h = q_gi ls 6 (fun v => x_run 928 790 ls (.int v :: st) h) := xe_iload ec928 dL_law_788
theorem e928_790 {ls st : List Value} {h : x_H} {x : Int32}: x_run 928 790 ls (.int x :: st) h = if ¬ x = 0 then x_run 928 805 ls st h else x_run 928 793 ls st h := xe_if_ne ec928 dL_law_790 rfl
theorem e928_793 {ls st : List Value} {h : x_H} : x_run 928 793 ls st h = q_gr ls 3 (fun v => x_run 928 794 ls (.ref v :: st) h) := xe_aload_n ec928 dL_law_793
theorem e928_794 {ls st : List Value} {h : x_H} : x_run 928 794 ls st h = x_run 928 795 ls (.int (q_i 0) :: st) h := xe_iconst ec928 dL_law_794
theorem e928_795 {ls st : List Value} {h : x_H} {x : Int32} {a : Nat}: x_run 928 795 ls (.int x :: .ref a :: st) h = q_rv2 h a 100 x_isL x (fun v => x_run 928 796 ls (v :: st) h) := xe_laload ec928 dL_law_795
theorem e928_796 {ls st : List Value} {h : x_H} : x_run 928 796 ls st h = q_gi ls 7 (fun v => x_run 928 798 ls (.int v :: st) h) := xe_iload ec928 dL_law_796
theorem e928_798 {ls st : List Value} {h : x_H} {x : Int32}: x_run 928 798 ls (.int x :: st) h = x_run 928 799 ls (.long x.toInt64 :: st) h := xe_i2l ec928 dL_law_798
theorem e928_799 {ls st : List Value} {h : x_H} {v w : Int64}: x_run 928 799 ls (.long v :: .long w :: st) h = x_run 928 800 ls (.int (lg_cmp w v) :: st) h := xe_lcmp ec928 dL_law_799
theorem e928_800 {ls st : List Value} {h : x_H} {x : Int32}: x_run 928 800 ls (.int x :: st) h = if x = 0 then x_run 928 805 ls st h else x_run 928 803 ls st h := xe_if_eq ec928 dL_law_800 rfl
theorem e928_803 {ls st : List Value} {h : x_H} : x_run 928 803 ls st h = x_run 928 804 ls (.int (q_i 0) :: st) h := xe_iconst ec928 dL_law_803
theorem e928_804 {ls : List Value} {h : x_H} {x : Int32} : x_run 928 804 ls [.int x] h = if narrow .boolean (.int x) = .int x then some (.inl (some (.int x)), h) else none := xe_ireturn ec928 dL_law_804 rfl
theorem e928_805 {ls st : List Value} {h : x_H} : x_run 928 805 ls st h = x_run 928 2044 ls st h := xe_goto ec928 dL_law_805 rfl
theorem e928_808 {ls st : List Value} {h : x_H} : x_run 928 808 ls st h = q_gr ls 1 (fun v => x_run 928 809 ls (.ref v :: st) h) := xe_aload_n ec928 dL_law_808
theorem e928_809 {ls st : List Value} {h : x_H} : x_run 928 809 ls st h = q_gr ls 0 (fun v => x_run 928 810 ls (.ref v :: st) h) := xe_aload_n ec928 dL_law_809
theorem e928_810 {ls st : List Value} {h : x_H} : x_run 928 810 ls st h = q_gi ls 5 (fun v => x_run 928 812 ls (.int v :: st) h) := xe_iload ec928 dL_law_810
theorem e928_812 {ls st : List Value} {h : x_H} : x_run 928 812 ls st h = x_run 928 813 ls (.int (q_i 1) :: st) h := xe_iconst ec928 dL_law_812
theorem e928_813 {ls st : List Value} {h : x_H} {x y : Int32}: x_run 928 813 ls (.int y :: .int x :: st) h = x_run 928 814 ls (.int (x + y) :: st) h := xe_iadd ec928 dL_law_813
theorem e928_814 {ls st : List Value} {h : x_H} {x : Int32} {a : Nat}: x_run 928 814 ls (.int x :: .ref a :: st) h = q_ra h a 0 x (fun v => x_run 928 815 ls (.int v :: st) h) := xe_iaload ec928 dL_law_814
theorem e928_815 {ls st : List Value} {h : x_H} : x_run 928 815 ls st h = q_gr ls 0 (fun v => x_run 928 816 ls (.ref v :: st) h) := xe_aload_n ec928 dL_law_815
theorem e928_816 {ls st : List Value} {h : x_H} : x_run 928 816 ls st h = q_gi ls 5 (fun v => x_run 928 818 ls (.int v :: st) h) := xe_iload ec928 dL_law_816
theorem e928_818 {ls st : List Value} {h : x_H} : x_run 928 818 ls st h = x_run 928 819 ls (.int (q_i 2) :: st) h := xe_iconst ec928 dL_law_818
theorem e928_819 {ls st : List Value} {h : x_H} {x y : Int32}: x_run 928 819 ls (.int y :: .int x :: st) h = x_run 928 820 ls (.int (x + y) :: st) h := xe_iadd ec928 dL_law_819
theorem e928_820 {ls st : List Value} {h : x_H} {x : Int32} {a : Nat}: x_run 928 820 ls (.int x :: .ref a :: st) h = q_ra h a 0 x (fun v => x_run 928 821 ls (.int v :: st) h) := xe_iaload ec928 dL_law_820
theorem e928_821 {ls st : List Value} {h : x_H} : x_run 928 821 ls st h = q_gr ls 0 (fun v => x_run 928 822 ls (.ref v :: st) h) := xe_aload_n ec928 dL_law_821
theorem e928_822 {ls st : List Value} {h : x_H} : x_run 928 822 ls st h = q_gi ls 5 (fun v => x_run 928 824 ls (.int v :: st) h) := xe_iload ec928 dL_law_822
theorem e928_824 {ls st : List Value} {h : x_H} : x_run 928 824 ls st h = x_run 928 825 ls (.int (q_i 3) :: st) h := xe_iconst ec928 dL_law_824
theorem e928_825 {ls st : List Value} {h : x_H} {x y : Int32}: x_run 928 825 ls (.int y :: .int x :: st) h = x_run 928 826 ls (.int (x + y) :: st) h := xe_iadd ec928 dL_law_825
theorem e928_826 {ls st : List Value} {h : x_H} {x : Int32} {a : Nat}: x_run 928 826 ls (.int x :: .ref a :: st) h = q_ra h a 0 x (fun v => x_run 928 827 ls (.int v :: st) h) := xe_iaload ec928 dL_law_826
theorem e928_827 {ls st : List Value} {h : x_H} : x_run 928 827 ls st h = q_gr ls 3 (fun v => x_run 928 828 ls (.ref v :: st) h) := xe_aload_n ec928 dL_law_827
theorem e928_828 {ls st : List Value} {h : x_H} {a1 a2 a3 a4 a5 : Value}: x_run 928 828 ls (a5 :: a4 :: a3 :: a2 :: a1 :: st) h = if x_wt st ≤ 8 ∧ x_wt [a1, a2, a3, a4, a5] = 5 then q_cl (x_m 909 [a1, a2, a3, a4, a5] h) (fun v h' => x_run 928 831 ls (v.toList ++ st) h') else none := xe_stat (args := [a1, a2, a3, a4, a5]) ec928 dL_law_828 ek9_155 (by decide) rfl (by decide +kernel) (by decide +kernel)
theorem e928_831 {ls st : List Value} {h : x_H} {x : Int32}: x_run 928 831 ls (.int x :: st) h = q_ls ls 6 (.int x) (fun ls' => x_run 928 833 ls' st h) := xe_istore ec928 dL_law_831
theorem e928_833 {ls st : List Value} {h : x_H} : x_run 928 833 ls st h = q_gr ls 2 (fun v => x_run 928 834 ls (.ref v :: st) h) := xe_aload_n ec928 dL_law_833
theorem e928_834 {ls st : List Value} {h : x_H} : x_run 928 834 ls st h = q_gr ls 0 (fun v => x_run 928 835 ls (.ref v :: st) h) := xe_aload_n ec928 dL_law_834
theorem e928_835 {ls st : List Value} {h : x_H} : x_run 928 835 ls st h = q_gi ls 5 (fun v => x_run 928 837 ls (.int v :: st) h) := xe_iload ec928 dL_law_835
theorem e928_837 {ls st : List Value} {h : x_H} : x_run 928 837 ls st h = x_run 928 838 ls (.int (q_i 1) :: st) h := xe_iconst ec928 dL_law_837
theorem e928_838 {ls st : List Value} {h : x_H} {x y : Int32}: x_run 928 838 ls (.int y :: .int x :: st) h = x_run 928 839 ls (.int (x + y) :: st) h := xe_iadd ec928 dL_law_838
theorem e928_839 {ls st : List Value} {h : x_H} {x : Int32} {a : Nat}: x_run 928 839 ls (.int x :: .ref a :: st) h = q_ra h a 0 x (fun v => x_run 928 840 ls (.int v :: st) h) := xe_iaload ec928 dL_law_839
theorem e928_840 {ls st : List Value} {h : x_H} : x_run 928 840 ls st h = q_gr ls 0 (fun v => x_run 928 841 ls (.ref v :: st) h) := xe_aload_n ec928 dL_law_840
theorem e928_841 {ls st : List Value} {h : x_H} : x_run 928 841 ls st h = q_gi ls 5 (fun v => x_run 928 843 ls (.int v :: st) h) := xe_iload ec928 dL_law_841
theorem e928_843 {ls st : List Value} {h : x_H} : x_run 928 843 ls st h = x_run 928 844 ls (.int (q_i 2) :: st) h := xe_iconst ec928 dL_law_843
theorem e928_844 {ls st : List Value} {h : x_H} {x y : Int32}: x_run 928 844 ls (.int y :: .int x :: st) h = x_run 928 845 ls (.int (x + y) :: st) h := xe_iadd ec928 dL_law_844
theorem e928_845 {ls st : List Value} {h : x_H} {x : Int32} {a : Nat}: x_run 928 845 ls (.int x :: .ref a :: st) h = q_ra h a 0 x (fun v => x_run 928 846 ls (.int v :: st) h) := xe_iaload ec928 dL_law_845
theorem e928_846 {ls st : List Value} {h : x_H} : x_run 928 846 ls st h = q_gr ls 0 (fun v => x_run 928 847 ls (.ref v :: st) h) := xe_aload_n ec928 dL_law_846
theorem e928_847 {ls st : List Value} {h : x_H} : x_run 928 847 ls st h = q_gi ls 5 (fun v => x_run 928 849 ls (.int v :: st) h) := xe_iload ec928 dL_law_847
theorem e928_849 {ls st : List Value} {h : x_H} : x_run 928 849 ls st h = x_run 928 850 ls (.int (q_i 3) :: st) h := xe_iconst ec928 dL_law_849
theorem e928_850 {ls st : List Value} {h : x_H} {x y : Int32}: x_run 928 850 ls (.int y :: .int x :: st) h = x_run 928 851 ls (.int (x + y) :: st) h := xe_iadd ec928 dL_law_850
theorem e928_851 {ls st : List Value} {h : x_H} {x : Int32} {a : Nat}: x_run 928 851 ls (.int x :: .ref a :: st) h = q_ra h a 0 x (fun v => x_run 928 852 ls (.int v :: st) h) := xe_iaload ec928 dL_law_851
theorem e928_852 {ls st : List Value} {h : x_H} {b : Nat} {a1 a2 a3 : Value}: x_run 928 852 ls (a3 :: a2 :: a1 :: .ref b :: st) h = if q_rcv h b 10 = true then (if x_wt st ≤ 8 ∧ x_wt [.ref b, a1, a2, a3] = 4 then q_cl (x_m 845 [.ref b, a1, a2, a3] h) (fun v h' => x_run 928 855 ls (v.toList ++ st) h') else none) else none := xe_virt (r := [a1, a2, a3]) ec928 dL_law_852 ek9_157 rfl (by decide +kernel) (by decide +kernel)
theorem e928_855 {ls st : List Value} {h : x_H} {x : Int32}: x_run 928 855 ls (.int x :: st) h = q_ls ls 7 (.int x) (fun ls' => x_run 928 857 ls' st h) := xe_istore ec928 dL_law_855
theorem e928_857 {ls st : List Value} {h : x_H} : x_run 928 857 ls st h = q_gr ls 2 (fun v => x_run 928 858 ls (.ref v :: st) h) := xe_aload_n ec928 dL_law_857
theorem e928_858 {ls st : List Value} {h : x_H} {b : Nat}: x_run 928 858 ls (.ref b :: st) h = if q_rcv h b 10 = true then (if x_wt st ≤ 8 ∧ x_wt [.ref b] = 1 then q_cl (x_m 801 [.ref b] h) (fun v h' => x_run 928 861 ls (v.toList ++ st) h') else none) else none := xe_virt (r := []) ec928 dL_law_858 ek9_125 rfl (by decide +kernel) (by decide +kernel)
theorem e928_861 {ls st : List Value} {h : x_H} : x_run 928 861 ls st h = q_gi ls 6 (fun v => x_run 928 863 ls (.int v :: st) h) := xe_iload ec928 dL_law_861
theorem e928_863 {ls st : List Value} {h : x_H} {x y : Int32}: x_run 928 863 ls (.int y :: .int x :: st) h = if x = y then x_run 928 868 ls st h else x_run 928 866 ls st h := xe_ic_eq ec928 dL_law_863 rfl
theorem e928_866 {ls st : List Value} {h : x_H} : x_run 928 866 ls st h = x_run 928 867 ls (.int (q_i 0) :: st) h := xe_iconst ec928 dL_law_866
theorem e928_867 {ls : List Value} {h : x_H} {x : Int32} : x_run 928 867 ls [.int x] h = if narrow .boolean (.int x) = .int x then some (.inl (some (.int x)), h) else none := xe_ireturn ec928 dL_law_867 rfl
theorem e928_868 {ls st : List Value} {h : x_H} : x_run 928 868 ls st h = q_gi ls 6 (fun v => x_run 928 870 ls (.int v :: st) h) := xe_iload ec928 dL_law_868
theorem e928_870 {ls st : List Value} {h : x_H} {x : Int32}: x_run 928 870 ls (.int x :: st) h = if ¬ x = 0 then x_run 928 885 ls st h else x_run 928 873 ls st h := xe_if_ne ec928 dL_law_870 rfl
theorem e928_873 {ls st : List Value} {h : x_H} : x_run 928 873 ls st h = q_gr ls 3 (fun v => x_run 928 874 ls (.ref v :: st) h) := xe_aload_n ec928 dL_law_873
theorem e928_874 {ls st : List Value} {h : x_H} : x_run 928 874 ls st h = x_run 928 875 ls (.int (q_i 0) :: st) h := xe_iconst ec928 dL_law_874
theorem e928_875 {ls st : List Value} {h : x_H} {x : Int32} {a : Nat}: x_run 928 875 ls (.int x :: .ref a :: st) h = q_rv2 h a 100 x_isL x (fun v => x_run 928 876 ls (v :: st) h) := xe_laload ec928 dL_law_875
theorem e928_876 {ls st : List Value} {h : x_H} : x_run 928 876 ls st h = q_gi ls 7 (fun v => x_run 928 878 ls (.int v :: st) h) := xe_iload ec928 dL_law_876
theorem e928_878 {ls st : List Value} {h : x_H} {x : Int32}: x_run 928 878 ls (.int x :: st) h = x_run 928 879 ls (.long x.toInt64 :: st) h := xe_i2l ec928 dL_law_878
theorem e928_879 {ls st : List Value} {h : x_H} {v w : Int64}: x_run 928 879 ls (.long v :: .long w :: st) h = x_run 928 880 ls (.int (lg_cmp w v) :: st) h := xe_lcmp ec928 dL_law_879
theorem e928_880 {ls st : List Value} {h : x_H} {x : Int32}: x_run 928 880 ls (.int x :: st) h = if x = 0 then x_run 928 885 ls st h else x_run 928 883 ls st h := xe_if_eq ec928 dL_law_880 rfl
theorem e928_883 {ls st : List Value} {h : x_H} : x_run 928 883 ls st h = x_run 928 884 ls (.int (q_i 0) :: st) h := xe_iconst ec928 dL_law_883
theorem e928_884 {ls : List Value} {h : x_H} {x : Int32} : x_run 928 884 ls [.int x] h = if narrow .boolean (.int x) = .int x then some (.inl (some (.int x)), h) else none := xe_ireturn ec928 dL_law_884 rfl
theorem e928_885 {ls st : List Value} {h : x_H} : x_run 928 885 ls st h = x_run 928 2044 ls st h := xe_goto ec928 dL_law_885 rfl
theorem e928_888 {ls st : List Value} {h : x_H} : x_run 928 888 ls st h = q_gr ls 1 (fun v => x_run 928 889 ls (.ref v :: st) h) := xe_aload_n ec928 dL_law_888
theorem e928_889 {ls st : List Value} {h : x_H} : x_run 928 889 ls st h = q_gr ls 0 (fun v => x_run 928 890 ls (.ref v :: st) h) := xe_aload_n ec928 dL_law_889
theorem e928_890 {ls st : List Value} {h : x_H} : x_run 928 890 ls st h = q_gi ls 5 (fun v => x_run 928 892 ls (.int v :: st) h) := xe_iload ec928 dL_law_890
theorem e928_892 {ls st : List Value} {h : x_H} : x_run 928 892 ls st h = x_run 928 893 ls (.int (q_i 1) :: st) h := xe_iconst ec928 dL_law_892
theorem e928_893 {ls st : List Value} {h : x_H} {x y : Int32}: x_run 928 893 ls (.int y :: .int x :: st) h = x_run 928 894 ls (.int (x + y) :: st) h := xe_iadd ec928 dL_law_893
theorem e928_894 {ls st : List Value} {h : x_H} {x : Int32} {a : Nat}: x_run 928 894 ls (.int x :: .ref a :: st) h = q_ra h a 0 x (fun v => x_run 928 895 ls (.int v :: st) h) := xe_iaload ec928 dL_law_894
theorem e928_895 {ls st : List Value} {h : x_H} : x_run 928 895 ls st h = q_gr ls 0 (fun v => x_run 928 896 ls (.ref v :: st) h) := xe_aload_n ec928 dL_law_895
theorem e928_896 {ls st : List Value} {h : x_H} : x_run 928 896 ls st h = q_gi ls 5 (fun v => x_run 928 898 ls (.int v :: st) h) := xe_iload ec928 dL_law_896
theorem e928_898 {ls st : List Value} {h : x_H} : x_run 928 898 ls st h = x_run 928 899 ls (.int (q_i 2) :: st) h := xe_iconst ec928 dL_law_898
theorem e928_899 {ls st : List Value} {h : x_H} {x y : Int32}: x_run 928 899 ls (.int y :: .int x :: st) h = x_run 928 900 ls (.int (x + y) :: st) h := xe_iadd ec928 dL_law_899
theorem e928_900 {ls st : List Value} {h : x_H} {x : Int32} {a : Nat}: x_run 928 900 ls (.int x :: .ref a :: st) h = q_ra h a 0 x (fun v => x_run 928 901 ls (.int v :: st) h) := xe_iaload ec928 dL_law_900
theorem e928_901 {ls st : List Value} {h : x_H} : x_run 928 901 ls st h = q_gr ls 3 (fun v => x_run 928 902 ls (.ref v :: st) h) := xe_aload_n ec928 dL_law_901
theorem e928_902 {ls st : List Value} {h : x_H} {a1 a2 a3 a4 : Value}: x_run 928 902 ls (a4 :: a3 :: a2 :: a1 :: st) h = if x_wt st ≤ 8 ∧ x_wt [a1, a2, a3, a4] = 4 then q_cl (x_m 910 [a1, a2, a3, a4] h) (fun v h' => x_run 928 905 ls (v.toList ++ st) h') else none := xe_stat (args := [a1, a2, a3, a4]) ec928 dL_law_902 ek9_158 (by decide) rfl (by decide +kernel) (by decide +kernel)
theorem e928_905 {ls st : List Value} {h : x_H} {x : Int32}: x_run 928 905 ls (.int x :: st) h = q_ls ls 6 (.int x) (fun ls' => x_run 928 907 ls' st h) := xe_istore ec928 dL_law_905
theorem e928_907 {ls st : List Value} {h : x_H} : x_run 928 907 ls st h = q_gr ls 2 (fun v => x_run 928 908 ls (.ref v :: st) h) := xe_aload_n ec928 dL_law_907
theorem e928_908 {ls st : List Value} {h : x_H} : x_run 928 908 ls st h = q_gr ls 0 (fun v => x_run 928 909 ls (.ref v :: st) h) := xe_aload_n ec928 dL_law_908
theorem e928_909 {ls st : List Value} {h : x_H} : x_run 928 909 ls st h = q_gi ls 5 (fun v => x_run 928 911 ls (.int v :: st) h) := xe_iload ec928 dL_law_909
theorem e928_911 {ls st : List Value} {h : x_H} : x_run 928 911 ls st h = x_run 928 912 ls (.int (q_i 1) :: st) h := xe_iconst ec928 dL_law_911
theorem e928_912 {ls st : List Value} {h : x_H} {x y : Int32}: x_run 928 912 ls (.int y :: .int x :: st) h = x_run 928 913 ls (.int (x + y) :: st) h := xe_iadd ec928 dL_law_912
theorem e928_913 {ls st : List Value} {h : x_H} {x : Int32} {a : Nat}: x_run 928 913 ls (.int x :: .ref a :: st) h = q_ra h a 0 x (fun v => x_run 928 914 ls (.int v :: st) h) := xe_iaload ec928 dL_law_913
theorem e928_914 {ls st : List Value} {h : x_H} : x_run 928 914 ls st h = q_gr ls 0 (fun v => x_run 928 915 ls (.ref v :: st) h) := xe_aload_n ec928 dL_law_914
theorem e928_915 {ls st : List Value} {h : x_H} : x_run 928 915 ls st h = q_gi ls 5 (fun v => x_run 928 917 ls (.int v :: st) h) := xe_iload ec928 dL_law_915
theorem e928_917 {ls st : List Value} {h : x_H} : x_run 928 917 ls st h = x_run 928 918 ls (.int (q_i 2) :: st) h := xe_iconst ec928 dL_law_917
theorem e928_918 {ls st : List Value} {h : x_H} {x y : Int32}: x_run 928 918 ls (.int y :: .int x :: st) h = x_run 928 919 ls (.int (x + y) :: st) h := xe_iadd ec928 dL_law_918
theorem e928_919 {ls st : List Value} {h : x_H} {x : Int32} {a : Nat}: x_run 928 919 ls (.int x :: .ref a :: st) h = q_ra h a 0 x (fun v => x_run 928 920 ls (.int v :: st) h) := xe_iaload ec928 dL_law_919
theorem e928_920 {ls st : List Value} {h : x_H} {b : Nat} {a1 a2 : Value}: x_run 928 920 ls (a2 :: a1 :: .ref b :: st) h = if q_rcv h b 10 = true then (if x_wt st ≤ 8 ∧ x_wt [.ref b, a1, a2] = 3 then q_cl (x_m 846 [.ref b, a1, a2] h) (fun v h' => x_run 928 923 ls (v.toList ++ st) h') else none) else none := xe_virt (r := [a1, a2]) ec928 dL_law_920 ek9_160 rfl (by decide +kernel) (by decide +kernel)
theorem e928_923 {ls st : List Value} {h : x_H} {x : Int32}: x_run 928 923 ls (.int x :: st) h = q_ls ls 7 (.int x) (fun ls' => x_run 928 925 ls' st h) := xe_istore ec928 dL_law_923
theorem e928_925 {ls st : List Value} {h : x_H} : x_run 928 925 ls st h = q_gr ls 2 (fun v => x_run 928 926 ls (.ref v :: st) h) := xe_aload_n ec928 dL_law_925
theorem e928_926 {ls st : List Value} {h : x_H} {b : Nat}: x_run 928 926 ls (.ref b :: st) h = if q_rcv h b 10 = true then (if x_wt st ≤ 8 ∧ x_wt [.ref b] = 1 then q_cl (x_m 801 [.ref b] h) (fun v h' => x_run 928 929 ls (v.toList ++ st) h') else none) else none := xe_virt (r := []) ec928 dL_law_926 ek9_125 rfl (by decide +kernel) (by decide +kernel)
theorem e928_929 {ls st : List Value} {h : x_H} : x_run 928 929 ls st h = q_gi ls 6 (fun v => x_run 928 931 ls (.int v :: st) h) := xe_iload ec928 dL_law_929
theorem e928_931 {ls st : List Value} {h : x_H} {x y : Int32}: x_run 928 931 ls (.int y :: .int x :: st) h = if x = y then x_run 928 936 ls st h else x_run 928 934 ls st h := xe_ic_eq ec928 dL_law_931 rfl
theorem e928_934 {ls st : List Value} {h : x_H} : x_run 928 934 ls st h = x_run 928 935 ls (.int (q_i 0) :: st) h := xe_iconst ec928 dL_law_934
theorem e928_935 {ls : List Value} {h : x_H} {x : Int32} : x_run 928 935 ls [.int x] h = if narrow .boolean (.int x) = .int x then some (.inl (some (.int x)), h) else none := xe_ireturn ec928 dL_law_935 rfl
theorem e928_936 {ls st : List Value} {h : x_H} : x_run 928 936 ls st h = q_gi ls 6 (fun v => x_run 928 938 ls (.int v :: st) h) := xe_iload ec928 dL_law_936
theorem e928_938 {ls st : List Value} {h : x_H} {x : Int32}: x_run 928 938 ls (.int x :: st) h = if ¬ x = 0 then x_run 928 960 ls st h else x_run 928 941 ls st h := xe_if_ne ec928 dL_law_938 rfl
theorem e928_941 {ls st : List Value} {h : x_H} : x_run 928 941 ls st h = q_gr ls 3 (fun v => x_run 928 942 ls (.ref v :: st) h) := xe_aload_n ec928 dL_law_941
theorem e928_942 {ls st : List Value} {h : x_H} : x_run 928 942 ls st h = x_run 928 943 ls (.int (q_i 0) :: st) h := xe_iconst ec928 dL_law_942
theorem e928_943 {ls st : List Value} {h : x_H} {x : Int32} {a : Nat}: x_run 928 943 ls (.int x :: .ref a :: st) h = q_rv2 h a 100 x_isL x (fun v => x_run 928 944 ls (v :: st) h) := xe_laload ec928 dL_law_943
theorem e928_944 {ls st : List Value} {h : x_H} : x_run 928 944 ls st h = q_gi ls 7 (fun v => x_run 928 946 ls (.int v :: st) h) := xe_iload ec928 dL_law_944
theorem e928_946 {ls st : List Value} {h : x_H} {x : Int32}: x_run 928 946 ls (.int x :: st) h = if x = 0 then x_run 928 953 ls st h else x_run 928 949 ls st h := xe_if_eq ec928 dL_law_946 rfl
theorem e928_949 {ls st : List Value} {h : x_H} : x_run 928 949 ls st h = x_run 928 950 ls (.long 1 :: st) h := xe_lconst ec928 dL_law_949
theorem e928_950 {ls st : List Value} {h : x_H} : x_run 928 950 ls st h = x_run 928 954 ls st h := xe_goto ec928 dL_law_950 rfl
theorem e928_953 {ls st : List Value} {h : x_H} : x_run 928 953 ls st h = x_run 928 954 ls (.long 0 :: st) h := xe_lconst ec928 dL_law_953
theorem e928_954 {ls st : List Value} {h : x_H} {v w : Int64}: x_run 928 954 ls (.long v :: .long w :: st) h = x_run 928 955 ls (.int (lg_cmp w v) :: st) h := xe_lcmp ec928 dL_law_954
theorem e928_955 {ls st : List Value} {h : x_H} {x : Int32}: x_run 928 955 ls (.int x :: st) h = if x = 0 then x_run 928 960 ls st h else x_run 928 958 ls st h := xe_if_eq ec928 dL_law_955 rfl
theorem e928_958 {ls st : List Value} {h : x_H} : x_run 928 958 ls st h = x_run 928 959 ls (.int (q_i 0) :: st) h := xe_iconst ec928 dL_law_958
theorem e928_959 {ls : List Value} {h : x_H} {x : Int32} : x_run 928 959 ls [.int x] h = if narrow .boolean (.int x) = .int x then some (.inl (some (.int x)), h) else none := xe_ireturn ec928 dL_law_959 rfl
theorem e928_960 {ls st : List Value} {h : x_H} : x_run 928 960 ls st h = x_run 928 2044 ls st h := xe_goto ec928 dL_law_960 rfl
theorem e928_963 {ls st : List Value} {h : x_H} : x_run 928 963 ls st h = q_gr ls 1 (fun v => x_run 928 964 ls (.ref v :: st) h) := xe_aload_n ec928 dL_law_963
theorem e928_964 {ls st : List Value} {h : x_H} : x_run 928 964 ls st h = q_gr ls 0 (fun v => x_run 928 965 ls (.ref v :: st) h) := xe_aload_n ec928 dL_law_964
theorem e928_965 {ls st : List Value} {h : x_H} : x_run 928 965 ls st h = q_gi ls 5 (fun v => x_run 928 967 ls (.int v :: st) h) := xe_iload ec928 dL_law_965
theorem e928_967 {ls st : List Value} {h : x_H} : x_run 928 967 ls st h = x_run 928 968 ls (.int (q_i 1) :: st) h := xe_iconst ec928 dL_law_967
theorem e928_968 {ls st : List Value} {h : x_H} {x y : Int32}: x_run 928 968 ls (.int y :: .int x :: st) h = x_run 928 969 ls (.int (x + y) :: st) h := xe_iadd ec928 dL_law_968
theorem e928_969 {ls st : List Value} {h : x_H} {x : Int32} {a : Nat}: x_run 928 969 ls (.int x :: .ref a :: st) h = q_ra h a 0 x (fun v => x_run 928 970 ls (.int v :: st) h) := xe_iaload ec928 dL_law_969
theorem e928_970 {ls st : List Value} {h : x_H} : x_run 928 970 ls st h = q_gr ls 0 (fun v => x_run 928 971 ls (.ref v :: st) h) := xe_aload_n ec928 dL_law_970
theorem e928_971 {ls st : List Value} {h : x_H} : x_run 928 971 ls st h = q_gi ls 5 (fun v => x_run 928 973 ls (.int v :: st) h) := xe_iload ec928 dL_law_971
theorem e928_973 {ls st : List Value} {h : x_H} : x_run 928 973 ls st h = x_run 928 974 ls (.int (q_i 2) :: st) h := xe_iconst ec928 dL_law_973
theorem e928_974 {ls st : List Value} {h : x_H} {x y : Int32}: x_run 928 974 ls (.int y :: .int x :: st) h = x_run 928 975 ls (.int (x + y) :: st) h := xe_iadd ec928 dL_law_974
theorem e928_975 {ls st : List Value} {h : x_H} {x : Int32} {a : Nat}: x_run 928 975 ls (.int x :: .ref a :: st) h = q_ra h a 0 x (fun v => x_run 928 976 ls (.int v :: st) h) := xe_iaload ec928 dL_law_975
theorem e928_976 {ls st : List Value} {h : x_H} : x_run 928 976 ls st h = q_gr ls 0 (fun v => x_run 928 977 ls (.ref v :: st) h) := xe_aload_n ec928 dL_law_976
theorem e928_977 {ls st : List Value} {h : x_H} : x_run 928 977 ls st h = q_gi ls 5 (fun v => x_run 928 979 ls (.int v :: st) h) := xe_iload ec928 dL_law_977
theorem e928_979 {ls st : List Value} {h : x_H} : x_run 928 979 ls st h = x_run 928 980 ls (.int (q_i 3) :: st) h := xe_iconst ec928 dL_law_979
theorem e928_980 {ls st : List Value} {h : x_H} {x y : Int32}: x_run 928 980 ls (.int y :: .int x :: st) h = x_run 928 981 ls (.int (x + y) :: st) h := xe_iadd ec928 dL_law_980
theorem e928_981 {ls st : List Value} {h : x_H} {x : Int32} {a : Nat}: x_run 928 981 ls (.int x :: .ref a :: st) h = q_ra h a 0 x (fun v => x_run 928 982 ls (.int v :: st) h) := xe_iaload ec928 dL_law_981
theorem e928_982 {ls st : List Value} {h : x_H} : x_run 928 982 ls st h = q_gr ls 0 (fun v => x_run 928 983 ls (.ref v :: st) h) := xe_aload_n ec928 dL_law_982
theorem e928_983 {ls st : List Value} {h : x_H} : x_run 928 983 ls st h = q_gi ls 5 (fun v => x_run 928 985 ls (.int v :: st) h) := xe_iload ec928 dL_law_983
theorem e928_985 {ls st : List Value} {h : x_H} : x_run 928 985 ls st h = x_run 928 986 ls (.int (q_i 4) :: st) h := xe_iconst ec928 dL_law_985
theorem e928_986 {ls st : List Value} {h : x_H} {x y : Int32}: x_run 928 986 ls (.int y :: .int x :: st) h = x_run 928 987 ls (.int (x + y) :: st) h := xe_iadd ec928 dL_law_986
theorem e928_987 {ls st : List Value} {h : x_H} {x : Int32} {a : Nat}: x_run 928 987 ls (.int x :: .ref a :: st) h = q_ra h a 0 x (fun v => x_run 928 988 ls (.int v :: st) h) := xe_iaload ec928 dL_law_987
theorem e928_988 {ls st : List Value} {h : x_H} : x_run 928 988 ls st h = q_gr ls 3 (fun v => x_run 928 989 ls (.ref v :: st) h) := xe_aload_n ec928 dL_law_988
theorem e928_989 {ls st : List Value} {h : x_H} {a1 a2 a3 a4 a5 a6 : Value}: x_run 928 989 ls (a6 :: a5 :: a4 :: a3 :: a2 :: a1 :: st) h = if x_wt st ≤ 8 ∧ x_wt [a1, a2, a3, a4, a5, a6] = 6 then q_cl (x_m 911 [a1, a2, a3, a4, a5, a6] h) (fun v h' => x_run 928 992 ls (v.toList ++ st) h') else none := xe_stat (args := [a1, a2, a3, a4, a5, a6]) ec928 dL_law_989 ek9_161 (by decide) rfl (by decide +kernel) (by decide +kernel)
theorem e928_992 {ls st : List Value} {h : x_H} {x : Int32}: x_run 928 992 ls (.int x :: st) h = q_ls ls 6 (.int x) (fun ls' => x_run 928 994 ls' st h) := xe_istore ec928 dL_law_992
theorem e928_994 {ls st : List Value} {h : x_H} : x_run 928 994 ls st h = q_gr ls 2 (fun v => x_run 928 995 ls (.ref v :: st) h) := xe_aload_n ec928 dL_law_994
theorem e928_995 {ls st : List Value} {h : x_H} : x_run 928 995 ls st h = q_gr ls 0 (fun v => x_run 928 996 ls (.ref v :: st) h) := xe_aload_n ec928 dL_law_995
theorem e928_996 {ls st : List Value} {h : x_H} : x_run 928 996 ls st h = q_gi ls 5 (fun v => x_run 928 998 ls (.int v :: st) h) := xe_iload ec928 dL_law_996
theorem e928_998 {ls st : List Value} {h : x_H} : x_run 928 998 ls st h = x_run 928 999 ls (.int (q_i 1) :: st) h := xe_iconst ec928 dL_law_998
theorem e928_999 {ls st : List Value} {h : x_H} {x y : Int32}: x_run 928 999 ls (.int y :: .int x :: st) h = x_run 928 1000 ls (.int (x + y) :: st) h := xe_iadd ec928 dL_law_999
theorem e928_1000 {ls st : List Value} {h : x_H} {x : Int32} {a : Nat}: x_run 928 1000 ls (.int x :: .ref a :: st) h = q_ra h a 0 x (fun v => x_run 928 1001 ls (.int v :: st) h) := xe_iaload ec928 dL_law_1000
theorem e928_1001 {ls st : List Value} {h : x_H} : x_run 928 1001 ls st h = q_gr ls 0 (fun v => x_run 928 1002 ls (.ref v :: st) h) := xe_aload_n ec928 dL_law_1001
theorem e928_1002 {ls st : List Value} {h : x_H} : x_run 928 1002 ls st h = q_gi ls 5 (fun v => x_run 928 1004 ls (.int v :: st) h) := xe_iload ec928 dL_law_1002
theorem e928_1004 {ls st : List Value} {h : x_H} : x_run 928 1004 ls st h = x_run 928 1005 ls (.int (q_i 2) :: st) h := xe_iconst ec928 dL_law_1004
theorem e928_1005 {ls st : List Value} {h : x_H} {x y : Int32}: x_run 928 1005 ls (.int y :: .int x :: st) h = x_run 928 1006 ls (.int (x + y) :: st) h := xe_iadd ec928 dL_law_1005
theorem e928_1006 {ls st : List Value} {h : x_H} {x : Int32} {a : Nat}: x_run 928 1006 ls (.int x :: .ref a :: st) h = q_ra h a 0 x (fun v => x_run 928 1007 ls (.int v :: st) h) := xe_iaload ec928 dL_law_1006
theorem e928_1007 {ls st : List Value} {h : x_H} : x_run 928 1007 ls st h = q_gr ls 0 (fun v => x_run 928 1008 ls (.ref v :: st) h) := xe_aload_n ec928 dL_law_1007
theorem e928_1008 {ls st : List Value} {h : x_H} : x_run 928 1008 ls st h = q_gi ls 5 (fun v => x_run 928 1010 ls (.int v :: st) h) := xe_iload ec928 dL_law_1008
theorem e928_1010 {ls st : List Value} {h : x_H} : x_run 928 1010 ls st h = x_run 928 1011 ls (.int (q_i 3) :: st) h := xe_iconst ec928 dL_law_1010
theorem e928_1011 {ls st : List Value} {h : x_H} {x y : Int32}: x_run 928 1011 ls (.int y :: .int x :: st) h = x_run 928 1012 ls (.int (x + y) :: st) h := xe_iadd ec928 dL_law_1011
theorem e928_1012 {ls st : List Value} {h : x_H} {x : Int32} {a : Nat}: x_run 928 1012 ls (.int x :: .ref a :: st) h = q_ra h a 0 x (fun v => x_run 928 1013 ls (.int v :: st) h) := xe_iaload ec928 dL_law_1012
theorem e928_1013 {ls st : List Value} {h : x_H} : x_run 928 1013 ls st h = q_gr ls 0 (fun v => x_run 928 1014 ls (.ref v :: st) h) := xe_aload_n ec928 dL_law_1013
theorem e928_1014 {ls st : List Value} {h : x_H} : x_run 928 1014 ls st h = q_gi ls 5 (fun v => x_run 928 1016 ls (.int v :: st) h) := xe_iload ec928 dL_law_1014
theorem e928_1016 {ls st : List Value} {h : x_H} : x_run 928 1016 ls st h = x_run 928 1017 ls (.int (q_i 4) :: st) h := xe_iconst ec928 dL_law_1016
theorem e928_1017 {ls st : List Value} {h : x_H} {x y : Int32}: x_run 928 1017 ls (.int y :: .int x :: st) h = x_run 928 1018 ls (.int (x + y) :: st) h := xe_iadd ec928 dL_law_1017
theorem e928_1018 {ls st : List Value} {h : x_H} {x : Int32} {a : Nat}: x_run 928 1018 ls (.int x :: .ref a :: st) h = q_ra h a 0 x (fun v => x_run 928 1019 ls (.int v :: st) h) := xe_iaload ec928 dL_law_1018
theorem e928_1019 {ls st : List Value} {h : x_H} {b : Nat} {a1 a2 a3 a4 : Value}: x_run 928 1019 ls (a4 :: a3 :: a2 :: a1 :: .ref b :: st) h = if q_rcv h b 10 = true then (if x_wt st ≤ 8 ∧ x_wt [.ref b, a1, a2, a3, a4] = 5 then q_cl (x_m 847 [.ref b, a1, a2, a3, a4] h) (fun v h' => x_run 928 1022 ls (v.toList ++ st) h') else none) else none := xe_virt (r := [a1, a2, a3, a4]) ec928 dL_law_1019 ek9_164 rfl (by decide +kernel) (by decide +kernel)
theorem e928_1022 {ls st : List Value} {h : x_H} {x : Int32}: x_run 928 1022 ls (.int x :: st) h = q_ls ls 7 (.int x) (fun ls' => x_run 928 1024 ls' st h) := xe_istore ec928 dL_law_1022
theorem e928_1024 {ls st : List Value} {h : x_H} : x_run 928 1024 ls st h = q_gr ls 2 (fun v => x_run 928 1025 ls (.ref v :: st) h) := xe_aload_n ec928 dL_law_1024
theorem e928_1025 {ls st : List Value} {h : x_H} {b : Nat}: x_run 928 1025 ls (.ref b :: st) h = if q_rcv h b 10 = true then (if x_wt st ≤ 8 ∧ x_wt [.ref b] = 1 then q_cl (x_m 801 [.ref b] h) (fun v h' => x_run 928 1028 ls (v.toList ++ st) h') else none) else none := xe_virt (r := []) ec928 dL_law_1025 ek9_125 rfl (by decide +kernel) (by decide +kernel)
theorem e928_1028 {ls st : List Value} {h : x_H} : x_run 928 1028 ls st h = q_gi ls 6 (fun v => x_run 928 1030 ls (.int v :: st) h) := xe_iload ec928 dL_law_1028
theorem e928_1030 {ls st : List Value} {h : x_H} {x y : Int32}: x_run 928 1030 ls (.int y :: .int x :: st) h = if x = y then x_run 928 1035 ls st h else x_run 928 1033 ls st h := xe_ic_eq ec928 dL_law_1030 rfl
theorem e928_1033 {ls st : List Value} {h : x_H} : x_run 928 1033 ls st h = x_run 928 1034 ls (.int (q_i 0) :: st) h := xe_iconst ec928 dL_law_1033
theorem e928_1034 {ls : List Value} {h : x_H} {x : Int32} : x_run 928 1034 ls [.int x] h = if narrow .boolean (.int x) = .int x then some (.inl (some (.int x)), h) else none := xe_ireturn ec928 dL_law_1034 rfl
theorem e928_1035 {ls st : List Value} {h : x_H} : x_run 928 1035 ls st h = q_gi ls 6 (fun v => x_run 928 1037 ls (.int v :: st) h) := xe_iload ec928 dL_law_1035
theorem e928_1037 {ls st : List Value} {h : x_H} {x : Int32}: x_run 928 1037 ls (.int x :: st) h = if ¬ x = 0 then x_run 928 1052 ls st h else x_run 928 1040 ls st h := xe_if_ne ec928 dL_law_1037 rfl
theorem e928_1040 {ls st : List Value} {h : x_H} : x_run 928 1040 ls st h = q_gr ls 3 (fun v => x_run 928 1041 ls (.ref v :: st) h) := xe_aload_n ec928 dL_law_1040
theorem e928_1041 {ls st : List Value} {h : x_H} : x_run 928 1041 ls st h = x_run 928 1042 ls (.int (q_i 0) :: st) h := xe_iconst ec928 dL_law_1041
theorem e928_1042 {ls st : List Value} {h : x_H} {x : Int32} {a : Nat}: x_run 928 1042 ls (.int x :: .ref a :: st) h = q_rv2 h a 100 x_isL x (fun v => x_run 928 1043 ls (v :: st) h) := xe_laload ec928 dL_law_1042
theorem e928_1043 {ls st : List Value} {h : x_H} : x_run 928 1043 ls st h = q_gi ls 7 (fun v => x_run 928 1045 ls (.int v :: st) h) := xe_iload ec928 dL_law_1043
theorem e928_1045 {ls st : List Value} {h : x_H} {x : Int32}: x_run 928 1045 ls (.int x :: st) h = x_run 928 1046 ls (.long x.toInt64 :: st) h := xe_i2l ec928 dL_law_1045
theorem e928_1046 {ls st : List Value} {h : x_H} {v w : Int64}: x_run 928 1046 ls (.long v :: .long w :: st) h = x_run 928 1047 ls (.int (lg_cmp w v) :: st) h := xe_lcmp ec928 dL_law_1046
theorem e928_1047 {ls st : List Value} {h : x_H} {x : Int32}: x_run 928 1047 ls (.int x :: st) h = if x = 0 then x_run 928 1052 ls st h else x_run 928 1050 ls st h := xe_if_eq ec928 dL_law_1047 rfl
theorem e928_1050 {ls st : List Value} {h : x_H} : x_run 928 1050 ls st h = x_run 928 1051 ls (.int (q_i 0) :: st) h := xe_iconst ec928 dL_law_1050
theorem e928_1051 {ls : List Value} {h : x_H} {x : Int32} : x_run 928 1051 ls [.int x] h = if narrow .boolean (.int x) = .int x then some (.inl (some (.int x)), h) else none := xe_ireturn ec928 dL_law_1051 rfl
theorem e928_1052 {ls st : List Value} {h : x_H} : x_run 928 1052 ls st h = x_run 928 2044 ls st h := xe_goto ec928 dL_law_1052 rfl
theorem e928_1055 {ls st : List Value} {h : x_H} : x_run 928 1055 ls st h = q_gr ls 1 (fun v => x_run 928 1056 ls (.ref v :: st) h) := xe_aload_n ec928 dL_law_1055
theorem e928_1056 {ls st : List Value} {h : x_H} : x_run 928 1056 ls st h = q_gr ls 0 (fun v => x_run 928 1057 ls (.ref v :: st) h) := xe_aload_n ec928 dL_law_1056
theorem e928_1057 {ls st : List Value} {h : x_H} : x_run 928 1057 ls st h = q_gi ls 5 (fun v => x_run 928 1059 ls (.int v :: st) h) := xe_iload ec928 dL_law_1057
theorem e928_1059 {ls st : List Value} {h : x_H} : x_run 928 1059 ls st h = x_run 928 1060 ls (.int (q_i 1) :: st) h := xe_iconst ec928 dL_law_1059
theorem e928_1060 {ls st : List Value} {h : x_H} {x y : Int32}: x_run 928 1060 ls (.int y :: .int x :: st) h = x_run 928 1061 ls (.int (x + y) :: st) h := xe_iadd ec928 dL_law_1060
theorem e928_1061 {ls st : List Value} {h : x_H} {x : Int32} {a : Nat}: x_run 928 1061 ls (.int x :: .ref a :: st) h = q_ra h a 0 x (fun v => x_run 928 1062 ls (.int v :: st) h) := xe_iaload ec928 dL_law_1061
theorem e928_1062 {ls st : List Value} {h : x_H} : x_run 928 1062 ls st h = q_gr ls 3 (fun v => x_run 928 1063 ls (.ref v :: st) h) := xe_aload_n ec928 dL_law_1062
theorem e928_1063 {ls st : List Value} {h : x_H} {a1 a2 a3 : Value}: x_run 928 1063 ls (a3 :: a2 :: a1 :: st) h = if x_wt st ≤ 8 ∧ x_wt [a1, a2, a3] = 3 then q_cl (x_m 912 [a1, a2, a3] h) (fun v h' => x_run 928 1066 ls (v.toList ++ st) h') else none := xe_stat (args := [a1, a2, a3]) ec928 dL_law_1063 ek9_165 (by decide) rfl (by decide +kernel) (by decide +kernel)
theorem e928_1066 {ls st : List Value} {h : x_H} {x : Int32}: x_run 928 1066 ls (.int x :: st) h = q_ls ls 6 (.int x) (fun ls' => x_run 928 1068 ls' st h) := xe_istore ec928 dL_law_1066
theorem e928_1068 {ls st : List Value} {h : x_H} : x_run 928 1068 ls st h = q_gr ls 2 (fun v => x_run 928 1069 ls (.ref v :: st) h) := xe_aload_n ec928 dL_law_1068
theorem e928_1069 {ls st : List Value} {h : x_H} : x_run 928 1069 ls st h = q_gr ls 0 (fun v => x_run 928 1070 ls (.ref v :: st) h) := xe_aload_n ec928 dL_law_1069
theorem e928_1070 {ls st : List Value} {h : x_H} : x_run 928 1070 ls st h = q_gi ls 5 (fun v => x_run 928 1072 ls (.int v :: st) h) := xe_iload ec928 dL_law_1070
theorem e928_1072 {ls st : List Value} {h : x_H} : x_run 928 1072 ls st h = x_run 928 1073 ls (.int (q_i 1) :: st) h := xe_iconst ec928 dL_law_1072
theorem e928_1073 {ls st : List Value} {h : x_H} {x y : Int32}: x_run 928 1073 ls (.int y :: .int x :: st) h = x_run 928 1074 ls (.int (x + y) :: st) h := xe_iadd ec928 dL_law_1073
theorem e928_1074 {ls st : List Value} {h : x_H} {x : Int32} {a : Nat}: x_run 928 1074 ls (.int x :: .ref a :: st) h = q_ra h a 0 x (fun v => x_run 928 1075 ls (.int v :: st) h) := xe_iaload ec928 dL_law_1074
theorem e928_1075 {ls st : List Value} {h : x_H} {b : Nat} {a1 : Value}: x_run 928 1075 ls (a1 :: .ref b :: st) h = if q_rcv h b 10 = true then (if x_wt st ≤ 8 ∧ x_wt [.ref b, a1] = 2 then q_cl (x_m 849 [.ref b, a1] h) (fun v h' => x_run 928 1078 ls (v.toList ++ st) h') else none) else none := xe_virt (r := [a1]) ec928 dL_law_1075 ek9_167 rfl (by decide +kernel) (by decide +kernel)
theorem e928_1078 {ls st : List Value} {h : x_H} {x : Int32}: x_run 928 1078 ls (.int x :: st) h = q_ls ls 7 (.int x) (fun ls' => x_run 928 1080 ls' st h) := xe_istore ec928 dL_law_1078
theorem e928_1080 {ls st : List Value} {h : x_H} : x_run 928 1080 ls st h = q_gr ls 2 (fun v => x_run 928 1081 ls (.ref v :: st) h) := xe_aload_n ec928 dL_law_1080
theorem e928_1081 {ls st : List Value} {h : x_H} {b : Nat}: x_run 928 1081 ls (.ref b :: st) h = if q_rcv h b 10 = true then (if x_wt st ≤ 8 ∧ x_wt [.ref b] = 1 then q_cl (x_m 801 [.ref b] h) (fun v h' => x_run 928 1084 ls (v.toList ++ st) h') else none) else none := xe_virt (r := []) ec928 dL_law_1081 ek9_125 rfl (by decide +kernel) (by decide +kernel)
theorem e928_1084 {ls st : List Value} {h : x_H} : x_run 928 1084 ls st h = q_gi ls 6 (fun v => x_run 928 1086 ls (.int v :: st) h) := xe_iload ec928 dL_law_1084
theorem e928_1086 {ls st : List Value} {h : x_H} {x y : Int32}: x_run 928 1086 ls (.int y :: .int x :: st) h = if x = y then x_run 928 1091 ls st h else x_run 928 1089 ls st h := xe_ic_eq ec928 dL_law_1086 rfl
theorem e928_1089 {ls st : List Value} {h : x_H} : x_run 928 1089 ls st h = x_run 928 1090 ls (.int (q_i 0) :: st) h := xe_iconst ec928 dL_law_1089
theorem e928_1090 {ls : List Value} {h : x_H} {x : Int32} : x_run 928 1090 ls [.int x] h = if narrow .boolean (.int x) = .int x then some (.inl (some (.int x)), h) else none := xe_ireturn ec928 dL_law_1090 rfl
theorem e928_1091 {ls st : List Value} {h : x_H} : x_run 928 1091 ls st h = q_gi ls 6 (fun v => x_run 928 1093 ls (.int v :: st) h) := xe_iload ec928 dL_law_1091
theorem e928_1093 {ls st : List Value} {h : x_H} {x : Int32}: x_run 928 1093 ls (.int x :: st) h = if ¬ x = 0 then x_run 928 1108 ls st h else x_run 928 1096 ls st h := xe_if_ne ec928 dL_law_1093 rfl
theorem e928_1096 {ls st : List Value} {h : x_H} : x_run 928 1096 ls st h = q_gr ls 3 (fun v => x_run 928 1097 ls (.ref v :: st) h) := xe_aload_n ec928 dL_law_1096
theorem e928_1097 {ls st : List Value} {h : x_H} : x_run 928 1097 ls st h = x_run 928 1098 ls (.int (q_i 0) :: st) h := xe_iconst ec928 dL_law_1097
theorem e928_1098 {ls st : List Value} {h : x_H} {x : Int32} {a : Nat}: x_run 928 1098 ls (.int x :: .ref a :: st) h = q_rv2 h a 100 x_isL x (fun v => x_run 928 1099 ls (v :: st) h) := xe_laload ec928 dL_law_1098
theorem e928_1099 {ls st : List Value} {h : x_H} : x_run 928 1099 ls st h = q_gi ls 7 (fun v => x_run 928 1101 ls (.int v :: st) h) := xe_iload ec928 dL_law_1099
theorem e928_1101 {ls st : List Value} {h : x_H} {x : Int32}: x_run 928 1101 ls (.int x :: st) h = x_run 928 1102 ls (.long x.toInt64 :: st) h := xe_i2l ec928 dL_law_1101
theorem e928_1102 {ls st : List Value} {h : x_H} {v w : Int64}: x_run 928 1102 ls (.long v :: .long w :: st) h = x_run 928 1103 ls (.int (lg_cmp w v) :: st) h := xe_lcmp ec928 dL_law_1102
theorem e928_1103 {ls st : List Value} {h : x_H} {x : Int32}: x_run 928 1103 ls (.int x :: st) h = if x = 0 then x_run 928 1108 ls st h else x_run 928 1106 ls st h := xe_if_eq ec928 dL_law_1103 rfl
theorem e928_1106 {ls st : List Value} {h : x_H} : x_run 928 1106 ls st h = x_run 928 1107 ls (.int (q_i 0) :: st) h := xe_iconst ec928 dL_law_1106
theorem e928_1107 {ls : List Value} {h : x_H} {x : Int32} : x_run 928 1107 ls [.int x] h = if narrow .boolean (.int x) = .int x then some (.inl (some (.int x)), h) else none := xe_ireturn ec928 dL_law_1107 rfl
theorem e928_1108 {ls st : List Value} {h : x_H} : x_run 928 1108 ls st h = x_run 928 2044 ls st h := xe_goto ec928 dL_law_1108 rfl
theorem e928_1111 {ls st : List Value} {h : x_H} : x_run 928 1111 ls st h = q_gr ls 1 (fun v => x_run 928 1112 ls (.ref v :: st) h) := xe_aload_n ec928 dL_law_1111
theorem e928_1112 {ls st : List Value} {h : x_H} : x_run 928 1112 ls st h = q_gr ls 0 (fun v => x_run 928 1113 ls (.ref v :: st) h) := xe_aload_n ec928 dL_law_1112
theorem e928_1113 {ls st : List Value} {h : x_H} : x_run 928 1113 ls st h = q_gi ls 5 (fun v => x_run 928 1115 ls (.int v :: st) h) := xe_iload ec928 dL_law_1113
theorem e928_1115 {ls st : List Value} {h : x_H} : x_run 928 1115 ls st h = x_run 928 1116 ls (.int (q_i 1) :: st) h := xe_iconst ec928 dL_law_1115
theorem e928_1116 {ls st : List Value} {h : x_H} {x y : Int32}: x_run 928 1116 ls (.int y :: .int x :: st) h = x_run 928 1117 ls (.int (x + y) :: st) h := xe_iadd ec928 dL_law_1116
theorem e928_1117 {ls st : List Value} {h : x_H} {x : Int32} {a : Nat}: x_run 928 1117 ls (.int x :: .ref a :: st) h = q_ra h a 0 x (fun v => x_run 928 1118 ls (.int v :: st) h) := xe_iaload ec928 dL_law_1117
theorem e928_1118 {ls st : List Value} {h : x_H} : x_run 928 1118 ls st h = q_gr ls 3 (fun v => x_run 928 1119 ls (.ref v :: st) h) := xe_aload_n ec928 dL_law_1118
theorem e928_1119 {ls st : List Value} {h : x_H} {a1 a2 a3 : Value}: x_run 928 1119 ls (a3 :: a2 :: a1 :: st) h = if x_wt st ≤ 8 ∧ x_wt [a1, a2, a3] = 3 then q_cl (x_m 913 [a1, a2, a3] h) (fun v h' => x_run 928 1122 ls (v.toList ++ st) h') else none := xe_stat (args := [a1, a2, a3]) ec928 dL_law_1119 ek9_168 (by decide) rfl (by decide +kernel) (by decide +kernel)
theorem e928_1122 {ls st : List Value} {h : x_H} {x : Int32}: x_run 928 1122 ls (.int x :: st) h = q_ls ls 6 (.int x) (fun ls' => x_run 928 1124 ls' st h) := xe_istore ec928 dL_law_1122
theorem e928_1124 {ls st : List Value} {h : x_H} : x_run 928 1124 ls st h = q_gr ls 2 (fun v => x_run 928 1125 ls (.ref v :: st) h) := xe_aload_n ec928 dL_law_1124
theorem e928_1125 {ls st : List Value} {h : x_H} : x_run 928 1125 ls st h = q_gr ls 0 (fun v => x_run 928 1126 ls (.ref v :: st) h) := xe_aload_n ec928 dL_law_1125
theorem e928_1126 {ls st : List Value} {h : x_H} : x_run 928 1126 ls st h = q_gi ls 5 (fun v => x_run 928 1128 ls (.int v :: st) h) := xe_iload ec928 dL_law_1126
theorem e928_1128 {ls st : List Value} {h : x_H} : x_run 928 1128 ls st h = x_run 928 1129 ls (.int (q_i 1) :: st) h := xe_iconst ec928 dL_law_1128
theorem e928_1129 {ls st : List Value} {h : x_H} {x y : Int32}: x_run 928 1129 ls (.int y :: .int x :: st) h = x_run 928 1130 ls (.int (x + y) :: st) h := xe_iadd ec928 dL_law_1129
theorem e928_1130 {ls st : List Value} {h : x_H} {x : Int32} {a : Nat}: x_run 928 1130 ls (.int x :: .ref a :: st) h = q_ra h a 0 x (fun v => x_run 928 1131 ls (.int v :: st) h) := xe_iaload ec928 dL_law_1130
theorem e928_1131 {ls st : List Value} {h : x_H} {b : Nat} {a1 : Value}: x_run 928 1131 ls (a1 :: .ref b :: st) h = if q_rcv h b 10 = true then (if x_wt st ≤ 8 ∧ x_wt [.ref b, a1] = 2 then q_cl (x_m 850 [.ref b, a1] h) (fun v h' => x_run 928 1134 ls (v.toList ++ st) h') else none) else none := xe_virt (r := [a1]) ec928 dL_law_1131 ek9_170 rfl (by decide +kernel) (by decide +kernel)
theorem e928_1134 {ls st : List Value} {h : x_H} {x : Int32}: x_run 928 1134 ls (.int x :: st) h = q_ls ls 7 (.int x) (fun ls' => x_run 928 1136 ls' st h) := xe_istore ec928 dL_law_1134
theorem e928_1136 {ls st : List Value} {h : x_H} : x_run 928 1136 ls st h = q_gr ls 2 (fun v => x_run 928 1137 ls (.ref v :: st) h) := xe_aload_n ec928 dL_law_1136
theorem e928_1137 {ls st : List Value} {h : x_H} {b : Nat}: x_run 928 1137 ls (.ref b :: st) h = if q_rcv h b 10 = true then (if x_wt st ≤ 8 ∧ x_wt [.ref b] = 1 then q_cl (x_m 801 [.ref b] h) (fun v h' => x_run 928 1140 ls (v.toList ++ st) h') else none) else none := xe_virt (r := []) ec928 dL_law_1137 ek9_125 rfl (by decide +kernel) (by decide +kernel)
theorem e928_1140 {ls st : List Value} {h : x_H} : x_run 928 1140 ls st h = q_gi ls 6 (fun v => x_run 928 1142 ls (.int v :: st) h) := xe_iload ec928 dL_law_1140
theorem e928_1142 {ls st : List Value} {h : x_H} {x y : Int32}: x_run 928 1142 ls (.int y :: .int x :: st) h = if x = y then x_run 928 1147 ls st h else x_run 928 1145 ls st h := xe_ic_eq ec928 dL_law_1142 rfl
theorem e928_1145 {ls st : List Value} {h : x_H} : x_run 928 1145 ls st h = x_run 928 1146 ls (.int (q_i 0) :: st) h := xe_iconst ec928 dL_law_1145
theorem e928_1146 {ls : List Value} {h : x_H} {x : Int32} : x_run 928 1146 ls [.int x] h = if narrow .boolean (.int x) = .int x then some (.inl (some (.int x)), h) else none := xe_ireturn ec928 dL_law_1146 rfl
theorem e928_1147 {ls st : List Value} {h : x_H} : x_run 928 1147 ls st h = q_gi ls 6 (fun v => x_run 928 1149 ls (.int v :: st) h) := xe_iload ec928 dL_law_1147
theorem e928_1149 {ls st : List Value} {h : x_H} {x : Int32}: x_run 928 1149 ls (.int x :: st) h = if ¬ x = 0 then x_run 928 1164 ls st h else x_run 928 1152 ls st h := xe_if_ne ec928 dL_law_1149 rfl
theorem e928_1152 {ls st : List Value} {h : x_H} : x_run 928 1152 ls st h = q_gr ls 3 (fun v => x_run 928 1153 ls (.ref v :: st) h) := xe_aload_n ec928 dL_law_1152
theorem e928_1153 {ls st : List Value} {h : x_H} : x_run 928 1153 ls st h = x_run 928 1154 ls (.int (q_i 0) :: st) h := xe_iconst ec928 dL_law_1153
theorem e928_1154 {ls st : List Value} {h : x_H} {x : Int32} {a : Nat}: x_run 928 1154 ls (.int x :: .ref a :: st) h = q_rv2 h a 100 x_isL x (fun v => x_run 928 1155 ls (v :: st) h) := xe_laload ec928 dL_law_1154
theorem e928_1155 {ls st : List Value} {h : x_H} : x_run 928 1155 ls st h = q_gi ls 7 (fun v => x_run 928 1157 ls (.int v :: st) h) := xe_iload ec928 dL_law_1155
theorem e928_1157 {ls st : List Value} {h : x_H} {x : Int32}: x_run 928 1157 ls (.int x :: st) h = x_run 928 1158 ls (.long x.toInt64 :: st) h := xe_i2l ec928 dL_law_1157
theorem e928_1158 {ls st : List Value} {h : x_H} {v w : Int64}: x_run 928 1158 ls (.long v :: .long w :: st) h = x_run 928 1159 ls (.int (lg_cmp w v) :: st) h := xe_lcmp ec928 dL_law_1158
theorem e928_1159 {ls st : List Value} {h : x_H} {x : Int32}: x_run 928 1159 ls (.int x :: st) h = if x = 0 then x_run 928 1164 ls st h else x_run 928 1162 ls st h := xe_if_eq ec928 dL_law_1159 rfl
theorem e928_1162 {ls st : List Value} {h : x_H} : x_run 928 1162 ls st h = x_run 928 1163 ls (.int (q_i 0) :: st) h := xe_iconst ec928 dL_law_1162
theorem e928_1163 {ls : List Value} {h : x_H} {x : Int32} : x_run 928 1163 ls [.int x] h = if narrow .boolean (.int x) = .int x then some (.inl (some (.int x)), h) else none := xe_ireturn ec928 dL_law_1163 rfl
theorem e928_1164 {ls st : List Value} {h : x_H} : x_run 928 1164 ls st h = x_run 928 2044 ls st h := xe_goto ec928 dL_law_1164 rfl
theorem e928_1167 {ls st : List Value} {h : x_H} : x_run 928 1167 ls st h = q_gr ls 1 (fun v => x_run 928 1168 ls (.ref v :: st) h) := xe_aload_n ec928 dL_law_1167
theorem e928_1168 {ls st : List Value} {h : x_H} : x_run 928 1168 ls st h = q_gr ls 0 (fun v => x_run 928 1169 ls (.ref v :: st) h) := xe_aload_n ec928 dL_law_1168
theorem e928_1169 {ls st : List Value} {h : x_H} : x_run 928 1169 ls st h = q_gi ls 5 (fun v => x_run 928 1171 ls (.int v :: st) h) := xe_iload ec928 dL_law_1169
theorem e928_1171 {ls st : List Value} {h : x_H} : x_run 928 1171 ls st h = x_run 928 1172 ls (.int (q_i 1) :: st) h := xe_iconst ec928 dL_law_1171
theorem e928_1172 {ls st : List Value} {h : x_H} {x y : Int32}: x_run 928 1172 ls (.int y :: .int x :: st) h = x_run 928 1173 ls (.int (x + y) :: st) h := xe_iadd ec928 dL_law_1172
theorem e928_1173 {ls st : List Value} {h : x_H} {x : Int32} {a : Nat}: x_run 928 1173 ls (.int x :: .ref a :: st) h = q_ra h a 0 x (fun v => x_run 928 1174 ls (.int v :: st) h) := xe_iaload ec928 dL_law_1173
theorem e928_1174 {ls st : List Value} {h : x_H} : x_run 928 1174 ls st h = q_gr ls 0 (fun v => x_run 928 1175 ls (.ref v :: st) h) := xe_aload_n ec928 dL_law_1174
theorem e928_1175 {ls st : List Value} {h : x_H} : x_run 928 1175 ls st h = q_gi ls 5 (fun v => x_run 928 1177 ls (.int v :: st) h) := xe_iload ec928 dL_law_1175
theorem e928_1177 {ls st : List Value} {h : x_H} : x_run 928 1177 ls st h = x_run 928 1178 ls (.int (q_i 2) :: st) h := xe_iconst ec928 dL_law_1177
theorem e928_1178 {ls st : List Value} {h : x_H} {x y : Int32}: x_run 928 1178 ls (.int y :: .int x :: st) h = x_run 928 1179 ls (.int (x + y) :: st) h := xe_iadd ec928 dL_law_1178
theorem e928_1179 {ls st : List Value} {h : x_H} {x : Int32} {a : Nat}: x_run 928 1179 ls (.int x :: .ref a :: st) h = q_ra h a 0 x (fun v => x_run 928 1180 ls (.int v :: st) h) := xe_iaload ec928 dL_law_1179
theorem e928_1180 {ls st : List Value} {h : x_H} : x_run 928 1180 ls st h = q_gr ls 3 (fun v => x_run 928 1181 ls (.ref v :: st) h) := xe_aload_n ec928 dL_law_1180
theorem e928_1181 {ls st : List Value} {h : x_H} {a1 a2 a3 a4 : Value}: x_run 928 1181 ls (a4 :: a3 :: a2 :: a1 :: st) h = if x_wt st ≤ 8 ∧ x_wt [a1, a2, a3, a4] = 4 then q_cl (x_m 914 [a1, a2, a3, a4] h) (fun v h' => x_run 928 1184 ls (v.toList ++ st) h') else none := xe_stat (args := [a1, a2, a3, a4]) ec928 dL_law_1181 ek9_171 (by decide) rfl (by decide +kernel) (by decide +kernel)
theorem e928_1184 {ls st : List Value} {h : x_H} {x : Int32}: x_run 928 1184 ls (.int x :: st) h = q_ls ls 6 (.int x) (fun ls' => x_run 928 1186 ls' st h) := xe_istore ec928 dL_law_1184
theorem e928_1186 {ls st : List Value} {h : x_H} : x_run 928 1186 ls st h = q_gr ls 2 (fun v => x_run 928 1187 ls (.ref v :: st) h) := xe_aload_n ec928 dL_law_1186
theorem e928_1187 {ls st : List Value} {h : x_H} : x_run 928 1187 ls st h = q_gr ls 0 (fun v => x_run 928 1188 ls (.ref v :: st) h) := xe_aload_n ec928 dL_law_1187
theorem e928_1188 {ls st : List Value} {h : x_H} : x_run 928 1188 ls st h = q_gi ls 5 (fun v => x_run 928 1190 ls (.int v :: st) h) := xe_iload ec928 dL_law_1188
theorem e928_1190 {ls st : List Value} {h : x_H} : x_run 928 1190 ls st h = x_run 928 1191 ls (.int (q_i 1) :: st) h := xe_iconst ec928 dL_law_1190
theorem e928_1191 {ls st : List Value} {h : x_H} {x y : Int32}: x_run 928 1191 ls (.int y :: .int x :: st) h = x_run 928 1192 ls (.int (x + y) :: st) h := xe_iadd ec928 dL_law_1191
theorem e928_1192 {ls st : List Value} {h : x_H} {x : Int32} {a : Nat}: x_run 928 1192 ls (.int x :: .ref a :: st) h = q_ra h a 0 x (fun v => x_run 928 1193 ls (.int v :: st) h) := xe_iaload ec928 dL_law_1192
theorem e928_1193 {ls st : List Value} {h : x_H} : x_run 928 1193 ls st h = q_gr ls 0 (fun v => x_run 928 1194 ls (.ref v :: st) h) := xe_aload_n ec928 dL_law_1193
theorem e928_1194 {ls st : List Value} {h : x_H} : x_run 928 1194 ls st h = q_gi ls 5 (fun v => x_run 928 1196 ls (.int v :: st) h) := xe_iload ec928 dL_law_1194
theorem e928_1196 {ls st : List Value} {h : x_H} : x_run 928 1196 ls st h = x_run 928 1197 ls (.int (q_i 2) :: st) h := xe_iconst ec928 dL_law_1196
theorem e928_1197 {ls st : List Value} {h : x_H} {x y : Int32}: x_run 928 1197 ls (.int y :: .int x :: st) h = x_run 928 1198 ls (.int (x + y) :: st) h := xe_iadd ec928 dL_law_1197
theorem e928_1198 {ls st : List Value} {h : x_H} {x : Int32} {a : Nat}: x_run 928 1198 ls (.int x :: .ref a :: st) h = q_ra h a 0 x (fun v => x_run 928 1199 ls (.int v :: st) h) := xe_iaload ec928 dL_law_1198
theorem e928_1199 {ls st : List Value} {h : x_H} {b : Nat} {a1 a2 : Value}: x_run 928 1199 ls (a2 :: a1 :: .ref b :: st) h = if q_rcv h b 10 = true then (if x_wt st ≤ 8 ∧ x_wt [.ref b, a1, a2] = 3 then q_cl (x_m 851 [.ref b, a1, a2] h) (fun v h' => x_run 928 1202 ls (v.toList ++ st) h') else none) else none := xe_virt (r := [a1, a2]) ec928 dL_law_1199 ek9_173 rfl (by decide +kernel) (by decide +kernel)
theorem e928_1202 {ls st : List Value} {h : x_H} {x : Int32}: x_run 928 1202 ls (.int x :: st) h = q_ls ls 7 (.int x) (fun ls' => x_run 928 1204 ls' st h) := xe_istore ec928 dL_law_1202
theorem e928_1204 {ls st : List Value} {h : x_H} : x_run 928 1204 ls st h = q_gr ls 2 (fun v => x_run 928 1205 ls (.ref v :: st) h) := xe_aload_n ec928 dL_law_1204
theorem e928_1205 {ls st : List Value} {h : x_H} {b : Nat}: x_run 928 1205 ls (.ref b :: st) h = if q_rcv h b 10 = true then (if x_wt st ≤ 8 ∧ x_wt [.ref b] = 1 then q_cl (x_m 801 [.ref b] h) (fun v h' => x_run 928 1208 ls (v.toList ++ st) h') else none) else none := xe_virt (r := []) ec928 dL_law_1205 ek9_125 rfl (by decide +kernel) (by decide +kernel)
theorem e928_1208 {ls st : List Value} {h : x_H} : x_run 928 1208 ls st h = q_gi ls 6 (fun v => x_run 928 1210 ls (.int v :: st) h) := xe_iload ec928 dL_law_1208
theorem e928_1210 {ls st : List Value} {h : x_H} {x y : Int32}: x_run 928 1210 ls (.int y :: .int x :: st) h = if x = y then x_run 928 1215 ls st h else x_run 928 1213 ls st h := xe_ic_eq ec928 dL_law_1210 rfl
theorem e928_1213 {ls st : List Value} {h : x_H} : x_run 928 1213 ls st h = x_run 928 1214 ls (.int (q_i 0) :: st) h := xe_iconst ec928 dL_law_1213
theorem e928_1214 {ls : List Value} {h : x_H} {x : Int32} : x_run 928 1214 ls [.int x] h = if narrow .boolean (.int x) = .int x then some (.inl (some (.int x)), h) else none := xe_ireturn ec928 dL_law_1214 rfl
theorem e928_1215 {ls st : List Value} {h : x_H} : x_run 928 1215 ls st h = q_gi ls 6 (fun v => x_run 928 1217 ls (.int v :: st) h) := xe_iload ec928 dL_law_1215
theorem e928_1217 {ls st : List Value} {h : x_H} {x : Int32}: x_run 928 1217 ls (.int x :: st) h = if ¬ x = 0 then x_run 928 1232 ls st h else x_run 928 1220 ls st h := xe_if_ne ec928 dL_law_1217 rfl
theorem e928_1220 {ls st : List Value} {h : x_H} : x_run 928 1220 ls st h = q_gr ls 3 (fun v => x_run 928 1221 ls (.ref v :: st) h) := xe_aload_n ec928 dL_law_1220
theorem e928_1221 {ls st : List Value} {h : x_H} : x_run 928 1221 ls st h = x_run 928 1222 ls (.int (q_i 0) :: st) h := xe_iconst ec928 dL_law_1221
theorem e928_1222 {ls st : List Value} {h : x_H} {x : Int32} {a : Nat}: x_run 928 1222 ls (.int x :: .ref a :: st) h = q_rv2 h a 100 x_isL x (fun v => x_run 928 1223 ls (v :: st) h) := xe_laload ec928 dL_law_1222
theorem e928_1223 {ls st : List Value} {h : x_H} : x_run 928 1223 ls st h = q_gi ls 7 (fun v => x_run 928 1225 ls (.int v :: st) h) := xe_iload ec928 dL_law_1223
theorem e928_1225 {ls st : List Value} {h : x_H} {x : Int32}: x_run 928 1225 ls (.int x :: st) h = x_run 928 1226 ls (.long x.toInt64 :: st) h := xe_i2l ec928 dL_law_1225
theorem e928_1226 {ls st : List Value} {h : x_H} {v w : Int64}: x_run 928 1226 ls (.long v :: .long w :: st) h = x_run 928 1227 ls (.int (lg_cmp w v) :: st) h := xe_lcmp ec928 dL_law_1226
theorem e928_1227 {ls st : List Value} {h : x_H} {x : Int32}: x_run 928 1227 ls (.int x :: st) h = if x = 0 then x_run 928 1232 ls st h else x_run 928 1230 ls st h := xe_if_eq ec928 dL_law_1227 rfl
theorem e928_1230 {ls st : List Value} {h : x_H} : x_run 928 1230 ls st h = x_run 928 1231 ls (.int (q_i 0) :: st) h := xe_iconst ec928 dL_law_1230
theorem e928_1231 {ls : List Value} {h : x_H} {x : Int32} : x_run 928 1231 ls [.int x] h = if narrow .boolean (.int x) = .int x then some (.inl (some (.int x)), h) else none := xe_ireturn ec928 dL_law_1231 rfl
theorem e928_1232 {ls st : List Value} {h : x_H} : x_run 928 1232 ls st h = x_run 928 2044 ls st h := xe_goto ec928 dL_law_1232 rfl
theorem e928_1235 {ls st : List Value} {h : x_H} : x_run 928 1235 ls st h = q_gr ls 1 (fun v => x_run 928 1236 ls (.ref v :: st) h) := xe_aload_n ec928 dL_law_1235
theorem e928_1236 {ls st : List Value} {h : x_H} : x_run 928 1236 ls st h = q_gr ls 0 (fun v => x_run 928 1237 ls (.ref v :: st) h) := xe_aload_n ec928 dL_law_1236
theorem e928_1237 {ls st : List Value} {h : x_H} : x_run 928 1237 ls st h = q_gi ls 5 (fun v => x_run 928 1239 ls (.int v :: st) h) := xe_iload ec928 dL_law_1237
theorem e928_1239 {ls st : List Value} {h : x_H} : x_run 928 1239 ls st h = x_run 928 1240 ls (.int (q_i 1) :: st) h := xe_iconst ec928 dL_law_1239
theorem e928_1240 {ls st : List Value} {h : x_H} {x y : Int32}: x_run 928 1240 ls (.int y :: .int x :: st) h = x_run 928 1241 ls (.int (x + y) :: st) h := xe_iadd ec928 dL_law_1240
theorem e928_1241 {ls st : List Value} {h : x_H} {x : Int32} {a : Nat}: x_run 928 1241 ls (.int x :: .ref a :: st) h = q_ra h a 0 x (fun v => x_run 928 1242 ls (.int v :: st) h) := xe_iaload ec928 dL_law_1241
theorem e928_1242 {ls st : List Value} {h : x_H} : x_run 928 1242 ls st h = q_gr ls 3 (fun v => x_run 928 1243 ls (.ref v :: st) h) := xe_aload_n ec928 dL_law_1242
theorem e928_1243 {ls st : List Value} {h : x_H} {a1 a2 a3 : Value}: x_run 928 1243 ls (a3 :: a2 :: a1 :: st) h = if x_wt st ≤ 8 ∧ x_wt [a1, a2, a3] = 3 then q_cl (x_m 915 [a1, a2, a3] h) (fun v h' => x_run 928 1246 ls (v.toList ++ st) h') else none := xe_stat (args := [a1, a2, a3]) ec928 dL_law_1243 ek9_174 (by decide) rfl (by decide +kernel) (by decide +kernel)
theorem e928_1246 {ls st : List Value} {h : x_H} {x : Int32}: x_run 928 1246 ls (.int x :: st) h = q_ls ls 6 (.int x) (fun ls' => x_run 928 1248 ls' st h) := xe_istore ec928 dL_law_1246
theorem e928_1248 {ls st : List Value} {h : x_H} : x_run 928 1248 ls st h = q_gr ls 2 (fun v => x_run 928 1249 ls (.ref v :: st) h) := xe_aload_n ec928 dL_law_1248
theorem e928_1249 {ls st : List Value} {h : x_H} : x_run 928 1249 ls st h = q_gr ls 0 (fun v => x_run 928 1250 ls (.ref v :: st) h) := xe_aload_n ec928 dL_law_1249
theorem e928_1250 {ls st : List Value} {h : x_H} : x_run 928 1250 ls st h = q_gi ls 5 (fun v => x_run 928 1252 ls (.int v :: st) h) := xe_iload ec928 dL_law_1250
theorem e928_1252 {ls st : List Value} {h : x_H} : x_run 928 1252 ls st h = x_run 928 1253 ls (.int (q_i 1) :: st) h := xe_iconst ec928 dL_law_1252
theorem e928_1253 {ls st : List Value} {h : x_H} {x y : Int32}: x_run 928 1253 ls (.int y :: .int x :: st) h = x_run 928 1254 ls (.int (x + y) :: st) h := xe_iadd ec928 dL_law_1253
theorem e928_1254 {ls st : List Value} {h : x_H} {x : Int32} {a : Nat}: x_run 928 1254 ls (.int x :: .ref a :: st) h = q_ra h a 0 x (fun v => x_run 928 1255 ls (.int v :: st) h) := xe_iaload ec928 dL_law_1254
theorem e928_1255 {ls st : List Value} {h : x_H} {b : Nat} {a1 : Value}: x_run 928 1255 ls (a1 :: .ref b :: st) h = if q_rcv h b 10 = true then (if x_wt st ≤ 8 ∧ x_wt [.ref b, a1] = 2 then q_cl (x_m 852 [.ref b, a1] h) (fun v h' => x_run 928 1258 ls (v.toList ++ st) h') else none) else none := xe_virt (r := [a1]) ec928 dL_law_1255 ek9_176 rfl (by decide +kernel) (by decide +kernel)
theorem e928_1258 {ls st : List Value} {h : x_H} {x : Int32}: x_run 928 1258 ls (.int x :: st) h = q_ls ls 7 (.int x) (fun ls' => x_run 928 1260 ls' st h) := xe_istore ec928 dL_law_1258
theorem e928_1260 {ls st : List Value} {h : x_H} : x_run 928 1260 ls st h = q_gr ls 2 (fun v => x_run 928 1261 ls (.ref v :: st) h) := xe_aload_n ec928 dL_law_1260
theorem e928_1261 {ls st : List Value} {h : x_H} {b : Nat}: x_run 928 1261 ls (.ref b :: st) h = if q_rcv h b 10 = true then (if x_wt st ≤ 8 ∧ x_wt [.ref b] = 1 then q_cl (x_m 801 [.ref b] h) (fun v h' => x_run 928 1264 ls (v.toList ++ st) h') else none) else none := xe_virt (r := []) ec928 dL_law_1261 ek9_125 rfl (by decide +kernel) (by decide +kernel)
theorem e928_1264 {ls st : List Value} {h : x_H} : x_run 928 1264 ls st h = q_gi ls 6 (fun v => x_run 928 1266 ls (.int v :: st) h) := xe_iload ec928 dL_law_1264
theorem e928_1266 {ls st : List Value} {h : x_H} {x y : Int32}: x_run 928 1266 ls (.int y :: .int x :: st) h = if x = y then x_run 928 1271 ls st h else x_run 928 1269 ls st h := xe_ic_eq ec928 dL_law_1266 rfl
theorem e928_1269 {ls st : List Value} {h : x_H} : x_run 928 1269 ls st h = x_run 928 1270 ls (.int (q_i 0) :: st) h := xe_iconst ec928 dL_law_1269
theorem e928_1270 {ls : List Value} {h : x_H} {x : Int32} : x_run 928 1270 ls [.int x] h = if narrow .boolean (.int x) = .int x then some (.inl (some (.int x)), h) else none := xe_ireturn ec928 dL_law_1270 rfl
theorem e928_1271 {ls st : List Value} {h : x_H} : x_run 928 1271 ls st h = q_gi ls 6 (fun v => x_run 928 1273 ls (.int v :: st) h) := xe_iload ec928 dL_law_1271
theorem e928_1273 {ls st : List Value} {h : x_H} {x : Int32}: x_run 928 1273 ls (.int x :: st) h = if ¬ x = 0 then x_run 928 1288 ls st h else x_run 928 1276 ls st h := xe_if_ne ec928 dL_law_1273 rfl
theorem e928_1276 {ls st : List Value} {h : x_H} : x_run 928 1276 ls st h = q_gr ls 3 (fun v => x_run 928 1277 ls (.ref v :: st) h) := xe_aload_n ec928 dL_law_1276
theorem e928_1277 {ls st : List Value} {h : x_H} : x_run 928 1277 ls st h = x_run 928 1278 ls (.int (q_i 0) :: st) h := xe_iconst ec928 dL_law_1277
theorem e928_1278 {ls st : List Value} {h : x_H} {x : Int32} {a : Nat}: x_run 928 1278 ls (.int x :: .ref a :: st) h = q_rv2 h a 100 x_isL x (fun v => x_run 928 1279 ls (v :: st) h) := xe_laload ec928 dL_law_1278
theorem e928_1279 {ls st : List Value} {h : x_H} : x_run 928 1279 ls st h = q_gi ls 7 (fun v => x_run 928 1281 ls (.int v :: st) h) := xe_iload ec928 dL_law_1279
theorem e928_1281 {ls st : List Value} {h : x_H} {x : Int32}: x_run 928 1281 ls (.int x :: st) h = x_run 928 1282 ls (.long x.toInt64 :: st) h := xe_i2l ec928 dL_law_1281
theorem e928_1282 {ls st : List Value} {h : x_H} {v w : Int64}: x_run 928 1282 ls (.long v :: .long w :: st) h = x_run 928 1283 ls (.int (lg_cmp w v) :: st) h := xe_lcmp ec928 dL_law_1282
theorem e928_1283 {ls st : List Value} {h : x_H} {x : Int32}: x_run 928 1283 ls (.int x :: st) h = if x = 0 then x_run 928 1288 ls st h else x_run 928 1286 ls st h := xe_if_eq ec928 dL_law_1283 rfl
theorem e928_1286 {ls st : List Value} {h : x_H} : x_run 928 1286 ls st h = x_run 928 1287 ls (.int (q_i 0) :: st) h := xe_iconst ec928 dL_law_1286
theorem e928_1287 {ls : List Value} {h : x_H} {x : Int32} : x_run 928 1287 ls [.int x] h = if narrow .boolean (.int x) = .int x then some (.inl (some (.int x)), h) else none := xe_ireturn ec928 dL_law_1287 rfl
theorem e928_1288 {ls st : List Value} {h : x_H} : x_run 928 1288 ls st h = x_run 928 2044 ls st h := xe_goto ec928 dL_law_1288 rfl
theorem e928_1291 {ls st : List Value} {h : x_H} : x_run 928 1291 ls st h = q_gr ls 1 (fun v => x_run 928 1292 ls (.ref v :: st) h) := xe_aload_n ec928 dL_law_1291
theorem e928_1292 {ls st : List Value} {h : x_H} : x_run 928 1292 ls st h = q_gr ls 0 (fun v => x_run 928 1293 ls (.ref v :: st) h) := xe_aload_n ec928 dL_law_1292
theorem e928_1293 {ls st : List Value} {h : x_H} : x_run 928 1293 ls st h = q_gi ls 5 (fun v => x_run 928 1295 ls (.int v :: st) h) := xe_iload ec928 dL_law_1293
theorem e928_1295 {ls st : List Value} {h : x_H} : x_run 928 1295 ls st h = x_run 928 1296 ls (.int (q_i 1) :: st) h := xe_iconst ec928 dL_law_1295
theorem e928_1296 {ls st : List Value} {h : x_H} {x y : Int32}: x_run 928 1296 ls (.int y :: .int x :: st) h = x_run 928 1297 ls (.int (x + y) :: st) h := xe_iadd ec928 dL_law_1296
theorem e928_1297 {ls st : List Value} {h : x_H} {x : Int32} {a : Nat}: x_run 928 1297 ls (.int x :: .ref a :: st) h = q_ra h a 0 x (fun v => x_run 928 1298 ls (.int v :: st) h) := xe_iaload ec928 dL_law_1297
theorem e928_1298 {ls st : List Value} {h : x_H} : x_run 928 1298 ls st h = q_gr ls 3 (fun v => x_run 928 1299 ls (.ref v :: st) h) := xe_aload_n ec928 dL_law_1298
theorem e928_1299 {ls st : List Value} {h : x_H} {a1 a2 a3 : Value}: x_run 928 1299 ls (a3 :: a2 :: a1 :: st) h = if x_wt st ≤ 8 ∧ x_wt [a1, a2, a3] = 3 then q_cl (x_m 916 [a1, a2, a3] h) (fun v h' => x_run 928 1302 ls (v.toList ++ st) h') else none := xe_stat (args := [a1, a2, a3]) ec928 dL_law_1299 ek9_177 (by decide) rfl (by decide +kernel) (by decide +kernel)
theorem e928_1302 {ls st : List Value} {h : x_H} {x : Int32}: x_run 928 1302 ls (.int x :: st) h = q_ls ls 6 (.int x) (fun ls' => x_run 928 1304 ls' st h) := xe_istore ec928 dL_law_1302
theorem e928_1304 {ls st : List Value} {h : x_H} : x_run 928 1304 ls st h = q_gr ls 2 (fun v => x_run 928 1305 ls (.ref v :: st) h) := xe_aload_n ec928 dL_law_1304
theorem e928_1305 {ls st : List Value} {h : x_H} : x_run 928 1305 ls st h = q_gr ls 0 (fun v => x_run 928 1306 ls (.ref v :: st) h) := xe_aload_n ec928 dL_law_1305
theorem e928_1306 {ls st : List Value} {h : x_H} : x_run 928 1306 ls st h = q_gi ls 5 (fun v => x_run 928 1308 ls (.int v :: st) h) := xe_iload ec928 dL_law_1306
theorem e928_1308 {ls st : List Value} {h : x_H} : x_run 928 1308 ls st h = x_run 928 1309 ls (.int (q_i 1) :: st) h := xe_iconst ec928 dL_law_1308
theorem e928_1309 {ls st : List Value} {h : x_H} {x y : Int32}: x_run 928 1309 ls (.int y :: .int x :: st) h = x_run 928 1310 ls (.int (x + y) :: st) h := xe_iadd ec928 dL_law_1309
theorem e928_1310 {ls st : List Value} {h : x_H} {x : Int32} {a : Nat}: x_run 928 1310 ls (.int x :: .ref a :: st) h = q_ra h a 0 x (fun v => x_run 928 1311 ls (.int v :: st) h) := xe_iaload ec928 dL_law_1310
theorem e928_1311 {ls st : List Value} {h : x_H} {b : Nat} {a1 : Value}: x_run 928 1311 ls (a1 :: .ref b :: st) h = if q_rcv h b 10 = true then (if x_wt st ≤ 8 ∧ x_wt [.ref b, a1] = 2 then q_cl (x_m 853 [.ref b, a1] h) (fun v h' => x_run 928 1314 ls (v.toList ++ st) h') else none) else none := xe_virt (r := [a1]) ec928 dL_law_1311 ek9_179 rfl (by decide +kernel) (by decide +kernel)
theorem e928_1314 {ls st : List Value} {h : x_H} {x : Int32}: x_run 928 1314 ls (.int x :: st) h = q_ls ls 7 (.int x) (fun ls' => x_run 928 1316 ls' st h) := xe_istore ec928 dL_law_1314
theorem e928_1316 {ls st : List Value} {h : x_H} : x_run 928 1316 ls st h = q_gr ls 2 (fun v => x_run 928 1317 ls (.ref v :: st) h) := xe_aload_n ec928 dL_law_1316
theorem e928_1317 {ls st : List Value} {h : x_H} {b : Nat}: x_run 928 1317 ls (.ref b :: st) h = if q_rcv h b 10 = true then (if x_wt st ≤ 8 ∧ x_wt [.ref b] = 1 then q_cl (x_m 801 [.ref b] h) (fun v h' => x_run 928 1320 ls (v.toList ++ st) h') else none) else none := xe_virt (r := []) ec928 dL_law_1317 ek9_125 rfl (by decide +kernel) (by decide +kernel)
theorem e928_1320 {ls st : List Value} {h : x_H} : x_run 928 1320 ls st h = q_gi ls 6 (fun v => x_run 928 1322 ls (.int v :: st) h) := xe_iload ec928 dL_law_1320
theorem e928_1322 {ls st : List Value} {h : x_H} {x y : Int32}: x_run 928 1322 ls (.int y :: .int x :: st) h = if x = y then x_run 928 1327 ls st h else x_run 928 1325 ls st h := xe_ic_eq ec928 dL_law_1322 rfl
theorem e928_1325 {ls st : List Value} {h : x_H} : x_run 928 1325 ls st h = x_run 928 1326 ls (.int (q_i 0) :: st) h := xe_iconst ec928 dL_law_1325
theorem e928_1326 {ls : List Value} {h : x_H} {x : Int32} : x_run 928 1326 ls [.int x] h = if narrow .boolean (.int x) = .int x then some (.inl (some (.int x)), h) else none := xe_ireturn ec928 dL_law_1326 rfl
theorem e928_1327 {ls st : List Value} {h : x_H} : x_run 928 1327 ls st h = q_gi ls 6 (fun v => x_run 928 1329 ls (.int v :: st) h) := xe_iload ec928 dL_law_1327
theorem e928_1329 {ls st : List Value} {h : x_H} {x : Int32}: x_run 928 1329 ls (.int x :: st) h = if ¬ x = 0 then x_run 928 1344 ls st h else x_run 928 1332 ls st h := xe_if_ne ec928 dL_law_1329 rfl
theorem e928_1332 {ls st : List Value} {h : x_H} : x_run 928 1332 ls st h = q_gr ls 3 (fun v => x_run 928 1333 ls (.ref v :: st) h) := xe_aload_n ec928 dL_law_1332
theorem e928_1333 {ls st : List Value} {h : x_H} : x_run 928 1333 ls st h = x_run 928 1334 ls (.int (q_i 0) :: st) h := xe_iconst ec928 dL_law_1333
theorem e928_1334 {ls st : List Value} {h : x_H} {x : Int32} {a : Nat}: x_run 928 1334 ls (.int x :: .ref a :: st) h = q_rv2 h a 100 x_isL x (fun v => x_run 928 1335 ls (v :: st) h) := xe_laload ec928 dL_law_1334
theorem e928_1335 {ls st : List Value} {h : x_H} : x_run 928 1335 ls st h = q_gi ls 7 (fun v => x_run 928 1337 ls (.int v :: st) h) := xe_iload ec928 dL_law_1335
theorem e928_1337 {ls st : List Value} {h : x_H} {x : Int32}: x_run 928 1337 ls (.int x :: st) h = x_run 928 1338 ls (.long x.toInt64 :: st) h := xe_i2l ec928 dL_law_1337
theorem e928_1338 {ls st : List Value} {h : x_H} {v w : Int64}: x_run 928 1338 ls (.long v :: .long w :: st) h = x_run 928 1339 ls (.int (lg_cmp w v) :: st) h := xe_lcmp ec928 dL_law_1338
theorem e928_1339 {ls st : List Value} {h : x_H} {x : Int32}: x_run 928 1339 ls (.int x :: st) h = if x = 0 then x_run 928 1344 ls st h else x_run 928 1342 ls st h := xe_if_eq ec928 dL_law_1339 rfl
theorem e928_1342 {ls st : List Value} {h : x_H} : x_run 928 1342 ls st h = x_run 928 1343 ls (.int (q_i 0) :: st) h := xe_iconst ec928 dL_law_1342
theorem e928_1343 {ls : List Value} {h : x_H} {x : Int32} : x_run 928 1343 ls [.int x] h = if narrow .boolean (.int x) = .int x then some (.inl (some (.int x)), h) else none := xe_ireturn ec928 dL_law_1343 rfl
theorem e928_1344 {ls st : List Value} {h : x_H} : x_run 928 1344 ls st h = x_run 928 2044 ls st h := xe_goto ec928 dL_law_1344 rfl
theorem e928_1347 {ls st : List Value} {h : x_H} : x_run 928 1347 ls st h = q_gr ls 1 (fun v => x_run 928 1348 ls (.ref v :: st) h) := xe_aload_n ec928 dL_law_1347
theorem e928_1348 {ls st : List Value} {h : x_H} {b : Nat}: x_run 928 1348 ls (.ref b :: st) h = if q_rcv h b 9 = true then (if x_wt st ≤ 8 ∧ x_wt [.ref b] = 1 then q_cl (x_m 718 [.ref b] h) (fun v h' => x_run 928 1351 ls (v.toList ++ st) h') else none) else none := xe_virt (r := []) ec928 dL_law_1348 ek9_180 rfl (by decide +kernel) (by decide +kernel)
theorem e928_1351 {ls st : List Value} {h : x_H} : x_run 928 1351 ls st h = q_gr ls 2 (fun v => x_run 928 1352 ls (.ref v :: st) h) := xe_aload_n ec928 dL_law_1351
theorem e928_1352 {ls st : List Value} {h : x_H} {b : Nat}: x_run 928 1352 ls (.ref b :: st) h = if q_rcv h b 10 = true then (if x_wt st ≤ 8 ∧ x_wt [.ref b] = 1 then q_cl (x_m 854 [.ref b] h) (fun v h' => x_run 928 1355 ls (v.toList ++ st) h') else none) else none := xe_virt (r := []) ec928 dL_law_1352 ek9_183 rfl (by decide +kernel) (by decide +kernel)
theorem e928_1355 {ls st : List Value} {h : x_H} {x y : Int32}: x_run 928 1355 ls (.int y :: .int x :: st) h = if x = y then x_run 928 2044 ls st h else x_run 928 1358 ls st h := xe_ic_eq ec928 dL_law_1355 rfl
theorem e928_1358 {ls st : List Value} {h : x_H} : x_run 928 1358 ls st h = x_run 928 1359 ls (.int (q_i 0) :: st) h := xe_iconst ec928 dL_law_1358
theorem e928_1359 {ls : List Value} {h : x_H} {x : Int32} : x_run 928 1359 ls [.int x] h = if narrow .boolean (.int x) = .int x then some (.inl (some (.int x)), h) else none := xe_ireturn ec928 dL_law_1359 rfl
theorem e928_1360 {ls st : List Value} {h : x_H} : x_run 928 1360 ls st h = q_gr ls 1 (fun v => x_run 928 1361 ls (.ref v :: st) h) := xe_aload_n ec928 dL_law_1360
theorem e928_1361 {ls st : List Value} {h : x_H} {b : Nat}: x_run 928 1361 ls (.ref b :: st) h = if q_rcv h b 9 = true then (if x_wt st ≤ 8 ∧ x_wt [.ref b] = 1 then q_cl (x_m 719 [.ref b] h) (fun v h' => x_run 928 1364 ls (v.toList ++ st) h') else none) else none := xe_virt (r := []) ec928 dL_law_1361 ek9_184 rfl (by decide +kernel) (by decide +kernel)
theorem e928_1364 {ls st : List Value} {h : x_H} : x_run 928 1364 ls st h = q_gr ls 2 (fun v => x_run 928 1365 ls (.ref v :: st) h) := xe_aload_n ec928 dL_law_1364
theorem e928_1365 {ls st : List Value} {h : x_H} {b : Nat}: x_run 928 1365 ls (.ref b :: st) h = if q_rcv h b 10 = true then (if x_wt st ≤ 8 ∧ x_wt [.ref b] = 1 then q_cl (x_m 855 [.ref b] h) (fun v h' => x_run 928 1368 ls (v.toList ++ st) h') else none) else none := xe_virt (r := []) ec928 dL_law_1365 ek9_187 rfl (by decide +kernel) (by decide +kernel)
theorem e928_1368 {ls st : List Value} {h : x_H} {x y : Int32}: x_run 928 1368 ls (.int y :: .int x :: st) h = if x = y then x_run 928 2044 ls st h else x_run 928 1371 ls st h := xe_ic_eq ec928 dL_law_1368 rfl
theorem e928_1371 {ls st : List Value} {h : x_H} : x_run 928 1371 ls st h = x_run 928 1372 ls (.int (q_i 0) :: st) h := xe_iconst ec928 dL_law_1371
theorem e928_1372 {ls : List Value} {h : x_H} {x : Int32} : x_run 928 1372 ls [.int x] h = if narrow .boolean (.int x) = .int x then some (.inl (some (.int x)), h) else none := xe_ireturn ec928 dL_law_1372 rfl
theorem e928_1373 {ls st : List Value} {h : x_H} : x_run 928 1373 ls st h = q_gr ls 1 (fun v => x_run 928 1374 ls (.ref v :: st) h) := xe_aload_n ec928 dL_law_1373
theorem e928_1374 {ls st : List Value} {h : x_H} : x_run 928 1374 ls st h = q_gr ls 0 (fun v => x_run 928 1375 ls (.ref v :: st) h) := xe_aload_n ec928 dL_law_1374
theorem e928_1375 {ls st : List Value} {h : x_H} : x_run 928 1375 ls st h = q_gi ls 5 (fun v => x_run 928 1377 ls (.int v :: st) h) := xe_iload ec928 dL_law_1375
theorem e928_1377 {ls st : List Value} {h : x_H} : x_run 928 1377 ls st h = x_run 928 1378 ls (.int (q_i 1) :: st) h := xe_iconst ec928 dL_law_1377
theorem e928_1378 {ls st : List Value} {h : x_H} {x y : Int32}: x_run 928 1378 ls (.int y :: .int x :: st) h = x_run 928 1379 ls (.int (x + y) :: st) h := xe_iadd ec928 dL_law_1378
theorem e928_1379 {ls st : List Value} {h : x_H} {x : Int32} {a : Nat}: x_run 928 1379 ls (.int x :: .ref a :: st) h = q_ra h a 0 x (fun v => x_run 928 1380 ls (.int v :: st) h) := xe_iaload ec928 dL_law_1379
theorem e928_1380 {ls st : List Value} {h : x_H} : x_run 928 1380 ls st h = q_gr ls 3 (fun v => x_run 928 1381 ls (.ref v :: st) h) := xe_aload_n ec928 dL_law_1380
theorem e928_1381 {ls st : List Value} {h : x_H} {a1 a2 a3 : Value}: x_run 928 1381 ls (a3 :: a2 :: a1 :: st) h = if x_wt st ≤ 8 ∧ x_wt [a1, a2, a3] = 3 then q_cl (x_m 917 [a1, a2, a3] h) (fun v h' => x_run 928 1384 ls (v.toList ++ st) h') else none := xe_stat (args := [a1, a2, a3]) ec928 dL_law_1381 ek9_188 (by decide) rfl (by decide +kernel) (by decide +kernel)
theorem e928_1384 {ls st : List Value} {h : x_H} {x : Int32}: x_run 928 1384 ls (.int x :: st) h = q_ls ls 6 (.int x) (fun ls' => x_run 928 1386 ls' st h) := xe_istore ec928 dL_law_1384
theorem e928_1386 {ls st : List Value} {h : x_H} : x_run 928 1386 ls st h = q_gr ls 2 (fun v => x_run 928 1387 ls (.ref v :: st) h) := xe_aload_n ec928 dL_law_1386
theorem e928_1387 {ls st : List Value} {h : x_H} : x_run 928 1387 ls st h = q_gr ls 0 (fun v => x_run 928 1388 ls (.ref v :: st) h) := xe_aload_n ec928 dL_law_1387
theorem e928_1388 {ls st : List Value} {h : x_H} : x_run 928 1388 ls st h = q_gi ls 5 (fun v => x_run 928 1390 ls (.int v :: st) h) := xe_iload ec928 dL_law_1388
theorem e928_1390 {ls st : List Value} {h : x_H} : x_run 928 1390 ls st h = x_run 928 1391 ls (.int (q_i 1) :: st) h := xe_iconst ec928 dL_law_1390
theorem e928_1391 {ls st : List Value} {h : x_H} {x y : Int32}: x_run 928 1391 ls (.int y :: .int x :: st) h = x_run 928 1392 ls (.int (x + y) :: st) h := xe_iadd ec928 dL_law_1391
theorem e928_1392 {ls st : List Value} {h : x_H} {x : Int32} {a : Nat}: x_run 928 1392 ls (.int x :: .ref a :: st) h = q_ra h a 0 x (fun v => x_run 928 1393 ls (.int v :: st) h) := xe_iaload ec928 dL_law_1392
theorem e928_1393 {ls st : List Value} {h : x_H} {b : Nat} {a1 : Value}: x_run 928 1393 ls (a1 :: .ref b :: st) h = if q_rcv h b 10 = true then (if x_wt st ≤ 8 ∧ x_wt [.ref b, a1] = 2 then q_cl (x_m 856 [.ref b, a1] h) (fun v h' => x_run 928 1396 ls (v.toList ++ st) h') else none) else none := xe_virt (r := [a1]) ec928 dL_law_1393 ek9_190 rfl (by decide +kernel) (by decide +kernel)
theorem e928_1396 {ls st : List Value} {h : x_H} {x : Int32}: x_run 928 1396 ls (.int x :: st) h = q_ls ls 7 (.int x) (fun ls' => x_run 928 1398 ls' st h) := xe_istore ec928 dL_law_1396
theorem e928_1398 {ls st : List Value} {h : x_H} : x_run 928 1398 ls st h = q_gr ls 2 (fun v => x_run 928 1399 ls (.ref v :: st) h) := xe_aload_n ec928 dL_law_1398
theorem e928_1399 {ls st : List Value} {h : x_H} {b : Nat}: x_run 928 1399 ls (.ref b :: st) h = if q_rcv h b 10 = true then (if x_wt st ≤ 8 ∧ x_wt [.ref b] = 1 then q_cl (x_m 801 [.ref b] h) (fun v h' => x_run 928 1402 ls (v.toList ++ st) h') else none) else none := xe_virt (r := []) ec928 dL_law_1399 ek9_125 rfl (by decide +kernel) (by decide +kernel)
theorem e928_1402 {ls st : List Value} {h : x_H} : x_run 928 1402 ls st h = q_gi ls 6 (fun v => x_run 928 1404 ls (.int v :: st) h) := xe_iload ec928 dL_law_1402
theorem e928_1404 {ls st : List Value} {h : x_H} {x y : Int32}: x_run 928 1404 ls (.int y :: .int x :: st) h = if x = y then x_run 928 1409 ls st h else x_run 928 1407 ls st h := xe_ic_eq ec928 dL_law_1404 rfl
theorem e928_1407 {ls st : List Value} {h : x_H} : x_run 928 1407 ls st h = x_run 928 1408 ls (.int (q_i 0) :: st) h := xe_iconst ec928 dL_law_1407
theorem e928_1408 {ls : List Value} {h : x_H} {x : Int32} : x_run 928 1408 ls [.int x] h = if narrow .boolean (.int x) = .int x then some (.inl (some (.int x)), h) else none := xe_ireturn ec928 dL_law_1408 rfl
theorem e928_1409 {ls st : List Value} {h : x_H} : x_run 928 1409 ls st h = q_gi ls 6 (fun v => x_run 928 1411 ls (.int v :: st) h) := xe_iload ec928 dL_law_1409
theorem e928_1411 {ls st : List Value} {h : x_H} {x : Int32}: x_run 928 1411 ls (.int x :: st) h = if ¬ x = 0 then x_run 928 1426 ls st h else x_run 928 1414 ls st h := xe_if_ne ec928 dL_law_1411 rfl
theorem e928_1414 {ls st : List Value} {h : x_H} : x_run 928 1414 ls st h = q_gr ls 3 (fun v => x_run 928 1415 ls (.ref v :: st) h) := xe_aload_n ec928 dL_law_1414
theorem e928_1415 {ls st : List Value} {h : x_H} : x_run 928 1415 ls st h = x_run 928 1416 ls (.int (q_i 0) :: st) h := xe_iconst ec928 dL_law_1415
theorem e928_1416 {ls st : List Value} {h : x_H} {x : Int32} {a : Nat}: x_run 928 1416 ls (.int x :: .ref a :: st) h = q_rv2 h a 100 x_isL x (fun v => x_run 928 1417 ls (v :: st) h) := xe_laload ec928 dL_law_1416
theorem e928_1417 {ls st : List Value} {h : x_H} : x_run 928 1417 ls st h = q_gi ls 7 (fun v => x_run 928 1419 ls (.int v :: st) h) := xe_iload ec928 dL_law_1417
theorem e928_1419 {ls st : List Value} {h : x_H} {x : Int32}: x_run 928 1419 ls (.int x :: st) h = x_run 928 1420 ls (.long x.toInt64 :: st) h := xe_i2l ec928 dL_law_1419
theorem e928_1420 {ls st : List Value} {h : x_H} {v w : Int64}: x_run 928 1420 ls (.long v :: .long w :: st) h = x_run 928 1421 ls (.int (lg_cmp w v) :: st) h := xe_lcmp ec928 dL_law_1420
theorem e928_1421 {ls st : List Value} {h : x_H} {x : Int32}: x_run 928 1421 ls (.int x :: st) h = if x = 0 then x_run 928 1426 ls st h else x_run 928 1424 ls st h := xe_if_eq ec928 dL_law_1421 rfl
theorem e928_1424 {ls st : List Value} {h : x_H} : x_run 928 1424 ls st h = x_run 928 1425 ls (.int (q_i 0) :: st) h := xe_iconst ec928 dL_law_1424
theorem e928_1425 {ls : List Value} {h : x_H} {x : Int32} : x_run 928 1425 ls [.int x] h = if narrow .boolean (.int x) = .int x then some (.inl (some (.int x)), h) else none := xe_ireturn ec928 dL_law_1425 rfl
theorem e928_1426 {ls st : List Value} {h : x_H} : x_run 928 1426 ls st h = x_run 928 2044 ls st h := xe_goto ec928 dL_law_1426 rfl
theorem e928_1429 {ls st : List Value} {h : x_H} : x_run 928 1429 ls st h = q_gr ls 1 (fun v => x_run 928 1430 ls (.ref v :: st) h) := xe_aload_n ec928 dL_law_1429
theorem e928_1430 {ls st : List Value} {h : x_H} : x_run 928 1430 ls st h = q_gr ls 0 (fun v => x_run 928 1431 ls (.ref v :: st) h) := xe_aload_n ec928 dL_law_1430
theorem e928_1431 {ls st : List Value} {h : x_H} : x_run 928 1431 ls st h = q_gi ls 5 (fun v => x_run 928 1433 ls (.int v :: st) h) := xe_iload ec928 dL_law_1431
theorem e928_1433 {ls st : List Value} {h : x_H} : x_run 928 1433 ls st h = x_run 928 1434 ls (.int (q_i 1) :: st) h := xe_iconst ec928 dL_law_1433
theorem e928_1434 {ls st : List Value} {h : x_H} {x y : Int32}: x_run 928 1434 ls (.int y :: .int x :: st) h = x_run 928 1435 ls (.int (x + y) :: st) h := xe_iadd ec928 dL_law_1434
theorem e928_1435 {ls st : List Value} {h : x_H} {x : Int32} {a : Nat}: x_run 928 1435 ls (.int x :: .ref a :: st) h = q_ra h a 0 x (fun v => x_run 928 1436 ls (.int v :: st) h) := xe_iaload ec928 dL_law_1435
theorem e928_1436 {ls st : List Value} {h : x_H} : x_run 928 1436 ls st h = q_gr ls 3 (fun v => x_run 928 1437 ls (.ref v :: st) h) := xe_aload_n ec928 dL_law_1436
theorem e928_1437 {ls st : List Value} {h : x_H} {a1 a2 a3 : Value}: x_run 928 1437 ls (a3 :: a2 :: a1 :: st) h = if x_wt st ≤ 8 ∧ x_wt [a1, a2, a3] = 3 then q_cl (x_m 918 [a1, a2, a3] h) (fun v h' => x_run 928 1440 ls (v.toList ++ st) h') else none := xe_stat (args := [a1, a2, a3]) ec928 dL_law_1437 ek9_191 (by decide) rfl (by decide +kernel) (by decide +kernel)
theorem e928_1440 {ls st : List Value} {h : x_H} {x : Int32}: x_run 928 1440 ls (.int x :: st) h = q_ls ls 6 (.int x) (fun ls' => x_run 928 1442 ls' st h) := xe_istore ec928 dL_law_1440
theorem e928_1442 {ls st : List Value} {h : x_H} : x_run 928 1442 ls st h = q_gr ls 2 (fun v => x_run 928 1443 ls (.ref v :: st) h) := xe_aload_n ec928 dL_law_1442
theorem e928_1443 {ls st : List Value} {h : x_H} : x_run 928 1443 ls st h = q_gr ls 0 (fun v => x_run 928 1444 ls (.ref v :: st) h) := xe_aload_n ec928 dL_law_1443
theorem e928_1444 {ls st : List Value} {h : x_H} : x_run 928 1444 ls st h = q_gi ls 5 (fun v => x_run 928 1446 ls (.int v :: st) h) := xe_iload ec928 dL_law_1444
theorem e928_1446 {ls st : List Value} {h : x_H} : x_run 928 1446 ls st h = x_run 928 1447 ls (.int (q_i 1) :: st) h := xe_iconst ec928 dL_law_1446
theorem e928_1447 {ls st : List Value} {h : x_H} {x y : Int32}: x_run 928 1447 ls (.int y :: .int x :: st) h = x_run 928 1448 ls (.int (x + y) :: st) h := xe_iadd ec928 dL_law_1447
theorem e928_1448 {ls st : List Value} {h : x_H} {x : Int32} {a : Nat}: x_run 928 1448 ls (.int x :: .ref a :: st) h = q_ra h a 0 x (fun v => x_run 928 1449 ls (.int v :: st) h) := xe_iaload ec928 dL_law_1448
theorem e928_1449 {ls st : List Value} {h : x_H} {b : Nat} {a1 : Value}: x_run 928 1449 ls (a1 :: .ref b :: st) h = if q_rcv h b 10 = true then (if x_wt st ≤ 8 ∧ x_wt [.ref b, a1] = 2 then q_cl (x_m 858 [.ref b, a1] h) (fun v h' => x_run 928 1452 ls (v.toList ++ st) h') else none) else none := xe_virt (r := [a1]) ec928 dL_law_1449 ek9_193 rfl (by decide +kernel) (by decide +kernel)
theorem e928_1452 {ls st : List Value} {h : x_H} {x : Int32}: x_run 928 1452 ls (.int x :: st) h = q_ls ls 7 (.int x) (fun ls' => x_run 928 1454 ls' st h) := xe_istore ec928 dL_law_1452
theorem e928_1454 {ls st : List Value} {h : x_H} : x_run 928 1454 ls st h = q_gr ls 2 (fun v => x_run 928 1455 ls (.ref v :: st) h) := xe_aload_n ec928 dL_law_1454
theorem e928_1455 {ls st : List Value} {h : x_H} {b : Nat}: x_run 928 1455 ls (.ref b :: st) h = if q_rcv h b 10 = true then (if x_wt st ≤ 8 ∧ x_wt [.ref b] = 1 then q_cl (x_m 801 [.ref b] h) (fun v h' => x_run 928 1458 ls (v.toList ++ st) h') else none) else none := xe_virt (r := []) ec928 dL_law_1455 ek9_125 rfl (by decide +kernel) (by decide +kernel)
theorem e928_1458 {ls st : List Value} {h : x_H} : x_run 928 1458 ls st h = q_gi ls 6 (fun v => x_run 928 1460 ls (.int v :: st) h) := xe_iload ec928 dL_law_1458
theorem e928_1460 {ls st : List Value} {h : x_H} {x y : Int32}: x_run 928 1460 ls (.int y :: .int x :: st) h = if x = y then x_run 928 1465 ls st h else x_run 928 1463 ls st h := xe_ic_eq ec928 dL_law_1460 rfl
theorem e928_1463 {ls st : List Value} {h : x_H} : x_run 928 1463 ls st h = x_run 928 1464 ls (.int (q_i 0) :: st) h := xe_iconst ec928 dL_law_1463
theorem e928_1464 {ls : List Value} {h : x_H} {x : Int32} : x_run 928 1464 ls [.int x] h = if narrow .boolean (.int x) = .int x then some (.inl (some (.int x)), h) else none := xe_ireturn ec928 dL_law_1464 rfl
theorem e928_1465 {ls st : List Value} {h : x_H} : x_run 928 1465 ls st h = q_gi ls 6 (fun v => x_run 928 1467 ls (.int v :: st) h) := xe_iload ec928 dL_law_1465
theorem e928_1467 {ls st : List Value} {h : x_H} {x : Int32}: x_run 928 1467 ls (.int x :: st) h = if ¬ x = 0 then x_run 928 1482 ls st h else x_run 928 1470 ls st h := xe_if_ne ec928 dL_law_1467 rfl
theorem e928_1470 {ls st : List Value} {h : x_H} : x_run 928 1470 ls st h = q_gr ls 3 (fun v => x_run 928 1471 ls (.ref v :: st) h) := xe_aload_n ec928 dL_law_1470
theorem e928_1471 {ls st : List Value} {h : x_H} : x_run 928 1471 ls st h = x_run 928 1472 ls (.int (q_i 0) :: st) h := xe_iconst ec928 dL_law_1471
theorem e928_1472 {ls st : List Value} {h : x_H} {x : Int32} {a : Nat}: x_run 928 1472 ls (.int x :: .ref a :: st) h = q_rv2 h a 100 x_isL x (fun v => x_run 928 1473 ls (v :: st) h) := xe_laload ec928 dL_law_1472
theorem e928_1473 {ls st : List Value} {h : x_H} : x_run 928 1473 ls st h = q_gi ls 7 (fun v => x_run 928 1475 ls (.int v :: st) h) := xe_iload ec928 dL_law_1473
theorem e928_1475 {ls st : List Value} {h : x_H} {x : Int32}: x_run 928 1475 ls (.int x :: st) h = x_run 928 1476 ls (.long x.toInt64 :: st) h := xe_i2l ec928 dL_law_1475
theorem e928_1476 {ls st : List Value} {h : x_H} {v w : Int64}: x_run 928 1476 ls (.long v :: .long w :: st) h = x_run 928 1477 ls (.int (lg_cmp w v) :: st) h := xe_lcmp ec928 dL_law_1476
theorem e928_1477 {ls st : List Value} {h : x_H} {x : Int32}: x_run 928 1477 ls (.int x :: st) h = if x = 0 then x_run 928 1482 ls st h else x_run 928 1480 ls st h := xe_if_eq ec928 dL_law_1477 rfl
theorem e928_1480 {ls st : List Value} {h : x_H} : x_run 928 1480 ls st h = x_run 928 1481 ls (.int (q_i 0) :: st) h := xe_iconst ec928 dL_law_1480
theorem e928_1481 {ls : List Value} {h : x_H} {x : Int32} : x_run 928 1481 ls [.int x] h = if narrow .boolean (.int x) = .int x then some (.inl (some (.int x)), h) else none := xe_ireturn ec928 dL_law_1481 rfl
theorem e928_1482 {ls st : List Value} {h : x_H} : x_run 928 1482 ls st h = x_run 928 2044 ls st h := xe_goto ec928 dL_law_1482 rfl
theorem e928_1485 {ls st : List Value} {h : x_H} : x_run 928 1485 ls st h = q_gr ls 1 (fun v => x_run 928 1486 ls (.ref v :: st) h) := xe_aload_n ec928 dL_law_1485
theorem e928_1486 {ls st : List Value} {h : x_H} : x_run 928 1486 ls st h = q_gr ls 0 (fun v => x_run 928 1487 ls (.ref v :: st) h) := xe_aload_n ec928 dL_law_1486
theorem e928_1487 {ls st : List Value} {h : x_H} : x_run 928 1487 ls st h = q_gi ls 5 (fun v => x_run 928 1489 ls (.int v :: st) h) := xe_iload ec928 dL_law_1487
theorem e928_1489 {ls st : List Value} {h : x_H} : x_run 928 1489 ls st h = x_run 928 1490 ls (.int (q_i 1) :: st) h := xe_iconst ec928 dL_law_1489
theorem e928_1490 {ls st : List Value} {h : x_H} {x y : Int32}: x_run 928 1490 ls (.int y :: .int x :: st) h = x_run 928 1491 ls (.int (x + y) :: st) h := xe_iadd ec928 dL_law_1490
theorem e928_1491 {ls st : List Value} {h : x_H} {x : Int32} {a : Nat}: x_run 928 1491 ls (.int x :: .ref a :: st) h = q_ra h a 0 x (fun v => x_run 928 1492 ls (.int v :: st) h) := xe_iaload ec928 dL_law_1491
theorem e928_1492 {ls st : List Value} {h : x_H} {x : Int32}: x_run 928 1492 ls (.int x :: st) h = x_run 928 1493 ls (.int (x.toUInt32 % 65536).toInt32 :: st) h := xe_i2c ec928 dL_law_1492
theorem e928_1493 {ls st : List Value} {h : x_H} : x_run 928 1493 ls st h = q_gr ls 3 (fun v => x_run 928 1494 ls (.ref v :: st) h) := xe_aload_n ec928 dL_law_1493
theorem e928_1494 {ls st : List Value} {h : x_H} {a1 a2 a3 : Value}: x_run 928 1494 ls (a3 :: a2 :: a1 :: st) h = if x_wt st ≤ 8 ∧ x_wt [a1, a2, a3] = 3 then q_cl (x_m 919 [a1, a2, a3] h) (fun v h' => x_run 928 1497 ls (v.toList ++ st) h') else none := xe_stat (args := [a1, a2, a3]) ec928 dL_law_1494 ek9_194 (by decide) rfl (by decide +kernel) (by decide +kernel)
theorem e928_1497 {ls st : List Value} {h : x_H} {x : Int32}: x_run 928 1497 ls (.int x :: st) h = q_ls ls 6 (.int x) (fun ls' => x_run 928 1499 ls' st h) := xe_istore ec928 dL_law_1497
theorem e928_1499 {ls st : List Value} {h : x_H} : x_run 928 1499 ls st h = q_gr ls 2 (fun v => x_run 928 1500 ls (.ref v :: st) h) := xe_aload_n ec928 dL_law_1499
theorem e928_1500 {ls st : List Value} {h : x_H} : x_run 928 1500 ls st h = q_gr ls 0 (fun v => x_run 928 1501 ls (.ref v :: st) h) := xe_aload_n ec928 dL_law_1500
theorem e928_1501 {ls st : List Value} {h : x_H} : x_run 928 1501 ls st h = q_gi ls 5 (fun v => x_run 928 1503 ls (.int v :: st) h) := xe_iload ec928 dL_law_1501
theorem e928_1503 {ls st : List Value} {h : x_H} : x_run 928 1503 ls st h = x_run 928 1504 ls (.int (q_i 1) :: st) h := xe_iconst ec928 dL_law_1503
theorem e928_1504 {ls st : List Value} {h : x_H} {x y : Int32}: x_run 928 1504 ls (.int y :: .int x :: st) h = x_run 928 1505 ls (.int (x + y) :: st) h := xe_iadd ec928 dL_law_1504
theorem e928_1505 {ls st : List Value} {h : x_H} {x : Int32} {a : Nat}: x_run 928 1505 ls (.int x :: .ref a :: st) h = q_ra h a 0 x (fun v => x_run 928 1506 ls (.int v :: st) h) := xe_iaload ec928 dL_law_1505
theorem e928_1506 {ls st : List Value} {h : x_H} {x : Int32}: x_run 928 1506 ls (.int x :: st) h = x_run 928 1507 ls (.int (x.toUInt32 % 65536).toInt32 :: st) h := xe_i2c ec928 dL_law_1506
theorem e928_1507 {ls st : List Value} {h : x_H} {b : Nat} {a1 : Value}: x_run 928 1507 ls (a1 :: .ref b :: st) h = if q_rcv h b 10 = true then (if x_wt st ≤ 8 ∧ x_wt [.ref b, a1] = 2 then q_cl (x_m 859 [.ref b, a1] h) (fun v h' => x_run 928 1510 ls (v.toList ++ st) h') else none) else none := xe_virt (r := [a1]) ec928 dL_law_1507 ek9_197 rfl (by decide +kernel) (by decide +kernel)
theorem e928_1510 {ls st : List Value} {h : x_H} {x : Int32}: x_run 928 1510 ls (.int x :: st) h = q_ls ls 7 (.int x) (fun ls' => x_run 928 1512 ls' st h) := xe_istore ec928 dL_law_1510
theorem e928_1512 {ls st : List Value} {h : x_H} : x_run 928 1512 ls st h = q_gr ls 2 (fun v => x_run 928 1513 ls (.ref v :: st) h) := xe_aload_n ec928 dL_law_1512
theorem e928_1513 {ls st : List Value} {h : x_H} {b : Nat}: x_run 928 1513 ls (.ref b :: st) h = if q_rcv h b 10 = true then (if x_wt st ≤ 8 ∧ x_wt [.ref b] = 1 then q_cl (x_m 801 [.ref b] h) (fun v h' => x_run 928 1516 ls (v.toList ++ st) h') else none) else none := xe_virt (r := []) ec928 dL_law_1513 ek9_125 rfl (by decide +kernel) (by decide +kernel)
theorem e928_1516 {ls st : List Value} {h : x_H} : x_run 928 1516 ls st h = q_gi ls 6 (fun v => x_run 928 1518 ls (.int v :: st) h) := xe_iload ec928 dL_law_1516
theorem e928_1518 {ls st : List Value} {h : x_H} {x y : Int32}: x_run 928 1518 ls (.int y :: .int x :: st) h = if x = y then x_run 928 1523 ls st h else x_run 928 1521 ls st h := xe_ic_eq ec928 dL_law_1518 rfl
theorem e928_1521 {ls st : List Value} {h : x_H} : x_run 928 1521 ls st h = x_run 928 1522 ls (.int (q_i 0) :: st) h := xe_iconst ec928 dL_law_1521
theorem e928_1522 {ls : List Value} {h : x_H} {x : Int32} : x_run 928 1522 ls [.int x] h = if narrow .boolean (.int x) = .int x then some (.inl (some (.int x)), h) else none := xe_ireturn ec928 dL_law_1522 rfl
theorem e928_1523 {ls st : List Value} {h : x_H} : x_run 928 1523 ls st h = q_gi ls 6 (fun v => x_run 928 1525 ls (.int v :: st) h) := xe_iload ec928 dL_law_1523
theorem e928_1525 {ls st : List Value} {h : x_H} {x : Int32}: x_run 928 1525 ls (.int x :: st) h = if ¬ x = 0 then x_run 928 1540 ls st h else x_run 928 1528 ls st h := xe_if_ne ec928 dL_law_1525 rfl
theorem e928_1528 {ls st : List Value} {h : x_H} : x_run 928 1528 ls st h = q_gr ls 3 (fun v => x_run 928 1529 ls (.ref v :: st) h) := xe_aload_n ec928 dL_law_1528
theorem e928_1529 {ls st : List Value} {h : x_H} : x_run 928 1529 ls st h = x_run 928 1530 ls (.int (q_i 0) :: st) h := xe_iconst ec928 dL_law_1529
theorem e928_1530 {ls st : List Value} {h : x_H} {x : Int32} {a : Nat}: x_run 928 1530 ls (.int x :: .ref a :: st) h = q_rv2 h a 100 x_isL x (fun v => x_run 928 1531 ls (v :: st) h) := xe_laload ec928 dL_law_1530
theorem e928_1531 {ls st : List Value} {h : x_H} : x_run 928 1531 ls st h = q_gi ls 7 (fun v => x_run 928 1533 ls (.int v :: st) h) := xe_iload ec928 dL_law_1531
theorem e928_1533 {ls st : List Value} {h : x_H} {x : Int32}: x_run 928 1533 ls (.int x :: st) h = x_run 928 1534 ls (.long x.toInt64 :: st) h := xe_i2l ec928 dL_law_1533
theorem e928_1534 {ls st : List Value} {h : x_H} {v w : Int64}: x_run 928 1534 ls (.long v :: .long w :: st) h = x_run 928 1535 ls (.int (lg_cmp w v) :: st) h := xe_lcmp ec928 dL_law_1534
theorem e928_1535 {ls st : List Value} {h : x_H} {x : Int32}: x_run 928 1535 ls (.int x :: st) h = if x = 0 then x_run 928 1540 ls st h else x_run 928 1538 ls st h := xe_if_eq ec928 dL_law_1535 rfl
theorem e928_1538 {ls st : List Value} {h : x_H} : x_run 928 1538 ls st h = x_run 928 1539 ls (.int (q_i 0) :: st) h := xe_iconst ec928 dL_law_1538
theorem e928_1539 {ls : List Value} {h : x_H} {x : Int32} : x_run 928 1539 ls [.int x] h = if narrow .boolean (.int x) = .int x then some (.inl (some (.int x)), h) else none := xe_ireturn ec928 dL_law_1539 rfl
theorem e928_1540 {ls st : List Value} {h : x_H} : x_run 928 1540 ls st h = x_run 928 2044 ls st h := xe_goto ec928 dL_law_1540 rfl
theorem e928_1543 {ls st : List Value} {h : x_H} : x_run 928 1543 ls st h = q_gr ls 1 (fun v => x_run 928 1544 ls (.ref v :: st) h) := xe_aload_n ec928 dL_law_1543
theorem e928_1544 {ls st : List Value} {h : x_H} : x_run 928 1544 ls st h = q_gr ls 3 (fun v => x_run 928 1545 ls (.ref v :: st) h) := xe_aload_n ec928 dL_law_1544
theorem e928_1545 {ls st : List Value} {h : x_H} {a1 a2 : Value}: x_run 928 1545 ls (a2 :: a1 :: st) h = if x_wt st ≤ 8 ∧ x_wt [a1, a2] = 2 then q_cl (x_m 920 [a1, a2] h) (fun v h' => x_run 928 1548 ls (v.toList ++ st) h') else none := xe_stat (args := [a1, a2]) ec928 dL_law_1545 ek9_198 (by decide) rfl (by decide +kernel) (by decide +kernel)
theorem e928_1548 {ls st : List Value} {h : x_H} {x : Int32}: x_run 928 1548 ls (.int x :: st) h = q_ls ls 6 (.int x) (fun ls' => x_run 928 1550 ls' st h) := xe_istore ec928 dL_law_1548
theorem e928_1550 {ls st : List Value} {h : x_H} : x_run 928 1550 ls st h = q_gr ls 2 (fun v => x_run 928 1551 ls (.ref v :: st) h) := xe_aload_n ec928 dL_law_1550
theorem e928_1551 {ls st : List Value} {h : x_H} {b : Nat}: x_run 928 1551 ls (.ref b :: st) h = if q_rcv h b 10 = true then (if x_wt st ≤ 8 ∧ x_wt [.ref b] = 1 then q_cl (x_m 866 [.ref b] h) (fun v h' => x_run 928 1554 ls (v.toList ++ st) h') else none) else none := xe_virt (r := []) ec928 dL_law_1551 ek9_201 rfl (by decide +kernel) (by decide +kernel)
theorem e928_1554 {ls st : List Value} {h : x_H} {x : Int32}: x_run 928 1554 ls (.int x :: st) h = q_ls ls 7 (.int x) (fun ls' => x_run 928 1556 ls' st h) := xe_istore ec928 dL_law_1554
theorem e928_1556 {ls st : List Value} {h : x_H} : x_run 928 1556 ls st h = q_gr ls 2 (fun v => x_run 928 1557 ls (.ref v :: st) h) := xe_aload_n ec928 dL_law_1556
theorem e928_1557 {ls st : List Value} {h : x_H} {b : Nat}: x_run 928 1557 ls (.ref b :: st) h = if q_rcv h b 10 = true then (if x_wt st ≤ 8 ∧ x_wt [.ref b] = 1 then q_cl (x_m 801 [.ref b] h) (fun v h' => x_run 928 1560 ls (v.toList ++ st) h') else none) else none := xe_virt (r := []) ec928 dL_law_1557 ek9_125 rfl (by decide +kernel) (by decide +kernel)
theorem e928_1560 {ls st : List Value} {h : x_H} : x_run 928 1560 ls st h = q_gi ls 6 (fun v => x_run 928 1562 ls (.int v :: st) h) := xe_iload ec928 dL_law_1560
theorem e928_1562 {ls st : List Value} {h : x_H} {x y : Int32}: x_run 928 1562 ls (.int y :: .int x :: st) h = if x = y then x_run 928 1567 ls st h else x_run 928 1565 ls st h := xe_ic_eq ec928 dL_law_1562 rfl
theorem e928_1565 {ls st : List Value} {h : x_H} : x_run 928 1565 ls st h = x_run 928 1566 ls (.int (q_i 0) :: st) h := xe_iconst ec928 dL_law_1565
theorem e928_1566 {ls : List Value} {h : x_H} {x : Int32} : x_run 928 1566 ls [.int x] h = if narrow .boolean (.int x) = .int x then some (.inl (some (.int x)), h) else none := xe_ireturn ec928 dL_law_1566 rfl
theorem e928_1567 {ls st : List Value} {h : x_H} : x_run 928 1567 ls st h = q_gi ls 6 (fun v => x_run 928 1569 ls (.int v :: st) h) := xe_iload ec928 dL_law_1567
theorem e928_1569 {ls st : List Value} {h : x_H} {x : Int32}: x_run 928 1569 ls (.int x :: st) h = if ¬ x = 0 then x_run 928 1584 ls st h else x_run 928 1572 ls st h := xe_if_ne ec928 dL_law_1569 rfl
theorem e928_1572 {ls st : List Value} {h : x_H} : x_run 928 1572 ls st h = q_gr ls 3 (fun v => x_run 928 1573 ls (.ref v :: st) h) := xe_aload_n ec928 dL_law_1572
theorem e928_1573 {ls st : List Value} {h : x_H} : x_run 928 1573 ls st h = x_run 928 1574 ls (.int (q_i 0) :: st) h := xe_iconst ec928 dL_law_1573
theorem e928_1574 {ls st : List Value} {h : x_H} {x : Int32} {a : Nat}: x_run 928 1574 ls (.int x :: .ref a :: st) h = q_rv2 h a 100 x_isL x (fun v => x_run 928 1575 ls (v :: st) h) := xe_laload ec928 dL_law_1574
theorem e928_1575 {ls st : List Value} {h : x_H} : x_run 928 1575 ls st h = q_gi ls 7 (fun v => x_run 928 1577 ls (.int v :: st) h) := xe_iload ec928 dL_law_1575
theorem e928_1577 {ls st : List Value} {h : x_H} {x : Int32}: x_run 928 1577 ls (.int x :: st) h = x_run 928 1578 ls (.long x.toInt64 :: st) h := xe_i2l ec928 dL_law_1577
theorem e928_1578 {ls st : List Value} {h : x_H} {v w : Int64}: x_run 928 1578 ls (.long v :: .long w :: st) h = x_run 928 1579 ls (.int (lg_cmp w v) :: st) h := xe_lcmp ec928 dL_law_1578
theorem e928_1579 {ls st : List Value} {h : x_H} {x : Int32}: x_run 928 1579 ls (.int x :: st) h = if x = 0 then x_run 928 1584 ls st h else x_run 928 1582 ls st h := xe_if_eq ec928 dL_law_1579 rfl
theorem e928_1582 {ls st : List Value} {h : x_H} : x_run 928 1582 ls st h = x_run 928 1583 ls (.int (q_i 0) :: st) h := xe_iconst ec928 dL_law_1582
theorem e928_1583 {ls : List Value} {h : x_H} {x : Int32} : x_run 928 1583 ls [.int x] h = if narrow .boolean (.int x) = .int x then some (.inl (some (.int x)), h) else none := xe_ireturn ec928 dL_law_1583 rfl
theorem e928_1584 {ls st : List Value} {h : x_H} : x_run 928 1584 ls st h = x_run 928 2044 ls st h := xe_goto ec928 dL_law_1584 rfl
theorem e928_1587 {ls st : List Value} {h : x_H} : x_run 928 1587 ls st h = q_gr ls 1 (fun v => x_run 928 1588 ls (.ref v :: st) h) := xe_aload_n ec928 dL_law_1587
theorem e928_1588 {ls st : List Value} {h : x_H} {b : Nat}: x_run 928 1588 ls (.ref b :: st) h = if q_rcv h b 9 = true then (if x_wt st ≤ 8 ∧ x_wt [.ref b] = 1 then q_cl (x_m 724 [.ref b] h) (fun v h' => x_run 928 1591 ls (v.toList ++ st) h') else none) else none := xe_virt (r := []) ec928 dL_law_1588 ek9_202 rfl (by decide +kernel) (by decide +kernel)
theorem e928_1591 {ls st : List Value} {h : x_H} : x_run 928 1591 ls st h = q_gr ls 2 (fun v => x_run 928 1592 ls (.ref v :: st) h) := xe_aload_n ec928 dL_law_1591
theorem e928_1592 {ls st : List Value} {h : x_H} {b : Nat}: x_run 928 1592 ls (.ref b :: st) h = if q_rcv h b 10 = true then (if x_wt st ≤ 8 ∧ x_wt [.ref b] = 1 then q_cl (x_m 867 [.ref b] h) (fun v h' => x_run 928 1595 ls (v.toList ++ st) h') else none) else none := xe_virt (r := []) ec928 dL_law_1592 ek9_205 rfl (by decide +kernel) (by decide +kernel)
theorem e928_1595 {ls st : List Value} {h : x_H} {x y : Int32}: x_run 928 1595 ls (.int y :: .int x :: st) h = if x = y then x_run 928 2044 ls st h else x_run 928 1598 ls st h := xe_ic_eq ec928 dL_law_1595 rfl
theorem e928_1598 {ls st : List Value} {h : x_H} : x_run 928 1598 ls st h = x_run 928 1599 ls (.int (q_i 0) :: st) h := xe_iconst ec928 dL_law_1598
theorem e928_1599 {ls : List Value} {h : x_H} {x : Int32} : x_run 928 1599 ls [.int x] h = if narrow .boolean (.int x) = .int x then some (.inl (some (.int x)), h) else none := xe_ireturn ec928 dL_law_1599 rfl
theorem e928_1600 {ls st : List Value} {h : x_H} : x_run 928 1600 ls st h = q_gr ls 1 (fun v => x_run 928 1601 ls (.ref v :: st) h) := xe_aload_n ec928 dL_law_1600
theorem e928_1601 {ls st : List Value} {h : x_H} : x_run 928 1601 ls st h = q_gr ls 0 (fun v => x_run 928 1602 ls (.ref v :: st) h) := xe_aload_n ec928 dL_law_1601
theorem e928_1602 {ls st : List Value} {h : x_H} : x_run 928 1602 ls st h = q_gi ls 5 (fun v => x_run 928 1604 ls (.int v :: st) h) := xe_iload ec928 dL_law_1602
theorem e928_1604 {ls st : List Value} {h : x_H} : x_run 928 1604 ls st h = x_run 928 1605 ls (.int (q_i 1) :: st) h := xe_iconst ec928 dL_law_1604
theorem e928_1605 {ls st : List Value} {h : x_H} {x y : Int32}: x_run 928 1605 ls (.int y :: .int x :: st) h = x_run 928 1606 ls (.int (x + y) :: st) h := xe_iadd ec928 dL_law_1605
theorem e928_1606 {ls st : List Value} {h : x_H} {x : Int32} {a : Nat}: x_run 928 1606 ls (.int x :: .ref a :: st) h = q_ra h a 0 x (fun v => x_run 928 1607 ls (.int v :: st) h) := xe_iaload ec928 dL_law_1606
theorem e928_1607 {ls st : List Value} {h : x_H} : x_run 928 1607 ls st h = q_gr ls 3 (fun v => x_run 928 1608 ls (.ref v :: st) h) := xe_aload_n ec928 dL_law_1607
theorem e928_1608 {ls st : List Value} {h : x_H} {a1 a2 a3 : Value}: x_run 928 1608 ls (a3 :: a2 :: a1 :: st) h = if x_wt st ≤ 8 ∧ x_wt [a1, a2, a3] = 3 then q_cl (x_m 921 [a1, a2, a3] h) (fun v h' => x_run 928 1611 ls (v.toList ++ st) h') else none := xe_stat (args := [a1, a2, a3]) ec928 dL_law_1608 ek9_206 (by decide) rfl (by decide +kernel) (by decide +kernel)
theorem e928_1611 {ls st : List Value} {h : x_H} {x : Int32}: x_run 928 1611 ls (.int x :: st) h = q_ls ls 6 (.int x) (fun ls' => x_run 928 1613 ls' st h) := xe_istore ec928 dL_law_1611
theorem e928_1613 {ls st : List Value} {h : x_H} : x_run 928 1613 ls st h = q_gr ls 2 (fun v => x_run 928 1614 ls (.ref v :: st) h) := xe_aload_n ec928 dL_law_1613
theorem e928_1614 {ls st : List Value} {h : x_H} : x_run 928 1614 ls st h = q_gr ls 0 (fun v => x_run 928 1615 ls (.ref v :: st) h) := xe_aload_n ec928 dL_law_1614
theorem e928_1615 {ls st : List Value} {h : x_H} : x_run 928 1615 ls st h = q_gi ls 5 (fun v => x_run 928 1617 ls (.int v :: st) h) := xe_iload ec928 dL_law_1615
theorem e928_1617 {ls st : List Value} {h : x_H} : x_run 928 1617 ls st h = x_run 928 1618 ls (.int (q_i 1) :: st) h := xe_iconst ec928 dL_law_1617
theorem e928_1618 {ls st : List Value} {h : x_H} {x y : Int32}: x_run 928 1618 ls (.int y :: .int x :: st) h = x_run 928 1619 ls (.int (x + y) :: st) h := xe_iadd ec928 dL_law_1618
theorem e928_1619 {ls st : List Value} {h : x_H} {x : Int32} {a : Nat}: x_run 928 1619 ls (.int x :: .ref a :: st) h = q_ra h a 0 x (fun v => x_run 928 1620 ls (.int v :: st) h) := xe_iaload ec928 dL_law_1619
theorem e928_1620 {ls st : List Value} {h : x_H} {b : Nat} {a1 : Value}: x_run 928 1620 ls (a1 :: .ref b :: st) h = if q_rcv h b 10 = true then (if x_wt st ≤ 8 ∧ x_wt [.ref b, a1] = 2 then q_cl (x_m 868 [.ref b, a1] h) (fun v h' => x_run 928 1623 ls (v.toList ++ st) h') else none) else none := xe_virt (r := [a1]) ec928 dL_law_1620 ek9_208 rfl (by decide +kernel) (by decide +kernel)
theorem e928_1623 {ls st : List Value} {h : x_H} {x : Int32}: x_run 928 1623 ls (.int x :: st) h = q_ls ls 7 (.int x) (fun ls' => x_run 928 1625 ls' st h) := xe_istore ec928 dL_law_1623
theorem e928_1625 {ls st : List Value} {h : x_H} : x_run 928 1625 ls st h = q_gr ls 2 (fun v => x_run 928 1626 ls (.ref v :: st) h) := xe_aload_n ec928 dL_law_1625
theorem e928_1626 {ls st : List Value} {h : x_H} {b : Nat}: x_run 928 1626 ls (.ref b :: st) h = if q_rcv h b 10 = true then (if x_wt st ≤ 8 ∧ x_wt [.ref b] = 1 then q_cl (x_m 801 [.ref b] h) (fun v h' => x_run 928 1629 ls (v.toList ++ st) h') else none) else none := xe_virt (r := []) ec928 dL_law_1626 ek9_125 rfl (by decide +kernel) (by decide +kernel)
theorem e928_1629 {ls st : List Value} {h : x_H} : x_run 928 1629 ls st h = q_gi ls 6 (fun v => x_run 928 1631 ls (.int v :: st) h) := xe_iload ec928 dL_law_1629
theorem e928_1631 {ls st : List Value} {h : x_H} {x y : Int32}: x_run 928 1631 ls (.int y :: .int x :: st) h = if x = y then x_run 928 1636 ls st h else x_run 928 1634 ls st h := xe_ic_eq ec928 dL_law_1631 rfl
theorem e928_1634 {ls st : List Value} {h : x_H} : x_run 928 1634 ls st h = x_run 928 1635 ls (.int (q_i 0) :: st) h := xe_iconst ec928 dL_law_1634
theorem e928_1635 {ls : List Value} {h : x_H} {x : Int32} : x_run 928 1635 ls [.int x] h = if narrow .boolean (.int x) = .int x then some (.inl (some (.int x)), h) else none := xe_ireturn ec928 dL_law_1635 rfl
theorem e928_1636 {ls st : List Value} {h : x_H} : x_run 928 1636 ls st h = q_gi ls 6 (fun v => x_run 928 1638 ls (.int v :: st) h) := xe_iload ec928 dL_law_1636
theorem e928_1638 {ls st : List Value} {h : x_H} {x : Int32}: x_run 928 1638 ls (.int x :: st) h = if ¬ x = 0 then x_run 928 1653 ls st h else x_run 928 1641 ls st h := xe_if_ne ec928 dL_law_1638 rfl
theorem e928_1641 {ls st : List Value} {h : x_H} : x_run 928 1641 ls st h = q_gr ls 3 (fun v => x_run 928 1642 ls (.ref v :: st) h) := xe_aload_n ec928 dL_law_1641
theorem e928_1642 {ls st : List Value} {h : x_H} : x_run 928 1642 ls st h = x_run 928 1643 ls (.int (q_i 0) :: st) h := xe_iconst ec928 dL_law_1642
theorem e928_1643 {ls st : List Value} {h : x_H} {x : Int32} {a : Nat}: x_run 928 1643 ls (.int x :: .ref a :: st) h = q_rv2 h a 100 x_isL x (fun v => x_run 928 1644 ls (v :: st) h) := xe_laload ec928 dL_law_1643
theorem e928_1644 {ls st : List Value} {h : x_H} : x_run 928 1644 ls st h = q_gi ls 7 (fun v => x_run 928 1646 ls (.int v :: st) h) := xe_iload ec928 dL_law_1644
theorem e928_1646 {ls st : List Value} {h : x_H} {x : Int32}: x_run 928 1646 ls (.int x :: st) h = x_run 928 1647 ls (.long x.toInt64 :: st) h := xe_i2l ec928 dL_law_1646
theorem e928_1647 {ls st : List Value} {h : x_H} {v w : Int64}: x_run 928 1647 ls (.long v :: .long w :: st) h = x_run 928 1648 ls (.int (lg_cmp w v) :: st) h := xe_lcmp ec928 dL_law_1647
theorem e928_1648 {ls st : List Value} {h : x_H} {x : Int32}: x_run 928 1648 ls (.int x :: st) h = if x = 0 then x_run 928 1653 ls st h else x_run 928 1651 ls st h := xe_if_eq ec928 dL_law_1648 rfl
theorem e928_1651 {ls st : List Value} {h : x_H} : x_run 928 1651 ls st h = x_run 928 1652 ls (.int (q_i 0) :: st) h := xe_iconst ec928 dL_law_1651
theorem e928_1652 {ls : List Value} {h : x_H} {x : Int32} : x_run 928 1652 ls [.int x] h = if narrow .boolean (.int x) = .int x then some (.inl (some (.int x)), h) else none := xe_ireturn ec928 dL_law_1652 rfl
theorem e928_1653 {ls st : List Value} {h : x_H} : x_run 928 1653 ls st h = x_run 928 2044 ls st h := xe_goto ec928 dL_law_1653 rfl
theorem e928_1656 {ls st : List Value} {h : x_H} : x_run 928 1656 ls st h = q_gr ls 1 (fun v => x_run 928 1657 ls (.ref v :: st) h) := xe_aload_n ec928 dL_law_1656
theorem e928_1657 {ls st : List Value} {h : x_H} : x_run 928 1657 ls st h = q_gr ls 0 (fun v => x_run 928 1658 ls (.ref v :: st) h) := xe_aload_n ec928 dL_law_1657
theorem e928_1658 {ls st : List Value} {h : x_H} : x_run 928 1658 ls st h = q_gi ls 5 (fun v => x_run 928 1660 ls (.int v :: st) h) := xe_iload ec928 dL_law_1658
theorem e928_1660 {ls st : List Value} {h : x_H} : x_run 928 1660 ls st h = x_run 928 1661 ls (.int (q_i 1) :: st) h := xe_iconst ec928 dL_law_1660
theorem e928_1661 {ls st : List Value} {h : x_H} {x y : Int32}: x_run 928 1661 ls (.int y :: .int x :: st) h = x_run 928 1662 ls (.int (x + y) :: st) h := xe_iadd ec928 dL_law_1661
theorem e928_1662 {ls st : List Value} {h : x_H} {x : Int32} {a : Nat}: x_run 928 1662 ls (.int x :: .ref a :: st) h = q_ra h a 0 x (fun v => x_run 928 1663 ls (.int v :: st) h) := xe_iaload ec928 dL_law_1662
theorem e928_1663 {ls st : List Value} {h : x_H} : x_run 928 1663 ls st h = q_gr ls 0 (fun v => x_run 928 1664 ls (.ref v :: st) h) := xe_aload_n ec928 dL_law_1663
theorem e928_1664 {ls st : List Value} {h : x_H} : x_run 928 1664 ls st h = q_gi ls 5 (fun v => x_run 928 1666 ls (.int v :: st) h) := xe_iload ec928 dL_law_1664
theorem e928_1666 {ls st : List Value} {h : x_H} : x_run 928 1666 ls st h = x_run 928 1667 ls (.int (q_i 2) :: st) h := xe_iconst ec928 dL_law_1666
theorem e928_1667 {ls st : List Value} {h : x_H} {x y : Int32}: x_run 928 1667 ls (.int y :: .int x :: st) h = x_run 928 1668 ls (.int (x + y) :: st) h := xe_iadd ec928 dL_law_1667
theorem e928_1668 {ls st : List Value} {h : x_H} {x : Int32} {a : Nat}: x_run 928 1668 ls (.int x :: .ref a :: st) h = q_ra h a 0 x (fun v => x_run 928 1669 ls (.int v :: st) h) := xe_iaload ec928 dL_law_1668
theorem e928_1669 {ls st : List Value} {h : x_H} : x_run 928 1669 ls st h = q_gr ls 3 (fun v => x_run 928 1670 ls (.ref v :: st) h) := xe_aload_n ec928 dL_law_1669
theorem e928_1670 {ls st : List Value} {h : x_H} {a1 a2 a3 a4 : Value}: x_run 928 1670 ls (a4 :: a3 :: a2 :: a1 :: st) h = if x_wt st ≤ 8 ∧ x_wt [a1, a2, a3, a4] = 4 then q_cl (x_m 922 [a1, a2, a3, a4] h) (fun v h' => x_run 928 1673 ls (v.toList ++ st) h') else none := xe_stat (args := [a1, a2, a3, a4]) ec928 dL_law_1670 ek9_209 (by decide) rfl (by decide +kernel) (by decide +kernel)
theorem e928_1673 {ls st : List Value} {h : x_H} {x : Int32}: x_run 928 1673 ls (.int x :: st) h = q_ls ls 6 (.int x) (fun ls' => x_run 928 1675 ls' st h) := xe_istore ec928 dL_law_1673
theorem e928_1675 {ls st : List Value} {h : x_H} : x_run 928 1675 ls st h = q_gr ls 2 (fun v => x_run 928 1676 ls (.ref v :: st) h) := xe_aload_n ec928 dL_law_1675
theorem e928_1676 {ls st : List Value} {h : x_H} : x_run 928 1676 ls st h = q_gr ls 0 (fun v => x_run 928 1677 ls (.ref v :: st) h) := xe_aload_n ec928 dL_law_1676
theorem e928_1677 {ls st : List Value} {h : x_H} : x_run 928 1677 ls st h = q_gi ls 5 (fun v => x_run 928 1679 ls (.int v :: st) h) := xe_iload ec928 dL_law_1677
theorem e928_1679 {ls st : List Value} {h : x_H} : x_run 928 1679 ls st h = x_run 928 1680 ls (.int (q_i 1) :: st) h := xe_iconst ec928 dL_law_1679
theorem e928_1680 {ls st : List Value} {h : x_H} {x y : Int32}: x_run 928 1680 ls (.int y :: .int x :: st) h = x_run 928 1681 ls (.int (x + y) :: st) h := xe_iadd ec928 dL_law_1680
theorem e928_1681 {ls st : List Value} {h : x_H} {x : Int32} {a : Nat}: x_run 928 1681 ls (.int x :: .ref a :: st) h = q_ra h a 0 x (fun v => x_run 928 1682 ls (.int v :: st) h) := xe_iaload ec928 dL_law_1681
theorem e928_1682 {ls st : List Value} {h : x_H} : x_run 928 1682 ls st h = q_gr ls 0 (fun v => x_run 928 1683 ls (.ref v :: st) h) := xe_aload_n ec928 dL_law_1682
theorem e928_1683 {ls st : List Value} {h : x_H} : x_run 928 1683 ls st h = q_gi ls 5 (fun v => x_run 928 1685 ls (.int v :: st) h) := xe_iload ec928 dL_law_1683
theorem e928_1685 {ls st : List Value} {h : x_H} : x_run 928 1685 ls st h = x_run 928 1686 ls (.int (q_i 2) :: st) h := xe_iconst ec928 dL_law_1685
theorem e928_1686 {ls st : List Value} {h : x_H} {x y : Int32}: x_run 928 1686 ls (.int y :: .int x :: st) h = x_run 928 1687 ls (.int (x + y) :: st) h := xe_iadd ec928 dL_law_1686
theorem e928_1687 {ls st : List Value} {h : x_H} {x : Int32} {a : Nat}: x_run 928 1687 ls (.int x :: .ref a :: st) h = q_ra h a 0 x (fun v => x_run 928 1688 ls (.int v :: st) h) := xe_iaload ec928 dL_law_1687
theorem e928_1688 {ls st : List Value} {h : x_H} {b : Nat} {a1 a2 : Value}: x_run 928 1688 ls (a2 :: a1 :: .ref b :: st) h = if q_rcv h b 10 = true then (if x_wt st ≤ 8 ∧ x_wt [.ref b, a1, a2] = 3 then q_cl (x_m 870 [.ref b, a1, a2] h) (fun v h' => x_run 928 1691 ls (v.toList ++ st) h') else none) else none := xe_virt (r := [a1, a2]) ec928 dL_law_1688 ek9_211 rfl (by decide +kernel) (by decide +kernel)
theorem e928_1691 {ls st : List Value} {h : x_H} {x : Int32}: x_run 928 1691 ls (.int x :: st) h = q_ls ls 7 (.int x) (fun ls' => x_run 928 1693 ls' st h) := xe_istore ec928 dL_law_1691
theorem e928_1693 {ls st : List Value} {h : x_H} : x_run 928 1693 ls st h = q_gr ls 2 (fun v => x_run 928 1694 ls (.ref v :: st) h) := xe_aload_n ec928 dL_law_1693
theorem e928_1694 {ls st : List Value} {h : x_H} {b : Nat}: x_run 928 1694 ls (.ref b :: st) h = if q_rcv h b 10 = true then (if x_wt st ≤ 8 ∧ x_wt [.ref b] = 1 then q_cl (x_m 801 [.ref b] h) (fun v h' => x_run 928 1697 ls (v.toList ++ st) h') else none) else none := xe_virt (r := []) ec928 dL_law_1694 ek9_125 rfl (by decide +kernel) (by decide +kernel)
theorem e928_1697 {ls st : List Value} {h : x_H} : x_run 928 1697 ls st h = q_gi ls 6 (fun v => x_run 928 1699 ls (.int v :: st) h) := xe_iload ec928 dL_law_1697
theorem e928_1699 {ls st : List Value} {h : x_H} {x y : Int32}: x_run 928 1699 ls (.int y :: .int x :: st) h = if x = y then x_run 928 1704 ls st h else x_run 928 1702 ls st h := xe_ic_eq ec928 dL_law_1699 rfl
theorem e928_1702 {ls st : List Value} {h : x_H} : x_run 928 1702 ls st h = x_run 928 1703 ls (.int (q_i 0) :: st) h := xe_iconst ec928 dL_law_1702
theorem e928_1703 {ls : List Value} {h : x_H} {x : Int32} : x_run 928 1703 ls [.int x] h = if narrow .boolean (.int x) = .int x then some (.inl (some (.int x)), h) else none := xe_ireturn ec928 dL_law_1703 rfl
theorem e928_1704 {ls st : List Value} {h : x_H} : x_run 928 1704 ls st h = q_gi ls 6 (fun v => x_run 928 1706 ls (.int v :: st) h) := xe_iload ec928 dL_law_1704
theorem e928_1706 {ls st : List Value} {h : x_H} {x : Int32}: x_run 928 1706 ls (.int x :: st) h = if ¬ x = 0 then x_run 928 1721 ls st h else x_run 928 1709 ls st h := xe_if_ne ec928 dL_law_1706 rfl
theorem e928_1709 {ls st : List Value} {h : x_H} : x_run 928 1709 ls st h = q_gr ls 3 (fun v => x_run 928 1710 ls (.ref v :: st) h) := xe_aload_n ec928 dL_law_1709
theorem e928_1710 {ls st : List Value} {h : x_H} : x_run 928 1710 ls st h = x_run 928 1711 ls (.int (q_i 0) :: st) h := xe_iconst ec928 dL_law_1710
theorem e928_1711 {ls st : List Value} {h : x_H} {x : Int32} {a : Nat}: x_run 928 1711 ls (.int x :: .ref a :: st) h = q_rv2 h a 100 x_isL x (fun v => x_run 928 1712 ls (v :: st) h) := xe_laload ec928 dL_law_1711
theorem e928_1712 {ls st : List Value} {h : x_H} : x_run 928 1712 ls st h = q_gi ls 7 (fun v => x_run 928 1714 ls (.int v :: st) h) := xe_iload ec928 dL_law_1712
theorem e928_1714 {ls st : List Value} {h : x_H} {x : Int32}: x_run 928 1714 ls (.int x :: st) h = x_run 928 1715 ls (.long x.toInt64 :: st) h := xe_i2l ec928 dL_law_1714
theorem e928_1715 {ls st : List Value} {h : x_H} {v w : Int64}: x_run 928 1715 ls (.long v :: .long w :: st) h = x_run 928 1716 ls (.int (lg_cmp w v) :: st) h := xe_lcmp ec928 dL_law_1715
theorem e928_1716 {ls st : List Value} {h : x_H} {x : Int32}: x_run 928 1716 ls (.int x :: st) h = if x = 0 then x_run 928 1721 ls st h else x_run 928 1719 ls st h := xe_if_eq ec928 dL_law_1716 rfl
theorem e928_1719 {ls st : List Value} {h : x_H} : x_run 928 1719 ls st h = x_run 928 1720 ls (.int (q_i 0) :: st) h := xe_iconst ec928 dL_law_1719
theorem e928_1720 {ls : List Value} {h : x_H} {x : Int32} : x_run 928 1720 ls [.int x] h = if narrow .boolean (.int x) = .int x then some (.inl (some (.int x)), h) else none := xe_ireturn ec928 dL_law_1720 rfl
theorem e928_1721 {ls st : List Value} {h : x_H} : x_run 928 1721 ls st h = x_run 928 2044 ls st h := xe_goto ec928 dL_law_1721 rfl
theorem e928_1724 {ls st : List Value} {h : x_H} : x_run 928 1724 ls st h = q_gr ls 1 (fun v => x_run 928 1725 ls (.ref v :: st) h) := xe_aload_n ec928 dL_law_1724
theorem e928_1725 {ls st : List Value} {h : x_H} : x_run 928 1725 ls st h = q_gr ls 0 (fun v => x_run 928 1726 ls (.ref v :: st) h) := xe_aload_n ec928 dL_law_1725
theorem e928_1726 {ls st : List Value} {h : x_H} : x_run 928 1726 ls st h = q_gi ls 5 (fun v => x_run 928 1728 ls (.int v :: st) h) := xe_iload ec928 dL_law_1726
theorem e928_1728 {ls st : List Value} {h : x_H} : x_run 928 1728 ls st h = x_run 928 1729 ls (.int (q_i 1) :: st) h := xe_iconst ec928 dL_law_1728
theorem e928_1729 {ls st : List Value} {h : x_H} {x y : Int32}: x_run 928 1729 ls (.int y :: .int x :: st) h = x_run 928 1730 ls (.int (x + y) :: st) h := xe_iadd ec928 dL_law_1729
theorem e928_1730 {ls st : List Value} {h : x_H} {x : Int32} {a : Nat}: x_run 928 1730 ls (.int x :: .ref a :: st) h = q_ra h a 0 x (fun v => x_run 928 1731 ls (.int v :: st) h) := xe_iaload ec928 dL_law_1730
theorem e928_1731 {ls st : List Value} {h : x_H} : x_run 928 1731 ls st h = q_gr ls 3 (fun v => x_run 928 1732 ls (.ref v :: st) h) := xe_aload_n ec928 dL_law_1731
theorem e928_1732 {ls st : List Value} {h : x_H} {a1 a2 a3 : Value}: x_run 928 1732 ls (a3 :: a2 :: a1 :: st) h = if x_wt st ≤ 8 ∧ x_wt [a1, a2, a3] = 3 then q_cl (x_m 923 [a1, a2, a3] h) (fun v h' => x_run 928 1735 ls (v.toList ++ st) h') else none := xe_stat (args := [a1, a2, a3]) ec928 dL_law_1732 ek9_212 (by decide) rfl (by decide +kernel) (by decide +kernel)
theorem e928_1735 {ls st : List Value} {h : x_H} {x : Int32}: x_run 928 1735 ls (.int x :: st) h = q_ls ls 6 (.int x) (fun ls' => x_run 928 1737 ls' st h) := xe_istore ec928 dL_law_1735
theorem e928_1737 {ls st : List Value} {h : x_H} : x_run 928 1737 ls st h = q_gr ls 2 (fun v => x_run 928 1738 ls (.ref v :: st) h) := xe_aload_n ec928 dL_law_1737
theorem e928_1738 {ls st : List Value} {h : x_H} : x_run 928 1738 ls st h = q_gr ls 0 (fun v => x_run 928 1739 ls (.ref v :: st) h) := xe_aload_n ec928 dL_law_1738
theorem e928_1739 {ls st : List Value} {h : x_H} : x_run 928 1739 ls st h = q_gi ls 5 (fun v => x_run 928 1741 ls (.int v :: st) h) := xe_iload ec928 dL_law_1739
theorem e928_1741 {ls st : List Value} {h : x_H} : x_run 928 1741 ls st h = x_run 928 1742 ls (.int (q_i 1) :: st) h := xe_iconst ec928 dL_law_1741
theorem e928_1742 {ls st : List Value} {h : x_H} {x y : Int32}: x_run 928 1742 ls (.int y :: .int x :: st) h = x_run 928 1743 ls (.int (x + y) :: st) h := xe_iadd ec928 dL_law_1742
theorem e928_1743 {ls st : List Value} {h : x_H} {x : Int32} {a : Nat}: x_run 928 1743 ls (.int x :: .ref a :: st) h = q_ra h a 0 x (fun v => x_run 928 1744 ls (.int v :: st) h) := xe_iaload ec928 dL_law_1743
theorem e928_1744 {ls st : List Value} {h : x_H} {b : Nat} {a1 : Value}: x_run 928 1744 ls (a1 :: .ref b :: st) h = if q_rcv h b 10 = true then (if x_wt st ≤ 8 ∧ x_wt [.ref b, a1] = 2 then q_cl (x_m 871 [.ref b, a1] h) (fun v h' => x_run 928 1747 ls (v.toList ++ st) h') else none) else none := xe_virt (r := [a1]) ec928 dL_law_1744 ek9_214 rfl (by decide +kernel) (by decide +kernel)
theorem e928_1747 {ls st : List Value} {h : x_H} {x : Int32}: x_run 928 1747 ls (.int x :: st) h = q_ls ls 7 (.int x) (fun ls' => x_run 928 1749 ls' st h) := xe_istore ec928 dL_law_1747
theorem e928_1749 {ls st : List Value} {h : x_H} : x_run 928 1749 ls st h = q_gr ls 2 (fun v => x_run 928 1750 ls (.ref v :: st) h) := xe_aload_n ec928 dL_law_1749
theorem e928_1750 {ls st : List Value} {h : x_H} {b : Nat}: x_run 928 1750 ls (.ref b :: st) h = if q_rcv h b 10 = true then (if x_wt st ≤ 8 ∧ x_wt [.ref b] = 1 then q_cl (x_m 801 [.ref b] h) (fun v h' => x_run 928 1753 ls (v.toList ++ st) h') else none) else none := xe_virt (r := []) ec928 dL_law_1750 ek9_125 rfl (by decide +kernel) (by decide +kernel)
theorem e928_1753 {ls st : List Value} {h : x_H} : x_run 928 1753 ls st h = q_gi ls 6 (fun v => x_run 928 1755 ls (.int v :: st) h) := xe_iload ec928 dL_law_1753
theorem e928_1755 {ls st : List Value} {h : x_H} {x y : Int32}: x_run 928 1755 ls (.int y :: .int x :: st) h = if x = y then x_run 928 1760 ls st h else x_run 928 1758 ls st h := xe_ic_eq ec928 dL_law_1755 rfl
theorem e928_1758 {ls st : List Value} {h : x_H} : x_run 928 1758 ls st h = x_run 928 1759 ls (.int (q_i 0) :: st) h := xe_iconst ec928 dL_law_1758
theorem e928_1759 {ls : List Value} {h : x_H} {x : Int32} : x_run 928 1759 ls [.int x] h = if narrow .boolean (.int x) = .int x then some (.inl (some (.int x)), h) else none := xe_ireturn ec928 dL_law_1759 rfl
theorem e928_1760 {ls st : List Value} {h : x_H} : x_run 928 1760 ls st h = q_gi ls 6 (fun v => x_run 928 1762 ls (.int v :: st) h) := xe_iload ec928 dL_law_1760
theorem e928_1762 {ls st : List Value} {h : x_H} {x : Int32}: x_run 928 1762 ls (.int x :: st) h = if ¬ x = 0 then x_run 928 1777 ls st h else x_run 928 1765 ls st h := xe_if_ne ec928 dL_law_1762 rfl
theorem e928_1765 {ls st : List Value} {h : x_H} : x_run 928 1765 ls st h = q_gr ls 3 (fun v => x_run 928 1766 ls (.ref v :: st) h) := xe_aload_n ec928 dL_law_1765
theorem e928_1766 {ls st : List Value} {h : x_H} : x_run 928 1766 ls st h = x_run 928 1767 ls (.int (q_i 0) :: st) h := xe_iconst ec928 dL_law_1766
theorem e928_1767 {ls st : List Value} {h : x_H} {x : Int32} {a : Nat}: x_run 928 1767 ls (.int x :: .ref a :: st) h = q_rv2 h a 100 x_isL x (fun v => x_run 928 1768 ls (v :: st) h) := xe_laload ec928 dL_law_1767
theorem e928_1768 {ls st : List Value} {h : x_H} : x_run 928 1768 ls st h = q_gi ls 7 (fun v => x_run 928 1770 ls (.int v :: st) h) := xe_iload ec928 dL_law_1768
theorem e928_1770 {ls st : List Value} {h : x_H} {x : Int32}: x_run 928 1770 ls (.int x :: st) h = x_run 928 1771 ls (.long x.toInt64 :: st) h := xe_i2l ec928 dL_law_1770
theorem e928_1771 {ls st : List Value} {h : x_H} {v w : Int64}: x_run 928 1771 ls (.long v :: .long w :: st) h = x_run 928 1772 ls (.int (lg_cmp w v) :: st) h := xe_lcmp ec928 dL_law_1771
theorem e928_1772 {ls st : List Value} {h : x_H} {x : Int32}: x_run 928 1772 ls (.int x :: st) h = if x = 0 then x_run 928 1777 ls st h else x_run 928 1775 ls st h := xe_if_eq ec928 dL_law_1772 rfl
theorem e928_1775 {ls st : List Value} {h : x_H} : x_run 928 1775 ls st h = x_run 928 1776 ls (.int (q_i 0) :: st) h := xe_iconst ec928 dL_law_1775
theorem e928_1776 {ls : List Value} {h : x_H} {x : Int32} : x_run 928 1776 ls [.int x] h = if narrow .boolean (.int x) = .int x then some (.inl (some (.int x)), h) else none := xe_ireturn ec928 dL_law_1776 rfl
theorem e928_1777 {ls st : List Value} {h : x_H} : x_run 928 1777 ls st h = x_run 928 2044 ls st h := xe_goto ec928 dL_law_1777 rfl
theorem e928_1780 {ls st : List Value} {h : x_H} : x_run 928 1780 ls st h = q_gr ls 1 (fun v => x_run 928 1781 ls (.ref v :: st) h) := xe_aload_n ec928 dL_law_1780
theorem e928_1781 {ls st : List Value} {h : x_H} : x_run 928 1781 ls st h = q_gr ls 4 (fun v => x_run 928 1783 ls (.ref v :: st) h) := xe_aload ec928 dL_law_1781
theorem e928_1783 {ls st : List Value} {h : x_H} {a1 a2 : Value}: x_run 928 1783 ls (a2 :: a1 :: st) h = if x_wt st ≤ 8 ∧ x_wt [a1, a2] = 2 then q_cl (x_m 924 [a1, a2] h) (fun v h' => x_run 928 1786 ls (v.toList ++ st) h') else none := xe_stat (args := [a1, a2]) ec928 dL_law_1783 ek9_215 (by decide) rfl (by decide +kernel) (by decide +kernel)
theorem e928_1786 {ls st : List Value} {h : x_H} {x : Int32}: x_run 928 1786 ls (.int x :: st) h = q_ls ls 6 (.int x) (fun ls' => x_run 928 1788 ls' st h) := xe_istore ec928 dL_law_1786
theorem e928_1788 {ls st : List Value} {h : x_H} : x_run 928 1788 ls st h = q_gr ls 2 (fun v => x_run 928 1789 ls (.ref v :: st) h) := xe_aload_n ec928 dL_law_1788
theorem e928_1789 {ls st : List Value} {h : x_H} {b : Nat}: x_run 928 1789 ls (.ref b :: st) h = if q_rcv h b 10 = true then (if x_wt st ≤ 8 ∧ x_wt [.ref b] = 1 then q_cl (x_m 875 [.ref b] h) (fun v h' => x_run 928 1792 ls (v.toList ++ st) h') else none) else none := xe_virt (r := []) ec928 dL_law_1789 ek9_218 rfl (by decide +kernel) (by decide +kernel)
theorem e928_1792 {ls st : List Value} {h : x_H} {u : UInt32}: x_run 928 1792 ls (.float u :: st) h = q_ls ls 7 (.float u) (fun ls' => x_run 928 1794 ls' st h) := xe_fstore ec928 dL_law_1792
theorem e928_1794 {ls st : List Value} {h : x_H} : x_run 928 1794 ls st h = q_gr ls 2 (fun v => x_run 928 1795 ls (.ref v :: st) h) := xe_aload_n ec928 dL_law_1794
theorem e928_1795 {ls st : List Value} {h : x_H} {b : Nat}: x_run 928 1795 ls (.ref b :: st) h = if q_rcv h b 10 = true then (if x_wt st ≤ 8 ∧ x_wt [.ref b] = 1 then q_cl (x_m 801 [.ref b] h) (fun v h' => x_run 928 1798 ls (v.toList ++ st) h') else none) else none := xe_virt (r := []) ec928 dL_law_1795 ek9_125 rfl (by decide +kernel) (by decide +kernel)
theorem e928_1798 {ls st : List Value} {h : x_H} : x_run 928 1798 ls st h = q_gi ls 6 (fun v => x_run 928 1800 ls (.int v :: st) h) := xe_iload ec928 dL_law_1798
theorem e928_1800 {ls st : List Value} {h : x_H} {x y : Int32}: x_run 928 1800 ls (.int y :: .int x :: st) h = if x = y then x_run 928 1805 ls st h else x_run 928 1803 ls st h := xe_ic_eq ec928 dL_law_1800 rfl
theorem e928_1803 {ls st : List Value} {h : x_H} : x_run 928 1803 ls st h = x_run 928 1804 ls (.int (q_i 0) :: st) h := xe_iconst ec928 dL_law_1803
theorem e928_1804 {ls : List Value} {h : x_H} {x : Int32} : x_run 928 1804 ls [.int x] h = if narrow .boolean (.int x) = .int x then some (.inl (some (.int x)), h) else none := xe_ireturn ec928 dL_law_1804 rfl
theorem e928_1805 {ls st : List Value} {h : x_H} : x_run 928 1805 ls st h = q_gi ls 6 (fun v => x_run 928 1807 ls (.int v :: st) h) := xe_iload ec928 dL_law_1805
theorem e928_1807 {ls st : List Value} {h : x_H} {x : Int32}: x_run 928 1807 ls (.int x :: st) h = if ¬ x = 0 then x_run 928 1843 ls st h else x_run 928 1810 ls st h := xe_if_ne ec928 dL_law_1807 rfl
theorem e928_1810 {ls st : List Value} {h : x_H} : x_run 928 1810 ls st h = q_gr ls 4 (fun v => x_run 928 1812 ls (.ref v :: st) h) := xe_aload ec928 dL_law_1810
theorem e928_1812 {ls st : List Value} {h : x_H} : x_run 928 1812 ls st h = x_run 928 1813 ls (.int (q_i 0) :: st) h := xe_iconst ec928 dL_law_1812
theorem e928_1813 {ls st : List Value} {h : x_H} {x : Int32} {a : Nat}: x_run 928 1813 ls (.int x :: .ref a :: st) h = q_rv2 h a 101 x_isD x (fun v => x_run 928 1814 ls (v :: st) h) := xe_daload ec928 dL_law_1813
theorem e928_1814 {ls st : List Value} {h : x_H} : x_run 928 1814 ls st h = q_gfl ls 7 (fun v => x_run 928 1816 ls (.float v :: st) h) := xe_fload ec928 dL_law_1814
theorem e928_1816 {ls st : List Value} {h : x_H} {v : UInt32}: x_run 928 1816 ls (.float v :: st) h = if FP.f2d v &&& 0x7fffffffffffffff ≤ 0x7ff0000000000000 then x_run 928 1817 ls (.double (FP.f2d v) :: st) h else none := xe_f2d ec928 dL_law_1816
theorem e928_1817 {ls st : List Value} {h : x_H} {v w : UInt64}: x_run 928 1817 ls (.double v :: .double w :: st) h = x_run 928 1818 ls (.int (Op.cmpValue (FP.dcmp w v) .l) :: st) h := xe_dcmp ec928 dL_law_1817
theorem e928_1818 {ls st : List Value} {h : x_H} {x : Int32}: x_run 928 1818 ls (.int x :: st) h = if x = 0 then x_run 928 1843 ls st h else x_run 928 1821 ls st h := xe_if_eq ec928 dL_law_1818 rfl
theorem e928_1821 {ls st : List Value} {h : x_H} : x_run 928 1821 ls st h = q_gr ls 4 (fun v => x_run 928 1823 ls (.ref v :: st) h) := xe_aload ec928 dL_law_1821
theorem e928_1823 {ls st : List Value} {h : x_H} : x_run 928 1823 ls st h = x_run 928 1824 ls (.int (q_i 0) :: st) h := xe_iconst ec928 dL_law_1823
theorem e928_1824 {ls st : List Value} {h : x_H} {x : Int32} {a : Nat}: x_run 928 1824 ls (.int x :: .ref a :: st) h = q_rv2 h a 101 x_isD x (fun v => x_run 928 1825 ls (v :: st) h) := xe_daload ec928 dL_law_1824
theorem e928_1825 {ls st : List Value} {h : x_H} : x_run 928 1825 ls st h = q_gr ls 4 (fun v => x_run 928 1827 ls (.ref v :: st) h) := xe_aload ec928 dL_law_1825
theorem e928_1827 {ls st : List Value} {h : x_H} : x_run 928 1827 ls st h = x_run 928 1828 ls (.int (q_i 0) :: st) h := xe_iconst ec928 dL_law_1827
theorem e928_1828 {ls st : List Value} {h : x_H} {x : Int32} {a : Nat}: x_run 928 1828 ls (.int x :: .ref a :: st) h = q_rv2 h a 101 x_isD x (fun v => x_run 928 1829 ls (v :: st) h) := xe_daload ec928 dL_law_1828
theorem e928_1829 {ls st : List Value} {h : x_H} {v w : UInt64}: x_run 928 1829 ls (.double v :: .double w :: st) h = x_run 928 1830 ls (.int (Op.cmpValue (FP.dcmp w v) .l) :: st) h := xe_dcmp ec928 dL_law_1829
theorem e928_1830 {ls st : List Value} {h : x_H} {x : Int32}: x_run 928 1830 ls (.int x :: st) h = if x = 0 then x_run 928 1841 ls st h else x_run 928 1833 ls st h := xe_if_eq ec928 dL_law_1830 rfl
theorem e928_1833 {ls st : List Value} {h : x_H} : x_run 928 1833 ls st h = q_gfl ls 7 (fun v => x_run 928 1835 ls (.float v :: st) h) := xe_fload ec928 dL_law_1833
theorem e928_1835 {ls st : List Value} {h : x_H} : x_run 928 1835 ls st h = q_gfl ls 7 (fun v => x_run 928 1837 ls (.float v :: st) h) := xe_fload ec928 dL_law_1835
theorem e928_1837 {ls st : List Value} {h : x_H} {v w : UInt32}: x_run 928 1837 ls (.float v :: .float w :: st) h = x_run 928 1838 ls (.int (Op.cmpValue (FP.fcmp w v) .l) :: st) h := xe_fcmp ec928 dL_law_1837
theorem e928_1838 {ls st : List Value} {h : x_H} {x : Int32}: x_run 928 1838 ls (.int x :: st) h = if ¬ x = 0 then x_run 928 1843 ls st h else x_run 928 1841 ls st h := xe_if_ne ec928 dL_law_1838 rfl
theorem e928_1841 {ls st : List Value} {h : x_H} : x_run 928 1841 ls st h = x_run 928 1842 ls (.int (q_i 0) :: st) h := xe_iconst ec928 dL_law_1841
theorem e928_1842 {ls : List Value} {h : x_H} {x : Int32} : x_run 928 1842 ls [.int x] h = if narrow .boolean (.int x) = .int x then some (.inl (some (.int x)), h) else none := xe_ireturn ec928 dL_law_1842 rfl
theorem e928_1843 {ls st : List Value} {h : x_H} : x_run 928 1843 ls st h = x_run 928 2044 ls st h := xe_goto ec928 dL_law_1843 rfl
theorem e928_1846 {ls st : List Value} {h : x_H} : x_run 928 1846 ls st h = q_gr ls 1 (fun v => x_run 928 1847 ls (.ref v :: st) h) := xe_aload_n ec928 dL_law_1846
theorem e928_1847 {ls st : List Value} {h : x_H} {b : Nat}: x_run 928 1847 ls (.ref b :: st) h = if q_rcv h b 9 = true then (if x_wt st ≤ 8 ∧ x_wt [.ref b] = 1 then q_cl (x_m 729 [.ref b] h) (fun v h' => x_run 928 1850 ls (v.toList ++ st) h') else none) else none := xe_virt (r := []) ec928 dL_law_1847 ek9_219 rfl (by decide +kernel) (by decide +kernel)
theorem e928_1850 {ls st : List Value} {h : x_H} {u : UInt64}: x_run 928 1850 ls (.double u :: st) h = if 6 + 1 < ls.length ∧ x_nd ls 6 = true then x_run 928 1852 ((ls.set (6 + 1) .null).set 6 (.double u)) st h else none := xe_dstore ec928 dL_law_1850
theorem e928_1852 {ls st : List Value} {h : x_H} : x_run 928 1852 ls st h = q_gr ls 2 (fun v => x_run 928 1853 ls (.ref v :: st) h) := xe_aload_n ec928 dL_law_1852
theorem e928_1853 {ls st : List Value} {h : x_H} {b : Nat}: x_run 928 1853 ls (.ref b :: st) h = if q_rcv h b 10 = true then (if x_wt st ≤ 8 ∧ x_wt [.ref b] = 1 then q_cl (x_m 876 [.ref b] h) (fun v h' => x_run 928 1856 ls (v.toList ++ st) h') else none) else none := xe_virt (r := []) ec928 dL_law_1853 ek9_223 rfl (by decide +kernel) (by decide +kernel)
theorem e928_1856 {ls st : List Value} {h : x_H} {u : UInt64}: x_run 928 1856 ls (.double u :: st) h = if 8 + 1 < ls.length ∧ x_nd ls 8 = true then x_run 928 1858 ((ls.set (8 + 1) .null).set 8 (.double u)) st h else none := xe_dstore ec928 dL_law_1856
theorem e928_1858 {ls st : List Value} {h : x_H} : x_run 928 1858 ls st h = q_gd ls 6 (fun v => x_run 928 1860 ls (.double v :: st) h) := xe_dload ec928 dL_law_1858
theorem e928_1860 {ls st : List Value} {h : x_H} : x_run 928 1860 ls st h = q_gd ls 8 (fun v => x_run 928 1862 ls (.double v :: st) h) := xe_dload ec928 dL_law_1860
theorem e928_1862 {ls st : List Value} {h : x_H} {v w : UInt64}: x_run 928 1862 ls (.double v :: .double w :: st) h = x_run 928 1863 ls (.int (Op.cmpValue (FP.dcmp w v) .l) :: st) h := xe_dcmp ec928 dL_law_1862
theorem e928_1863 {ls st : List Value} {h : x_H} {x : Int32}: x_run 928 1863 ls (.int x :: st) h = if x = 0 then x_run 928 1884 ls st h else x_run 928 1866 ls st h := xe_if_eq ec928 dL_law_1863 rfl
theorem e928_1866 {ls st : List Value} {h : x_H} : x_run 928 1866 ls st h = q_gd ls 6 (fun v => x_run 928 1868 ls (.double v :: st) h) := xe_dload ec928 dL_law_1866
theorem e928_1868 {ls st : List Value} {h : x_H} : x_run 928 1868 ls st h = q_gd ls 6 (fun v => x_run 928 1870 ls (.double v :: st) h) := xe_dload ec928 dL_law_1868
theorem e928_1870 {ls st : List Value} {h : x_H} {v w : UInt64}: x_run 928 1870 ls (.double v :: .double w :: st) h = x_run 928 1871 ls (.int (Op.cmpValue (FP.dcmp w v) .l) :: st) h := xe_dcmp ec928 dL_law_1870
theorem e928_1871 {ls st : List Value} {h : x_H} {x : Int32}: x_run 928 1871 ls (.int x :: st) h = if x = 0 then x_run 928 1882 ls st h else x_run 928 1874 ls st h := xe_if_eq ec928 dL_law_1871 rfl
theorem e928_1874 {ls st : List Value} {h : x_H} : x_run 928 1874 ls st h = q_gd ls 8 (fun v => x_run 928 1876 ls (.double v :: st) h) := xe_dload ec928 dL_law_1874
theorem e928_1876 {ls st : List Value} {h : x_H} : x_run 928 1876 ls st h = q_gd ls 8 (fun v => x_run 928 1878 ls (.double v :: st) h) := xe_dload ec928 dL_law_1876
theorem e928_1878 {ls st : List Value} {h : x_H} {v w : UInt64}: x_run 928 1878 ls (.double v :: .double w :: st) h = x_run 928 1879 ls (.int (Op.cmpValue (FP.dcmp w v) .l) :: st) h := xe_dcmp ec928 dL_law_1878
theorem e928_1879 {ls st : List Value} {h : x_H} {x : Int32}: x_run 928 1879 ls (.int x :: st) h = if ¬ x = 0 then x_run 928 1884 ls st h else x_run 928 1882 ls st h := xe_if_ne ec928 dL_law_1879 rfl
theorem e928_1882 {ls st : List Value} {h : x_H} : x_run 928 1882 ls st h = x_run 928 1883 ls (.int (q_i 0) :: st) h := xe_iconst ec928 dL_law_1882
theorem e928_1883 {ls : List Value} {h : x_H} {x : Int32} : x_run 928 1883 ls [.int x] h = if narrow .boolean (.int x) = .int x then some (.inl (some (.int x)), h) else none := xe_ireturn ec928 dL_law_1883 rfl
theorem e928_1884 {ls st : List Value} {h : x_H} : x_run 928 1884 ls st h = x_run 928 2044 ls st h := xe_goto ec928 dL_law_1884 rfl
theorem e928_1887 {ls st : List Value} {h : x_H} : x_run 928 1887 ls st h = q_gr ls 1 (fun v => x_run 928 1888 ls (.ref v :: st) h) := xe_aload_n ec928 dL_law_1887
theorem e928_1888 {ls st : List Value} {h : x_H} : x_run 928 1888 ls st h = q_gr ls 0 (fun v => x_run 928 1889 ls (.ref v :: st) h) := xe_aload_n ec928 dL_law_1888
theorem e928_1889 {ls st : List Value} {h : x_H} : x_run 928 1889 ls st h = q_gi ls 5 (fun v => x_run 928 1891 ls (.int v :: st) h) := xe_iload ec928 dL_law_1889
theorem e928_1891 {ls st : List Value} {h : x_H} : x_run 928 1891 ls st h = x_run 928 1892 ls (.int (q_i 1) :: st) h := xe_iconst ec928 dL_law_1891
theorem e928_1892 {ls st : List Value} {h : x_H} {x y : Int32}: x_run 928 1892 ls (.int y :: .int x :: st) h = x_run 928 1893 ls (.int (x + y) :: st) h := xe_iadd ec928 dL_law_1892
theorem e928_1893 {ls st : List Value} {h : x_H} {x : Int32} {a : Nat}: x_run 928 1893 ls (.int x :: .ref a :: st) h = q_ra h a 0 x (fun v => x_run 928 1894 ls (.int v :: st) h) := xe_iaload ec928 dL_law_1893
theorem e928_1894 {ls st : List Value} {h : x_H} : x_run 928 1894 ls st h = q_gr ls 3 (fun v => x_run 928 1895 ls (.ref v :: st) h) := xe_aload_n ec928 dL_law_1894
theorem e928_1895 {ls st : List Value} {h : x_H} {a1 a2 a3 : Value}: x_run 928 1895 ls (a3 :: a2 :: a1 :: st) h = if x_wt st ≤ 8 ∧ x_wt [a1, a2, a3] = 3 then q_cl (x_m 925 [a1, a2, a3] h) (fun v h' => x_run 928 1898 ls (v.toList ++ st) h') else none := xe_stat (args := [a1, a2, a3]) ec928 dL_law_1895 ek9_224 (by decide) rfl (by decide +kernel) (by decide +kernel)
theorem e928_1898 {ls st : List Value} {h : x_H} {x : Int32}: x_run 928 1898 ls (.int x :: st) h = q_ls ls 6 (.int x) (fun ls' => x_run 928 1900 ls' st h) := xe_istore ec928 dL_law_1898
theorem e928_1900 {ls st : List Value} {h : x_H} : x_run 928 1900 ls st h = q_gr ls 2 (fun v => x_run 928 1901 ls (.ref v :: st) h) := xe_aload_n ec928 dL_law_1900
theorem e928_1901 {ls st : List Value} {h : x_H} : x_run 928 1901 ls st h = q_gr ls 0 (fun v => x_run 928 1902 ls (.ref v :: st) h) := xe_aload_n ec928 dL_law_1901
theorem e928_1902 {ls st : List Value} {h : x_H} : x_run 928 1902 ls st h = q_gi ls 5 (fun v => x_run 928 1904 ls (.int v :: st) h) := xe_iload ec928 dL_law_1902
theorem e928_1904 {ls st : List Value} {h : x_H} : x_run 928 1904 ls st h = x_run 928 1905 ls (.int (q_i 1) :: st) h := xe_iconst ec928 dL_law_1904
theorem e928_1905 {ls st : List Value} {h : x_H} {x y : Int32}: x_run 928 1905 ls (.int y :: .int x :: st) h = x_run 928 1906 ls (.int (x + y) :: st) h := xe_iadd ec928 dL_law_1905
theorem e928_1906 {ls st : List Value} {h : x_H} {x : Int32} {a : Nat}: x_run 928 1906 ls (.int x :: .ref a :: st) h = q_ra h a 0 x (fun v => x_run 928 1907 ls (.int v :: st) h) := xe_iaload ec928 dL_law_1906
theorem e928_1907 {ls st : List Value} {h : x_H} {b : Nat} {a1 : Value}: x_run 928 1907 ls (a1 :: .ref b :: st) h = if q_rcv h b 10 = true then (if x_wt st ≤ 8 ∧ x_wt [.ref b, a1] = 2 then q_cl (x_m 877 [.ref b, a1] h) (fun v h' => x_run 928 1910 ls (v.toList ++ st) h') else none) else none := xe_virt (r := [a1]) ec928 dL_law_1907 ek9_226 rfl (by decide +kernel) (by decide +kernel)
theorem e928_1910 {ls st : List Value} {h : x_H} {x : Int32}: x_run 928 1910 ls (.int x :: st) h = q_ls ls 7 (.int x) (fun ls' => x_run 928 1912 ls' st h) := xe_istore ec928 dL_law_1910
theorem e928_1912 {ls st : List Value} {h : x_H} : x_run 928 1912 ls st h = q_gr ls 2 (fun v => x_run 928 1913 ls (.ref v :: st) h) := xe_aload_n ec928 dL_law_1912
theorem e928_1913 {ls st : List Value} {h : x_H} {b : Nat}: x_run 928 1913 ls (.ref b :: st) h = if q_rcv h b 10 = true then (if x_wt st ≤ 8 ∧ x_wt [.ref b] = 1 then q_cl (x_m 801 [.ref b] h) (fun v h' => x_run 928 1916 ls (v.toList ++ st) h') else none) else none := xe_virt (r := []) ec928 dL_law_1913 ek9_125 rfl (by decide +kernel) (by decide +kernel)
theorem e928_1916 {ls st : List Value} {h : x_H} : x_run 928 1916 ls st h = q_gi ls 6 (fun v => x_run 928 1918 ls (.int v :: st) h) := xe_iload ec928 dL_law_1916
theorem e928_1918 {ls st : List Value} {h : x_H} {x y : Int32}: x_run 928 1918 ls (.int y :: .int x :: st) h = if x = y then x_run 928 1923 ls st h else x_run 928 1921 ls st h := xe_ic_eq ec928 dL_law_1918 rfl
theorem e928_1921 {ls st : List Value} {h : x_H} : x_run 928 1921 ls st h = x_run 928 1922 ls (.int (q_i 0) :: st) h := xe_iconst ec928 dL_law_1921
theorem e928_1922 {ls : List Value} {h : x_H} {x : Int32} : x_run 928 1922 ls [.int x] h = if narrow .boolean (.int x) = .int x then some (.inl (some (.int x)), h) else none := xe_ireturn ec928 dL_law_1922 rfl
theorem e928_1923 {ls st : List Value} {h : x_H} : x_run 928 1923 ls st h = q_gi ls 6 (fun v => x_run 928 1925 ls (.int v :: st) h) := xe_iload ec928 dL_law_1923
theorem e928_1925 {ls st : List Value} {h : x_H} {x : Int32}: x_run 928 1925 ls (.int x :: st) h = if ¬ x = 0 then x_run 928 1940 ls st h else x_run 928 1928 ls st h := xe_if_ne ec928 dL_law_1925 rfl
theorem e928_1928 {ls st : List Value} {h : x_H} : x_run 928 1928 ls st h = q_gr ls 3 (fun v => x_run 928 1929 ls (.ref v :: st) h) := xe_aload_n ec928 dL_law_1928
theorem e928_1929 {ls st : List Value} {h : x_H} : x_run 928 1929 ls st h = x_run 928 1930 ls (.int (q_i 0) :: st) h := xe_iconst ec928 dL_law_1929
theorem e928_1930 {ls st : List Value} {h : x_H} {x : Int32} {a : Nat}: x_run 928 1930 ls (.int x :: .ref a :: st) h = q_rv2 h a 100 x_isL x (fun v => x_run 928 1931 ls (v :: st) h) := xe_laload ec928 dL_law_1930
theorem e928_1931 {ls st : List Value} {h : x_H} : x_run 928 1931 ls st h = q_gi ls 7 (fun v => x_run 928 1933 ls (.int v :: st) h) := xe_iload ec928 dL_law_1931
theorem e928_1933 {ls st : List Value} {h : x_H} {x : Int32}: x_run 928 1933 ls (.int x :: st) h = x_run 928 1934 ls (.long x.toInt64 :: st) h := xe_i2l ec928 dL_law_1933
theorem e928_1934 {ls st : List Value} {h : x_H} {v w : Int64}: x_run 928 1934 ls (.long v :: .long w :: st) h = x_run 928 1935 ls (.int (lg_cmp w v) :: st) h := xe_lcmp ec928 dL_law_1934
theorem e928_1935 {ls st : List Value} {h : x_H} {x : Int32}: x_run 928 1935 ls (.int x :: st) h = if x = 0 then x_run 928 1940 ls st h else x_run 928 1938 ls st h := xe_if_eq ec928 dL_law_1935 rfl
theorem e928_1938 {ls st : List Value} {h : x_H} : x_run 928 1938 ls st h = x_run 928 1939 ls (.int (q_i 0) :: st) h := xe_iconst ec928 dL_law_1938
theorem e928_1939 {ls : List Value} {h : x_H} {x : Int32} : x_run 928 1939 ls [.int x] h = if narrow .boolean (.int x) = .int x then some (.inl (some (.int x)), h) else none := xe_ireturn ec928 dL_law_1939 rfl
theorem e928_1940 {ls st : List Value} {h : x_H} : x_run 928 1940 ls st h = x_run 928 2044 ls st h := xe_goto ec928 dL_law_1940 rfl
theorem e928_1943 {ls st : List Value} {h : x_H} : x_run 928 1943 ls st h = q_gr ls 1 (fun v => x_run 928 1944 ls (.ref v :: st) h) := xe_aload_n ec928 dL_law_1943
theorem e928_1944 {ls st : List Value} {h : x_H} : x_run 928 1944 ls st h = q_gr ls 3 (fun v => x_run 928 1945 ls (.ref v :: st) h) := xe_aload_n ec928 dL_law_1944
theorem e928_1945 {ls st : List Value} {h : x_H} {a1 a2 : Value}: x_run 928 1945 ls (a2 :: a1 :: st) h = if x_wt st ≤ 8 ∧ x_wt [a1, a2] = 2 then q_cl (x_m 926 [a1, a2] h) (fun v h' => x_run 928 1948 ls (v.toList ++ st) h') else none := xe_stat (args := [a1, a2]) ec928 dL_law_1945 ek9_227 (by decide) rfl (by decide +kernel) (by decide +kernel)
theorem e928_1948 {ls st : List Value} {h : x_H} {x : Int32}: x_run 928 1948 ls (.int x :: st) h = q_ls ls 6 (.int x) (fun ls' => x_run 928 1950 ls' st h) := xe_istore ec928 dL_law_1948
theorem e928_1950 {ls st : List Value} {h : x_H} : x_run 928 1950 ls st h = q_gr ls 2 (fun v => x_run 928 1951 ls (.ref v :: st) h) := xe_aload_n ec928 dL_law_1950
theorem e928_1951 {ls st : List Value} {h : x_H} {b : Nat}: x_run 928 1951 ls (.ref b :: st) h = if q_rcv h b 10 = true then (if x_wt st ≤ 8 ∧ x_wt [.ref b] = 1 then q_cl (x_m 878 [.ref b] h) (fun v h' => x_run 928 1954 ls (v.toList ++ st) h') else none) else none := xe_virt (r := []) ec928 dL_law_1951 ek9_229 rfl (by decide +kernel) (by decide +kernel)
theorem e928_1954 {ls st : List Value} {h : x_H} {x : Int32}: x_run 928 1954 ls (.int x :: st) h = q_ls ls 7 (.int x) (fun ls' => x_run 928 1956 ls' st h) := xe_istore ec928 dL_law_1954
theorem e928_1956 {ls st : List Value} {h : x_H} : x_run 928 1956 ls st h = q_gr ls 2 (fun v => x_run 928 1957 ls (.ref v :: st) h) := xe_aload_n ec928 dL_law_1956
theorem e928_1957 {ls st : List Value} {h : x_H} {b : Nat}: x_run 928 1957 ls (.ref b :: st) h = if q_rcv h b 10 = true then (if x_wt st ≤ 8 ∧ x_wt [.ref b] = 1 then q_cl (x_m 801 [.ref b] h) (fun v h' => x_run 928 1960 ls (v.toList ++ st) h') else none) else none := xe_virt (r := []) ec928 dL_law_1957 ek9_125 rfl (by decide +kernel) (by decide +kernel)
theorem e928_1960 {ls st : List Value} {h : x_H} : x_run 928 1960 ls st h = q_gi ls 6 (fun v => x_run 928 1962 ls (.int v :: st) h) := xe_iload ec928 dL_law_1960
theorem e928_1962 {ls st : List Value} {h : x_H} {x y : Int32}: x_run 928 1962 ls (.int y :: .int x :: st) h = if x = y then x_run 928 1967 ls st h else x_run 928 1965 ls st h := xe_ic_eq ec928 dL_law_1962 rfl
theorem e928_1965 {ls st : List Value} {h : x_H} : x_run 928 1965 ls st h = x_run 928 1966 ls (.int (q_i 0) :: st) h := xe_iconst ec928 dL_law_1965
theorem e928_1966 {ls : List Value} {h : x_H} {x : Int32} : x_run 928 1966 ls [.int x] h = if narrow .boolean (.int x) = .int x then some (.inl (some (.int x)), h) else none := xe_ireturn ec928 dL_law_1966 rfl
theorem e928_1967 {ls st : List Value} {h : x_H} : x_run 928 1967 ls st h = q_gi ls 6 (fun v => x_run 928 1969 ls (.int v :: st) h) := xe_iload ec928 dL_law_1967
theorem e928_1969 {ls st : List Value} {h : x_H} {x : Int32}: x_run 928 1969 ls (.int x :: st) h = if ¬ x = 0 then x_run 928 1984 ls st h else x_run 928 1972 ls st h := xe_if_ne ec928 dL_law_1969 rfl
theorem e928_1972 {ls st : List Value} {h : x_H} : x_run 928 1972 ls st h = q_gr ls 3 (fun v => x_run 928 1973 ls (.ref v :: st) h) := xe_aload_n ec928 dL_law_1972
theorem e928_1973 {ls st : List Value} {h : x_H} : x_run 928 1973 ls st h = x_run 928 1974 ls (.int (q_i 0) :: st) h := xe_iconst ec928 dL_law_1973
theorem e928_1974 {ls st : List Value} {h : x_H} {x : Int32} {a : Nat}: x_run 928 1974 ls (.int x :: .ref a :: st) h = q_rv2 h a 100 x_isL x (fun v => x_run 928 1975 ls (v :: st) h) := xe_laload ec928 dL_law_1974
theorem e928_1975 {ls st : List Value} {h : x_H} : x_run 928 1975 ls st h = q_gi ls 7 (fun v => x_run 928 1977 ls (.int v :: st) h) := xe_iload ec928 dL_law_1975
theorem e928_1977 {ls st : List Value} {h : x_H} {x : Int32}: x_run 928 1977 ls (.int x :: st) h = x_run 928 1978 ls (.long x.toInt64 :: st) h := xe_i2l ec928 dL_law_1977
theorem e928_1978 {ls st : List Value} {h : x_H} {v w : Int64}: x_run 928 1978 ls (.long v :: .long w :: st) h = x_run 928 1979 ls (.int (lg_cmp w v) :: st) h := xe_lcmp ec928 dL_law_1978
theorem e928_1979 {ls st : List Value} {h : x_H} {x : Int32}: x_run 928 1979 ls (.int x :: st) h = if x = 0 then x_run 928 1984 ls st h else x_run 928 1982 ls st h := xe_if_eq ec928 dL_law_1979 rfl
theorem e928_1982 {ls st : List Value} {h : x_H} : x_run 928 1982 ls st h = x_run 928 1983 ls (.int (q_i 0) :: st) h := xe_iconst ec928 dL_law_1982
theorem e928_1983 {ls : List Value} {h : x_H} {x : Int32} : x_run 928 1983 ls [.int x] h = if narrow .boolean (.int x) = .int x then some (.inl (some (.int x)), h) else none := xe_ireturn ec928 dL_law_1983 rfl
theorem e928_1984 {ls st : List Value} {h : x_H} : x_run 928 1984 ls st h = x_run 928 2044 ls st h := xe_goto ec928 dL_law_1984 rfl
theorem e928_1987 {ls st : List Value} {h : x_H} : x_run 928 1987 ls st h = q_gr ls 1 (fun v => x_run 928 1988 ls (.ref v :: st) h) := xe_aload_n ec928 dL_law_1987
theorem e928_1988 {ls st : List Value} {h : x_H} {b : Nat}: x_run 928 1988 ls (.ref b :: st) h = if q_rcv h b 9 = true then (if x_wt st ≤ 8 ∧ x_wt [.ref b] = 1 then q_cl (x_m 732 [.ref b] h) (fun v h' => x_run 928 1991 ls (v.toList ++ st) h') else none) else none := xe_virt (r := []) ec928 dL_law_1988 ek9_230 rfl (by decide +kernel) (by decide +kernel)
theorem e928_1991 {ls st : List Value} {h : x_H} : x_run 928 1991 ls st h = q_gr ls 2 (fun v => x_run 928 1992 ls (.ref v :: st) h) := xe_aload_n ec928 dL_law_1991
theorem e928_1992 {ls st : List Value} {h : x_H} {b : Nat}: x_run 928 1992 ls (.ref b :: st) h = if q_rcv h b 10 = true then (if x_wt st ≤ 8 ∧ x_wt [.ref b] = 1 then q_cl (x_m 879 [.ref b] h) (fun v h' => x_run 928 1995 ls (v.toList ++ st) h') else none) else none := xe_virt (r := []) ec928 dL_law_1992 ek9_233 rfl (by decide +kernel) (by decide +kernel)
theorem e928_1995 {ls st : List Value} {h : x_H} {x y : Int32}: x_run 928 1995 ls (.int y :: .int x :: st) h = if x = y then x_run 928 2044 ls st h else x_run 928 1998 ls st h := xe_ic_eq ec928 dL_law_1995 rfl
theorem e928_1998 {ls st : List Value} {h : x_H} : x_run 928 1998 ls st h = x_run 928 1999 ls (.int (q_i 0) :: st) h := xe_iconst ec928 dL_law_1998
theorem e928_1999 {ls : List Value} {h : x_H} {x : Int32} : x_run 928 1999 ls [.int x] h = if narrow .boolean (.int x) = .int x then some (.inl (some (.int x)), h) else none := xe_ireturn ec928 dL_law_1999 rfl
theorem e928_2000 {ls st : List Value} {h : x_H} : x_run 928 2000 ls st h = q_gr ls 1 (fun v => x_run 928 2001 ls (.ref v :: st) h) := xe_aload_n ec928 dL_law_2000
theorem e928_2001 {ls st : List Value} {h : x_H} : x_run 928 2001 ls st h = q_gr ls 3 (fun v => x_run 928 2002 ls (.ref v :: st) h) := xe_aload_n ec928 dL_law_2001
theorem e928_2002 {ls st : List Value} {h : x_H} {a1 a2 : Value}: x_run 928 2002 ls (a2 :: a1 :: st) h = if x_wt st ≤ 8 ∧ x_wt [a1, a2] = 2 then q_cl (x_m 927 [a1, a2] h) (fun v h' => x_run 928 2005 ls (v.toList ++ st) h') else none := xe_stat (args := [a1, a2]) ec928 dL_law_2002 ek9_234 (by decide) rfl (by decide +kernel) (by decide +kernel)
theorem e928_2005 {ls st : List Value} {h : x_H} {x : Int32}: x_run 928 2005 ls (.int x :: st) h = q_ls ls 6 (.int x) (fun ls' => x_run 928 2007 ls' st h) := xe_istore ec928 dL_law_2005
theorem e928_2007 {ls st : List Value} {h : x_H} : x_run 928 2007 ls st h = q_gr ls 2 (fun v => x_run 928 2008 ls (.ref v :: st) h) := xe_aload_n ec928 dL_law_2007
theorem e928_2008 {ls st : List Value} {h : x_H} {b : Nat}: x_run 928 2008 ls (.ref b :: st) h = if q_rcv h b 10 = true then (if x_wt st ≤ 8 ∧ x_wt [.ref b] = 1 then q_cl (x_m 880 [.ref b] h) (fun v h' => x_run 928 2011 ls (v.toList ++ st) h') else none) else none := xe_virt (r := []) ec928 dL_law_2008 ek9_236 rfl (by decide +kernel) (by decide +kernel)
theorem e928_2011 {ls st : List Value} {h : x_H} {x : Int32}: x_run 928 2011 ls (.int x :: st) h = q_ls ls 7 (.int x) (fun ls' => x_run 928 2013 ls' st h) := xe_istore ec928 dL_law_2011
theorem e928_2013 {ls st : List Value} {h : x_H} : x_run 928 2013 ls st h = q_gr ls 2 (fun v => x_run 928 2014 ls (.ref v :: st) h) := xe_aload_n ec928 dL_law_2013
theorem e928_2014 {ls st : List Value} {h : x_H} {b : Nat}: x_run 928 2014 ls (.ref b :: st) h = if q_rcv h b 10 = true then (if x_wt st ≤ 8 ∧ x_wt [.ref b] = 1 then q_cl (x_m 801 [.ref b] h) (fun v h' => x_run 928 2017 ls (v.toList ++ st) h') else none) else none := xe_virt (r := []) ec928 dL_law_2014 ek9_125 rfl (by decide +kernel) (by decide +kernel)
theorem e928_2017 {ls st : List Value} {h : x_H} : x_run 928 2017 ls st h = q_gi ls 6 (fun v => x_run 928 2019 ls (.int v :: st) h) := xe_iload ec928 dL_law_2017
theorem e928_2019 {ls st : List Value} {h : x_H} {x y : Int32}: x_run 928 2019 ls (.int y :: .int x :: st) h = if x = y then x_run 928 2024 ls st h else x_run 928 2022 ls st h := xe_ic_eq ec928 dL_law_2019 rfl
theorem e928_2022 {ls st : List Value} {h : x_H} : x_run 928 2022 ls st h = x_run 928 2023 ls (.int (q_i 0) :: st) h := xe_iconst ec928 dL_law_2022
theorem e928_2023 {ls : List Value} {h : x_H} {x : Int32} : x_run 928 2023 ls [.int x] h = if narrow .boolean (.int x) = .int x then some (.inl (some (.int x)), h) else none := xe_ireturn ec928 dL_law_2023 rfl
theorem e928_2024 {ls st : List Value} {h : x_H} : x_run 928 2024 ls st h = q_gi ls 6 (fun v => x_run 928 2026 ls (.int v :: st) h) := xe_iload ec928 dL_law_2024
theorem e928_2026 {ls st : List Value} {h : x_H} {x : Int32}: x_run 928 2026 ls (.int x :: st) h = if ¬ x = 0 then x_run 928 2041 ls st h else x_run 928 2029 ls st h := xe_if_ne ec928 dL_law_2026 rfl
theorem e928_2029 {ls st : List Value} {h : x_H} : x_run 928 2029 ls st h = q_gr ls 3 (fun v => x_run 928 2030 ls (.ref v :: st) h) := xe_aload_n ec928 dL_law_2029
theorem e928_2030 {ls st : List Value} {h : x_H} : x_run 928 2030 ls st h = x_run 928 2031 ls (.int (q_i 0) :: st) h := xe_iconst ec928 dL_law_2030
theorem e928_2031 {ls st : List Value} {h : x_H} {x : Int32} {a : Nat}: x_run 928 2031 ls (.int x :: .ref a :: st) h = q_rv2 h a 100 x_isL x (fun v => x_run 928 2032 ls (v :: st) h) := xe_laload ec928 dL_law_2031
theorem e928_2032 {ls st : List Value} {h : x_H} : x_run 928 2032 ls st h = q_gi ls 7 (fun v => x_run 928 2034 ls (.int v :: st) h) := xe_iload ec928 dL_law_2032
theorem e928_2034 {ls st : List Value} {h : x_H} {x : Int32}: x_run 928 2034 ls (.int x :: st) h = x_run 928 2035 ls (.long x.toInt64 :: st) h := xe_i2l ec928 dL_law_2034
theorem e928_2035 {ls st : List Value} {h : x_H} {v w : Int64}: x_run 928 2035 ls (.long v :: .long w :: st) h = x_run 928 2036 ls (.int (lg_cmp w v) :: st) h := xe_lcmp ec928 dL_law_2035
theorem e928_2036 {ls st : List Value} {h : x_H} {x : Int32}: x_run 928 2036 ls (.int x :: st) h = if x = 0 then x_run 928 2041 ls st h else x_run 928 2039 ls st h := xe_if_eq ec928 dL_law_2036 rfl
theorem e928_2039 {ls st : List Value} {h : x_H} : x_run 928 2039 ls st h = x_run 928 2040 ls (.int (q_i 0) :: st) h := xe_iconst ec928 dL_law_2039
theorem e928_2040 {ls : List Value} {h : x_H} {x : Int32} : x_run 928 2040 ls [.int x] h = if narrow .boolean (.int x) = .int x then some (.inl (some (.int x)), h) else none := xe_ireturn ec928 dL_law_2040 rfl
theorem e928_2041 {ls st : List Value} {h : x_H} : x_run 928 2041 ls st h = x_run 928 2044 ls st h := xe_goto ec928 dL_law_2041 rfl
theorem e928_2044 {ls st : List Value} {h : x_H} : x_run 928 2044 ls st h = q_gi ls 5 (fun v => if x_nd ls 5 = true then x_run 928 2047 (ls.set 5 (.int (v + q_i 5))) st h else none) := xe_iinc ec928 dL_law_2044
theorem e928_2047 {ls st : List Value} {h : x_H} : x_run 928 2047 ls st h = x_run 928 28 ls st h := xe_goto ec928 dL_law_2047 rfl
theorem e928_2050 {ls st : List Value} {h : x_H} : x_run 928 2050 ls st h = x_run 928 2051 ls (.int (q_i 1) :: st) h := xe_iconst ec928 dL_law_2050
theorem e928_2051 {ls : List Value} {h : x_H} {x : Int32} : x_run 928 2051 ls [.int x] h = if narrow .boolean (.int x) = .int x then some (.inl (some (.int x)), h) else none := xe_ireturn ec928 dL_law_2051 rfl
