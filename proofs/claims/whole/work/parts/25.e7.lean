theorem ec700 : x_code 700 = cX7_init := rfl
theorem e700_0 {ls st : List Value} {h : x_H} : x_run 700 0 ls st h = q_gr ls 0 (fun v => x_run 700 1 ls (.ref v :: st) h) := xe_aload_n ec700 dX7_init_0
theorem e700_1 {ls st : List Value} {h : x_H} {a : Nat}: x_run 700 1 ls (.ref a :: st) h = if x_wt st ≤ 8 then x_run 700 4 ls st h else none := xe_obj ec700 dX7_init_1 ek7_3
theorem e700_4 {ls st : List Value} {h : x_H} : x_run 700 4 ls st h = q_gr ls 0 (fun v => x_run 700 5 ls (.ref v :: st) h) := xe_aload_n ec700 dX7_init_4
theorem e700_5 {ls st : List Value} {h : x_H} : x_run 700 5 ls st h = q_al2 h (.inr (2, x_defs 2)) (x_N 2) (fun a h' => x_run 700 8 ls (.ref a :: st) h') := xe_new ec700 dX7_init_5 (by decide +kernel)
theorem e700_8 {ls st : List Value} {h : x_H} {v : Value} (hv : v.category = 1): x_run 700 8 ls (v :: st) h = x_run 700 9 ls (v :: v :: st) h := xe_dup ec700 dX7_init_8 hv
theorem e700_9 {ls st : List Value} {h : x_H} {b : Nat}: x_run 700 9 ls (.ref b :: st) h = if q_rcv h b 2 = true then (if x_wt st ≤ 8 ∧ x_wt [.ref b] = 1 then q_cl (x_m 0 [.ref b] h) (fun v h' => x_run 700 12 ls (v.toList ++ st) h') else none) else none := xe_spec (r := []) ec700 dX7_init_9 ek7_11 (by decide) rfl (by decide +kernel) (by decide +kernel)
theorem e700_12 {ls st : List Value} {h : x_H} {v : Value} {a : Nat}: x_run 700 12 ls (v :: .ref a :: st) h = if x_fit (x_ty 9 0) v = true then q_pf h a 9 0 v (fun h' => x_run 700 15 ls st h') else none := xe_putfield ec700 dX7_init_12 ef7_12 (by decide +kernel)
theorem e700_15 {ls st : List Value} {h : x_H} : x_run 700 15 ls st h = q_gr ls 0 (fun v => x_run 700 16 ls (.ref v :: st) h) := xe_aload_n ec700 dX7_init_15
theorem e700_16 {ls st : List Value} {h : x_H} : x_run 700 16 ls st h = q_al2 h (.inr (7, x_defs 7)) (x_N 7) (fun a h' => x_run 700 19 ls (.ref a :: st) h') := xe_new ec700 dX7_init_16 (by decide +kernel)
theorem e700_19 {ls st : List Value} {h : x_H} {v : Value} (hv : v.category = 1): x_run 700 19 ls (v :: st) h = x_run 700 20 ls (v :: v :: st) h := xe_dup ec700 dX7_init_19 hv
theorem e700_20 {ls st : List Value} {h : x_H} : x_run 700 20 ls st h = q_gr ls 0 (fun v => x_run 700 21 ls (.ref v :: st) h) := xe_aload_n ec700 dX7_init_20
theorem e700_21 {ls st : List Value} {h : x_H} {a : Nat}: x_run 700 21 ls (.ref a :: st) h = q_gf h a 9 0 (fun v => x_run 700 24 ls (v :: st) h) := xe_getfield ec700 dX7_init_21 ef7_12
theorem e700_24 {ls st : List Value} {h : x_H} {b : Nat} {a1 : Value}: x_run 700 24 ls (a1 :: .ref b :: st) h = if q_rcv h b 7 = true then (if x_wt st ≤ 8 ∧ x_wt [.ref b, a1] = 2 then q_cl (x_m 500 [.ref b, a1] h) (fun v h' => x_run 700 27 ls (v.toList ++ st) h') else none) else none := xe_spec (r := [a1]) ec700 dX7_init_24 ek7_18 (by decide) rfl (by decide +kernel) (by decide +kernel)
theorem e700_27 {ls st : List Value} {h : x_H} {v : Value} {a : Nat}: x_run 700 27 ls (v :: .ref a :: st) h = if x_fit (x_ty 9 1) v = true then q_pf h a 9 1 v (fun h' => x_run 700 30 ls st h') else none := xe_putfield ec700 dX7_init_27 ef7_21 (by decide +kernel)
theorem e700_30 {ls st : List Value} {h : x_H} : x_run 700 30 ls st h = q_gr ls 0 (fun v => x_run 700 31 ls (.ref v :: st) h) := xe_aload_n ec700 dX7_init_30
theorem e700_31 {ls st : List Value} {h : x_H} : x_run 700 31 ls st h = q_al2 h (.inr (6, x_defs 6)) (x_N 6) (fun a h' => x_run 700 34 ls (.ref a :: st) h') := xe_new ec700 dX7_init_31 (by decide +kernel)
theorem e700_34 {ls st : List Value} {h : x_H} {v : Value} (hv : v.category = 1): x_run 700 34 ls (v :: st) h = x_run 700 35 ls (v :: v :: st) h := xe_dup ec700 dX7_init_34 hv
theorem e700_35 {ls st : List Value} {h : x_H} {b : Nat}: x_run 700 35 ls (.ref b :: st) h = if q_rcv h b 6 = true then (if x_wt st ≤ 8 ∧ x_wt [.ref b] = 1 then q_cl (x_m 400 [.ref b] h) (fun v h' => x_run 700 38 ls (v.toList ++ st) h') else none) else none := xe_spec (r := []) ec700 dX7_init_35 ek7_27 (by decide) rfl (by decide +kernel) (by decide +kernel)
theorem e700_38 {ls st : List Value} {h : x_H} {v : Value} {a : Nat}: x_run 700 38 ls (v :: .ref a :: st) h = if x_fit (x_ty 9 2) v = true then q_pf h a 9 2 v (fun h' => x_run 700 41 ls st h') else none := xe_putfield ec700 dX7_init_38 ef7_28 (by decide +kernel)
theorem e700_41 {ls st : List Value} {h : x_H} : x_run 700 41 ls st h = q_gr ls 0 (fun v => x_run 700 42 ls (.ref v :: st) h) := xe_aload_n ec700 dX7_init_41
theorem e700_42 {ls st : List Value} {h : x_H} : x_run 700 42 ls st h = q_al2 h (.inr (3, x_defs 3)) (x_N 3) (fun a h' => x_run 700 45 ls (.ref a :: st) h') := xe_new ec700 dX7_init_42 (by decide +kernel)
theorem e700_45 {ls st : List Value} {h : x_H} {v : Value} (hv : v.category = 1): x_run 700 45 ls (v :: st) h = x_run 700 46 ls (v :: v :: st) h := xe_dup ec700 dX7_init_45 hv
theorem e700_46 {ls st : List Value} {h : x_H} : x_run 700 46 ls st h = q_gr ls 0 (fun v => x_run 700 47 ls (.ref v :: st) h) := xe_aload_n ec700 dX7_init_46
theorem e700_47 {ls st : List Value} {h : x_H} {a : Nat}: x_run 700 47 ls (.ref a :: st) h = q_gf h a 9 0 (fun v => x_run 700 50 ls (v :: st) h) := xe_getfield ec700 dX7_init_47 ef7_12
theorem e700_50 {ls st : List Value} {h : x_H} : x_run 700 50 ls st h = q_gr ls 0 (fun v => x_run 700 51 ls (.ref v :: st) h) := xe_aload_n ec700 dX7_init_50
theorem e700_51 {ls st : List Value} {h : x_H} {a : Nat}: x_run 700 51 ls (.ref a :: st) h = q_gf h a 9 1 (fun v => x_run 700 54 ls (v :: st) h) := xe_getfield ec700 dX7_init_51 ef7_21
theorem e700_54 {ls st : List Value} {h : x_H} : x_run 700 54 ls st h = q_gr ls 0 (fun v => x_run 700 55 ls (.ref v :: st) h) := xe_aload_n ec700 dX7_init_54
theorem e700_55 {ls st : List Value} {h : x_H} {a : Nat}: x_run 700 55 ls (.ref a :: st) h = q_gf h a 9 2 (fun v => x_run 700 58 ls (v :: st) h) := xe_getfield ec700 dX7_init_55 ef7_28
theorem e700_58 {ls st : List Value} {h : x_H} {b : Nat} {a1 a2 a3 : Value}: x_run 700 58 ls (a3 :: a2 :: a1 :: .ref b :: st) h = if q_rcv h b 3 = true then (if x_wt st ≤ 8 ∧ x_wt [.ref b, a1, a2, a3] = 4 then q_cl (x_m 100 [.ref b, a1, a2, a3] h) (fun v h' => x_run 700 61 ls (v.toList ++ st) h') else none) else none := xe_spec (r := [a1, a2, a3]) ec700 dX7_init_58 ek7_34 (by decide) rfl (by decide +kernel) (by decide +kernel)
theorem e700_61 {ls st : List Value} {h : x_H} {v : Value} {a : Nat}: x_run 700 61 ls (v :: .ref a :: st) h = if x_fit (x_ty 9 3) v = true then q_pf h a 9 3 v (fun h' => x_run 700 64 ls st h') else none := xe_putfield ec700 dX7_init_61 ef7_37 (by decide +kernel)
theorem e700_64 {ls st : List Value} {h : x_H} : x_run 700 64 ls st h = q_gr ls 0 (fun v => x_run 700 65 ls (.ref v :: st) h) := xe_aload_n ec700 dX7_init_64
theorem e700_65 {ls st : List Value} {h : x_H} : x_run 700 65 ls st h = q_al2 h (.inr (5, x_defs 5)) (x_N 5) (fun a h' => x_run 700 68 ls (.ref a :: st) h') := xe_new ec700 dX7_init_65 (by decide +kernel)
theorem e700_68 {ls st : List Value} {h : x_H} {v : Value} (hv : v.category = 1): x_run 700 68 ls (v :: st) h = x_run 700 69 ls (v :: v :: st) h := xe_dup ec700 dX7_init_68 hv
theorem e700_69 {ls st : List Value} {h : x_H} : x_run 700 69 ls st h = q_gr ls 0 (fun v => x_run 700 70 ls (.ref v :: st) h) := xe_aload_n ec700 dX7_init_69
theorem e700_70 {ls st : List Value} {h : x_H} {a : Nat}: x_run 700 70 ls (.ref a :: st) h = q_gf h a 9 0 (fun v => x_run 700 73 ls (v :: st) h) := xe_getfield ec700 dX7_init_70 ef7_12
theorem e700_73 {ls st : List Value} {h : x_H} {b : Nat} {a1 : Value}: x_run 700 73 ls (a1 :: .ref b :: st) h = if q_rcv h b 5 = true then (if x_wt st ≤ 8 ∧ x_wt [.ref b, a1] = 2 then q_cl (x_m 300 [.ref b, a1] h) (fun v h' => x_run 700 76 ls (v.toList ++ st) h') else none) else none := xe_spec (r := [a1]) ec700 dX7_init_73 ek7_43 (by decide) rfl (by decide +kernel) (by decide +kernel)
theorem e700_76 {ls st : List Value} {h : x_H} {v : Value} {a : Nat}: x_run 700 76 ls (v :: .ref a :: st) h = if x_fit (x_ty 9 4) v = true then q_pf h a 9 4 v (fun h' => x_run 700 79 ls st h') else none := xe_putfield ec700 dX7_init_76 ef7_44 (by decide +kernel)
theorem e700_79 {ls st : List Value} {h : x_H} : x_run 700 79 ls st h = q_gr ls 0 (fun v => x_run 700 80 ls (.ref v :: st) h) := xe_aload_n ec700 dX7_init_79
theorem e700_80 {ls st : List Value} {h : x_H} : x_run 700 80 ls st h = q_al2 h (.inr (4, x_defs 4)) (x_N 4) (fun a h' => x_run 700 83 ls (.ref a :: st) h') := xe_new ec700 dX7_init_80 (by decide +kernel)
theorem e700_83 {ls st : List Value} {h : x_H} {v : Value} (hv : v.category = 1): x_run 700 83 ls (v :: st) h = x_run 700 84 ls (v :: v :: st) h := xe_dup ec700 dX7_init_83 hv
theorem e700_84 {ls st : List Value} {h : x_H} {b : Nat}: x_run 700 84 ls (.ref b :: st) h = if q_rcv h b 4 = true then (if x_wt st ≤ 8 ∧ x_wt [.ref b] = 1 then q_cl (x_m 200 [.ref b] h) (fun v h' => x_run 700 87 ls (v.toList ++ st) h') else none) else none := xe_spec (r := []) ec700 dX7_init_84 ek7_50 (by decide) rfl (by decide +kernel) (by decide +kernel)
theorem e700_87 {ls st : List Value} {h : x_H} {v : Value} {a : Nat}: x_run 700 87 ls (v :: .ref a :: st) h = if x_fit (x_ty 9 5) v = true then q_pf h a 9 5 v (fun h' => x_run 700 90 ls st h') else none := xe_putfield ec700 dX7_init_87 ef7_51 (by decide +kernel)
theorem e700_90 {ls st : List Value} {h : x_H} : x_run 700 90 ls st h = q_gr ls 0 (fun v => x_run 700 91 ls (.ref v :: st) h) := xe_aload_n ec700 dX7_init_90
theorem e700_91 {ls st : List Value} {h : x_H} : x_run 700 91 ls st h = q_al2 h (.inr (8, x_defs 8)) (x_N 8) (fun a h' => x_run 700 94 ls (.ref a :: st) h') := xe_new ec700 dX7_init_91 (by decide +kernel)
theorem e700_94 {ls st : List Value} {h : x_H} {v : Value} (hv : v.category = 1): x_run 700 94 ls (v :: st) h = x_run 700 95 ls (v :: v :: st) h := xe_dup ec700 dX7_init_94 hv
theorem e700_95 {ls st : List Value} {h : x_H} {b : Nat}: x_run 700 95 ls (.ref b :: st) h = if q_rcv h b 8 = true then (if x_wt st ≤ 8 ∧ x_wt [.ref b] = 1 then q_cl (x_m 600 [.ref b] h) (fun v h' => x_run 700 98 ls (v.toList ++ st) h') else none) else none := xe_spec (r := []) ec700 dX7_init_95 ek7_57 (by decide) rfl (by decide +kernel) (by decide +kernel)
theorem e700_98 {ls st : List Value} {h : x_H} {v : Value} {a : Nat}: x_run 700 98 ls (v :: .ref a :: st) h = if x_fit (x_ty 9 6) v = true then q_pf h a 9 6 v (fun h' => x_run 700 101 ls st h') else none := xe_putfield ec700 dX7_init_98 ef7_58 (by decide +kernel)
theorem e700_101 {ls st : List Value} {h : x_H} : x_run 700 101 ls st h = q_gr ls 0 (fun v => x_run 700 102 ls (.ref v :: st) h) := xe_aload_n ec700 dX7_init_101
theorem e700_102 {ls st : List Value} {h : x_H} : x_run 700 102 ls st h = x_run 700 103 ls (.int (q_i (-1)) :: st) h := xe_iconst ec700 dX7_init_102
theorem e700_103 {ls st : List Value} {h : x_H} {v : Value} {a : Nat}: x_run 700 103 ls (v :: .ref a :: st) h = if x_fit (x_ty 9 7) v = true then q_pf h a 9 7 v (fun h' => x_run 700 106 ls st h') else none := xe_putfield ec700 dX7_init_103 ef7_62 (by decide +kernel)
theorem e700_106 {ls : List Value} {h : x_H} : x_run 700 106 ls [] h = some (.inl (none), h) := xe_return ec700 dX7_init_106 rfl
theorem ec701 : x_code 701 = cX7_net := rfl
theorem e701_0 {ls st : List Value} {h : x_H} : x_run 701 0 ls st h = q_gr ls 0 (fun v => x_run 701 1 ls (.ref v :: st) h) := xe_aload_n ec701 dX7_net_0
theorem e701_1 {ls st : List Value} {h : x_H} {a : Nat}: x_run 701 1 ls (.ref a :: st) h = q_gf h a 9 4 (fun v => x_run 701 4 ls (v :: st) h) := xe_getfield ec701 dX7_net_1 ef7_44
theorem e701_4 {ls st : List Value} {h : x_H} {b : Nat}: x_run 701 4 ls (.ref b :: st) h = if q_rcv h b 5 = true then (if x_wt st ≤ 8 ∧ x_wt [.ref b] = 1 then q_cl (x_m 301 [.ref b] h) (fun v h' => x_run 701 7 ls (v.toList ++ st) h') else none) else none := xe_virt (r := []) ec701 dX7_net_4 ek7_66 rfl (by decide +kernel) (by decide +kernel)
theorem e701_7 {ls st : List Value} {h : x_H} : x_run 701 7 ls st h = q_gr ls 0 (fun v => x_run 701 8 ls (.ref v :: st) h) := xe_aload_n ec701 dX7_net_7
theorem e701_8 {ls st : List Value} {h : x_H} : x_run 701 8 ls st h = q_gr ls 0 (fun v => x_run 701 9 ls (.ref v :: st) h) := xe_aload_n ec701 dX7_net_8
theorem e701_9 {ls st : List Value} {h : x_H} {a : Nat}: x_run 701 9 ls (.ref a :: st) h = q_gf h a 9 3 (fun v => x_run 701 12 ls (v :: st) h) := xe_getfield ec701 dX7_net_9 ef7_37
theorem e701_12 {ls st : List Value} {h : x_H} : x_run 701 12 ls st h = q_gi ls 1 (fun v => x_run 701 13 ls (.int v :: st) h) := xe_iload_n ec701 dX7_net_12
theorem e701_13 {ls st : List Value} {h : x_H} {b : Nat} {a1 : Value}: x_run 701 13 ls (a1 :: .ref b :: st) h = if q_rcv h b 3 = true then (if x_wt st ≤ 8 ∧ x_wt [.ref b, a1] = 2 then q_cl (x_m 101 [.ref b, a1] h) (fun v h' => x_run 701 16 ls (v.toList ++ st) h') else none) else none := xe_virt (r := [a1]) ec701 dX7_net_13 ek7_69 rfl (by decide +kernel) (by decide +kernel)
theorem e701_16 {ls st : List Value} {h : x_H} {b : Nat} {a1 : Value}: x_run 701 16 ls (a1 :: .ref b :: st) h = if q_rcv h b 9 = true then (if x_wt st ≤ 8 ∧ x_wt [.ref b, a1] = 2 then q_ct (x_m 734 [.ref b, a1] h) (q_ho 701 16) (fun v h' => x_run 701 19 ls (v.toList ++ st) h') else none) else none := xe_virtT (r := [a1]) ec701 dX7_net_16 ek7_73 rfl (by decide +kernel) (by decide +kernel)
theorem e701_19 {ls : List Value} {h : x_H} {x : Int32} : x_run 701 19 ls [.int x] h = if narrow .int (.int x) = .int x then some (.inl (some (.int x)), h) else none := xe_ireturn ec701 dX7_net_19 rfl
theorem ec702 : x_code 702 = cX7_pin := rfl
theorem e702_0 {ls st : List Value} {h : x_H} : x_run 702 0 ls st h = q_gr ls 0 (fun v => x_run 702 1 ls (.ref v :: st) h) := xe_aload_n ec702 dX7_pin_0
theorem e702_1 {ls st : List Value} {h : x_H} {a : Nat}: x_run 702 1 ls (.ref a :: st) h = q_gf h a 9 4 (fun v => x_run 702 4 ls (v :: st) h) := xe_getfield ec702 dX7_pin_1 ef7_44
theorem e702_4 {ls st : List Value} {h : x_H} {b : Nat}: x_run 702 4 ls (.ref b :: st) h = if q_rcv h b 5 = true then (if x_wt st ≤ 8 ∧ x_wt [.ref b] = 1 then q_cl (x_m 301 [.ref b] h) (fun v h' => x_run 702 7 ls (v.toList ++ st) h') else none) else none := xe_virt (r := []) ec702 dX7_pin_4 ek7_66 rfl (by decide +kernel) (by decide +kernel)
theorem e702_7 {ls st : List Value} {h : x_H} : x_run 702 7 ls st h = q_gr ls 0 (fun v => x_run 702 8 ls (.ref v :: st) h) := xe_aload_n ec702 dX7_pin_7
theorem e702_8 {ls st : List Value} {h : x_H} : x_run 702 8 ls st h = q_gr ls 0 (fun v => x_run 702 9 ls (.ref v :: st) h) := xe_aload_n ec702 dX7_pin_8
theorem e702_9 {ls st : List Value} {h : x_H} {a : Nat}: x_run 702 9 ls (.ref a :: st) h = q_gf h a 9 3 (fun v => x_run 702 12 ls (v :: st) h) := xe_getfield ec702 dX7_pin_9 ef7_37
theorem e702_12 {ls st : List Value} {h : x_H} : x_run 702 12 ls st h = q_gi ls 1 (fun v => x_run 702 13 ls (.int v :: st) h) := xe_iload_n ec702 dX7_pin_12
theorem e702_13 {ls st : List Value} {h : x_H} : x_run 702 13 ls st h = q_gi ls 2 (fun v => x_run 702 14 ls (.int v :: st) h) := xe_iload_n ec702 dX7_pin_13
theorem e702_14 {ls st : List Value} {h : x_H} : x_run 702 14 ls st h = q_gi ls 3 (fun v => x_run 702 15 ls (.int v :: st) h) := xe_iload_n ec702 dX7_pin_14
theorem e702_15 {ls st : List Value} {h : x_H} {b : Nat} {a1 a2 a3 : Value}: x_run 702 15 ls (a3 :: a2 :: a1 :: .ref b :: st) h = if q_rcv h b 3 = true then (if x_wt st ≤ 8 ∧ x_wt [.ref b, a1, a2, a3] = 4 then q_cl (x_m 102 [.ref b, a1, a2, a3] h) (fun v h' => x_run 702 18 ls (v.toList ++ st) h') else none) else none := xe_virt (r := [a1, a2, a3]) ec702 dX7_pin_15 ek7_77 rfl (by decide +kernel) (by decide +kernel)
theorem e702_18 {ls st : List Value} {h : x_H} {b : Nat} {a1 : Value}: x_run 702 18 ls (a1 :: .ref b :: st) h = if q_rcv h b 9 = true then (if x_wt st ≤ 8 ∧ x_wt [.ref b, a1] = 2 then q_ct (x_m 734 [.ref b, a1] h) (q_ho 702 18) (fun v h' => x_run 702 21 ls (v.toList ++ st) h') else none) else none := xe_virtT (r := [a1]) ec702 dX7_pin_18 ek7_73 rfl (by decide +kernel) (by decide +kernel)
theorem e702_21 {ls : List Value} {h : x_H} {x : Int32} : x_run 702 21 ls [.int x] h = if narrow .int (.int x) = .int x then some (.inl (some (.int x)), h) else none := xe_ireturn ec702 dX7_pin_21 rfl
theorem ec703 : x_code 703 = cX7_wall := rfl
theorem e703_0 {ls st : List Value} {h : x_H} : x_run 703 0 ls st h = q_gr ls 0 (fun v => x_run 703 1 ls (.ref v :: st) h) := xe_aload_n ec703 dX7_wall_0
theorem e703_1 {ls st : List Value} {h : x_H} {a : Nat}: x_run 703 1 ls (.ref a :: st) h = q_gf h a 9 4 (fun v => x_run 703 4 ls (v :: st) h) := xe_getfield ec703 dX7_wall_1 ef7_44
theorem e703_4 {ls st : List Value} {h : x_H} {b : Nat}: x_run 703 4 ls (.ref b :: st) h = if q_rcv h b 5 = true then (if x_wt st ≤ 8 ∧ x_wt [.ref b] = 1 then q_cl (x_m 301 [.ref b] h) (fun v h' => x_run 703 7 ls (v.toList ++ st) h') else none) else none := xe_virt (r := []) ec703 dX7_wall_4 ek7_66 rfl (by decide +kernel) (by decide +kernel)
theorem e703_7 {ls st : List Value} {h : x_H} : x_run 703 7 ls st h = q_gr ls 0 (fun v => x_run 703 8 ls (.ref v :: st) h) := xe_aload_n ec703 dX7_wall_7
theorem e703_8 {ls st : List Value} {h : x_H} : x_run 703 8 ls st h = q_gr ls 0 (fun v => x_run 703 9 ls (.ref v :: st) h) := xe_aload_n ec703 dX7_wall_8
theorem e703_9 {ls st : List Value} {h : x_H} {a : Nat}: x_run 703 9 ls (.ref a :: st) h = q_gf h a 9 3 (fun v => x_run 703 12 ls (v :: st) h) := xe_getfield ec703 dX7_wall_9 ef7_37
theorem e703_12 {ls st : List Value} {h : x_H} : x_run 703 12 ls st h = q_gi ls 1 (fun v => x_run 703 13 ls (.int v :: st) h) := xe_iload_n ec703 dX7_wall_12
theorem e703_13 {ls st : List Value} {h : x_H} : x_run 703 13 ls st h = q_gi ls 2 (fun v => x_run 703 14 ls (.int v :: st) h) := xe_iload_n ec703 dX7_wall_13
theorem e703_14 {ls st : List Value} {h : x_H} : x_run 703 14 ls st h = q_gi ls 3 (fun v => x_run 703 15 ls (.int v :: st) h) := xe_iload_n ec703 dX7_wall_14
theorem e703_15 {ls st : List Value} {h : x_H} {b : Nat} {a1 a2 a3 : Value}: x_run 703 15 ls (a3 :: a2 :: a1 :: .ref b :: st) h = if q_rcv h b 3 = true then (if x_wt st ≤ 8 ∧ x_wt [.ref b, a1, a2, a3] = 4 then q_cl (x_m 103 [.ref b, a1, a2, a3] h) (fun v h' => x_run 703 18 ls (v.toList ++ st) h') else none) else none := xe_virt (r := [a1, a2, a3]) ec703 dX7_wall_15 ek7_81 rfl (by decide +kernel) (by decide +kernel)
theorem e703_18 {ls st : List Value} {h : x_H} {b : Nat} {a1 : Value}: x_run 703 18 ls (a1 :: .ref b :: st) h = if q_rcv h b 9 = true then (if x_wt st ≤ 8 ∧ x_wt [.ref b, a1] = 2 then q_ct (x_m 734 [.ref b, a1] h) (q_ho 703 18) (fun v h' => x_run 703 21 ls (v.toList ++ st) h') else none) else none := xe_virtT (r := [a1]) ec703 dX7_wall_18 ek7_73 rfl (by decide +kernel) (by decide +kernel)
theorem e703_21 {ls : List Value} {h : x_H} {x : Int32} : x_run 703 21 ls [.int x] h = if narrow .int (.int x) = .int x then some (.inl (some (.int x)), h) else none := xe_ireturn ec703 dX7_wall_21 rfl
theorem ec704 : x_code 704 = cX7_tearDown := rfl
theorem e704_0 {ls st : List Value} {h : x_H} : x_run 704 0 ls st h = q_gr ls 0 (fun v => x_run 704 1 ls (.ref v :: st) h) := xe_aload_n ec704 dX7_tearDown_0
theorem e704_1 {ls st : List Value} {h : x_H} {a : Nat}: x_run 704 1 ls (.ref a :: st) h = q_gf h a 9 4 (fun v => x_run 704 4 ls (v :: st) h) := xe_getfield ec704 dX7_tearDown_1 ef7_44
theorem e704_4 {ls st : List Value} {h : x_H} {b : Nat}: x_run 704 4 ls (.ref b :: st) h = if q_rcv h b 5 = true then (if x_wt st ≤ 8 ∧ x_wt [.ref b] = 1 then q_cl (x_m 301 [.ref b] h) (fun v h' => x_run 704 7 ls (v.toList ++ st) h') else none) else none := xe_virt (r := []) ec704 dX7_tearDown_4 ek7_66 rfl (by decide +kernel) (by decide +kernel)
theorem e704_7 {ls st : List Value} {h : x_H} : x_run 704 7 ls st h = q_gr ls 0 (fun v => x_run 704 8 ls (.ref v :: st) h) := xe_aload_n ec704 dX7_tearDown_7
theorem e704_8 {ls st : List Value} {h : x_H} : x_run 704 8 ls st h = q_gr ls 0 (fun v => x_run 704 9 ls (.ref v :: st) h) := xe_aload_n ec704 dX7_tearDown_8
theorem e704_9 {ls st : List Value} {h : x_H} {a : Nat}: x_run 704 9 ls (.ref a :: st) h = q_gf h a 9 3 (fun v => x_run 704 12 ls (v :: st) h) := xe_getfield ec704 dX7_tearDown_9 ef7_37
theorem e704_12 {ls st : List Value} {h : x_H} : x_run 704 12 ls st h = q_gi ls 1 (fun v => x_run 704 13 ls (.int v :: st) h) := xe_iload_n ec704 dX7_tearDown_12
theorem e704_13 {ls st : List Value} {h : x_H} : x_run 704 13 ls st h = q_gi ls 2 (fun v => x_run 704 14 ls (.int v :: st) h) := xe_iload_n ec704 dX7_tearDown_13
theorem e704_14 {ls st : List Value} {h : x_H} : x_run 704 14 ls st h = q_gi ls 3 (fun v => x_run 704 15 ls (.int v :: st) h) := xe_iload_n ec704 dX7_tearDown_14
theorem e704_15 {ls st : List Value} {h : x_H} {b : Nat} {a1 a2 a3 : Value}: x_run 704 15 ls (a3 :: a2 :: a1 :: .ref b :: st) h = if q_rcv h b 3 = true then (if x_wt st ≤ 8 ∧ x_wt [.ref b, a1, a2, a3] = 4 then q_cl (x_m 104 [.ref b, a1, a2, a3] h) (fun v h' => x_run 704 18 ls (v.toList ++ st) h') else none) else none := xe_virt (r := [a1, a2, a3]) ec704 dX7_tearDown_15 ek7_84 rfl (by decide +kernel) (by decide +kernel)
theorem e704_18 {ls st : List Value} {h : x_H} {b : Nat} {a1 : Value}: x_run 704 18 ls (a1 :: .ref b :: st) h = if q_rcv h b 9 = true then (if x_wt st ≤ 8 ∧ x_wt [.ref b, a1] = 2 then q_ct (x_m 734 [.ref b, a1] h) (q_ho 704 18) (fun v h' => x_run 704 21 ls (v.toList ++ st) h') else none) else none := xe_virtT (r := [a1]) ec704 dX7_tearDown_18 ek7_73 rfl (by decide +kernel) (by decide +kernel)
theorem e704_21 {ls : List Value} {h : x_H} {x : Int32} : x_run 704 21 ls [.int x] h = if narrow .int (.int x) = .int x then some (.inl (some (.int x)), h) else none := xe_ireturn ec704 dX7_tearDown_21 rfl
theorem ec705 : x_code 705 = cX7_route := rfl
theorem e705_0 {ls st : List Value} {h : x_H} : x_run 705 0 ls st h = q_gr ls 0 (fun v => x_run 705 1 ls (.ref v :: st) h) := xe_aload_n ec705 dX7_route_0
theorem e705_1 {ls st : List Value} {h : x_H} {a : Nat}: x_run 705 1 ls (.ref a :: st) h = q_gf h a 9 4 (fun v => x_run 705 4 ls (v :: st) h) := xe_getfield ec705 dX7_route_1 ef7_44
theorem e705_4 {ls st : List Value} {h : x_H} {b : Nat}: x_run 705 4 ls (.ref b :: st) h = if q_rcv h b 5 = true then (if x_wt st ≤ 8 ∧ x_wt [.ref b] = 1 then q_cl (x_m 301 [.ref b] h) (fun v h' => x_run 705 7 ls (v.toList ++ st) h') else none) else none := xe_virt (r := []) ec705 dX7_route_4 ek7_66 rfl (by decide +kernel) (by decide +kernel)
theorem e705_7 {ls st : List Value} {h : x_H} : x_run 705 7 ls st h = q_gr ls 0 (fun v => x_run 705 8 ls (.ref v :: st) h) := xe_aload_n ec705 dX7_route_7
theorem e705_8 {ls st : List Value} {h : x_H} : x_run 705 8 ls st h = q_gr ls 0 (fun v => x_run 705 9 ls (.ref v :: st) h) := xe_aload_n ec705 dX7_route_8
theorem e705_9 {ls st : List Value} {h : x_H} {a : Nat}: x_run 705 9 ls (.ref a :: st) h = q_gf h a 9 3 (fun v => x_run 705 12 ls (v :: st) h) := xe_getfield ec705 dX7_route_9 ef7_37
theorem e705_12 {ls st : List Value} {h : x_H} : x_run 705 12 ls st h = q_gi ls 1 (fun v => x_run 705 13 ls (.int v :: st) h) := xe_iload_n ec705 dX7_route_12
theorem e705_13 {ls st : List Value} {h : x_H} : x_run 705 13 ls st h = x_run 705 14 ls (.int (q_i 0) :: st) h := xe_iconst ec705 dX7_route_13
theorem e705_14 {ls st : List Value} {h : x_H} {b : Nat} {a1 a2 : Value}: x_run 705 14 ls (a2 :: a1 :: .ref b :: st) h = if q_rcv h b 3 = true then (if x_wt st ≤ 8 ∧ x_wt [.ref b, a1, a2] = 3 then q_cl (x_m 105 [.ref b, a1, a2] h) (fun v h' => x_run 705 17 ls (v.toList ++ st) h') else none) else none := xe_virt (r := [a1, a2]) ec705 dX7_route_14 ek7_87 rfl (by decide +kernel) (by decide +kernel)
theorem e705_17 {ls st : List Value} {h : x_H} {b : Nat} {a1 : Value}: x_run 705 17 ls (a1 :: .ref b :: st) h = if q_rcv h b 9 = true then (if x_wt st ≤ 8 ∧ x_wt [.ref b, a1] = 2 then q_ct (x_m 734 [.ref b, a1] h) (q_ho 705 17) (fun v h' => x_run 705 20 ls (v.toList ++ st) h') else none) else none := xe_virtT (r := [a1]) ec705 dX7_route_17 ek7_73 rfl (by decide +kernel) (by decide +kernel)
theorem e705_20 {ls : List Value} {h : x_H} {x : Int32} : x_run 705 20 ls [.int x] h = if narrow .int (.int x) = .int x then some (.inl (some (.int x)), h) else none := xe_ireturn ec705 dX7_route_20 rfl
theorem ec706 : x_code 706 = cX7_hard := rfl
theorem e706_0 {ls st : List Value} {h : x_H} : x_run 706 0 ls st h = q_gr ls 0 (fun v => x_run 706 1 ls (.ref v :: st) h) := xe_aload_n ec706 dX7_hard_0
theorem e706_1 {ls st : List Value} {h : x_H} {a : Nat}: x_run 706 1 ls (.ref a :: st) h = q_gf h a 9 4 (fun v => x_run 706 4 ls (v :: st) h) := xe_getfield ec706 dX7_hard_1 ef7_44
theorem e706_4 {ls st : List Value} {h : x_H} {b : Nat}: x_run 706 4 ls (.ref b :: st) h = if q_rcv h b 5 = true then (if x_wt st ≤ 8 ∧ x_wt [.ref b] = 1 then q_cl (x_m 301 [.ref b] h) (fun v h' => x_run 706 7 ls (v.toList ++ st) h') else none) else none := xe_virt (r := []) ec706 dX7_hard_4 ek7_66 rfl (by decide +kernel) (by decide +kernel)
theorem e706_7 {ls st : List Value} {h : x_H} : x_run 706 7 ls st h = q_gr ls 0 (fun v => x_run 706 8 ls (.ref v :: st) h) := xe_aload_n ec706 dX7_hard_7
theorem e706_8 {ls st : List Value} {h : x_H} : x_run 706 8 ls st h = q_gr ls 0 (fun v => x_run 706 9 ls (.ref v :: st) h) := xe_aload_n ec706 dX7_hard_8
theorem e706_9 {ls st : List Value} {h : x_H} {a : Nat}: x_run 706 9 ls (.ref a :: st) h = q_gf h a 9 3 (fun v => x_run 706 12 ls (v :: st) h) := xe_getfield ec706 dX7_hard_9 ef7_37
theorem e706_12 {ls st : List Value} {h : x_H} : x_run 706 12 ls st h = q_gi ls 1 (fun v => x_run 706 13 ls (.int v :: st) h) := xe_iload_n ec706 dX7_hard_12
theorem e706_13 {ls st : List Value} {h : x_H} : x_run 706 13 ls st h = x_run 706 14 ls (.int (q_i 1) :: st) h := xe_iconst ec706 dX7_hard_13
theorem e706_14 {ls st : List Value} {h : x_H} {b : Nat} {a1 a2 : Value}: x_run 706 14 ls (a2 :: a1 :: .ref b :: st) h = if q_rcv h b 3 = true then (if x_wt st ≤ 8 ∧ x_wt [.ref b, a1, a2] = 3 then q_cl (x_m 105 [.ref b, a1, a2] h) (fun v h' => x_run 706 17 ls (v.toList ++ st) h') else none) else none := xe_virt (r := [a1, a2]) ec706 dX7_hard_14 ek7_87 rfl (by decide +kernel) (by decide +kernel)
theorem e706_17 {ls st : List Value} {h : x_H} {b : Nat} {a1 : Value}: x_run 706 17 ls (a1 :: .ref b :: st) h = if q_rcv h b 9 = true then (if x_wt st ≤ 8 ∧ x_wt [.ref b, a1] = 2 then q_ct (x_m 734 [.ref b, a1] h) (q_ho 706 17) (fun v h' => x_run 706 20 ls (v.toList ++ st) h') else none) else none := xe_virtT (r := [a1]) ec706 dX7_hard_17 ek7_73 rfl (by decide +kernel) (by decide +kernel)
theorem e706_20 {ls : List Value} {h : x_H} {x : Int32} : x_run 706 20 ls [.int x] h = if narrow .int (.int x) = .int x then some (.inl (some (.int x)), h) else none := xe_ireturn ec706 dX7_hard_20 rfl
theorem ec707 : x_code 707 = cX7_rip := rfl
theorem e707_0 {ls st : List Value} {h : x_H} : x_run 707 0 ls st h = q_gr ls 0 (fun v => x_run 707 1 ls (.ref v :: st) h) := xe_aload_n ec707 dX7_rip_0
theorem e707_1 {ls st : List Value} {h : x_H} {a : Nat}: x_run 707 1 ls (.ref a :: st) h = q_gf h a 9 4 (fun v => x_run 707 4 ls (v :: st) h) := xe_getfield ec707 dX7_rip_1 ef7_44
theorem e707_4 {ls st : List Value} {h : x_H} {b : Nat}: x_run 707 4 ls (.ref b :: st) h = if q_rcv h b 5 = true then (if x_wt st ≤ 8 ∧ x_wt [.ref b] = 1 then q_cl (x_m 301 [.ref b] h) (fun v h' => x_run 707 7 ls (v.toList ++ st) h') else none) else none := xe_virt (r := []) ec707 dX7_rip_4 ek7_66 rfl (by decide +kernel) (by decide +kernel)
theorem e707_7 {ls st : List Value} {h : x_H} : x_run 707 7 ls st h = q_gr ls 0 (fun v => x_run 707 8 ls (.ref v :: st) h) := xe_aload_n ec707 dX7_rip_7
theorem e707_8 {ls st : List Value} {h : x_H} : x_run 707 8 ls st h = q_gr ls 0 (fun v => x_run 707 9 ls (.ref v :: st) h) := xe_aload_n ec707 dX7_rip_8
theorem e707_9 {ls st : List Value} {h : x_H} {a : Nat}: x_run 707 9 ls (.ref a :: st) h = q_gf h a 9 3 (fun v => x_run 707 12 ls (v :: st) h) := xe_getfield ec707 dX7_rip_9 ef7_37
theorem e707_12 {ls st : List Value} {h : x_H} : x_run 707 12 ls st h = q_gi ls 1 (fun v => x_run 707 13 ls (.int v :: st) h) := xe_iload_n ec707 dX7_rip_12
theorem e707_13 {ls st : List Value} {h : x_H} {b : Nat} {a1 : Value}: x_run 707 13 ls (a1 :: .ref b :: st) h = if q_rcv h b 3 = true then (if x_wt st ≤ 8 ∧ x_wt [.ref b, a1] = 2 then q_cl (x_m 106 [.ref b, a1] h) (fun v h' => x_run 707 16 ls (v.toList ++ st) h') else none) else none := xe_virt (r := [a1]) ec707 dX7_rip_13 ek7_91 rfl (by decide +kernel) (by decide +kernel)
theorem e707_16 {ls st : List Value} {h : x_H} {b : Nat} {a1 : Value}: x_run 707 16 ls (a1 :: .ref b :: st) h = if q_rcv h b 9 = true then (if x_wt st ≤ 8 ∧ x_wt [.ref b, a1] = 2 then q_ct (x_m 734 [.ref b, a1] h) (q_ho 707 16) (fun v h' => x_run 707 19 ls (v.toList ++ st) h') else none) else none := xe_virtT (r := [a1]) ec707 dX7_rip_16 ek7_73 rfl (by decide +kernel) (by decide +kernel)
theorem e707_19 {ls : List Value} {h : x_H} {x : Int32} : x_run 707 19 ls [.int x] h = if narrow .int (.int x) = .int x then some (.inl (some (.int x)), h) else none := xe_ireturn ec707 dX7_rip_19 rfl
theorem ec708 : x_code 708 = cX7_netOf := rfl
theorem e708_0 {ls st : List Value} {h : x_H} : x_run 708 0 ls st h = q_gr ls 0 (fun v => x_run 708 1 ls (.ref v :: st) h) := xe_aload_n ec708 dX7_netOf_0
theorem e708_1 {ls st : List Value} {h : x_H} : x_run 708 1 ls st h = q_gi ls 1 (fun v => x_run 708 2 ls (.int v :: st) h) := xe_iload_n ec708 dX7_netOf_1
theorem e708_2 {ls st : List Value} {h : x_H} {b : Nat} {a1 : Value}: x_run 708 2 ls (a1 :: .ref b :: st) h = if q_rcv h b 9 = true then (if x_wt st ≤ 8 ∧ x_wt [.ref b, a1] = 2 then q_ct (x_m 736 [.ref b, a1] h) (q_ho 708 2) (fun v h' => x_run 708 5 ls (v.toList ++ st) h') else none) else none := xe_virtT (r := [a1]) ec708 dX7_netOf_2 ek7_94 rfl (by decide +kernel) (by decide +kernel)
theorem e708_5 {ls st : List Value} {h : x_H} : x_run 708 5 ls st h = q_gi ls 2 (fun v => x_run 708 6 ls (.int v :: st) h) := xe_iload_n ec708 dX7_netOf_5
theorem e708_6 {ls st : List Value} {h : x_H} {x : Int32}: x_run 708 6 ls (.int x :: st) h = q_so 6 (x_tsw 128 0 6 #[42, 60, 70, 88, 98, 108, 118] x) (fun t => x_run 708 t ls st h) := xe_tsw ec708 dX7_netOf_6
theorem e708_48 {ls st : List Value} {h : x_H} : x_run 708 48 ls st h = q_gr ls 0 (fun v => x_run 708 49 ls (.ref v :: st) h) := xe_aload_n ec708 dX7_netOf_48
theorem e708_49 {ls st : List Value} {h : x_H} {a : Nat}: x_run 708 49 ls (.ref a :: st) h = q_gf h a 9 0 (fun v => x_run 708 52 ls (v :: st) h) := xe_getfield ec708 dX7_netOf_49 ef7_12
theorem e708_52 {ls st : List Value} {h : x_H} {a : Nat}: x_run 708 52 ls (.ref a :: st) h = q_gf h a 2 2 (fun v => x_run 708 55 ls (v :: st) h) := xe_getfield ec708 dX7_netOf_52 ef7_98
theorem e708_55 {ls st : List Value} {h : x_H} : x_run 708 55 ls st h = q_gi ls 1 (fun v => x_run 708 56 ls (.int v :: st) h) := xe_iload_n ec708 dX7_netOf_55
theorem e708_56 {ls st : List Value} {h : x_H} {x : Int32} {a : Nat}: x_run 708 56 ls (.int x :: .ref a :: st) h = q_ra h a 1 x (fun v => x_run 708 57 ls (.int v :: st) h) := xe_baload ec708 dX7_netOf_56
theorem e708_57 {ls st : List Value} {h : x_H} {x : Int32}: x_run 708 57 ls (.int x :: st) h = if x = 0 then x_run 708 64 ls st h else x_run 708 60 ls st h := xe_if_eq ec708 dX7_netOf_57 rfl
theorem e708_60 {ls st : List Value} {h : x_H} : x_run 708 60 ls st h = x_run 708 61 ls (.int (q_i 1) :: st) h := xe_iconst ec708 dX7_netOf_60
theorem e708_61 {ls st : List Value} {h : x_H} : x_run 708 61 ls st h = x_run 708 65 ls st h := xe_goto ec708 dX7_netOf_61 rfl
theorem e708_64 {ls st : List Value} {h : x_H} : x_run 708 64 ls st h = x_run 708 65 ls (.int (q_i 0) :: st) h := xe_iconst ec708 dX7_netOf_64
theorem e708_65 {ls : List Value} {h : x_H} {x : Int32} : x_run 708 65 ls [.int x] h = if narrow .int (.int x) = .int x then some (.inl (some (.int x)), h) else none := xe_ireturn ec708 dX7_netOf_65 rfl
theorem e708_66 {ls st : List Value} {h : x_H} : x_run 708 66 ls st h = q_gr ls 0 (fun v => x_run 708 67 ls (.ref v :: st) h) := xe_aload_n ec708 dX7_netOf_66
theorem e708_67 {ls st : List Value} {h : x_H} {a : Nat}: x_run 708 67 ls (.ref a :: st) h = q_gf h a 9 0 (fun v => x_run 708 70 ls (v :: st) h) := xe_getfield ec708 dX7_netOf_67 ef7_12
theorem e708_70 {ls st : List Value} {h : x_H} {a : Nat}: x_run 708 70 ls (.ref a :: st) h = q_gf h a 2 4 (fun v => x_run 708 73 ls (v :: st) h) := xe_getfield ec708 dX7_netOf_70 ef7_102
theorem e708_73 {ls st : List Value} {h : x_H} : x_run 708 73 ls st h = q_gi ls 1 (fun v => x_run 708 74 ls (.int v :: st) h) := xe_iload_n ec708 dX7_netOf_73
theorem e708_74 {ls st : List Value} {h : x_H} {x : Int32} {a : Nat}: x_run 708 74 ls (.int x :: .ref a :: st) h = q_ra h a 0 x (fun v => x_run 708 75 ls (.int v :: st) h) := xe_iaload ec708 dX7_netOf_74
theorem e708_75 {ls : List Value} {h : x_H} {x : Int32} : x_run 708 75 ls [.int x] h = if narrow .int (.int x) = .int x then some (.inl (some (.int x)), h) else none := xe_ireturn ec708 dX7_netOf_75 rfl
theorem e708_76 {ls st : List Value} {h : x_H} : x_run 708 76 ls st h = q_gr ls 0 (fun v => x_run 708 77 ls (.ref v :: st) h) := xe_aload_n ec708 dX7_netOf_76
theorem e708_77 {ls st : List Value} {h : x_H} {a : Nat}: x_run 708 77 ls (.ref a :: st) h = q_gf h a 9 0 (fun v => x_run 708 80 ls (v :: st) h) := xe_getfield ec708 dX7_netOf_77 ef7_12
theorem e708_80 {ls st : List Value} {h : x_H} {a : Nat}: x_run 708 80 ls (.ref a :: st) h = q_gf h a 2 3 (fun v => x_run 708 83 ls (v :: st) h) := xe_getfield ec708 dX7_netOf_80 ef7_106
theorem e708_83 {ls st : List Value} {h : x_H} : x_run 708 83 ls st h = q_gi ls 1 (fun v => x_run 708 84 ls (.int v :: st) h) := xe_iload_n ec708 dX7_netOf_83
theorem e708_84 {ls st : List Value} {h : x_H} {x : Int32} {a : Nat}: x_run 708 84 ls (.int x :: .ref a :: st) h = q_ra h a 1 x (fun v => x_run 708 85 ls (.int v :: st) h) := xe_baload ec708 dX7_netOf_84
theorem e708_85 {ls st : List Value} {h : x_H} {x : Int32}: x_run 708 85 ls (.int x :: st) h = if x = 0 then x_run 708 92 ls st h else x_run 708 88 ls st h := xe_if_eq ec708 dX7_netOf_85 rfl
theorem e708_88 {ls st : List Value} {h : x_H} : x_run 708 88 ls st h = x_run 708 89 ls (.int (q_i 1) :: st) h := xe_iconst ec708 dX7_netOf_88
theorem e708_89 {ls st : List Value} {h : x_H} : x_run 708 89 ls st h = x_run 708 93 ls st h := xe_goto ec708 dX7_netOf_89 rfl
theorem e708_92 {ls st : List Value} {h : x_H} : x_run 708 92 ls st h = x_run 708 93 ls (.int (q_i 0) :: st) h := xe_iconst ec708 dX7_netOf_92
theorem e708_93 {ls : List Value} {h : x_H} {x : Int32} : x_run 708 93 ls [.int x] h = if narrow .int (.int x) = .int x then some (.inl (some (.int x)), h) else none := xe_ireturn ec708 dX7_netOf_93 rfl
theorem e708_94 {ls st : List Value} {h : x_H} : x_run 708 94 ls st h = q_gr ls 0 (fun v => x_run 708 95 ls (.ref v :: st) h) := xe_aload_n ec708 dX7_netOf_94
theorem e708_95 {ls st : List Value} {h : x_H} {a : Nat}: x_run 708 95 ls (.ref a :: st) h = q_gf h a 9 0 (fun v => x_run 708 98 ls (v :: st) h) := xe_getfield ec708 dX7_netOf_95 ef7_12
theorem e708_98 {ls st : List Value} {h : x_H} {a : Nat}: x_run 708 98 ls (.ref a :: st) h = q_gf h a 2 5 (fun v => x_run 708 101 ls (v :: st) h) := xe_getfield ec708 dX7_netOf_98 ef7_109
theorem e708_101 {ls st : List Value} {h : x_H} : x_run 708 101 ls st h = q_gi ls 1 (fun v => x_run 708 102 ls (.int v :: st) h) := xe_iload_n ec708 dX7_netOf_101
theorem e708_102 {ls st : List Value} {h : x_H} {x : Int32} {a : Nat}: x_run 708 102 ls (.int x :: .ref a :: st) h = q_ra h a 0 x (fun v => x_run 708 103 ls (.int v :: st) h) := xe_iaload ec708 dX7_netOf_102
theorem e708_103 {ls : List Value} {h : x_H} {x : Int32} : x_run 708 103 ls [.int x] h = if narrow .int (.int x) = .int x then some (.inl (some (.int x)), h) else none := xe_ireturn ec708 dX7_netOf_103 rfl
theorem e708_104 {ls st : List Value} {h : x_H} : x_run 708 104 ls st h = q_gr ls 0 (fun v => x_run 708 105 ls (.ref v :: st) h) := xe_aload_n ec708 dX7_netOf_104
theorem e708_105 {ls st : List Value} {h : x_H} {a : Nat}: x_run 708 105 ls (.ref a :: st) h = q_gf h a 9 0 (fun v => x_run 708 108 ls (v :: st) h) := xe_getfield ec708 dX7_netOf_105 ef7_12
theorem e708_108 {ls st : List Value} {h : x_H} {a : Nat}: x_run 708 108 ls (.ref a :: st) h = q_gf h a 2 6 (fun v => x_run 708 111 ls (v :: st) h) := xe_getfield ec708 dX7_netOf_108 ef7_112
theorem e708_111 {ls st : List Value} {h : x_H} : x_run 708 111 ls st h = q_gi ls 1 (fun v => x_run 708 112 ls (.int v :: st) h) := xe_iload_n ec708 dX7_netOf_111
theorem e708_112 {ls st : List Value} {h : x_H} {x : Int32} {a : Nat}: x_run 708 112 ls (.int x :: .ref a :: st) h = q_ra h a 0 x (fun v => x_run 708 113 ls (.int v :: st) h) := xe_iaload ec708 dX7_netOf_112
theorem e708_113 {ls : List Value} {h : x_H} {x : Int32} : x_run 708 113 ls [.int x] h = if narrow .int (.int x) = .int x then some (.inl (some (.int x)), h) else none := xe_ireturn ec708 dX7_netOf_113 rfl
theorem e708_114 {ls st : List Value} {h : x_H} : x_run 708 114 ls st h = q_gr ls 0 (fun v => x_run 708 115 ls (.ref v :: st) h) := xe_aload_n ec708 dX7_netOf_114
theorem e708_115 {ls st : List Value} {h : x_H} {a : Nat}: x_run 708 115 ls (.ref a :: st) h = q_gf h a 9 0 (fun v => x_run 708 118 ls (v :: st) h) := xe_getfield ec708 dX7_netOf_115 ef7_12
theorem e708_118 {ls st : List Value} {h : x_H} {a : Nat}: x_run 708 118 ls (.ref a :: st) h = q_gf h a 2 7 (fun v => x_run 708 121 ls (v :: st) h) := xe_getfield ec708 dX7_netOf_118 ef7_115
theorem e708_121 {ls st : List Value} {h : x_H} : x_run 708 121 ls st h = q_gi ls 1 (fun v => x_run 708 122 ls (.int v :: st) h) := xe_iload_n ec708 dX7_netOf_121
theorem e708_122 {ls st : List Value} {h : x_H} {x : Int32} {a : Nat}: x_run 708 122 ls (.int x :: .ref a :: st) h = q_ra h a 0 x (fun v => x_run 708 123 ls (.int v :: st) h) := xe_iaload ec708 dX7_netOf_122
theorem e708_123 {ls : List Value} {h : x_H} {x : Int32} : x_run 708 123 ls [.int x] h = if narrow .int (.int x) = .int x then some (.inl (some (.int x)), h) else none := xe_ireturn ec708 dX7_netOf_123 rfl
theorem e708_124 {ls st : List Value} {h : x_H} : x_run 708 124 ls st h = q_gr ls 0 (fun v => x_run 708 125 ls (.ref v :: st) h) := xe_aload_n ec708 dX7_netOf_124
theorem e708_125 {ls st : List Value} {h : x_H} {a : Nat}: x_run 708 125 ls (.ref a :: st) h = q_gf h a 9 0 (fun v => x_run 708 128 ls (v :: st) h) := xe_getfield ec708 dX7_netOf_125 ef7_12
theorem e708_128 {ls st : List Value} {h : x_H} {a : Nat}: x_run 708 128 ls (.ref a :: st) h = q_gf h a 2 8 (fun v => x_run 708 131 ls (v :: st) h) := xe_getfield ec708 dX7_netOf_128 ef7_118
theorem e708_131 {ls st : List Value} {h : x_H} : x_run 708 131 ls st h = q_gi ls 1 (fun v => x_run 708 132 ls (.int v :: st) h) := xe_iload_n ec708 dX7_netOf_131
theorem e708_132 {ls st : List Value} {h : x_H} {x : Int32} {a : Nat}: x_run 708 132 ls (.int x :: .ref a :: st) h = q_ra h a 0 x (fun v => x_run 708 133 ls (.int v :: st) h) := xe_iaload ec708 dX7_netOf_132
theorem e708_133 {ls : List Value} {h : x_H} {x : Int32} : x_run 708 133 ls [.int x] h = if narrow .int (.int x) = .int x then some (.inl (some (.int x)), h) else none := xe_ireturn ec708 dX7_netOf_133 rfl
theorem e708_134 {ls st : List Value} {h : x_H} : x_run 708 134 ls st h = if x_wt st ≤ 8 ∧ h.2.1 ≤ h.2.2.1 then some (.inr "java/lang/IllegalArgumentException", (h.1, h.2.1, h.2.2.1 + 1, h.2.2.2 + 6)) else none := xe_newthrow ec708 dX7_netOf_134 (by decide +kernel) (by decide +kernel)
theorem ec709 : x_code 709 = cX7_pinOf := rfl
theorem e709_0 {ls st : List Value} {h : x_H} : x_run 709 0 ls st h = q_gr ls 0 (fun v => x_run 709 1 ls (.ref v :: st) h) := xe_aload_n ec709 dX7_pinOf_0
theorem e709_1 {ls st : List Value} {h : x_H} : x_run 709 1 ls st h = q_gi ls 1 (fun v => x_run 709 2 ls (.int v :: st) h) := xe_iload_n ec709 dX7_pinOf_1
theorem e709_2 {ls st : List Value} {h : x_H} : x_run 709 2 ls st h = q_gi ls 2 (fun v => x_run 709 3 ls (.int v :: st) h) := xe_iload_n ec709 dX7_pinOf_2
theorem e709_3 {ls st : List Value} {h : x_H} {b : Nat} {a1 a2 : Value}: x_run 709 3 ls (a2 :: a1 :: .ref b :: st) h = if q_rcv h b 9 = true then (if x_wt st ≤ 8 ∧ x_wt [.ref b, a1, a2] = 3 then q_ct (x_m 737 [.ref b, a1, a2] h) (q_ho 709 3) (fun v h' => x_run 709 6 ls (v.toList ++ st) h') else none) else none := xe_virtT (r := [a1, a2]) ec709 dX7_pinOf_3 ek7_128 rfl (by decide +kernel) (by decide +kernel)
theorem e709_6 {ls st : List Value} {h : x_H} : x_run 709 6 ls st h = q_gr ls 0 (fun v => x_run 709 7 ls (.ref v :: st) h) := xe_aload_n ec709 dX7_pinOf_6
theorem e709_7 {ls st : List Value} {h : x_H} {a : Nat}: x_run 709 7 ls (.ref a :: st) h = q_gf h a 9 0 (fun v => x_run 709 10 ls (v :: st) h) := xe_getfield ec709 dX7_pinOf_7 ef7_12
theorem e709_10 {ls st : List Value} {h : x_H} : x_run 709 10 ls st h = q_gi ls 1 (fun v => x_run 709 11 ls (.int v :: st) h) := xe_iload_n ec709 dX7_pinOf_10
theorem e709_11 {ls st : List Value} {h : x_H} : x_run 709 11 ls st h = q_gi ls 2 (fun v => x_run 709 12 ls (.int v :: st) h) := xe_iload_n ec709 dX7_pinOf_11
theorem e709_12 {ls st : List Value} {h : x_H} {b : Nat} {a1 a2 : Value}: x_run 709 12 ls (a2 :: a1 :: .ref b :: st) h = if q_rcv h b 2 = true then (if x_wt st ≤ 8 ∧ x_wt [.ref b, a1, a2] = 3 then q_cl (x_m 3 [.ref b, a1, a2] h) (fun v h' => x_run 709 15 ls (v.toList ++ st) h') else none) else none := xe_virt (r := [a1, a2]) ec709 dX7_pinOf_12 ek7_132 rfl (by decide +kernel) (by decide +kernel)
theorem e709_15 {ls : List Value} {h : x_H} {x : Int32} : x_run 709 15 ls [.int x] h = if narrow .int (.int x) = .int x then some (.inl (some (.int x)), h) else none := xe_ireturn ec709 dX7_pinOf_15 rfl
theorem ec710 : x_code 710 = cX7_at := rfl
theorem e710_0 {ls st : List Value} {h : x_H} : x_run 710 0 ls st h = q_gr ls 0 (fun v => x_run 710 1 ls (.ref v :: st) h) := xe_aload_n ec710 dX7_at_0
theorem e710_1 {ls st : List Value} {h : x_H} : x_run 710 1 ls st h = q_gi ls 1 (fun v => x_run 710 2 ls (.int v :: st) h) := xe_iload_n ec710 dX7_at_1
theorem e710_2 {ls st : List Value} {h : x_H} : x_run 710 2 ls st h = q_gi ls 2 (fun v => x_run 710 3 ls (.int v :: st) h) := xe_iload_n ec710 dX7_at_2
theorem e710_3 {ls st : List Value} {h : x_H} : x_run 710 3 ls st h = q_gi ls 3 (fun v => x_run 710 4 ls (.int v :: st) h) := xe_iload_n ec710 dX7_at_3
theorem e710_4 {ls st : List Value} {h : x_H} {b : Nat} {a1 a2 a3 : Value}: x_run 710 4 ls (a3 :: a2 :: a1 :: .ref b :: st) h = if q_rcv h b 9 = true then (if x_wt st ≤ 8 ∧ x_wt [.ref b, a1, a2, a3] = 4 then q_ct (x_m 738 [.ref b, a1, a2, a3] h) (q_ho 710 4) (fun v h' => x_run 710 7 ls (v.toList ++ st) h') else none) else none := xe_virtT (r := [a1, a2, a3]) ec710 dX7_at_4 ek7_136 rfl (by decide +kernel) (by decide +kernel)
theorem e710_7 {ls st : List Value} {h : x_H} : x_run 710 7 ls st h = q_gr ls 0 (fun v => x_run 710 8 ls (.ref v :: st) h) := xe_aload_n ec710 dX7_at_7
theorem e710_8 {ls st : List Value} {h : x_H} {a : Nat}: x_run 710 8 ls (.ref a :: st) h = q_gf h a 9 0 (fun v => x_run 710 11 ls (v :: st) h) := xe_getfield ec710 dX7_at_8 ef7_12
theorem e710_11 {ls st : List Value} {h : x_H} {a : Nat}: x_run 710 11 ls (.ref a :: st) h = q_gf h a 2 10 (fun v => x_run 710 14 ls (v :: st) h) := xe_getfield ec710 dX7_at_11 ef7_140
theorem e710_14 {ls st : List Value} {h : x_H} : x_run 710 14 ls st h = q_gi ls 1 (fun v => x_run 710 15 ls (.int v :: st) h) := xe_iload_n ec710 dX7_at_14
theorem e710_15 {ls st : List Value} {h : x_H} : x_run 710 15 ls st h = q_gi ls 2 (fun v => x_run 710 16 ls (.int v :: st) h) := xe_iload_n ec710 dX7_at_15
theorem e710_16 {ls st : List Value} {h : x_H} : x_run 710 16 ls st h = q_gi ls 3 (fun v => x_run 710 17 ls (.int v :: st) h) := xe_iload_n ec710 dX7_at_16
theorem e710_17 {ls st : List Value} {h : x_H} {a1 a2 a3 : Value}: x_run 710 17 ls (a3 :: a2 :: a1 :: st) h = if x_wt st ≤ 8 ∧ x_wt [a1, a2, a3] = 3 then q_cl (x_m 740 [a1, a2, a3] h) (fun v h' => x_run 710 20 ls (v.toList ++ st) h') else none := xe_stat (args := [a1, a2, a3]) ec710 dX7_at_17 ek7_143 (by decide) rfl (by decide +kernel) (by decide +kernel)
theorem e710_20 {ls st : List Value} {h : x_H} {x : Int32} {a : Nat}: x_run 710 20 ls (.int x :: .ref a :: st) h = q_ra h a 0 x (fun v => x_run 710 21 ls (.int v :: st) h) := xe_iaload ec710 dX7_at_20
theorem e710_21 {ls : List Value} {h : x_H} {x : Int32} : x_run 710 21 ls [.int x] h = if narrow .int (.int x) = .int x then some (.inl (some (.int x)), h) else none := xe_ireturn ec710 dX7_at_21 rfl
theorem ec711 : x_code 711 = cX7_isHole := rfl
theorem e711_0 {ls st : List Value} {h : x_H} : x_run 711 0 ls st h = q_gr ls 0 (fun v => x_run 711 1 ls (.ref v :: st) h) := xe_aload_n ec711 dX7_isHole_0
theorem e711_1 {ls st : List Value} {h : x_H} : x_run 711 1 ls st h = q_gi ls 1 (fun v => x_run 711 2 ls (.int v :: st) h) := xe_iload_n ec711 dX7_isHole_1
theorem e711_2 {ls st : List Value} {h : x_H} : x_run 711 2 ls st h = q_gi ls 2 (fun v => x_run 711 3 ls (.int v :: st) h) := xe_iload_n ec711 dX7_isHole_2
theorem e711_3 {ls st : List Value} {h : x_H} : x_run 711 3 ls st h = x_run 711 4 ls (.int (q_i 0) :: st) h := xe_iconst ec711 dX7_isHole_3
theorem e711_4 {ls st : List Value} {h : x_H} {b : Nat} {a1 a2 a3 : Value}: x_run 711 4 ls (a3 :: a2 :: a1 :: .ref b :: st) h = if q_rcv h b 9 = true then (if x_wt st ≤ 8 ∧ x_wt [.ref b, a1, a2, a3] = 4 then q_ct (x_m 738 [.ref b, a1, a2, a3] h) (q_ho 711 4) (fun v h' => x_run 711 7 ls (v.toList ++ st) h') else none) else none := xe_virtT (r := [a1, a2, a3]) ec711 dX7_isHole_4 ek7_136 rfl (by decide +kernel) (by decide +kernel)
theorem e711_7 {ls st : List Value} {h : x_H} : x_run 711 7 ls st h = q_gr ls 0 (fun v => x_run 711 8 ls (.ref v :: st) h) := xe_aload_n ec711 dX7_isHole_7
theorem e711_8 {ls st : List Value} {h : x_H} {a : Nat}: x_run 711 8 ls (.ref a :: st) h = q_gf h a 9 0 (fun v => x_run 711 11 ls (v :: st) h) := xe_getfield ec711 dX7_isHole_8 ef7_12
theorem e711_11 {ls st : List Value} {h : x_H} {a : Nat}: x_run 711 11 ls (.ref a :: st) h = q_gf h a 2 12 (fun v => x_run 711 14 ls (v :: st) h) := xe_getfield ec711 dX7_isHole_11 ef7_146
theorem e711_14 {ls st : List Value} {h : x_H} : x_run 711 14 ls st h = q_gi ls 1 (fun v => x_run 711 15 ls (.int v :: st) h) := xe_iload_n ec711 dX7_isHole_14
theorem e711_15 {ls st : List Value} {h : x_H} : x_run 711 15 ls st h = q_gi ls 2 (fun v => x_run 711 16 ls (.int v :: st) h) := xe_iload_n ec711 dX7_isHole_15
theorem e711_16 {ls st : List Value} {h : x_H} : x_run 711 16 ls st h = x_run 711 17 ls (.int (q_i 0) :: st) h := xe_iconst ec711 dX7_isHole_16
theorem e711_17 {ls st : List Value} {h : x_H} {a1 a2 a3 : Value}: x_run 711 17 ls (a3 :: a2 :: a1 :: st) h = if x_wt st ≤ 8 ∧ x_wt [a1, a2, a3] = 3 then q_cl (x_m 740 [a1, a2, a3] h) (fun v h' => x_run 711 20 ls (v.toList ++ st) h') else none := xe_stat (args := [a1, a2, a3]) ec711 dX7_isHole_17 ek7_143 (by decide) rfl (by decide +kernel) (by decide +kernel)
theorem e711_20 {ls st : List Value} {h : x_H} {x : Int32} {a : Nat}: x_run 711 20 ls (.int x :: .ref a :: st) h = q_ra h a 1 x (fun v => x_run 711 21 ls (.int v :: st) h) := xe_baload ec711 dX7_isHole_20
theorem e711_21 {ls : List Value} {h : x_H} {x : Int32} : x_run 711 21 ls [.int x] h = if narrow .boolean (.int x) = .int x then some (.inl (some (.int x)), h) else none := xe_ireturn ec711 dX7_isHole_21 rfl
theorem ec712 : x_code 712 = cX7_price := rfl
theorem e712_0 {ls st : List Value} {h : x_H} : x_run 712 0 ls st h = q_gr ls 0 (fun v => x_run 712 1 ls (.ref v :: st) h) := xe_aload_n ec712 dX7_price_0
theorem e712_1 {ls st : List Value} {h : x_H} : x_run 712 1 ls st h = q_gi ls 1 (fun v => x_run 712 2 ls (.int v :: st) h) := xe_iload_n ec712 dX7_price_1
theorem e712_2 {ls st : List Value} {h : x_H} {b : Nat} {a1 : Value}: x_run 712 2 ls (a1 :: .ref b :: st) h = if q_rcv h b 9 = true then (if x_wt st ≤ 8 ∧ x_wt [.ref b, a1] = 2 then q_ct (x_m 736 [.ref b, a1] h) (q_ho 712 2) (fun v h' => x_run 712 5 ls (v.toList ++ st) h') else none) else none := xe_virtT (r := [a1]) ec712 dX7_price_2 ek7_94 rfl (by decide +kernel) (by decide +kernel)
theorem e712_5 {ls st : List Value} {h : x_H} : x_run 712 5 ls st h = q_gr ls 0 (fun v => x_run 712 6 ls (.ref v :: st) h) := xe_aload_n ec712 dX7_price_5
theorem e712_6 {ls st : List Value} {h : x_H} : x_run 712 6 ls st h = q_gi ls 2 (fun v => x_run 712 7 ls (.int v :: st) h) := xe_iload_n ec712 dX7_price_6
theorem e712_7 {ls st : List Value} {h : x_H} : x_run 712 7 ls st h = q_gi ls 3 (fun v => x_run 712 8 ls (.int v :: st) h) := xe_iload_n ec712 dX7_price_7
theorem e712_8 {ls st : List Value} {h : x_H} : x_run 712 8 ls st h = q_gi ls 4 (fun v => x_run 712 10 ls (.int v :: st) h) := xe_iload ec712 dX7_price_8
theorem e712_10 {ls st : List Value} {h : x_H} {b : Nat} {a1 a2 a3 : Value}: x_run 712 10 ls (a3 :: a2 :: a1 :: .ref b :: st) h = if q_rcv h b 9 = true then (if x_wt st ≤ 8 ∧ x_wt [.ref b, a1, a2, a3] = 4 then q_ct (x_m 738 [.ref b, a1, a2, a3] h) (q_ho 712 10) (fun v h' => x_run 712 13 ls (v.toList ++ st) h') else none) else none := xe_virtT (r := [a1, a2, a3]) ec712 dX7_price_10 ek7_136 rfl (by decide +kernel) (by decide +kernel)
theorem e712_13 {ls st : List Value} {h : x_H} : x_run 712 13 ls st h = q_gr ls 0 (fun v => x_run 712 14 ls (.ref v :: st) h) := xe_aload_n ec712 dX7_price_13
theorem e712_14 {ls st : List Value} {h : x_H} {a : Nat}: x_run 712 14 ls (.ref a :: st) h = q_gf h a 9 0 (fun v => x_run 712 17 ls (v :: st) h) := xe_getfield ec712 dX7_price_14 ef7_12
theorem e712_17 {ls st : List Value} {h : x_H} : x_run 712 17 ls st h = q_gi ls 1 (fun v => x_run 712 18 ls (.int v :: st) h) := xe_iload_n ec712 dX7_price_17
theorem e712_18 {ls st : List Value} {h : x_H} : x_run 712 18 ls st h = q_gi ls 2 (fun v => x_run 712 19 ls (.int v :: st) h) := xe_iload_n ec712 dX7_price_18
theorem e712_19 {ls st : List Value} {h : x_H} : x_run 712 19 ls st h = q_gi ls 3 (fun v => x_run 712 20 ls (.int v :: st) h) := xe_iload_n ec712 dX7_price_19
theorem e712_20 {ls st : List Value} {h : x_H} : x_run 712 20 ls st h = q_gi ls 4 (fun v => x_run 712 22 ls (.int v :: st) h) := xe_iload ec712 dX7_price_20
theorem e712_22 {ls st : List Value} {h : x_H} {a1 a2 a3 : Value}: x_run 712 22 ls (a3 :: a2 :: a1 :: st) h = if x_wt st ≤ 8 ∧ x_wt [a1, a2, a3] = 3 then q_cl (x_m 740 [a1, a2, a3] h) (fun v h' => x_run 712 25 ls (v.toList ++ st) h') else none := xe_stat (args := [a1, a2, a3]) ec712 dX7_price_22 ek7_143 (by decide) rfl (by decide +kernel) (by decide +kernel)
theorem e712_25 {ls st : List Value} {h : x_H} {b : Nat} {a1 a2 : Value}: x_run 712 25 ls (a2 :: a1 :: .ref b :: st) h = if q_rcv h b 2 = true then (if x_wt st ≤ 8 ∧ x_wt [.ref b, a1, a2] = 3 then q_cl (x_m 6 [.ref b, a1, a2] h) (fun v h' => x_run 712 28 ls (v.toList ++ st) h') else none) else none := xe_virt (r := [a1, a2]) ec712 dX7_price_25 ek7_149 rfl (by decide +kernel) (by decide +kernel)
theorem e712_28 {ls : List Value} {h : x_H} {x : Int32} : x_run 712 28 ls [.int x] h = if narrow .int (.int x) = .int x then some (.inl (some (.int x)), h) else none := xe_ireturn ec712 dX7_price_28 rfl
theorem ec713 : x_code 713 = cX7_wouldCost := rfl
theorem e713_0 {ls st : List Value} {h : x_H} : x_run 713 0 ls st h = q_gr ls 0 (fun v => x_run 713 1 ls (.ref v :: st) h) := xe_aload_n ec713 dX7_wouldCost_0
theorem e713_1 {ls st : List Value} {h : x_H} : x_run 713 1 ls st h = q_gi ls 1 (fun v => x_run 713 2 ls (.int v :: st) h) := xe_iload_n ec713 dX7_wouldCost_1
theorem e713_2 {ls st : List Value} {h : x_H} {b : Nat} {a1 : Value}: x_run 713 2 ls (a1 :: .ref b :: st) h = if q_rcv h b 9 = true then (if x_wt st ≤ 8 ∧ x_wt [.ref b, a1] = 2 then q_ct (x_m 736 [.ref b, a1] h) (q_ho 713 2) (fun v h' => x_run 713 5 ls (v.toList ++ st) h') else none) else none := xe_virtT (r := [a1]) ec713 dX7_wouldCost_2 ek7_94 rfl (by decide +kernel) (by decide +kernel)
theorem e713_5 {ls st : List Value} {h : x_H} : x_run 713 5 ls st h = q_gr ls 0 (fun v => x_run 713 6 ls (.ref v :: st) h) := xe_aload_n ec713 dX7_wouldCost_5
theorem e713_6 {ls st : List Value} {h : x_H} {a : Nat}: x_run 713 6 ls (.ref a :: st) h = q_gf h a 9 1 (fun v => x_run 713 9 ls (v :: st) h) := xe_getfield ec713 dX7_wouldCost_6 ef7_21
theorem e713_9 {ls st : List Value} {h : x_H} : x_run 713 9 ls st h = q_gi ls 1 (fun v => x_run 713 10 ls (.int v :: st) h) := xe_iload_n ec713 dX7_wouldCost_9
theorem e713_10 {ls st : List Value} {h : x_H} : x_run 713 10 ls st h = x_run 713 11 ls (.int (q_i 0) :: st) h := xe_iconst ec713 dX7_wouldCost_10
theorem e713_11 {ls st : List Value} {h : x_H} {b : Nat} {a1 a2 : Value}: x_run 713 11 ls (a2 :: a1 :: .ref b :: st) h = if q_rcv h b 7 = true then (if x_wt st ≤ 8 ∧ x_wt [.ref b, a1, a2] = 3 then q_cl (x_m 502 [.ref b, a1, a2] h) (fun v h' => x_run 713 14 ls (v.toList ++ st) h') else none) else none := xe_virt (r := [a1, a2]) ec713 dX7_wouldCost_11 ek7_152 rfl (by decide +kernel) (by decide +kernel)
theorem e713_14 {ls st : List Value} {h : x_H} {x : Int32}: x_run 713 14 ls (.int x :: st) h = if ¬ x = 0 then x_run 713 27 ls st h else x_run 713 17 ls st h := xe_if_ne ec713 dX7_wouldCost_14 rfl
theorem e713_17 {ls st : List Value} {h : x_H} : x_run 713 17 ls st h = if x_wt st ≤ 8 ∧ h.2.1 ≤ h.2.2.1 then some (.inr "java/util/NoSuchElementException", (h.1, h.2.1, h.2.2.1 + 1, h.2.2.2 + 6)) else none := xe_newthrow ec713 dX7_wouldCost_17 (by decide +kernel) (by decide +kernel)
theorem e713_27 {ls st : List Value} {h : x_H} : x_run 713 27 ls st h = q_gr ls 0 (fun v => x_run 713 28 ls (.ref v :: st) h) := xe_aload_n ec713 dX7_wouldCost_27
theorem e713_28 {ls st : List Value} {h : x_H} {a : Nat}: x_run 713 28 ls (.ref a :: st) h = q_gf h a 9 1 (fun v => x_run 713 31 ls (v :: st) h) := xe_getfield ec713 dX7_wouldCost_28 ef7_21
theorem e713_31 {ls st : List Value} {h : x_H} {a : Nat}: x_run 713 31 ls (.ref a :: st) h = q_gf h a 7 13 (fun v => x_run 713 34 ls (v :: st) h) := xe_getfield ec713 dX7_wouldCost_31 ef7_161
theorem e713_34 {ls : List Value} {h : x_H} {x : Int32} : x_run 713 34 ls [.int x] h = if narrow .int (.int x) = .int x then some (.inl (some (.int x)), h) else none := xe_ireturn ec713 dX7_wouldCost_34 rfl
theorem ec714 : x_code 714 = cX7_wouldRip := rfl
theorem e714_0 {ls st : List Value} {h : x_H} : x_run 714 0 ls st h = q_gr ls 0 (fun v => x_run 714 1 ls (.ref v :: st) h) := xe_aload_n ec714 dX7_wouldRip_0
theorem e714_1 {ls st : List Value} {h : x_H} : x_run 714 1 ls st h = q_gi ls 1 (fun v => x_run 714 2 ls (.int v :: st) h) := xe_iload_n ec714 dX7_wouldRip_1
theorem e714_2 {ls st : List Value} {h : x_H} {b : Nat} {a1 : Value}: x_run 714 2 ls (a1 :: .ref b :: st) h = if q_rcv h b 9 = true then (if x_wt st ≤ 8 ∧ x_wt [.ref b, a1] = 2 then q_ct (x_m 736 [.ref b, a1] h) (q_ho 714 2) (fun v h' => x_run 714 5 ls (v.toList ++ st) h') else none) else none := xe_virtT (r := [a1]) ec714 dX7_wouldRip_2 ek7_94 rfl (by decide +kernel) (by decide +kernel)
theorem e714_5 {ls st : List Value} {h : x_H} : x_run 714 5 ls st h = q_gr ls 0 (fun v => x_run 714 6 ls (.ref v :: st) h) := xe_aload_n ec714 dX7_wouldRip_5
theorem e714_6 {ls st : List Value} {h : x_H} {a : Nat}: x_run 714 6 ls (.ref a :: st) h = q_gf h a 9 1 (fun v => x_run 714 9 ls (v :: st) h) := xe_getfield ec714 dX7_wouldRip_6 ef7_21
theorem e714_9 {ls st : List Value} {h : x_H} : x_run 714 9 ls st h = q_gi ls 1 (fun v => x_run 714 10 ls (.int v :: st) h) := xe_iload_n ec714 dX7_wouldRip_9
theorem e714_10 {ls st : List Value} {h : x_H} : x_run 714 10 ls st h = x_run 714 11 ls (.int (q_i 1) :: st) h := xe_iconst ec714 dX7_wouldRip_10
theorem e714_11 {ls st : List Value} {h : x_H} {b : Nat} {a1 a2 : Value}: x_run 714 11 ls (a2 :: a1 :: .ref b :: st) h = if q_rcv h b 7 = true then (if x_wt st ≤ 8 ∧ x_wt [.ref b, a1, a2] = 3 then q_cl (x_m 502 [.ref b, a1, a2] h) (fun v h' => x_run 714 14 ls (v.toList ++ st) h') else none) else none := xe_virt (r := [a1, a2]) ec714 dX7_wouldRip_11 ek7_152 rfl (by decide +kernel) (by decide +kernel)
theorem e714_14 {ls st : List Value} {h : x_H} {x : Int32}: x_run 714 14 ls (.int x :: st) h = if ¬ x = 0 then x_run 714 27 ls st h else x_run 714 17 ls st h := xe_if_ne ec714 dX7_wouldRip_14 rfl
theorem e714_17 {ls st : List Value} {h : x_H} : x_run 714 17 ls st h = if x_wt st ≤ 8 ∧ h.2.1 ≤ h.2.2.1 then some (.inr "java/util/NoSuchElementException", (h.1, h.2.1, h.2.2.1 + 1, h.2.2.2 + 6)) else none := xe_newthrow ec714 dX7_wouldRip_17 (by decide +kernel) (by decide +kernel)
theorem e714_27 {ls st : List Value} {h : x_H} : x_run 714 27 ls st h = q_gr ls 0 (fun v => x_run 714 28 ls (.ref v :: st) h) := xe_aload_n ec714 dX7_wouldRip_27
theorem e714_28 {ls st : List Value} {h : x_H} {a : Nat}: x_run 714 28 ls (.ref a :: st) h = q_gf h a 9 1 (fun v => x_run 714 31 ls (v :: st) h) := xe_getfield ec714 dX7_wouldRip_28 ef7_21
theorem e714_31 {ls st : List Value} {h : x_H} {b : Nat}: x_run 714 31 ls (.ref b :: st) h = if q_rcv h b 7 = true then (if x_wt st ≤ 8 ∧ x_wt [.ref b] = 1 then q_cl (x_m 504 [.ref b] h) (fun v h' => x_run 714 34 ls (v.toList ++ st) h') else none) else none := xe_virt (r := []) ec714 dX7_wouldRip_31 ek7_165 rfl (by decide +kernel) (by decide +kernel)
theorem e714_34 {ls : List Value} {h : x_H} {x : Int32} : x_run 714 34 ls [.int x] h = if narrow .int (.int x) = .int x then some (.inl (some (.int x)), h) else none := xe_ireturn ec714 dX7_wouldRip_34 rfl
theorem ec715 : x_code 715 = cX7_reach := rfl
theorem e715_0 {ls st : List Value} {h : x_H} : x_run 715 0 ls st h = q_gr ls 0 (fun v => x_run 715 1 ls (.ref v :: st) h) := xe_aload_n ec715 dX7_reach_0
theorem e715_1 {ls st : List Value} {h : x_H} : x_run 715 1 ls st h = q_gi ls 1 (fun v => x_run 715 2 ls (.int v :: st) h) := xe_iload_n ec715 dX7_reach_1
theorem e715_2 {ls st : List Value} {h : x_H} : x_run 715 2 ls st h = q_gi ls 2 (fun v => x_run 715 3 ls (.int v :: st) h) := xe_iload_n ec715 dX7_reach_2
theorem e715_3 {ls st : List Value} {h : x_H} {b : Nat} {a1 a2 : Value}: x_run 715 3 ls (a2 :: a1 :: .ref b :: st) h = if q_rcv h b 9 = true then (if x_wt st ≤ 8 ∧ x_wt [.ref b, a1, a2] = 3 then q_ct (x_m 737 [.ref b, a1, a2] h) (q_ho 715 3) (fun v h' => x_run 715 6 ls (v.toList ++ st) h') else none) else none := xe_virtT (r := [a1, a2]) ec715 dX7_reach_3 ek7_128 rfl (by decide +kernel) (by decide +kernel)
theorem e715_6 {ls st : List Value} {h : x_H} : x_run 715 6 ls st h = q_gr ls 0 (fun v => x_run 715 7 ls (.ref v :: st) h) := xe_aload_n ec715 dX7_reach_6
theorem e715_7 {ls st : List Value} {h : x_H} {a : Nat}: x_run 715 7 ls (.ref a :: st) h = q_gf h a 9 1 (fun v => x_run 715 10 ls (v :: st) h) := xe_getfield ec715 dX7_reach_7 ef7_21
theorem e715_10 {ls st : List Value} {h : x_H} : x_run 715 10 ls st h = q_gi ls 1 (fun v => x_run 715 11 ls (.int v :: st) h) := xe_iload_n ec715 dX7_reach_10
theorem e715_11 {ls st : List Value} {h : x_H} {b : Nat} {a1 : Value}: x_run 715 11 ls (a1 :: .ref b :: st) h = if q_rcv h b 7 = true then (if x_wt st ≤ 8 ∧ x_wt [.ref b, a1] = 2 then q_cl (x_m 501 [.ref b, a1] h) (fun v h' => x_run 715 14 ls (v.toList ++ st) h') else none) else none := xe_virt (r := [a1]) ec715 dX7_reach_11 ek7_169 rfl (by decide +kernel) (by decide +kernel)
theorem e715_14 {ls st : List Value} {h : x_H} : x_run 715 14 ls st h = q_gr ls 0 (fun v => x_run 715 15 ls (.ref v :: st) h) := xe_aload_n ec715 dX7_reach_14
theorem e715_15 {ls st : List Value} {h : x_H} {a : Nat}: x_run 715 15 ls (.ref a :: st) h = q_gf h a 9 1 (fun v => x_run 715 18 ls (v :: st) h) := xe_getfield ec715 dX7_reach_15 ef7_21
theorem e715_18 {ls st : List Value} {h : x_H} : x_run 715 18 ls st h = q_gr ls 0 (fun v => x_run 715 19 ls (.ref v :: st) h) := xe_aload_n ec715 dX7_reach_18
theorem e715_19 {ls st : List Value} {h : x_H} {a : Nat}: x_run 715 19 ls (.ref a :: st) h = q_gf h a 9 0 (fun v => x_run 715 22 ls (v :: st) h) := xe_getfield ec715 dX7_reach_19 ef7_12
theorem e715_22 {ls st : List Value} {h : x_H} : x_run 715 22 ls st h = q_gi ls 1 (fun v => x_run 715 23 ls (.int v :: st) h) := xe_iload_n ec715 dX7_reach_22
theorem e715_23 {ls st : List Value} {h : x_H} : x_run 715 23 ls st h = q_gi ls 2 (fun v => x_run 715 24 ls (.int v :: st) h) := xe_iload_n ec715 dX7_reach_23
theorem e715_24 {ls st : List Value} {h : x_H} {b : Nat} {a1 a2 : Value}: x_run 715 24 ls (a2 :: a1 :: .ref b :: st) h = if q_rcv h b 2 = true then (if x_wt st ≤ 8 ∧ x_wt [.ref b, a1, a2] = 3 then q_cl (x_m 3 [.ref b, a1, a2] h) (fun v h' => x_run 715 27 ls (v.toList ++ st) h') else none) else none := xe_virt (r := [a1, a2]) ec715 dX7_reach_24 ek7_132 rfl (by decide +kernel) (by decide +kernel)
theorem e715_27 {ls st : List Value} {h : x_H} {b : Nat} {a1 : Value}: x_run 715 27 ls (a1 :: .ref b :: st) h = if q_rcv h b 7 = true then (if x_wt st ≤ 8 ∧ x_wt [.ref b, a1] = 2 then q_cl (x_m 505 [.ref b, a1] h) (fun v h' => x_run 715 30 ls (v.toList ++ st) h') else none) else none := xe_virt (r := [a1]) ec715 dX7_reach_27 ek7_172 rfl (by decide +kernel) (by decide +kernel)
theorem e715_30 {ls : List Value} {h : x_H} {x : Int32} : x_run 715 30 ls [.int x] h = if narrow .int (.int x) = .int x then some (.inl (some (.int x)), h) else none := xe_ireturn ec715 dX7_reach_30 rfl
theorem ec716 : x_code 716 = cX7_cellsOf := rfl
theorem e716_0 {ls st : List Value} {h : x_H} : x_run 716 0 ls st h = q_gr ls 0 (fun v => x_run 716 1 ls (.ref v :: st) h) := xe_aload_n ec716 dX7_cellsOf_0
theorem e716_1 {ls st : List Value} {h : x_H} : x_run 716 1 ls st h = q_gi ls 1 (fun v => x_run 716 2 ls (.int v :: st) h) := xe_iload_n ec716 dX7_cellsOf_1
theorem e716_2 {ls st : List Value} {h : x_H} {b : Nat} {a1 : Value}: x_run 716 2 ls (a1 :: .ref b :: st) h = if q_rcv h b 9 = true then (if x_wt st ≤ 8 ∧ x_wt [.ref b, a1] = 2 then q_ct (x_m 736 [.ref b, a1] h) (q_ho 716 2) (fun v h' => x_run 716 5 ls (v.toList ++ st) h') else none) else none := xe_virtT (r := [a1]) ec716 dX7_cellsOf_2 ek7_94 rfl (by decide +kernel) (by decide +kernel)
theorem e716_5 {ls st : List Value} {h : x_H} : x_run 716 5 ls st h = q_gr ls 0 (fun v => x_run 716 6 ls (.ref v :: st) h) := xe_aload_n ec716 dX7_cellsOf_5
theorem e716_6 {ls st : List Value} {h : x_H} {a : Nat}: x_run 716 6 ls (.ref a :: st) h = q_gf h a 9 0 (fun v => x_run 716 9 ls (v :: st) h) := xe_getfield ec716 dX7_cellsOf_6 ef7_12
theorem e716_9 {ls st : List Value} {h : x_H} : x_run 716 9 ls st h = q_gi ls 1 (fun v => x_run 716 10 ls (.int v :: st) h) := xe_iload_n ec716 dX7_cellsOf_9
theorem e716_10 {ls st : List Value} {h : x_H} {b : Nat} {a1 : Value}: x_run 716 10 ls (a1 :: .ref b :: st) h = if q_rcv h b 2 = true then (if x_wt st ≤ 8 ∧ x_wt [.ref b, a1] = 2 then q_cl (x_m 7 [.ref b, a1] h) (fun v h' => x_run 716 13 ls (v.toList ++ st) h') else none) else none := xe_virt (r := [a1]) ec716 dX7_cellsOf_10 ek7_175 rfl (by decide +kernel) (by decide +kernel)
theorem e716_13 {ls : List Value} {h : x_H} {x : Int32} : x_run 716 13 ls [.int x] h = if narrow .int (.int x) = .int x then some (.inl (some (.int x)), h) else none := xe_ireturn ec716 dX7_cellsOf_13 rfl
theorem ec717 : x_code 717 = cX7_cellsAgain := rfl
theorem e717_0 {ls st : List Value} {h : x_H} : x_run 717 0 ls st h = q_gr ls 0 (fun v => x_run 717 1 ls (.ref v :: st) h) := xe_aload_n ec717 dX7_cellsAgain_0
theorem e717_1 {ls st : List Value} {h : x_H} : x_run 717 1 ls st h = q_gi ls 1 (fun v => x_run 717 2 ls (.int v :: st) h) := xe_iload_n ec717 dX7_cellsAgain_1
theorem e717_2 {ls st : List Value} {h : x_H} {b : Nat} {a1 : Value}: x_run 717 2 ls (a1 :: .ref b :: st) h = if q_rcv h b 9 = true then (if x_wt st ≤ 8 ∧ x_wt [.ref b, a1] = 2 then q_ct (x_m 736 [.ref b, a1] h) (q_ho 717 2) (fun v h' => x_run 717 5 ls (v.toList ++ st) h') else none) else none := xe_virtT (r := [a1]) ec717 dX7_cellsAgain_2 ek7_94 rfl (by decide +kernel) (by decide +kernel)
theorem e717_5 {ls st : List Value} {h : x_H} : x_run 717 5 ls st h = x_run 717 6 ls (.int (q_i 2) :: st) h := xe_iconst ec717 dX7_cellsAgain_5
theorem e717_6 {ls st : List Value} {h : x_H} : x_run 717 6 ls st h = q_gr ls 0 (fun v => x_run 717 7 ls (.ref v :: st) h) := xe_aload_n ec717 dX7_cellsAgain_6
theorem e717_7 {ls st : List Value} {h : x_H} {a : Nat}: x_run 717 7 ls (.ref a :: st) h = q_gf h a 9 0 (fun v => x_run 717 10 ls (v :: st) h) := xe_getfield ec717 dX7_cellsAgain_7 ef7_12
theorem e717_10 {ls st : List Value} {h : x_H} {a : Nat}: x_run 717 10 ls (.ref a :: st) h = q_gf h a 2 4 (fun v => x_run 717 13 ls (v :: st) h) := xe_getfield ec717 dX7_cellsAgain_10 ef7_102
theorem e717_13 {ls st : List Value} {h : x_H} : x_run 717 13 ls st h = q_gi ls 1 (fun v => x_run 717 14 ls (.int v :: st) h) := xe_iload_n ec717 dX7_cellsAgain_13
theorem e717_14 {ls st : List Value} {h : x_H} {x : Int32} {a : Nat}: x_run 717 14 ls (.int x :: .ref a :: st) h = q_ra h a 0 x (fun v => x_run 717 15 ls (.int v :: st) h) := xe_iaload ec717 dX7_cellsAgain_14
theorem e717_15 {ls st : List Value} {h : x_H} {x y : Int32}: x_run 717 15 ls (.int y :: .int x :: st) h = x_run 717 16 ls (.int (x * y) :: st) h := xe_imul ec717 dX7_cellsAgain_15
theorem e717_16 {ls st : List Value} {h : x_H} : x_run 717 16 ls st h = q_gr ls 0 (fun v => x_run 717 17 ls (.ref v :: st) h) := xe_aload_n ec717 dX7_cellsAgain_16
theorem e717_17 {ls st : List Value} {h : x_H} {a : Nat}: x_run 717 17 ls (.ref a :: st) h = q_gf h a 9 0 (fun v => x_run 717 20 ls (v :: st) h) := xe_getfield ec717 dX7_cellsAgain_17 ef7_12
theorem e717_20 {ls st : List Value} {h : x_H} {a : Nat}: x_run 717 20 ls (.ref a :: st) h = q_gf h a 2 6 (fun v => x_run 717 23 ls (v :: st) h) := xe_getfield ec717 dX7_cellsAgain_20 ef7_112
theorem e717_23 {ls st : List Value} {h : x_H} : x_run 717 23 ls st h = q_gi ls 1 (fun v => x_run 717 24 ls (.int v :: st) h) := xe_iload_n ec717 dX7_cellsAgain_23
theorem e717_24 {ls st : List Value} {h : x_H} {x : Int32} {a : Nat}: x_run 717 24 ls (.int x :: .ref a :: st) h = q_ra h a 0 x (fun v => x_run 717 25 ls (.int v :: st) h) := xe_iaload ec717 dX7_cellsAgain_24
theorem e717_25 {ls st : List Value} {h : x_H} {x y : Int32}: x_run 717 25 ls (.int y :: .int x :: st) h = x_run 717 26 ls (.int (x + y) :: st) h := xe_iadd ec717 dX7_cellsAgain_25
theorem e717_26 {ls : List Value} {h : x_H} {x : Int32} : x_run 717 26 ls [.int x] h = if narrow .int (.int x) = .int x then some (.inl (some (.int x)), h) else none := xe_ireturn ec717 dX7_cellsAgain_26 rfl
theorem ec718 : x_code 718 = cX7_holes := rfl
theorem e718_0 {ls st : List Value} {h : x_H} : x_run 718 0 ls st h = q_gr ls 0 (fun v => x_run 718 1 ls (.ref v :: st) h) := xe_aload_n ec718 dX7_holes_0
theorem e718_1 {ls st : List Value} {h : x_H} {a : Nat}: x_run 718 1 ls (.ref a :: st) h = q_gf h a 9 0 (fun v => x_run 718 4 ls (v :: st) h) := xe_getfield ec718 dX7_holes_1 ef7_12
theorem e718_4 {ls st : List Value} {h : x_H} {b : Nat}: x_run 718 4 ls (.ref b :: st) h = if q_rcv h b 2 = true then (if x_wt st ≤ 8 ∧ x_wt [.ref b] = 1 then q_cl (x_m 8 [.ref b] h) (fun v h' => x_run 718 7 ls (v.toList ++ st) h') else none) else none := xe_virt (r := []) ec718 dX7_holes_4 ek7_178 rfl (by decide +kernel) (by decide +kernel)
theorem e718_7 {ls : List Value} {h : x_H} {x : Int32} : x_run 718 7 ls [.int x] h = if narrow .int (.int x) = .int x then some (.inl (some (.int x)), h) else none := xe_ireturn ec718 dX7_holes_7 rfl
theorem ec719 : x_code 719 = cX7_holesAgain := rfl
theorem e719_0 {ls st : List Value} {h : x_H} : x_run 719 0 ls st h = q_gr ls 0 (fun v => x_run 719 1 ls (.ref v :: st) h) := xe_aload_n ec719 dX7_holesAgain_0
theorem e719_1 {ls st : List Value} {h : x_H} {a : Nat}: x_run 719 1 ls (.ref a :: st) h = q_gf h a 9 0 (fun v => x_run 719 4 ls (v :: st) h) := xe_getfield ec719 dX7_holesAgain_1 ef7_12
theorem e719_4 {ls st : List Value} {h : x_H} : x_run 719 4 ls st h = q_gr ls 0 (fun v => x_run 719 5 ls (.ref v :: st) h) := xe_aload_n ec719 dX7_holesAgain_4
theorem e719_5 {ls st : List Value} {h : x_H} {a : Nat}: x_run 719 5 ls (.ref a :: st) h = q_gf h a 9 0 (fun v => x_run 719 8 ls (v :: st) h) := xe_getfield ec719 dX7_holesAgain_5 ef7_12
theorem e719_8 {ls st : List Value} {h : x_H} {a : Nat}: x_run 719 8 ls (.ref a :: st) h = q_gf h a 2 7 (fun v => x_run 719 11 ls (v :: st) h) := xe_getfield ec719 dX7_holesAgain_8 ef7_115
theorem e719_11 {ls st : List Value} {h : x_H} {b : Nat} {a1 : Value}: x_run 719 11 ls (a1 :: .ref b :: st) h = if q_rcv h b 2 = true then (if x_wt st ≤ 8 ∧ x_wt [.ref b, a1] = 2 then q_cl (x_m 11 [.ref b, a1] h) (fun v h' => x_run 719 14 ls (v.toList ++ st) h') else none) else none := xe_virt (r := [a1]) ec719 dX7_holesAgain_11 ek7_181 rfl (by decide +kernel) (by decide +kernel)
theorem e719_14 {ls : List Value} {h : x_H} {x : Int32} : x_run 719 14 ls [.int x] h = if narrow .int (.int x) = .int x then some (.inl (some (.int x)), h) else none := xe_ireturn ec719 dX7_holesAgain_14 rfl
theorem ec720 : x_code 720 = cX7_touches := rfl
theorem e720_0 {ls st : List Value} {h : x_H} : x_run 720 0 ls st h = q_gr ls 0 (fun v => x_run 720 1 ls (.ref v :: st) h) := xe_aload_n ec720 dX7_touches_0
theorem e720_1 {ls st : List Value} {h : x_H} : x_run 720 1 ls st h = q_gi ls 1 (fun v => x_run 720 2 ls (.int v :: st) h) := xe_iload_n ec720 dX7_touches_1
theorem e720_2 {ls st : List Value} {h : x_H} {b : Nat} {a1 : Value}: x_run 720 2 ls (a1 :: .ref b :: st) h = if q_rcv h b 9 = true then (if x_wt st ≤ 8 ∧ x_wt [.ref b, a1] = 2 then q_ct (x_m 736 [.ref b, a1] h) (q_ho 720 2) (fun v h' => x_run 720 5 ls (v.toList ++ st) h') else none) else none := xe_virtT (r := [a1]) ec720 dX7_touches_2 ek7_94 rfl (by decide +kernel) (by decide +kernel)
theorem e720_5 {ls st : List Value} {h : x_H} : x_run 720 5 ls st h = q_gr ls 0 (fun v => x_run 720 6 ls (.ref v :: st) h) := xe_aload_n ec720 dX7_touches_5
theorem e720_6 {ls st : List Value} {h : x_H} {a : Nat}: x_run 720 6 ls (.ref a :: st) h = q_gf h a 9 0 (fun v => x_run 720 9 ls (v :: st) h) := xe_getfield ec720 dX7_touches_6 ef7_12
theorem e720_9 {ls st : List Value} {h : x_H} : x_run 720 9 ls st h = q_gi ls 1 (fun v => x_run 720 10 ls (.int v :: st) h) := xe_iload_n ec720 dX7_touches_9
theorem e720_10 {ls st : List Value} {h : x_H} {b : Nat} {a1 : Value}: x_run 720 10 ls (a1 :: .ref b :: st) h = if q_rcv h b 2 = true then (if x_wt st ≤ 8 ∧ x_wt [.ref b, a1] = 2 then q_cl (x_m 10 [.ref b, a1] h) (fun v h' => x_run 720 13 ls (v.toList ++ st) h') else none) else none := xe_virt (r := [a1]) ec720 dX7_touches_10 ek7_185 rfl (by decide +kernel) (by decide +kernel)
theorem e720_13 {ls : List Value} {h : x_H} {x : Int32} : x_run 720 13 ls [.int x] h = if narrow .int (.int x) = .int x then some (.inl (some (.int x)), h) else none := xe_ireturn ec720 dX7_touches_13 rfl
theorem ec721 : x_code 721 = cX7_ranked := rfl
theorem e721_0 {ls st : List Value} {h : x_H} : x_run 721 0 ls st h = q_gi ls 1 (fun v => x_run 721 1 ls (.int v :: st) h) := xe_iload_n ec721 dX7_ranked_0
theorem e721_1 {ls st : List Value} {h : x_H} {x : Int32}: x_run 721 1 ls (.int x :: st) h = if x < 0 then x_run 721 15 ls st h else x_run 721 4 ls st h := xe_if_lt ec721 dX7_ranked_1 rfl
theorem e721_4 {ls st : List Value} {h : x_H} : x_run 721 4 ls st h = q_gi ls 1 (fun v => x_run 721 5 ls (.int v :: st) h) := xe_iload_n ec721 dX7_ranked_4
theorem e721_5 {ls st : List Value} {h : x_H} : x_run 721 5 ls st h = q_gr ls 0 (fun v => x_run 721 6 ls (.ref v :: st) h) := xe_aload_n ec721 dX7_ranked_5
theorem e721_6 {ls st : List Value} {h : x_H} {a : Nat}: x_run 721 6 ls (.ref a :: st) h = q_gf h a 9 0 (fun v => x_run 721 9 ls (v :: st) h) := xe_getfield ec721 dX7_ranked_6 ef7_12
theorem e721_9 {ls st : List Value} {h : x_H} {a : Nat}: x_run 721 9 ls (.ref a :: st) h = q_gf h a 2 0 (fun v => x_run 721 12 ls (v :: st) h) := xe_getfield ec721 dX7_ranked_9 ef7_188
theorem e721_12 {ls st : List Value} {h : x_H} {x y : Int32}: x_run 721 12 ls (.int y :: .int x :: st) h = if x < y then x_run 721 25 ls st h else x_run 721 15 ls st h := xe_ic_lt ec721 dX7_ranked_12 rfl
theorem e721_15 {ls st : List Value} {h : x_H} : x_run 721 15 ls st h = if x_wt st ≤ 8 ∧ h.2.1 ≤ h.2.2.1 then some (.inr "java/util/NoSuchElementException", (h.1, h.2.1, h.2.2.1 + 1, h.2.2.2 + 6)) else none := xe_newthrow ec721 dX7_ranked_15 (by decide +kernel) (by decide +kernel)
theorem e721_25 {ls st : List Value} {h : x_H} : x_run 721 25 ls st h = x_run 721 26 ls (.int (q_i 0) :: st) h := xe_iconst ec721 dX7_ranked_25
theorem e721_26 {ls st : List Value} {h : x_H} {x : Int32}: x_run 721 26 ls (.int x :: st) h = q_ls ls 2 (.int x) (fun ls' => x_run 721 27 ls' st h) := xe_istore_n ec721 dX7_ranked_26
theorem e721_27 {ls st : List Value} {h : x_H} : x_run 721 27 ls st h = x_run 721 28 ls (.int (q_i 0) :: st) h := xe_iconst ec721 dX7_ranked_27
theorem e721_28 {ls st : List Value} {h : x_H} {x : Int32}: x_run 721 28 ls (.int x :: st) h = q_ls ls 3 (.int x) (fun ls' => x_run 721 29 ls' st h) := xe_istore_n ec721 dX7_ranked_28
theorem e721_29 {ls st : List Value} {h : x_H} : x_run 721 29 ls st h = q_gi ls 3 (fun v => x_run 721 30 ls (.int v :: st) h) := xe_iload_n ec721 dX7_ranked_29
theorem e721_30 {ls st : List Value} {h : x_H} : x_run 721 30 ls st h = q_gr ls 0 (fun v => x_run 721 31 ls (.ref v :: st) h) := xe_aload_n ec721 dX7_ranked_30
theorem e721_31 {ls st : List Value} {h : x_H} {a : Nat}: x_run 721 31 ls (.ref a :: st) h = q_gf h a 9 0 (fun v => x_run 721 34 ls (v :: st) h) := xe_getfield ec721 dX7_ranked_31 ef7_12
theorem e721_34 {ls st : List Value} {h : x_H} {a : Nat}: x_run 721 34 ls (.ref a :: st) h = q_gf h a 2 0 (fun v => x_run 721 37 ls (v :: st) h) := xe_getfield ec721 dX7_ranked_34 ef7_188
theorem e721_37 {ls st : List Value} {h : x_H} {x y : Int32}: x_run 721 37 ls (.int y :: .int x :: st) h = if y ≤ x then x_run 721 60 ls st h else x_run 721 40 ls st h := xe_ic_ge ec721 dX7_ranked_37 rfl
theorem e721_40 {ls st : List Value} {h : x_H} : x_run 721 40 ls st h = q_gr ls 0 (fun v => x_run 721 41 ls (.ref v :: st) h) := xe_aload_n ec721 dX7_ranked_40
theorem e721_41 {ls st : List Value} {h : x_H} {a : Nat}: x_run 721 41 ls (.ref a :: st) h = q_gf h a 9 0 (fun v => x_run 721 44 ls (v :: st) h) := xe_getfield ec721 dX7_ranked_41 ef7_12
theorem e721_44 {ls st : List Value} {h : x_H} : x_run 721 44 ls st h = q_gi ls 3 (fun v => x_run 721 45 ls (.int v :: st) h) := xe_iload_n ec721 dX7_ranked_44
theorem e721_45 {ls st : List Value} {h : x_H} {b : Nat} {a1 : Value}: x_run 721 45 ls (a1 :: .ref b :: st) h = if q_rcv h b 2 = true then (if x_wt st ≤ 8 ∧ x_wt [.ref b, a1] = 2 then q_cl (x_m 12 [.ref b, a1] h) (fun v h' => x_run 721 48 ls (v.toList ++ st) h') else none) else none := xe_virt (r := [a1]) ec721 dX7_ranked_45 ek7_193 rfl (by decide +kernel) (by decide +kernel)
theorem e721_48 {ls st : List Value} {h : x_H} : x_run 721 48 ls st h = q_gi ls 1 (fun v => x_run 721 49 ls (.int v :: st) h) := xe_iload_n ec721 dX7_ranked_48
theorem e721_49 {ls st : List Value} {h : x_H} {x y : Int32}: x_run 721 49 ls (.int y :: .int x :: st) h = if ¬ x = y then x_run 721 54 ls st h else x_run 721 52 ls st h := xe_ic_ne ec721 dX7_ranked_49 rfl
theorem e721_52 {ls st : List Value} {h : x_H} : x_run 721 52 ls st h = q_gi ls 3 (fun v => x_run 721 53 ls (.int v :: st) h) := xe_iload_n ec721 dX7_ranked_52
theorem e721_53 {ls st : List Value} {h : x_H} {x : Int32}: x_run 721 53 ls (.int x :: st) h = q_ls ls 2 (.int x) (fun ls' => x_run 721 54 ls' st h) := xe_istore_n ec721 dX7_ranked_53
theorem e721_54 {ls st : List Value} {h : x_H} : x_run 721 54 ls st h = q_gi ls 3 (fun v => if x_nd ls 3 = true then x_run 721 57 (ls.set 3 (.int (v + q_i 1))) st h else none) := xe_iinc ec721 dX7_ranked_54
theorem e721_57 {ls st : List Value} {h : x_H} : x_run 721 57 ls st h = x_run 721 29 ls st h := xe_goto ec721 dX7_ranked_57 rfl
theorem e721_60 {ls st : List Value} {h : x_H} : x_run 721 60 ls st h = q_gi ls 2 (fun v => x_run 721 61 ls (.int v :: st) h) := xe_iload_n ec721 dX7_ranked_60
theorem e721_61 {ls : List Value} {h : x_H} {x : Int32} : x_run 721 61 ls [.int x] h = if narrow .int (.int x) = .int x then some (.inl (some (.int x)), h) else none := xe_ireturn ec721 dX7_ranked_61 rfl
theorem ec722 : x_code 722 = cX7_append := rfl
theorem e722_0 {ls st : List Value} {h : x_H} : x_run 722 0 ls st h = q_gr ls 0 (fun v => x_run 722 1 ls (.ref v :: st) h) := xe_aload_n ec722 dX7_append_0
theorem e722_1 {ls st : List Value} {h : x_H} {a : Nat}: x_run 722 1 ls (.ref a :: st) h = q_gf h a 9 5 (fun v => x_run 722 4 ls (v :: st) h) := xe_getfield ec722 dX7_append_1 ef7_51
theorem e722_4 {ls st : List Value} {h : x_H} {a : Nat}: x_run 722 4 ls (.ref a :: st) h = q_gf h a 4 1 (fun v => x_run 722 7 ls (v :: st) h) := xe_getfield ec722 dX7_append_4 ef7_196
theorem e722_7 {ls st : List Value} {h : x_H} : x_run 722 7 ls st h = x_run 722 9 ls (.int (q_i 60) :: st) h := xe_bipush ec722 dX7_append_7 (by decide)
theorem e722_9 {ls st : List Value} {h : x_H} {x y : Int32}: x_run 722 9 ls (.int y :: .int x :: st) h = if ¬ x = y then x_run 722 22 ls st h else x_run 722 12 ls st h := xe_ic_ne ec722 dX7_append_9 rfl
theorem e722_12 {ls st : List Value} {h : x_H} : x_run 722 12 ls st h = if x_wt st ≤ 8 ∧ h.2.1 ≤ h.2.2.1 then some (.inr "java/lang/IllegalStateException", (h.1, h.2.1, h.2.2.1 + 1, h.2.2.2 + 6)) else none := xe_newthrow ec722 dX7_append_12 (by decide +kernel) (by decide +kernel)
theorem e722_22 {ls st : List Value} {h : x_H} : x_run 722 22 ls st h = q_gr ls 0 (fun v => x_run 722 23 ls (.ref v :: st) h) := xe_aload_n ec722 dX7_append_22
theorem e722_23 {ls st : List Value} {h : x_H} {a : Nat}: x_run 722 23 ls (.ref a :: st) h = q_gf h a 9 5 (fun v => x_run 722 26 ls (v :: st) h) := xe_getfield ec722 dX7_append_23 ef7_51
theorem e722_26 {ls st : List Value} {h : x_H} : x_run 722 26 ls st h = q_gi ls 1 (fun v => x_run 722 27 ls (.int v :: st) h) := xe_iload_n ec722 dX7_append_26
theorem e722_27 {ls st : List Value} {h : x_H} {b : Nat} {a1 : Value}: x_run 722 27 ls (a1 :: .ref b :: st) h = if q_rcv h b 4 = true then (if x_wt st ≤ 8 ∧ x_wt [.ref b, a1] = 2 then q_cl (x_m 201 [.ref b, a1] h) (fun v h' => x_run 722 30 ls (v.toList ++ st) h') else none) else none := xe_virt (r := [a1]) ec722 dX7_append_27 ek7_204 rfl (by decide +kernel) (by decide +kernel)
theorem e722_30 {ls st : List Value} {h : x_H} : x_run 722 30 ls st h = q_gr ls 0 (fun v => x_run 722 31 ls (.ref v :: st) h) := xe_aload_n ec722 dX7_append_30
theorem e722_31 {ls st : List Value} {h : x_H} {a : Nat}: x_run 722 31 ls (.ref a :: st) h = q_gf h a 9 5 (fun v => x_run 722 34 ls (v :: st) h) := xe_getfield ec722 dX7_append_31 ef7_51
theorem e722_34 {ls st : List Value} {h : x_H} {a : Nat}: x_run 722 34 ls (.ref a :: st) h = q_gf h a 4 1 (fun v => x_run 722 37 ls (v :: st) h) := xe_getfield ec722 dX7_append_34 ef7_196
theorem e722_37 {ls : List Value} {h : x_H} {x : Int32} : x_run 722 37 ls [.int x] h = if narrow .int (.int x) = .int x then some (.inl (some (.int x)), h) else none := xe_ireturn ec722 dX7_append_37 rfl
theorem ec723 : x_code 723 = cX7_commands := rfl
theorem e723_0 {ls st : List Value} {h : x_H} : x_run 723 0 ls st h = q_gr ls 0 (fun v => x_run 723 1 ls (.ref v :: st) h) := xe_aload_n ec723 dX7_commands_0
theorem e723_1 {ls st : List Value} {h : x_H} : x_run 723 1 ls st h = q_gr ls 0 (fun v => x_run 723 2 ls (.ref v :: st) h) := xe_aload_n ec723 dX7_commands_1
theorem e723_2 {ls st : List Value} {h : x_H} {a : Nat}: x_run 723 2 ls (.ref a :: st) h = q_gf h a 9 5 (fun v => x_run 723 5 ls (v :: st) h) := xe_getfield ec723 dX7_commands_2 ef7_51
theorem e723_5 {ls st : List Value} {h : x_H} {b : Nat}: x_run 723 5 ls (.ref b :: st) h = if q_rcv h b 4 = true then (if x_wt st ≤ 8 ∧ x_wt [.ref b] = 1 then q_cl (x_m 205 [.ref b] h) (fun v h' => x_run 723 8 ls (v.toList ++ st) h') else none) else none := xe_virt (r := []) ec723 dX7_commands_5 ek7_208 rfl (by decide +kernel) (by decide +kernel)
theorem e723_8 {ls st : List Value} {h : x_H} {v : Value} {a : Nat}: x_run 723 8 ls (v :: .ref a :: st) h = if x_fit (x_ty 9 7) v = true then q_pf h a 9 7 v (fun h' => x_run 723 11 ls st h') else none := xe_putfield ec723 dX7_commands_8 ef7_62 (by decide +kernel)
theorem e723_11 {ls st : List Value} {h : x_H} : x_run 723 11 ls st h = q_gr ls 0 (fun v => x_run 723 12 ls (.ref v :: st) h) := xe_aload_n ec723 dX7_commands_11
theorem e723_12 {ls st : List Value} {h : x_H} {a : Nat}: x_run 723 12 ls (.ref a :: st) h = q_gf h a 9 7 (fun v => x_run 723 15 ls (v :: st) h) := xe_getfield ec723 dX7_commands_12 ef7_62
theorem e723_15 {ls st : List Value} {h : x_H} {x : Int32}: x_run 723 15 ls (.int x :: st) h = if x < 0 then x_run 723 36 ls st h else x_run 723 18 ls st h := xe_if_lt ec723 dX7_commands_15 rfl
theorem e723_18 {ls st : List Value} {h : x_H} : x_run 723 18 ls st h = q_gr ls 0 (fun v => x_run 723 19 ls (.ref v :: st) h) := xe_aload_n ec723 dX7_commands_18
theorem e723_19 {ls st : List Value} {h : x_H} {a : Nat}: x_run 723 19 ls (.ref a :: st) h = q_gf h a 9 5 (fun v => x_run 723 22 ls (v :: st) h) := xe_getfield ec723 dX7_commands_19 ef7_51
theorem e723_22 {ls st : List Value} {h : x_H} : x_run 723 22 ls st h = x_run 723 23 ls (.int (q_i 0) :: st) h := xe_iconst ec723 dX7_commands_22
theorem e723_23 {ls st : List Value} {h : x_H} {v : Value} {a : Nat}: x_run 723 23 ls (v :: .ref a :: st) h = if x_fit (x_ty 4 1) v = true then q_pf h a 4 1 v (fun h' => x_run 723 26 ls st h') else none := xe_putfield ec723 dX7_commands_23 ef7_196 (by decide +kernel)
theorem e723_26 {ls st : List Value} {h : x_H} : x_run 723 26 ls st h = if x_wt st ≤ 8 ∧ h.2.1 ≤ h.2.2.1 then some (.inr "java/lang/IllegalArgumentException", (h.1, h.2.1, h.2.2.1 + 1, h.2.2.2 + 6)) else none := xe_newthrow ec723 dX7_commands_26 (by decide +kernel) (by decide +kernel)
theorem e723_36 {ls st : List Value} {h : x_H} : x_run 723 36 ls st h = q_gr ls 0 (fun v => x_run 723 37 ls (.ref v :: st) h) := xe_aload_n ec723 dX7_commands_36
theorem e723_37 {ls st : List Value} {h : x_H} {a : Nat}: x_run 723 37 ls (.ref a :: st) h = q_gf h a 9 4 (fun v => x_run 723 40 ls (v :: st) h) := xe_getfield ec723 dX7_commands_37 ef7_44
theorem e723_40 {ls st : List Value} {h : x_H} {b : Nat}: x_run 723 40 ls (.ref b :: st) h = if q_rcv h b 5 = true then (if x_wt st ≤ 8 ∧ x_wt [.ref b] = 1 then q_cl (x_m 301 [.ref b] h) (fun v h' => x_run 723 43 ls (v.toList ++ st) h') else none) else none := xe_virt (r := []) ec723 dX7_commands_40 ek7_66 rfl (by decide +kernel) (by decide +kernel)
theorem e723_43 {ls st : List Value} {h : x_H} : x_run 723 43 ls st h = x_run 723 44 ls (.int (q_i 0) :: st) h := xe_iconst ec723 dX7_commands_43
theorem e723_44 {ls st : List Value} {h : x_H} {x : Int32}: x_run 723 44 ls (.int x :: st) h = q_ls ls 1 (.int x) (fun ls' => x_run 723 45 ls' st h) := xe_istore_n ec723 dX7_commands_44
theorem e723_45 {ls st : List Value} {h : x_H} : x_run 723 45 ls st h = x_run 723 46 ls (.int (q_i 0) :: st) h := xe_iconst ec723 dX7_commands_45
theorem e723_46 {ls st : List Value} {h : x_H} {x : Int32}: x_run 723 46 ls (.int x :: st) h = q_ls ls 2 (.int x) (fun ls' => x_run 723 47 ls' st h) := xe_istore_n ec723 dX7_commands_46
theorem e723_47 {ls st : List Value} {h : x_H} : x_run 723 47 ls st h = x_run 723 48 ls (.int (q_i 0) :: st) h := xe_iconst ec723 dX7_commands_47
theorem e723_48 {ls st : List Value} {h : x_H} {x : Int32}: x_run 723 48 ls (.int x :: st) h = q_ls ls 3 (.int x) (fun ls' => x_run 723 49 ls' st h) := xe_istore_n ec723 dX7_commands_48
theorem e723_49 {ls st : List Value} {h : x_H} : x_run 723 49 ls st h = q_gi ls 2 (fun v => x_run 723 50 ls (.int v :: st) h) := xe_iload_n ec723 dX7_commands_49
theorem e723_50 {ls st : List Value} {h : x_H} : x_run 723 50 ls st h = x_run 723 52 ls (.int (q_i 60) :: st) h := xe_bipush ec723 dX7_commands_50 (by decide)
theorem e723_52 {ls st : List Value} {h : x_H} {x y : Int32}: x_run 723 52 ls (.int y :: .int x :: st) h = if y ≤ x then x_run 723 112 ls st h else x_run 723 55 ls st h := xe_ic_ge ec723 dX7_commands_52 rfl
theorem e723_55 {ls st : List Value} {h : x_H} : x_run 723 55 ls st h = q_gi ls 1 (fun v => x_run 723 56 ls (.int v :: st) h) := xe_iload_n ec723 dX7_commands_55
theorem e723_56 {ls st : List Value} {h : x_H} : x_run 723 56 ls st h = q_gr ls 0 (fun v => x_run 723 57 ls (.ref v :: st) h) := xe_aload_n ec723 dX7_commands_56
theorem e723_57 {ls st : List Value} {h : x_H} {a : Nat}: x_run 723 57 ls (.ref a :: st) h = q_gf h a 9 5 (fun v => x_run 723 60 ls (v :: st) h) := xe_getfield ec723 dX7_commands_57 ef7_51
theorem e723_60 {ls st : List Value} {h : x_H} {a : Nat}: x_run 723 60 ls (.ref a :: st) h = q_gf h a 4 1 (fun v => x_run 723 63 ls (v :: st) h) := xe_getfield ec723 dX7_commands_60 ef7_196
theorem e723_63 {ls st : List Value} {h : x_H} {x y : Int32}: x_run 723 63 ls (.int y :: .int x :: st) h = if y ≤ x then x_run 723 112 ls st h else x_run 723 66 ls st h := xe_ic_ge ec723 dX7_commands_63 rfl
theorem e723_66 {ls st : List Value} {h : x_H} : x_run 723 66 ls st h = q_gi ls 3 (fun v => x_run 723 67 ls (.int v :: st) h) := xe_iload_n ec723 dX7_commands_66
theorem e723_67 {ls st : List Value} {h : x_H} {x : Int32}: x_run 723 67 ls (.int x :: st) h = if ¬ x = 0 then x_run 723 112 ls st h else x_run 723 70 ls st h := xe_if_ne ec723 dX7_commands_67 rfl
theorem e723_70 {ls st : List Value} {h : x_H} : x_run 723 70 ls st h = q_gr ls 0 (fun v => x_run 723 71 ls (.ref v :: st) h) := xe_aload_n ec723 dX7_commands_70
theorem e723_71 {ls st : List Value} {h : x_H} {a : Nat}: x_run 723 71 ls (.ref a :: st) h = q_gf h a 9 2 (fun v => x_run 723 74 ls (v :: st) h) := xe_getfield ec723 dX7_commands_71 ef7_28
theorem e723_74 {ls st : List Value} {h : x_H} : x_run 723 74 ls st h = q_gi ls 2 (fun v => x_run 723 75 ls (.int v :: st) h) := xe_iload_n ec723 dX7_commands_74
theorem e723_75 {ls st : List Value} {h : x_H} {v : Value} {a : Nat}: x_run 723 75 ls (v :: .ref a :: st) h = if x_fit (x_ty 6 3) v = true then q_pf h a 6 3 v (fun h' => x_run 723 78 ls st h') else none := xe_putfield ec723 dX7_commands_75 ef7_213 (by decide +kernel)
theorem e723_78 {ls st : List Value} {h : x_H} : x_run 723 78 ls st h = q_gr ls 0 (fun v => x_run 723 79 ls (.ref v :: st) h) := xe_aload_n ec723 dX7_commands_78
theorem e723_79 {ls st : List Value} {h : x_H} : x_run 723 79 ls st h = q_gi ls 1 (fun v => x_run 723 80 ls (.int v :: st) h) := xe_iload_n ec723 dX7_commands_79
theorem e723_80 {ls st : List Value} {h : x_H} {b : Nat} {a1 : Value}: x_run 723 80 ls (a1 :: .ref b :: st) h = if q_rcv h b 9 = true then (if x_wt st ≤ 8 ∧ x_wt [.ref b, a1] = 2 then q_cl (x_m 735 [.ref b, a1] h) (fun v h' => x_run 723 83 ls (v.toList ++ st) h') else none) else none := xe_virt (r := [a1]) ec723 dX7_commands_80 ek7_216 rfl (by decide +kernel) (by decide +kernel)
theorem e723_83 {ls st : List Value} {h : x_H} : x_run 723 83 ls st h = x_run 723 84 ls (.int (q_i (-1)) :: st) h := xe_iconst ec723 dX7_commands_83
theorem e723_84 {ls st : List Value} {h : x_H} {x y : Int32}: x_run 723 84 ls (.int y :: .int x :: st) h = if ¬ x = y then x_run 723 91 ls st h else x_run 723 87 ls st h := xe_ic_ne ec723 dX7_commands_84 rfl
theorem e723_87 {ls st : List Value} {h : x_H} : x_run 723 87 ls st h = x_run 723 88 ls (.int (q_i 1) :: st) h := xe_iconst ec723 dX7_commands_87
theorem e723_88 {ls st : List Value} {h : x_H} : x_run 723 88 ls st h = x_run 723 92 ls st h := xe_goto ec723 dX7_commands_88 rfl
theorem e723_91 {ls st : List Value} {h : x_H} : x_run 723 91 ls st h = x_run 723 92 ls (.int (q_i 0) :: st) h := xe_iconst ec723 dX7_commands_91
theorem e723_92 {ls st : List Value} {h : x_H} {x : Int32}: x_run 723 92 ls (.int x :: st) h = q_ls ls 3 (.int x) (fun ls' => x_run 723 93 ls' st h) := xe_istore_n ec723 dX7_commands_92
theorem e723_93 {ls st : List Value} {h : x_H} : x_run 723 93 ls st h = q_gi ls 1 (fun v => x_run 723 94 ls (.int v :: st) h) := xe_iload_n ec723 dX7_commands_93
theorem e723_94 {ls st : List Value} {h : x_H} : x_run 723 94 ls st h = q_gr ls 0 (fun v => x_run 723 95 ls (.ref v :: st) h) := xe_aload_n ec723 dX7_commands_94
theorem e723_95 {ls st : List Value} {h : x_H} {a : Nat}: x_run 723 95 ls (.ref a :: st) h = q_gf h a 9 5 (fun v => x_run 723 98 ls (v :: st) h) := xe_getfield ec723 dX7_commands_95 ef7_51
theorem e723_98 {ls st : List Value} {h : x_H} : x_run 723 98 ls st h = q_gi ls 1 (fun v => x_run 723 99 ls (.int v :: st) h) := xe_iload_n ec723 dX7_commands_98
theorem e723_99 {ls st : List Value} {h : x_H} {b : Nat} {a1 : Value}: x_run 723 99 ls (a1 :: .ref b :: st) h = if q_rcv h b 4 = true then (if x_wt st ≤ 8 ∧ x_wt [.ref b, a1] = 2 then q_cl (x_m 204 [.ref b, a1] h) (fun v h' => x_run 723 102 ls (v.toList ++ st) h') else none) else none := xe_virt (r := [a1]) ec723 dX7_commands_99 ek7_219 rfl (by decide +kernel) (by decide +kernel)
theorem e723_102 {ls st : List Value} {h : x_H} : x_run 723 102 ls st h = x_run 723 103 ls (.int (q_i 1) :: st) h := xe_iconst ec723 dX7_commands_102
theorem e723_103 {ls st : List Value} {h : x_H} {x y : Int32}: x_run 723 103 ls (.int y :: .int x :: st) h = x_run 723 104 ls (.int (x + y) :: st) h := xe_iadd ec723 dX7_commands_103
theorem e723_104 {ls st : List Value} {h : x_H} {x y : Int32}: x_run 723 104 ls (.int y :: .int x :: st) h = x_run 723 105 ls (.int (x + y) :: st) h := xe_iadd ec723 dX7_commands_104
theorem e723_105 {ls st : List Value} {h : x_H} {x : Int32}: x_run 723 105 ls (.int x :: st) h = q_ls ls 1 (.int x) (fun ls' => x_run 723 106 ls' st h) := xe_istore_n ec723 dX7_commands_105
theorem e723_106 {ls st : List Value} {h : x_H} : x_run 723 106 ls st h = q_gi ls 2 (fun v => if x_nd ls 2 = true then x_run 723 109 (ls.set 2 (.int (v + q_i 1))) st h else none) := xe_iinc ec723 dX7_commands_106
theorem e723_109 {ls st : List Value} {h : x_H} : x_run 723 109 ls st h = x_run 723 49 ls st h := xe_goto ec723 dX7_commands_109 rfl
theorem e723_112 {ls st : List Value} {h : x_H} : x_run 723 112 ls st h = q_gr ls 0 (fun v => x_run 723 113 ls (.ref v :: st) h) := xe_aload_n ec723 dX7_commands_112
theorem e723_113 {ls st : List Value} {h : x_H} {a : Nat}: x_run 723 113 ls (.ref a :: st) h = q_gf h a 9 2 (fun v => x_run 723 116 ls (v :: st) h) := xe_getfield ec723 dX7_commands_113 ef7_28
theorem e723_116 {ls st : List Value} {h : x_H} : x_run 723 116 ls st h = x_run 723 117 ls (.int (q_i 0) :: st) h := xe_iconst ec723 dX7_commands_116
theorem e723_117 {ls st : List Value} {h : x_H} {v : Value} {a : Nat}: x_run 723 117 ls (v :: .ref a :: st) h = if x_fit (x_ty 6 3) v = true then q_pf h a 6 3 v (fun h' => x_run 723 120 ls st h') else none := xe_putfield ec723 dX7_commands_117 ef7_213 (by decide +kernel)
theorem e723_120 {ls st : List Value} {h : x_H} : x_run 723 120 ls st h = q_gr ls 0 (fun v => x_run 723 121 ls (.ref v :: st) h) := xe_aload_n ec723 dX7_commands_120
theorem e723_121 {ls st : List Value} {h : x_H} {a : Nat}: x_run 723 121 ls (.ref a :: st) h = q_gf h a 9 5 (fun v => x_run 723 124 ls (v :: st) h) := xe_getfield ec723 dX7_commands_121 ef7_51
theorem e723_124 {ls st : List Value} {h : x_H} : x_run 723 124 ls st h = x_run 723 125 ls (.int (q_i 0) :: st) h := xe_iconst ec723 dX7_commands_124
theorem e723_125 {ls st : List Value} {h : x_H} {v : Value} {a : Nat}: x_run 723 125 ls (v :: .ref a :: st) h = if x_fit (x_ty 4 1) v = true then q_pf h a 4 1 v (fun h' => x_run 723 128 ls st h') else none := xe_putfield ec723 dX7_commands_125 ef7_196 (by decide +kernel)
theorem e723_128 {ls st : List Value} {h : x_H} : x_run 723 128 ls st h = q_gi ls 3 (fun v => x_run 723 129 ls (.int v :: st) h) := xe_iload_n ec723 dX7_commands_128
theorem e723_129 {ls st : List Value} {h : x_H} {x : Int32}: x_run 723 129 ls (.int x :: st) h = if x = 0 then x_run 723 149 ls st h else x_run 723 132 ls st h := xe_if_eq ec723 dX7_commands_129 rfl
theorem e723_132 {ls st : List Value} {h : x_H} : x_run 723 132 ls st h = q_gr ls 0 (fun v => x_run 723 133 ls (.ref v :: st) h) := xe_aload_n ec723 dX7_commands_132
theorem e723_133 {ls st : List Value} {h : x_H} {a : Nat}: x_run 723 133 ls (.ref a :: st) h = q_gf h a 9 4 (fun v => x_run 723 136 ls (v :: st) h) := xe_getfield ec723 dX7_commands_133 ef7_44
theorem e723_136 {ls st : List Value} {h : x_H} {b : Nat}: x_run 723 136 ls (.ref b :: st) h = if q_rcv h b 5 = true then (if x_wt st ≤ 8 ∧ x_wt [.ref b] = 1 then q_cl (x_m 303 [.ref b] h) (fun v h' => x_run 723 139 ls (v.toList ++ st) h') else none) else none := xe_virt (r := []) ec723 dX7_commands_136 ek7_222 rfl (by decide +kernel) (by decide +kernel)
theorem e723_139 {ls st : List Value} {h : x_H} : x_run 723 139 ls st h = if x_wt st ≤ 8 ∧ h.2.1 ≤ h.2.2.1 then some (.inr "java/lang/UnsupportedOperationException", (h.1, h.2.1, h.2.2.1 + 1, h.2.2.2 + 6)) else none := xe_newthrow ec723 dX7_commands_139 (by decide +kernel) (by decide +kernel)
theorem e723_149 {ls st : List Value} {h : x_H} : x_run 723 149 ls st h = q_gr ls 0 (fun v => x_run 723 150 ls (.ref v :: st) h) := xe_aload_n ec723 dX7_commands_149
theorem e723_150 {ls st : List Value} {h : x_H} {a : Nat}: x_run 723 150 ls (.ref a :: st) h = q_gf h a 9 4 (fun v => x_run 723 153 ls (v :: st) h) := xe_getfield ec723 dX7_commands_150 ef7_44
theorem e723_153 {ls st : List Value} {h : x_H} {b : Nat}: x_run 723 153 ls (.ref b :: st) h = if q_rcv h b 5 = true then (if x_wt st ≤ 8 ∧ x_wt [.ref b] = 1 then q_cl (x_m 302 [.ref b] h) (fun v h' => x_run 723 156 ls (v.toList ++ st) h') else none) else none := xe_virt (r := []) ec723 dX7_commands_153 ek7_230 rfl (by decide +kernel) (by decide +kernel)
theorem e723_156 {ls st : List Value} {h : x_H} : x_run 723 156 ls st h = q_gi ls 2 (fun v => x_run 723 157 ls (.int v :: st) h) := xe_iload_n ec723 dX7_commands_156
theorem e723_157 {ls : List Value} {h : x_H} {x : Int32} : x_run 723 157 ls [.int x] h = if narrow .int (.int x) = .int x then some (.inl (some (.int x)), h) else none := xe_ireturn ec723 dX7_commands_157 rfl
theorem ec724 : x_code 724 = cX7_faultPosition := rfl
theorem e724_0 {ls st : List Value} {h : x_H} : x_run 724 0 ls st h = q_gr ls 0 (fun v => x_run 724 1 ls (.ref v :: st) h) := xe_aload_n ec724 dX7_faultPosition_0
theorem e724_1 {ls st : List Value} {h : x_H} {a : Nat}: x_run 724 1 ls (.ref a :: st) h = q_gf h a 9 7 (fun v => x_run 724 4 ls (v :: st) h) := xe_getfield ec724 dX7_faultPosition_1 ef7_62
theorem e724_4 {ls : List Value} {h : x_H} {x : Int32} : x_run 724 4 ls [.int x] h = if narrow .int (.int x) = .int x then some (.inl (some (.int x)), h) else none := xe_ireturn ec724 dX7_faultPosition_4 rfl
theorem ec725 : x_code 725 = cX7_reason := rfl
theorem e725_0 {ls st : List Value} {h : x_H} : x_run 725 0 ls st h = q_gi ls 1 (fun v => x_run 725 1 ls (.int v :: st) h) := xe_iload_n ec725 dX7_reason_0
theorem e725_1 {ls st : List Value} {h : x_H} {x : Int32}: x_run 725 1 ls (.int x :: st) h = if x < 0 then x_run 725 9 ls st h else x_run 725 4 ls st h := xe_if_lt ec725 dX7_reason_1 rfl
theorem e725_4 {ls st : List Value} {h : x_H} : x_run 725 4 ls st h = q_gi ls 1 (fun v => x_run 725 5 ls (.int v :: st) h) := xe_iload_n ec725 dX7_reason_4
theorem e725_5 {ls st : List Value} {h : x_H} : x_run 725 5 ls st h = x_run 725 6 ls (.int (q_i 2) :: st) h := xe_iconst ec725 dX7_reason_5
theorem e725_6 {ls st : List Value} {h : x_H} {x y : Int32}: x_run 725 6 ls (.int y :: .int x :: st) h = if x ≤ y then x_run 725 19 ls st h else x_run 725 9 ls st h := xe_ic_le ec725 dX7_reason_6 rfl
theorem e725_9 {ls st : List Value} {h : x_H} : x_run 725 9 ls st h = if x_wt st ≤ 8 ∧ h.2.1 ≤ h.2.2.1 then some (.inr "java/lang/IllegalArgumentException", (h.1, h.2.1, h.2.2.1 + 1, h.2.2.2 + 6)) else none := xe_newthrow ec725 dX7_reason_9 (by decide +kernel) (by decide +kernel)
theorem e725_19 {ls st : List Value} {h : x_H} : x_run 725 19 ls st h = q_gr ls 0 (fun v => x_run 725 20 ls (.ref v :: st) h) := xe_aload_n ec725 dX7_reason_19
theorem e725_20 {ls st : List Value} {h : x_H} {a : Nat}: x_run 725 20 ls (.ref a :: st) h = q_gf h a 9 2 (fun v => x_run 725 23 ls (v :: st) h) := xe_getfield ec725 dX7_reason_20 ef7_28
theorem e725_23 {ls st : List Value} {h : x_H} {a : Nat}: x_run 725 23 ls (.ref a :: st) h = q_gf h a 6 0 (fun v => x_run 725 26 ls (v :: st) h) := xe_getfield ec725 dX7_reason_23 ef7_235
theorem e725_26 {ls st : List Value} {h : x_H} {x : Int32}: x_run 725 26 ls (.int x :: st) h = if ¬ x = 0 then x_run 725 39 ls st h else x_run 725 29 ls st h := xe_if_ne ec725 dX7_reason_26 rfl
theorem e725_29 {ls st : List Value} {h : x_H} : x_run 725 29 ls st h = if x_wt st ≤ 8 ∧ h.2.1 ≤ h.2.2.1 then some (.inr "java/util/NoSuchElementException", (h.1, h.2.1, h.2.2.1 + 1, h.2.2.2 + 6)) else none := xe_newthrow ec725 dX7_reason_29 (by decide +kernel) (by decide +kernel)
theorem e725_39 {ls st : List Value} {h : x_H} : x_run 725 39 ls st h = q_gi ls 1 (fun v => x_run 725 40 ls (.int v :: st) h) := xe_iload_n ec725 dX7_reason_39
theorem e725_40 {ls st : List Value} {h : x_H} {x : Int32}: x_run 725 40 ls (.int x :: st) h = if ¬ x = 0 then x_run 725 51 ls st h else x_run 725 43 ls st h := xe_if_ne ec725 dX7_reason_40 rfl
theorem e725_43 {ls st : List Value} {h : x_H} : x_run 725 43 ls st h = q_gr ls 0 (fun v => x_run 725 44 ls (.ref v :: st) h) := xe_aload_n ec725 dX7_reason_43
theorem e725_44 {ls st : List Value} {h : x_H} {a : Nat}: x_run 725 44 ls (.ref a :: st) h = q_gf h a 9 2 (fun v => x_run 725 47 ls (v :: st) h) := xe_getfield ec725 dX7_reason_44 ef7_28
theorem e725_47 {ls st : List Value} {h : x_H} {a : Nat}: x_run 725 47 ls (.ref a :: st) h = q_gf h a 6 0 (fun v => x_run 725 50 ls (v :: st) h) := xe_getfield ec725 dX7_reason_47 ef7_235
theorem e725_50 {ls : List Value} {h : x_H} {x : Int32} : x_run 725 50 ls [.int x] h = if narrow .int (.int x) = .int x then some (.inl (some (.int x)), h) else none := xe_ireturn ec725 dX7_reason_50 rfl
theorem e725_51 {ls st : List Value} {h : x_H} : x_run 725 51 ls st h = q_gi ls 1 (fun v => x_run 725 52 ls (.int v :: st) h) := xe_iload_n ec725 dX7_reason_51
theorem e725_52 {ls st : List Value} {h : x_H} : x_run 725 52 ls st h = x_run 725 53 ls (.int (q_i 1) :: st) h := xe_iconst ec725 dX7_reason_52
theorem e725_53 {ls st : List Value} {h : x_H} {x y : Int32}: x_run 725 53 ls (.int y :: .int x :: st) h = if ¬ x = y then x_run 725 66 ls st h else x_run 725 56 ls st h := xe_ic_ne ec725 dX7_reason_53 rfl
theorem e725_56 {ls st : List Value} {h : x_H} : x_run 725 56 ls st h = q_gr ls 0 (fun v => x_run 725 57 ls (.ref v :: st) h) := xe_aload_n ec725 dX7_reason_56
theorem e725_57 {ls st : List Value} {h : x_H} {a : Nat}: x_run 725 57 ls (.ref a :: st) h = q_gf h a 9 2 (fun v => x_run 725 60 ls (v :: st) h) := xe_getfield ec725 dX7_reason_57 ef7_28
theorem e725_60 {ls st : List Value} {h : x_H} {a : Nat}: x_run 725 60 ls (.ref a :: st) h = q_gf h a 6 1 (fun v => x_run 725 63 ls (v :: st) h) := xe_getfield ec725 dX7_reason_60 ef7_240
theorem e725_63 {ls st : List Value} {h : x_H} : x_run 725 63 ls st h = x_run 725 73 ls st h := xe_goto ec725 dX7_reason_63 rfl
theorem e725_66 {ls st : List Value} {h : x_H} : x_run 725 66 ls st h = q_gr ls 0 (fun v => x_run 725 67 ls (.ref v :: st) h) := xe_aload_n ec725 dX7_reason_66
theorem e725_67 {ls st : List Value} {h : x_H} {a : Nat}: x_run 725 67 ls (.ref a :: st) h = q_gf h a 9 2 (fun v => x_run 725 70 ls (v :: st) h) := xe_getfield ec725 dX7_reason_67 ef7_28
theorem e725_70 {ls st : List Value} {h : x_H} {a : Nat}: x_run 725 70 ls (.ref a :: st) h = q_gf h a 6 2 (fun v => x_run 725 73 ls (v :: st) h) := xe_getfield ec725 dX7_reason_70 ef7_243
theorem e725_73 {ls : List Value} {h : x_H} {x : Int32} : x_run 725 73 ls [.int x] h = if narrow .int (.int x) = .int x then some (.inl (some (.int x)), h) else none := xe_ireturn ec725 dX7_reason_73 rfl
theorem ec726 : x_code 726 = cX7_line := rfl
theorem e726_0 {ls st : List Value} {h : x_H} : x_run 726 0 ls st h = q_gr ls 0 (fun v => x_run 726 1 ls (.ref v :: st) h) := xe_aload_n ec726 dX7_line_0
theorem e726_1 {ls st : List Value} {h : x_H} : x_run 726 1 ls st h = q_gi ls 1 (fun v => x_run 726 2 ls (.int v :: st) h) := xe_iload_n ec726 dX7_line_1
theorem e726_2 {ls st : List Value} {h : x_H} : x_run 726 2 ls st h = x_run 726 3 ls (.int (q_i 0) :: st) h := xe_iconst ec726 dX7_line_2
theorem e726_3 {ls st : List Value} {h : x_H} : x_run 726 3 ls st h = q_gi ls 2 (fun v => x_run 726 4 ls (.int v :: st) h) := xe_iload_n ec726 dX7_line_3
theorem e726_4 {ls st : List Value} {h : x_H} {b : Nat} {a1 a2 a3 : Value}: x_run 726 4 ls (a3 :: a2 :: a1 :: .ref b :: st) h = if q_rcv h b 9 = true then (if x_wt st ≤ 8 ∧ x_wt [.ref b, a1, a2, a3] = 4 then q_ct (x_m 738 [.ref b, a1, a2, a3] h) (q_ho 726 4) (fun v h' => x_run 726 7 ls (v.toList ++ st) h') else none) else none := xe_virtT (r := [a1, a2, a3]) ec726 dX7_line_4 ek7_136 rfl (by decide +kernel) (by decide +kernel)
theorem e726_7 {ls st : List Value} {h : x_H} : x_run 726 7 ls st h = q_gr ls 0 (fun v => x_run 726 8 ls (.ref v :: st) h) := xe_aload_n ec726 dX7_line_7
theorem e726_8 {ls st : List Value} {h : x_H} {a : Nat}: x_run 726 8 ls (.ref a :: st) h = q_gf h a 9 6 (fun v => x_run 726 11 ls (v :: st) h) := xe_getfield ec726 dX7_line_8 ef7_58
theorem e726_11 {ls st : List Value} {h : x_H} : x_run 726 11 ls st h = q_gr ls 0 (fun v => x_run 726 12 ls (.ref v :: st) h) := xe_aload_n ec726 dX7_line_11
theorem e726_12 {ls st : List Value} {h : x_H} {a : Nat}: x_run 726 12 ls (.ref a :: st) h = q_gf h a 9 0 (fun v => x_run 726 15 ls (v :: st) h) := xe_getfield ec726 dX7_line_12 ef7_12
theorem e726_15 {ls st : List Value} {h : x_H} : x_run 726 15 ls st h = q_gi ls 1 (fun v => x_run 726 16 ls (.int v :: st) h) := xe_iload_n ec726 dX7_line_15
theorem e726_16 {ls st : List Value} {h : x_H} : x_run 726 16 ls st h = x_run 726 17 ls (.int (q_i 0) :: st) h := xe_iconst ec726 dX7_line_16
theorem e726_17 {ls st : List Value} {h : x_H} : x_run 726 17 ls st h = q_gi ls 2 (fun v => x_run 726 18 ls (.int v :: st) h) := xe_iload_n ec726 dX7_line_17
theorem e726_18 {ls st : List Value} {h : x_H} {a1 a2 a3 : Value}: x_run 726 18 ls (a3 :: a2 :: a1 :: st) h = if x_wt st ≤ 8 ∧ x_wt [a1, a2, a3] = 3 then q_cl (x_m 740 [a1, a2, a3] h) (fun v h' => x_run 726 21 ls (v.toList ++ st) h') else none := xe_stat (args := [a1, a2, a3]) ec726 dX7_line_18 ek7_143 (by decide) rfl (by decide +kernel) (by decide +kernel)
theorem e726_21 {ls st : List Value} {h : x_H} {b : Nat} {a1 a2 : Value}: x_run 726 21 ls (a2 :: a1 :: .ref b :: st) h = if q_rcv h b 8 = true then (if x_wt st ≤ 8 ∧ x_wt [.ref b, a1, a2] = 3 then q_cl (x_m 601 [.ref b, a1, a2] h) (fun v h' => x_run 726 24 ls (v.toList ++ st) h') else none) else none := xe_virt (r := [a1, a2]) ec726 dX7_line_21 ek7_246 rfl (by decide +kernel) (by decide +kernel)
theorem e726_24 {ls st : List Value} {h : x_H} : x_run 726 24 ls st h = q_gr ls 0 (fun v => x_run 726 25 ls (.ref v :: st) h) := xe_aload_n ec726 dX7_line_24
theorem e726_25 {ls st : List Value} {h : x_H} {a : Nat}: x_run 726 25 ls (.ref a :: st) h = q_gf h a 9 6 (fun v => x_run 726 28 ls (v :: st) h) := xe_getfield ec726 dX7_line_25 ef7_58
theorem e726_28 {ls st : List Value} {h : x_H} {a : Nat}: x_run 726 28 ls (.ref a :: st) h = q_gf h a 8 1 (fun v => x_run 726 31 ls (v :: st) h) := xe_getfield ec726 dX7_line_28 ef7_250
theorem e726_31 {ls : List Value} {h : x_H} {x : Int32} : x_run 726 31 ls [.int x] h = if narrow .int (.int x) = .int x then some (.inl (some (.int x)), h) else none := xe_ireturn ec726 dX7_line_31 rfl
theorem ec727 : x_code 727 = cX7_character := rfl
theorem e727_0 {ls st : List Value} {h : x_H} : x_run 727 0 ls st h = q_gi ls 1 (fun v => x_run 727 1 ls (.int v :: st) h) := xe_iload_n ec727 dX7_character_0
theorem e727_1 {ls st : List Value} {h : x_H} {x : Int32}: x_run 727 1 ls (.int x :: st) h = if x < 0 then x_run 727 15 ls st h else x_run 727 4 ls st h := xe_if_lt ec727 dX7_character_1 rfl
theorem e727_4 {ls st : List Value} {h : x_H} : x_run 727 4 ls st h = q_gi ls 1 (fun v => x_run 727 5 ls (.int v :: st) h) := xe_iload_n ec727 dX7_character_4
theorem e727_5 {ls st : List Value} {h : x_H} : x_run 727 5 ls st h = q_gr ls 0 (fun v => x_run 727 6 ls (.ref v :: st) h) := xe_aload_n ec727 dX7_character_5
theorem e727_6 {ls st : List Value} {h : x_H} {a : Nat}: x_run 727 6 ls (.ref a :: st) h = q_gf h a 9 6 (fun v => x_run 727 9 ls (v :: st) h) := xe_getfield ec727 dX7_character_6 ef7_58
theorem e727_9 {ls st : List Value} {h : x_H} {a : Nat}: x_run 727 9 ls (.ref a :: st) h = q_gf h a 8 1 (fun v => x_run 727 12 ls (v :: st) h) := xe_getfield ec727 dX7_character_9 ef7_250
theorem e727_12 {ls st : List Value} {h : x_H} {x y : Int32}: x_run 727 12 ls (.int y :: .int x :: st) h = if x < y then x_run 727 25 ls st h else x_run 727 15 ls st h := xe_ic_lt ec727 dX7_character_12 rfl
theorem e727_15 {ls st : List Value} {h : x_H} : x_run 727 15 ls st h = if x_wt st ≤ 8 ∧ h.2.1 ≤ h.2.2.1 then some (.inr "java/lang/IndexOutOfBoundsException", (h.1, h.2.1, h.2.2.1 + 1, h.2.2.2 + 6)) else none := xe_newthrow ec727 dX7_character_15 (by decide +kernel) (by decide +kernel)
theorem e727_25 {ls st : List Value} {h : x_H} : x_run 727 25 ls st h = q_gr ls 0 (fun v => x_run 727 26 ls (.ref v :: st) h) := xe_aload_n ec727 dX7_character_25
theorem e727_26 {ls st : List Value} {h : x_H} {a : Nat}: x_run 727 26 ls (.ref a :: st) h = q_gf h a 9 6 (fun v => x_run 727 29 ls (v :: st) h) := xe_getfield ec727 dX7_character_26 ef7_58
theorem e727_29 {ls st : List Value} {h : x_H} {a : Nat}: x_run 727 29 ls (.ref a :: st) h = q_gf h a 8 0 (fun v => x_run 727 32 ls (v :: st) h) := xe_getfield ec727 dX7_character_29 ef7_256
theorem e727_32 {ls st : List Value} {h : x_H} : x_run 727 32 ls st h = q_gi ls 1 (fun v => x_run 727 33 ls (.int v :: st) h) := xe_iload_n ec727 dX7_character_32
theorem e727_33 {ls st : List Value} {h : x_H} {x : Int32} {a : Nat}: x_run 727 33 ls (.int x :: .ref a :: st) h = q_ra h a 2 x (fun v => x_run 727 34 ls (.int v :: st) h) := xe_caload ec727 dX7_character_33
theorem e727_34 {ls : List Value} {h : x_H} {x : Int32} : x_run 727 34 ls [.int x] h = if narrow .char (.int x) = .int x then some (.inl (some (.int x)), h) else none := xe_ireturn ec727 dX7_character_34 rfl
theorem ec728 : x_code 728 = cX7_meanCost := rfl
theorem e728_0 {ls st : List Value} {h : x_H} : x_run 728 0 ls st h = q_gr ls 0 (fun v => x_run 728 1 ls (.ref v :: st) h) := xe_aload_n ec728 dX7_meanCost_0
theorem e728_1 {ls st : List Value} {h : x_H} {a : Nat}: x_run 728 1 ls (.ref a :: st) h = q_gf h a 9 0 (fun v => x_run 728 4 ls (v :: st) h) := xe_getfield ec728 dX7_meanCost_1 ef7_12
theorem e728_4 {ls st : List Value} {h : x_H} {b : Nat}: x_run 728 4 ls (.ref b :: st) h = if q_rcv h b 2 = true then (if x_wt st ≤ 8 ∧ x_wt [.ref b] = 1 then q_cl (x_m 9 [.ref b] h) (fun v h' => x_run 728 7 ls (v.toList ++ st) h') else none) else none := xe_virt (r := []) ec728 dX7_meanCost_4 ek7_260 rfl (by decide +kernel) (by decide +kernel)
theorem e728_7 {ls st : List Value} {h : x_H} {x : Int32}: x_run 728 7 ls (.int x :: st) h = q_ls ls 1 (.int x) (fun ls' => x_run 728 8 ls' st h) := xe_istore_n ec728 dX7_meanCost_7
theorem e728_8 {ls st : List Value} {h : x_H} : x_run 728 8 ls st h = q_gi ls 1 (fun v => x_run 728 9 ls (.int v :: st) h) := xe_iload_n ec728 dX7_meanCost_8
theorem e728_9 {ls st : List Value} {h : x_H} {x : Int32}: x_run 728 9 ls (.int x :: st) h = if ¬ x = 0 then x_run 728 23 ls st h else x_run 728 12 ls st h := xe_if_ne ec728 dX7_meanCost_9 rfl
theorem e728_12 {ls st : List Value} {h : x_H} : x_run 728 12 ls st h = if x_wt st ≤ 8 ∧ h.2.1 ≤ h.2.2.1 then some (.inr "java/lang/ArithmeticException", (h.1, h.2.1, h.2.2.1 + 1, h.2.2.2 + 6)) else none := xe_newthrow ec728 dX7_meanCost_12 (by decide +kernel) (by decide +kernel)
theorem e728_23 {ls st : List Value} {h : x_H} : x_run 728 23 ls st h = q_gr ls 0 (fun v => x_run 728 24 ls (.ref v :: st) h) := xe_aload_n ec728 dX7_meanCost_23
theorem e728_24 {ls st : List Value} {h : x_H} {a : Nat}: x_run 728 24 ls (.ref a :: st) h = q_gf h a 9 0 (fun v => x_run 728 27 ls (v :: st) h) := xe_getfield ec728 dX7_meanCost_24 ef7_12
theorem e728_27 {ls st : List Value} {h : x_H} : x_run 728 27 ls st h = q_gr ls 0 (fun v => x_run 728 28 ls (.ref v :: st) h) := xe_aload_n ec728 dX7_meanCost_27
theorem e728_28 {ls st : List Value} {h : x_H} {a : Nat}: x_run 728 28 ls (.ref a :: st) h = q_gf h a 9 0 (fun v => x_run 728 31 ls (v :: st) h) := xe_getfield ec728 dX7_meanCost_28 ef7_12
theorem e728_31 {ls st : List Value} {h : x_H} {a : Nat}: x_run 728 31 ls (.ref a :: st) h = q_gf h a 2 5 (fun v => x_run 728 34 ls (v :: st) h) := xe_getfield ec728 dX7_meanCost_31 ef7_109
theorem e728_34 {ls st : List Value} {h : x_H} {b : Nat} {a1 : Value}: x_run 728 34 ls (a1 :: .ref b :: st) h = if q_rcv h b 2 = true then (if x_wt st ≤ 8 ∧ x_wt [.ref b, a1] = 2 then q_cl (x_m 11 [.ref b, a1] h) (fun v h' => x_run 728 37 ls (v.toList ++ st) h') else none) else none := xe_virt (r := [a1]) ec728 dX7_meanCost_34 ek7_181 rfl (by decide +kernel) (by decide +kernel)
theorem e728_37 {ls st : List Value} {h : x_H} {x : Int32}: x_run 728 37 ls (.int x :: st) h = x_run 728 38 ls (.float (FP.i2f x) :: st) h := xe_i2f ec728 dX7_meanCost_37
theorem e728_38 {ls st : List Value} {h : x_H} : x_run 728 38 ls st h = q_gi ls 1 (fun v => x_run 728 39 ls (.int v :: st) h) := xe_iload_n ec728 dX7_meanCost_38
theorem e728_39 {ls st : List Value} {h : x_H} {x : Int32}: x_run 728 39 ls (.int x :: st) h = x_run 728 40 ls (.float (FP.i2f x) :: st) h := xe_i2f ec728 dX7_meanCost_39
theorem e728_40 {ls st : List Value} {h : x_H} {v w : UInt32}: x_run 728 40 ls (.float v :: .float w :: st) h = if FP.fdiv w v &&& 0x7fffffff ≤ 0x7f800000 then x_run 728 41 ls (.float (FP.fdiv w v) :: st) h else none := xe_fdiv ec728 dX7_meanCost_40
theorem e728_41 {ls : List Value} {h : x_H} {u : UInt32} : x_run 728 41 ls [.float u] h = some (.inl (some (.float u)), h) := xe_freturn ec728 dX7_meanCost_41 rfl
theorem ec729 : x_code 729 = cX7_filledShare := rfl
theorem e729_0 {ls st : List Value} {h : x_H} : x_run 729 0 ls st h = x_run 729 2 ls (.int (q_i 96) :: st) h := xe_bipush ec729 dX7_filledShare_0 (by decide)
theorem e729_2 {ls st : List Value} {h : x_H} : x_run 729 2 ls st h = q_gr ls 0 (fun v => x_run 729 3 ls (.ref v :: st) h) := xe_aload_n ec729 dX7_filledShare_2
theorem e729_3 {ls st : List Value} {h : x_H} {a : Nat}: x_run 729 3 ls (.ref a :: st) h = q_gf h a 9 0 (fun v => x_run 729 6 ls (v :: st) h) := xe_getfield ec729 dX7_filledShare_3 ef7_12
theorem e729_6 {ls st : List Value} {h : x_H} : x_run 729 6 ls st h = x_run 729 7 ls (.int (q_i (-1)) :: st) h := xe_iconst ec729 dX7_filledShare_6
theorem e729_7 {ls st : List Value} {h : x_H} {b : Nat} {a1 : Value}: x_run 729 7 ls (a1 :: .ref b :: st) h = if q_rcv h b 2 = true then (if x_wt st ≤ 8 ∧ x_wt [.ref b, a1] = 2 then q_cl (x_m 7 [.ref b, a1] h) (fun v h' => x_run 729 10 ls (v.toList ++ st) h') else none) else none := xe_virt (r := [a1]) ec729 dX7_filledShare_7 ek7_175 rfl (by decide +kernel) (by decide +kernel)
theorem e729_10 {ls st : List Value} {h : x_H} {x y : Int32}: x_run 729 10 ls (.int y :: .int x :: st) h = x_run 729 11 ls (.int (x - y) :: st) h := xe_isub ec729 dX7_filledShare_10
theorem e729_11 {ls st : List Value} {h : x_H} {x : Int32}: x_run 729 11 ls (.int x :: st) h = x_run 729 12 ls (.double (FP.i2d x) :: st) h := xe_i2d ec729 dX7_filledShare_11
theorem e729_12 {ls st : List Value} {h : x_H} : x_run 729 12 ls st h = x_run 729 15 ls (.double 4636455816377925632 :: st) h := xe_ldc2 ec729 dX7_filledShare_12 (by decide +kernel)
theorem e729_15 {ls st : List Value} {h : x_H} {v w : UInt64}: x_run 729 15 ls (.double v :: .double w :: st) h = if FP.ddiv w v &&& 0x7fffffffffffffff ≤ 0x7ff0000000000000 then x_run 729 16 ls (.double (FP.ddiv w v) :: st) h else none := xe_ddiv ec729 dX7_filledShare_15
theorem e729_16 {ls : List Value} {h : x_H} {u : UInt64} : x_run 729 16 ls [.double u] h = some (.inl (some (.double u)), h) := xe_dreturn ec729 dX7_filledShare_16 rfl
theorem ec730 : x_code 730 = cX7_account := rfl
theorem e730_0 {ls st : List Value} {h : x_H} : x_run 730 0 ls st h = q_gi ls 1 (fun v => x_run 730 1 ls (.int v :: st) h) := xe_iload_n ec730 dX7_account_0
theorem e730_1 {ls st : List Value} {h : x_H} {x : Int32}: x_run 730 1 ls (.int x :: st) h = q_so 1 (x_tsw 164 0 9 #[55, 63, 71, 86, 94, 103, 118, 133, 148, 156] x) (fun t => x_run 730 t ls st h) := xe_tsw ec730 dX7_account_1
theorem e730_56 {ls st : List Value} {h : x_H} : x_run 730 56 ls st h = q_gr ls 0 (fun v => x_run 730 57 ls (.ref v :: st) h) := xe_aload_n ec730 dX7_account_56
theorem e730_57 {ls st : List Value} {h : x_H} {a : Nat}: x_run 730 57 ls (.ref a :: st) h = q_gf h a 9 0 (fun v => x_run 730 60 ls (v :: st) h) := xe_getfield ec730 dX7_account_57 ef7_12
theorem e730_60 {ls st : List Value} {h : x_H} {a : Nat}: x_run 730 60 ls (.ref a :: st) h = q_gf h a 2 0 (fun v => x_run 730 63 ls (v :: st) h) := xe_getfield ec730 dX7_account_60 ef7_188
theorem e730_63 {ls : List Value} {h : x_H} {x : Int32} : x_run 730 63 ls [.int x] h = if narrow .int (.int x) = .int x then some (.inl (some (.int x)), h) else none := xe_ireturn ec730 dX7_account_63 rfl
theorem e730_64 {ls st : List Value} {h : x_H} : x_run 730 64 ls st h = q_gr ls 0 (fun v => x_run 730 65 ls (.ref v :: st) h) := xe_aload_n ec730 dX7_account_64
theorem e730_65 {ls st : List Value} {h : x_H} {a : Nat}: x_run 730 65 ls (.ref a :: st) h = q_gf h a 9 0 (fun v => x_run 730 68 ls (v :: st) h) := xe_getfield ec730 dX7_account_65 ef7_12
theorem e730_68 {ls st : List Value} {h : x_H} {b : Nat}: x_run 730 68 ls (.ref b :: st) h = if q_rcv h b 2 = true then (if x_wt st ≤ 8 ∧ x_wt [.ref b] = 1 then q_cl (x_m 9 [.ref b] h) (fun v h' => x_run 730 71 ls (v.toList ++ st) h') else none) else none := xe_virt (r := []) ec730 dX7_account_68 ek7_260 rfl (by decide +kernel) (by decide +kernel)
theorem e730_71 {ls : List Value} {h : x_H} {x : Int32} : x_run 730 71 ls [.int x] h = if narrow .int (.int x) = .int x then some (.inl (some (.int x)), h) else none := xe_ireturn ec730 dX7_account_71 rfl
theorem e730_72 {ls st : List Value} {h : x_H} : x_run 730 72 ls st h = q_gr ls 0 (fun v => x_run 730 73 ls (.ref v :: st) h) := xe_aload_n ec730 dX7_account_72
theorem e730_73 {ls st : List Value} {h : x_H} {a : Nat}: x_run 730 73 ls (.ref a :: st) h = q_gf h a 9 0 (fun v => x_run 730 76 ls (v :: st) h) := xe_getfield ec730 dX7_account_73 ef7_12
theorem e730_76 {ls st : List Value} {h : x_H} : x_run 730 76 ls st h = q_gr ls 0 (fun v => x_run 730 77 ls (.ref v :: st) h) := xe_aload_n ec730 dX7_account_76
theorem e730_77 {ls st : List Value} {h : x_H} {a : Nat}: x_run 730 77 ls (.ref a :: st) h = q_gf h a 9 0 (fun v => x_run 730 80 ls (v :: st) h) := xe_getfield ec730 dX7_account_77 ef7_12
theorem e730_80 {ls st : List Value} {h : x_H} {a : Nat}: x_run 730 80 ls (.ref a :: st) h = q_gf h a 2 4 (fun v => x_run 730 83 ls (v :: st) h) := xe_getfield ec730 dX7_account_80 ef7_102
theorem e730_83 {ls st : List Value} {h : x_H} {b : Nat} {a1 : Value}: x_run 730 83 ls (a1 :: .ref b :: st) h = if q_rcv h b 2 = true then (if x_wt st ≤ 8 ∧ x_wt [.ref b, a1] = 2 then q_cl (x_m 11 [.ref b, a1] h) (fun v h' => x_run 730 86 ls (v.toList ++ st) h') else none) else none := xe_virt (r := [a1]) ec730 dX7_account_83 ek7_181 rfl (by decide +kernel) (by decide +kernel)
theorem e730_86 {ls : List Value} {h : x_H} {x : Int32} : x_run 730 86 ls [.int x] h = if narrow .int (.int x) = .int x then some (.inl (some (.int x)), h) else none := xe_ireturn ec730 dX7_account_86 rfl
theorem e730_87 {ls st : List Value} {h : x_H} : x_run 730 87 ls st h = q_gr ls 0 (fun v => x_run 730 88 ls (.ref v :: st) h) := xe_aload_n ec730 dX7_account_87
theorem e730_88 {ls st : List Value} {h : x_H} {a : Nat}: x_run 730 88 ls (.ref a :: st) h = q_gf h a 9 0 (fun v => x_run 730 91 ls (v :: st) h) := xe_getfield ec730 dX7_account_88 ef7_12
theorem e730_91 {ls st : List Value} {h : x_H} {a : Nat}: x_run 730 91 ls (.ref a :: st) h = q_gf h a 2 1 (fun v => x_run 730 94 ls (v :: st) h) := xe_getfield ec730 dX7_account_91 ef7_270
theorem e730_94 {ls : List Value} {h : x_H} {x : Int32} : x_run 730 94 ls [.int x] h = if narrow .int (.int x) = .int x then some (.inl (some (.int x)), h) else none := xe_ireturn ec730 dX7_account_94 rfl
theorem e730_95 {ls st : List Value} {h : x_H} : x_run 730 95 ls st h = q_gr ls 0 (fun v => x_run 730 96 ls (.ref v :: st) h) := xe_aload_n ec730 dX7_account_95
theorem e730_96 {ls st : List Value} {h : x_H} {a : Nat}: x_run 730 96 ls (.ref a :: st) h = q_gf h a 9 0 (fun v => x_run 730 99 ls (v :: st) h) := xe_getfield ec730 dX7_account_96 ef7_12
theorem e730_99 {ls st : List Value} {h : x_H} : x_run 730 99 ls st h = x_run 730 100 ls (.int (q_i (-1)) :: st) h := xe_iconst ec730 dX7_account_99
theorem e730_100 {ls st : List Value} {h : x_H} {b : Nat} {a1 : Value}: x_run 730 100 ls (a1 :: .ref b :: st) h = if q_rcv h b 2 = true then (if x_wt st ≤ 8 ∧ x_wt [.ref b, a1] = 2 then q_cl (x_m 7 [.ref b, a1] h) (fun v h' => x_run 730 103 ls (v.toList ++ st) h') else none) else none := xe_virt (r := [a1]) ec730 dX7_account_100 ek7_175 rfl (by decide +kernel) (by decide +kernel)
theorem e730_103 {ls : List Value} {h : x_H} {x : Int32} : x_run 730 103 ls [.int x] h = if narrow .int (.int x) = .int x then some (.inl (some (.int x)), h) else none := xe_ireturn ec730 dX7_account_103 rfl
theorem e730_104 {ls st : List Value} {h : x_H} : x_run 730 104 ls st h = q_gr ls 0 (fun v => x_run 730 105 ls (.ref v :: st) h) := xe_aload_n ec730 dX7_account_104
theorem e730_105 {ls st : List Value} {h : x_H} {a : Nat}: x_run 730 105 ls (.ref a :: st) h = q_gf h a 9 0 (fun v => x_run 730 108 ls (v :: st) h) := xe_getfield ec730 dX7_account_105 ef7_12
theorem e730_108 {ls st : List Value} {h : x_H} : x_run 730 108 ls st h = q_gr ls 0 (fun v => x_run 730 109 ls (.ref v :: st) h) := xe_aload_n ec730 dX7_account_108
theorem e730_109 {ls st : List Value} {h : x_H} {a : Nat}: x_run 730 109 ls (.ref a :: st) h = q_gf h a 9 0 (fun v => x_run 730 112 ls (v :: st) h) := xe_getfield ec730 dX7_account_109 ef7_12
theorem e730_112 {ls st : List Value} {h : x_H} {a : Nat}: x_run 730 112 ls (.ref a :: st) h = q_gf h a 2 6 (fun v => x_run 730 115 ls (v :: st) h) := xe_getfield ec730 dX7_account_112 ef7_112
theorem e730_115 {ls st : List Value} {h : x_H} {b : Nat} {a1 : Value}: x_run 730 115 ls (a1 :: .ref b :: st) h = if q_rcv h b 2 = true then (if x_wt st ≤ 8 ∧ x_wt [.ref b, a1] = 2 then q_cl (x_m 11 [.ref b, a1] h) (fun v h' => x_run 730 118 ls (v.toList ++ st) h') else none) else none := xe_virt (r := [a1]) ec730 dX7_account_115 ek7_181 rfl (by decide +kernel) (by decide +kernel)
theorem e730_118 {ls : List Value} {h : x_H} {x : Int32} : x_run 730 118 ls [.int x] h = if narrow .int (.int x) = .int x then some (.inl (some (.int x)), h) else none := xe_ireturn ec730 dX7_account_118 rfl
theorem e730_119 {ls st : List Value} {h : x_H} : x_run 730 119 ls st h = q_gr ls 0 (fun v => x_run 730 120 ls (.ref v :: st) h) := xe_aload_n ec730 dX7_account_119
theorem e730_120 {ls st : List Value} {h : x_H} {a : Nat}: x_run 730 120 ls (.ref a :: st) h = q_gf h a 9 0 (fun v => x_run 730 123 ls (v :: st) h) := xe_getfield ec730 dX7_account_120 ef7_12
theorem e730_123 {ls st : List Value} {h : x_H} : x_run 730 123 ls st h = q_gr ls 0 (fun v => x_run 730 124 ls (.ref v :: st) h) := xe_aload_n ec730 dX7_account_123
theorem e730_124 {ls st : List Value} {h : x_H} {a : Nat}: x_run 730 124 ls (.ref a :: st) h = q_gf h a 9 0 (fun v => x_run 730 127 ls (v :: st) h) := xe_getfield ec730 dX7_account_124 ef7_12
theorem e730_127 {ls st : List Value} {h : x_H} {a : Nat}: x_run 730 127 ls (.ref a :: st) h = q_gf h a 2 5 (fun v => x_run 730 130 ls (v :: st) h) := xe_getfield ec730 dX7_account_127 ef7_109
theorem e730_130 {ls st : List Value} {h : x_H} {b : Nat} {a1 : Value}: x_run 730 130 ls (a1 :: .ref b :: st) h = if q_rcv h b 2 = true then (if x_wt st ≤ 8 ∧ x_wt [.ref b, a1] = 2 then q_cl (x_m 11 [.ref b, a1] h) (fun v h' => x_run 730 133 ls (v.toList ++ st) h') else none) else none := xe_virt (r := [a1]) ec730 dX7_account_130 ek7_181 rfl (by decide +kernel) (by decide +kernel)
theorem e730_133 {ls : List Value} {h : x_H} {x : Int32} : x_run 730 133 ls [.int x] h = if narrow .int (.int x) = .int x then some (.inl (some (.int x)), h) else none := xe_ireturn ec730 dX7_account_133 rfl
theorem e730_134 {ls st : List Value} {h : x_H} : x_run 730 134 ls st h = q_gr ls 0 (fun v => x_run 730 135 ls (.ref v :: st) h) := xe_aload_n ec730 dX7_account_134
theorem e730_135 {ls st : List Value} {h : x_H} {a : Nat}: x_run 730 135 ls (.ref a :: st) h = q_gf h a 9 0 (fun v => x_run 730 138 ls (v :: st) h) := xe_getfield ec730 dX7_account_135 ef7_12
theorem e730_138 {ls st : List Value} {h : x_H} : x_run 730 138 ls st h = q_gr ls 0 (fun v => x_run 730 139 ls (.ref v :: st) h) := xe_aload_n ec730 dX7_account_138
theorem e730_139 {ls st : List Value} {h : x_H} {a : Nat}: x_run 730 139 ls (.ref a :: st) h = q_gf h a 9 0 (fun v => x_run 730 142 ls (v :: st) h) := xe_getfield ec730 dX7_account_139 ef7_12
theorem e730_142 {ls st : List Value} {h : x_H} {a : Nat}: x_run 730 142 ls (.ref a :: st) h = q_gf h a 2 8 (fun v => x_run 730 145 ls (v :: st) h) := xe_getfield ec730 dX7_account_142 ef7_118
theorem e730_145 {ls st : List Value} {h : x_H} {b : Nat} {a1 : Value}: x_run 730 145 ls (a1 :: .ref b :: st) h = if q_rcv h b 2 = true then (if x_wt st ≤ 8 ∧ x_wt [.ref b, a1] = 2 then q_cl (x_m 11 [.ref b, a1] h) (fun v h' => x_run 730 148 ls (v.toList ++ st) h') else none) else none := xe_virt (r := [a1]) ec730 dX7_account_145 ek7_181 rfl (by decide +kernel) (by decide +kernel)
theorem e730_148 {ls : List Value} {h : x_H} {x : Int32} : x_run 730 148 ls [.int x] h = if narrow .int (.int x) = .int x then some (.inl (some (.int x)), h) else none := xe_ireturn ec730 dX7_account_148 rfl
theorem e730_149 {ls st : List Value} {h : x_H} : x_run 730 149 ls st h = q_gr ls 0 (fun v => x_run 730 150 ls (.ref v :: st) h) := xe_aload_n ec730 dX7_account_149
theorem e730_150 {ls st : List Value} {h : x_H} {a : Nat}: x_run 730 150 ls (.ref a :: st) h = q_gf h a 9 4 (fun v => x_run 730 153 ls (v :: st) h) := xe_getfield ec730 dX7_account_150 ef7_44
theorem e730_153 {ls st : List Value} {h : x_H} {a : Nat}: x_run 730 153 ls (.ref a :: st) h = q_gf h a 5 4 (fun v => x_run 730 156 ls (v :: st) h) := xe_getfield ec730 dX7_account_153 ef7_273
theorem e730_156 {ls : List Value} {h : x_H} {x : Int32} : x_run 730 156 ls [.int x] h = if narrow .int (.int x) = .int x then some (.inl (some (.int x)), h) else none := xe_ireturn ec730 dX7_account_156 rfl
theorem e730_157 {ls st : List Value} {h : x_H} : x_run 730 157 ls st h = q_gr ls 0 (fun v => x_run 730 158 ls (.ref v :: st) h) := xe_aload_n ec730 dX7_account_157
theorem e730_158 {ls st : List Value} {h : x_H} {a : Nat}: x_run 730 158 ls (.ref a :: st) h = q_gf h a 9 5 (fun v => x_run 730 161 ls (v :: st) h) := xe_getfield ec730 dX7_account_158 ef7_51
theorem e730_161 {ls st : List Value} {h : x_H} {a : Nat}: x_run 730 161 ls (.ref a :: st) h = q_gf h a 4 1 (fun v => x_run 730 164 ls (v :: st) h) := xe_getfield ec730 dX7_account_161 ef7_196
theorem e730_164 {ls : List Value} {h : x_H} {x : Int32} : x_run 730 164 ls [.int x] h = if narrow .int (.int x) = .int x then some (.inl (some (.int x)), h) else none := xe_ireturn ec730 dX7_account_164 rfl
theorem e730_165 {ls st : List Value} {h : x_H} : x_run 730 165 ls st h = if x_wt st ≤ 8 ∧ h.2.1 ≤ h.2.2.1 then some (.inr "java/lang/IllegalArgumentException", (h.1, h.2.1, h.2.2.1 + 1, h.2.2.2 + 6)) else none := xe_newthrow ec730 dX7_account_165 (by decide +kernel) (by decide +kernel)
theorem ec731 : x_code 731 = cX7_undo := rfl
theorem e731_0 {ls st : List Value} {h : x_H} : x_run 731 0 ls st h = q_gr ls 0 (fun v => x_run 731 1 ls (.ref v :: st) h) := xe_aload_n ec731 dX7_undo_0
theorem e731_1 {ls st : List Value} {h : x_H} {a : Nat}: x_run 731 1 ls (.ref a :: st) h = q_gf h a 9 4 (fun v => x_run 731 4 ls (v :: st) h) := xe_getfield ec731 dX7_undo_1 ef7_44
theorem e731_4 {ls st : List Value} {h : x_H} {a : Nat}: x_run 731 4 ls (.ref a :: st) h = q_gf h a 5 4 (fun v => x_run 731 7 ls (v :: st) h) := xe_getfield ec731 dX7_undo_4 ef7_273
theorem e731_7 {ls st : List Value} {h : x_H} {x : Int32}: x_run 731 7 ls (.int x :: st) h = if ¬ x = 0 then x_run 731 21 ls st h else x_run 731 10 ls st h := xe_if_ne ec731 dX7_undo_7 rfl
theorem e731_10 {ls st : List Value} {h : x_H} : x_run 731 10 ls st h = if x_wt st ≤ 8 ∧ h.2.1 ≤ h.2.2.1 then some (.inr "java/lang/IllegalStateException", (h.1, h.2.1, h.2.2.1 + 1, h.2.2.2 + 6)) else none := xe_newthrow ec731 dX7_undo_10 (by decide +kernel) (by decide +kernel)
theorem e731_21 {ls st : List Value} {h : x_H} : x_run 731 21 ls st h = q_gr ls 0 (fun v => x_run 731 22 ls (.ref v :: st) h) := xe_aload_n ec731 dX7_undo_21
theorem e731_22 {ls st : List Value} {h : x_H} {a : Nat}: x_run 731 22 ls (.ref a :: st) h = q_gf h a 9 4 (fun v => x_run 731 25 ls (v :: st) h) := xe_getfield ec731 dX7_undo_22 ef7_44
theorem e731_25 {ls st : List Value} {h : x_H} {b : Nat}: x_run 731 25 ls (.ref b :: st) h = if q_rcv h b 5 = true then (if x_wt st ≤ 8 ∧ x_wt [.ref b] = 1 then q_cl (x_m 304 [.ref b] h) (fun v h' => x_run 731 28 ls (v.toList ++ st) h') else none) else none := xe_virt (r := []) ec731 dX7_undo_25 ek7_280 rfl (by decide +kernel) (by decide +kernel)
theorem e731_28 {ls st : List Value} {h : x_H} : x_run 731 28 ls st h = q_gr ls 0 (fun v => x_run 731 29 ls (.ref v :: st) h) := xe_aload_n ec731 dX7_undo_28
theorem e731_29 {ls st : List Value} {h : x_H} {a : Nat}: x_run 731 29 ls (.ref a :: st) h = q_gf h a 9 4 (fun v => x_run 731 32 ls (v :: st) h) := xe_getfield ec731 dX7_undo_29 ef7_44
theorem e731_32 {ls st : List Value} {h : x_H} {a : Nat}: x_run 731 32 ls (.ref a :: st) h = q_gf h a 5 4 (fun v => x_run 731 35 ls (v :: st) h) := xe_getfield ec731 dX7_undo_32 ef7_273
theorem e731_35 {ls : List Value} {h : x_H} {x : Int32} : x_run 731 35 ls [.int x] h = if narrow .int (.int x) = .int x then some (.inl (some (.int x)), h) else none := xe_ireturn ec731 dX7_undo_35 rfl
theorem ec732 : x_code 732 = cX7_save := rfl
theorem e732_0 {ls st : List Value} {h : x_H} : x_run 732 0 ls st h = q_gr ls 0 (fun v => x_run 732 1 ls (.ref v :: st) h) := xe_aload_n ec732 dX7_save_0
theorem e732_1 {ls st : List Value} {h : x_H} {a : Nat}: x_run 732 1 ls (.ref a :: st) h = q_gf h a 9 4 (fun v => x_run 732 4 ls (v :: st) h) := xe_getfield ec732 dX7_save_1 ef7_44
theorem e732_4 {ls st : List Value} {h : x_H} {b : Nat}: x_run 732 4 ls (.ref b :: st) h = if q_rcv h b 5 = true then (if x_wt st ≤ 8 ∧ x_wt [.ref b] = 1 then q_cl (x_m 305 [.ref b] h) (fun v h' => x_run 732 7 ls (v.toList ++ st) h') else none) else none := xe_virt (r := []) ec732 dX7_save_4 ek7_283 rfl (by decide +kernel) (by decide +kernel)
theorem e732_7 {ls st : List Value} {h : x_H} : x_run 732 7 ls st h = q_gr ls 0 (fun v => x_run 732 8 ls (.ref v :: st) h) := xe_aload_n ec732 dX7_save_7
theorem e732_8 {ls st : List Value} {h : x_H} {a : Nat}: x_run 732 8 ls (.ref a :: st) h = q_gf h a 9 0 (fun v => x_run 732 11 ls (v :: st) h) := xe_getfield ec732 dX7_save_8 ef7_12
theorem e732_11 {ls st : List Value} {h : x_H} {a : Nat}: x_run 732 11 ls (.ref a :: st) h = q_gf h a 2 0 (fun v => x_run 732 14 ls (v :: st) h) := xe_getfield ec732 dX7_save_11 ef7_188
theorem e732_14 {ls : List Value} {h : x_H} {x : Int32} : x_run 732 14 ls [.int x] h = if narrow .int (.int x) = .int x then some (.inl (some (.int x)), h) else none := xe_ireturn ec732 dX7_save_14 rfl
theorem ec733 : x_code 733 = cX7_restore := rfl
theorem e733_0 {ls st : List Value} {h : x_H} : x_run 733 0 ls st h = q_gr ls 0 (fun v => x_run 733 1 ls (.ref v :: st) h) := xe_aload_n ec733 dX7_restore_0
theorem e733_1 {ls st : List Value} {h : x_H} {a : Nat}: x_run 733 1 ls (.ref a :: st) h = q_gf h a 9 4 (fun v => x_run 733 4 ls (v :: st) h) := xe_getfield ec733 dX7_restore_1 ef7_44
theorem e733_4 {ls st : List Value} {h : x_H} {a : Nat}: x_run 733 4 ls (.ref a :: st) h = q_gf h a 5 5 (fun v => x_run 733 7 ls (v :: st) h) := xe_getfield ec733 dX7_restore_4 ef7_286
theorem e733_7 {ls st : List Value} {h : x_H} {x : Int32}: x_run 733 7 ls (.int x :: st) h = if ¬ x = 0 then x_run 733 21 ls st h else x_run 733 10 ls st h := xe_if_ne ec733 dX7_restore_7 rfl
theorem e733_10 {ls st : List Value} {h : x_H} : x_run 733 10 ls st h = if x_wt st ≤ 8 ∧ h.2.1 ≤ h.2.2.1 then some (.inr "java/lang/IllegalStateException", (h.1, h.2.1, h.2.2.1 + 1, h.2.2.2 + 6)) else none := xe_newthrow ec733 dX7_restore_10 (by decide +kernel) (by decide +kernel)
theorem e733_21 {ls st : List Value} {h : x_H} : x_run 733 21 ls st h = q_gr ls 0 (fun v => x_run 733 22 ls (.ref v :: st) h) := xe_aload_n ec733 dX7_restore_21
theorem e733_22 {ls st : List Value} {h : x_H} {a : Nat}: x_run 733 22 ls (.ref a :: st) h = q_gf h a 9 4 (fun v => x_run 733 25 ls (v :: st) h) := xe_getfield ec733 dX7_restore_22 ef7_44
theorem e733_25 {ls st : List Value} {h : x_H} {b : Nat}: x_run 733 25 ls (.ref b :: st) h = if q_rcv h b 5 = true then (if x_wt st ≤ 8 ∧ x_wt [.ref b] = 1 then q_cl (x_m 306 [.ref b] h) (fun v h' => x_run 733 28 ls (v.toList ++ st) h') else none) else none := xe_virt (r := []) ec733 dX7_restore_25 ek7_292 rfl (by decide +kernel) (by decide +kernel)
theorem e733_28 {ls st : List Value} {h : x_H} : x_run 733 28 ls st h = q_gr ls 0 (fun v => x_run 733 29 ls (.ref v :: st) h) := xe_aload_n ec733 dX7_restore_28
theorem e733_29 {ls st : List Value} {h : x_H} {a : Nat}: x_run 733 29 ls (.ref a :: st) h = q_gf h a 9 0 (fun v => x_run 733 32 ls (v :: st) h) := xe_getfield ec733 dX7_restore_29 ef7_12
theorem e733_32 {ls st : List Value} {h : x_H} {a : Nat}: x_run 733 32 ls (.ref a :: st) h = q_gf h a 2 0 (fun v => x_run 733 35 ls (v :: st) h) := xe_getfield ec733 dX7_restore_32 ef7_188
theorem e733_35 {ls : List Value} {h : x_H} {x : Int32} : x_run 733 35 ls [.int x] h = if narrow .int (.int x) = .int x then some (.inl (some (.int x)), h) else none := xe_ireturn ec733 dX7_restore_35 rfl
theorem ec734 : x_code 734 = cX7_confirmed := rfl
theorem e734_0 {ls st : List Value} {h : x_H} : x_run 734 0 ls st h = q_gi ls 1 (fun v => x_run 734 1 ls (.int v :: st) h) := xe_iload_n ec734 dX7_confirmed_0
theorem e734_1 {ls st : List Value} {h : x_H} : x_run 734 1 ls st h = x_run 734 2 ls (.int (q_i (-1)) :: st) h := xe_iconst ec734 dX7_confirmed_1
theorem e734_2 {ls st : List Value} {h : x_H} {x y : Int32}: x_run 734 2 ls (.int y :: .int x :: st) h = if ¬ x = y then x_run 734 16 ls st h else x_run 734 5 ls st h := xe_ic_ne ec734 dX7_confirmed_2 rfl
theorem e734_5 {ls st : List Value} {h : x_H} : x_run 734 5 ls st h = if x_wt st ≤ 8 ∧ h.2.1 ≤ h.2.2.1 then some (.inr "java/lang/UnsupportedOperationException", (h.1, h.2.1, h.2.2.1 + 1, h.2.2.2 + 6)) else none := xe_newthrow ec734 dX7_confirmed_5 (by decide +kernel) (by decide +kernel)
theorem e734_16 {ls st : List Value} {h : x_H} : x_run 734 16 ls st h = q_gr ls 0 (fun v => x_run 734 17 ls (.ref v :: st) h) := xe_aload_n ec734 dX7_confirmed_16
theorem e734_17 {ls st : List Value} {h : x_H} {a : Nat}: x_run 734 17 ls (.ref a :: st) h = q_gf h a 9 4 (fun v => x_run 734 20 ls (v :: st) h) := xe_getfield ec734 dX7_confirmed_17 ef7_44
theorem e734_20 {ls st : List Value} {h : x_H} {b : Nat}: x_run 734 20 ls (.ref b :: st) h = if q_rcv h b 5 = true then (if x_wt st ≤ 8 ∧ x_wt [.ref b] = 1 then q_cl (x_m 302 [.ref b] h) (fun v h' => x_run 734 23 ls (v.toList ++ st) h') else none) else none := xe_virt (r := []) ec734 dX7_confirmed_20 ek7_230 rfl (by decide +kernel) (by decide +kernel)
theorem e734_23 {ls st : List Value} {h : x_H} : x_run 734 23 ls st h = q_gi ls 1 (fun v => x_run 734 24 ls (.int v :: st) h) := xe_iload_n ec734 dX7_confirmed_23
theorem e734_24 {ls : List Value} {h : x_H} {x : Int32} : x_run 734 24 ls [.int x] h = if narrow .int (.int x) = .int x then some (.inl (some (.int x)), h) else none := xe_ireturn ec734 dX7_confirmed_24 rfl
theorem ec735 : x_code 735 = cX7_carryOut := rfl
theorem e735_0 {ls st : List Value} {h : x_H} : x_run 735 0 ls st h = q_gr ls 0 (fun v => x_run 735 1 ls (.ref v :: st) h) := xe_aload_n ec735 dX7_carryOut_0
theorem e735_1 {ls st : List Value} {h : x_H} {a : Nat}: x_run 735 1 ls (.ref a :: st) h = q_gf h a 9 5 (fun v => x_run 735 4 ls (v :: st) h) := xe_getfield ec735 dX7_carryOut_1 ef7_51
theorem e735_4 {ls st : List Value} {h : x_H} : x_run 735 4 ls st h = q_gi ls 1 (fun v => x_run 735 5 ls (.int v :: st) h) := xe_iload_n ec735 dX7_carryOut_4
theorem e735_5 {ls st : List Value} {h : x_H} {b : Nat} {a1 : Value}: x_run 735 5 ls (a1 :: .ref b :: st) h = if q_rcv h b 4 = true then (if x_wt st ≤ 8 ∧ x_wt [.ref b, a1] = 2 then q_cl (x_m 202 [.ref b, a1] h) (fun v h' => x_run 735 8 ls (v.toList ++ st) h') else none) else none := xe_virt (r := [a1]) ec735 dX7_carryOut_5 ek7_297 rfl (by decide +kernel) (by decide +kernel)
theorem e735_8 {ls st : List Value} {h : x_H} {x : Int32}: x_run 735 8 ls (.int x :: st) h = q_ls ls 2 (.int x) (fun ls' => x_run 735 9 ls' st h) := xe_istore_n ec735 dX7_carryOut_8
theorem e735_9 {ls st : List Value} {h : x_H} : x_run 735 9 ls st h = q_gr ls 0 (fun v => x_run 735 10 ls (.ref v :: st) h) := xe_aload_n ec735 dX7_carryOut_9
theorem e735_10 {ls st : List Value} {h : x_H} {a : Nat}: x_run 735 10 ls (.ref a :: st) h = q_gf h a 9 5 (fun v => x_run 735 13 ls (v :: st) h) := xe_getfield ec735 dX7_carryOut_10 ef7_51
theorem e735_13 {ls st : List Value} {h : x_H} : x_run 735 13 ls st h = q_gi ls 1 (fun v => x_run 735 14 ls (.int v :: st) h) := xe_iload_n ec735 dX7_carryOut_13
theorem e735_14 {ls st : List Value} {h : x_H} : x_run 735 14 ls st h = x_run 735 15 ls (.int (q_i 1) :: st) h := xe_iconst ec735 dX7_carryOut_14
theorem e735_15 {ls st : List Value} {h : x_H} {x y : Int32}: x_run 735 15 ls (.int y :: .int x :: st) h = x_run 735 16 ls (.int (x + y) :: st) h := xe_iadd ec735 dX7_carryOut_15
theorem e735_16 {ls st : List Value} {h : x_H} {b : Nat} {a1 : Value}: x_run 735 16 ls (a1 :: .ref b :: st) h = if q_rcv h b 4 = true then (if x_wt st ≤ 8 ∧ x_wt [.ref b, a1] = 2 then q_cl (x_m 203 [.ref b, a1] h) (fun v h' => x_run 735 19 ls (v.toList ++ st) h') else none) else none := xe_virt (r := [a1]) ec735 dX7_carryOut_16 ek7_301 rfl (by decide +kernel) (by decide +kernel)
theorem e735_19 {ls st : List Value} {h : x_H} {x : Int32}: x_run 735 19 ls (.int x :: st) h = q_ls ls 3 (.int x) (fun ls' => x_run 735 20 ls' st h) := xe_istore_n ec735 dX7_carryOut_19
theorem e735_20 {ls st : List Value} {h : x_H} : x_run 735 20 ls st h = q_gi ls 2 (fun v => x_run 735 21 ls (.int v :: st) h) := xe_iload_n ec735 dX7_carryOut_20
theorem e735_21 {ls st : List Value} {h : x_H} : x_run 735 21 ls st h = x_run 735 23 ls (.int (q_i 114) :: st) h := xe_bipush ec735 dX7_carryOut_21 (by decide)
theorem e735_23 {ls st : List Value} {h : x_H} {x y : Int32}: x_run 735 23 ls (.int y :: .int x :: st) h = if x = y then x_run 735 32 ls st h else x_run 735 26 ls st h := xe_ic_eq ec735 dX7_carryOut_23 rfl
theorem e735_26 {ls st : List Value} {h : x_H} : x_run 735 26 ls st h = q_gi ls 2 (fun v => x_run 735 27 ls (.int v :: st) h) := xe_iload_n ec735 dX7_carryOut_26
theorem e735_27 {ls st : List Value} {h : x_H} : x_run 735 27 ls st h = x_run 735 29 ls (.int (q_i 104) :: st) h := xe_bipush ec735 dX7_carryOut_27 (by decide)
theorem e735_29 {ls st : List Value} {h : x_H} {x y : Int32}: x_run 735 29 ls (.int y :: .int x :: st) h = if ¬ x = y then x_run 735 52 ls st h else x_run 735 32 ls st h := xe_ic_ne ec735 dX7_carryOut_29 rfl
theorem e735_32 {ls st : List Value} {h : x_H} : x_run 735 32 ls st h = q_gr ls 0 (fun v => x_run 735 33 ls (.ref v :: st) h) := xe_aload_n ec735 dX7_carryOut_32
theorem e735_33 {ls st : List Value} {h : x_H} {a : Nat}: x_run 735 33 ls (.ref a :: st) h = q_gf h a 9 3 (fun v => x_run 735 36 ls (v :: st) h) := xe_getfield ec735 dX7_carryOut_33 ef7_37
theorem e735_36 {ls st : List Value} {h : x_H} : x_run 735 36 ls st h = q_gi ls 3 (fun v => x_run 735 37 ls (.int v :: st) h) := xe_iload_n ec735 dX7_carryOut_36
theorem e735_37 {ls st : List Value} {h : x_H} : x_run 735 37 ls st h = q_gi ls 2 (fun v => x_run 735 38 ls (.int v :: st) h) := xe_iload_n ec735 dX7_carryOut_37
theorem e735_38 {ls st : List Value} {h : x_H} : x_run 735 38 ls st h = x_run 735 40 ls (.int (q_i 104) :: st) h := xe_bipush ec735 dX7_carryOut_38 (by decide)
theorem e735_40 {ls st : List Value} {h : x_H} {x y : Int32}: x_run 735 40 ls (.int y :: .int x :: st) h = if ¬ x = y then x_run 735 47 ls st h else x_run 735 43 ls st h := xe_ic_ne ec735 dX7_carryOut_40 rfl
theorem e735_43 {ls st : List Value} {h : x_H} : x_run 735 43 ls st h = x_run 735 44 ls (.int (q_i 1) :: st) h := xe_iconst ec735 dX7_carryOut_43
theorem e735_44 {ls st : List Value} {h : x_H} : x_run 735 44 ls st h = x_run 735 48 ls st h := xe_goto ec735 dX7_carryOut_44 rfl
theorem e735_47 {ls st : List Value} {h : x_H} : x_run 735 47 ls st h = x_run 735 48 ls (.int (q_i 0) :: st) h := xe_iconst ec735 dX7_carryOut_47
theorem e735_48 {ls st : List Value} {h : x_H} {b : Nat} {a1 a2 : Value}: x_run 735 48 ls (a2 :: a1 :: .ref b :: st) h = if q_rcv h b 3 = true then (if x_wt st ≤ 8 ∧ x_wt [.ref b, a1, a2] = 3 then q_cl (x_m 105 [.ref b, a1, a2] h) (fun v h' => x_run 735 51 ls (v.toList ++ st) h') else none) else none := xe_virt (r := [a1, a2]) ec735 dX7_carryOut_48 ek7_87 rfl (by decide +kernel) (by decide +kernel)
theorem e735_51 {ls : List Value} {h : x_H} {x : Int32} : x_run 735 51 ls [.int x] h = if narrow .int (.int x) = .int x then some (.inl (some (.int x)), h) else none := xe_ireturn ec735 dX7_carryOut_51 rfl
theorem e735_52 {ls st : List Value} {h : x_H} : x_run 735 52 ls st h = q_gi ls 2 (fun v => x_run 735 53 ls (.int v :: st) h) := xe_iload_n ec735 dX7_carryOut_52
theorem e735_53 {ls st : List Value} {h : x_H} : x_run 735 53 ls st h = x_run 735 55 ls (.int (q_i 120) :: st) h := xe_bipush ec735 dX7_carryOut_53 (by decide)
theorem e735_55 {ls st : List Value} {h : x_H} {x y : Int32}: x_run 735 55 ls (.int y :: .int x :: st) h = if ¬ x = y then x_run 735 67 ls st h else x_run 735 58 ls st h := xe_ic_ne ec735 dX7_carryOut_55 rfl
theorem e735_58 {ls st : List Value} {h : x_H} : x_run 735 58 ls st h = q_gr ls 0 (fun v => x_run 735 59 ls (.ref v :: st) h) := xe_aload_n ec735 dX7_carryOut_58
theorem e735_59 {ls st : List Value} {h : x_H} {a : Nat}: x_run 735 59 ls (.ref a :: st) h = q_gf h a 9 3 (fun v => x_run 735 62 ls (v :: st) h) := xe_getfield ec735 dX7_carryOut_59 ef7_37
theorem e735_62 {ls st : List Value} {h : x_H} : x_run 735 62 ls st h = q_gi ls 3 (fun v => x_run 735 63 ls (.int v :: st) h) := xe_iload_n ec735 dX7_carryOut_62
theorem e735_63 {ls st : List Value} {h : x_H} {b : Nat} {a1 : Value}: x_run 735 63 ls (a1 :: .ref b :: st) h = if q_rcv h b 3 = true then (if x_wt st ≤ 8 ∧ x_wt [.ref b, a1] = 2 then q_cl (x_m 106 [.ref b, a1] h) (fun v h' => x_run 735 66 ls (v.toList ++ st) h') else none) else none := xe_virt (r := [a1]) ec735 dX7_carryOut_63 ek7_91 rfl (by decide +kernel) (by decide +kernel)
theorem e735_66 {ls : List Value} {h : x_H} {x : Int32} : x_run 735 66 ls [.int x] h = if narrow .int (.int x) = .int x then some (.inl (some (.int x)), h) else none := xe_ireturn ec735 dX7_carryOut_66 rfl
theorem e735_67 {ls st : List Value} {h : x_H} : x_run 735 67 ls st h = q_gi ls 2 (fun v => x_run 735 68 ls (.int v :: st) h) := xe_iload_n ec735 dX7_carryOut_67
theorem e735_68 {ls st : List Value} {h : x_H} : x_run 735 68 ls st h = x_run 735 70 ls (.int (q_i 112) :: st) h := xe_bipush ec735 dX7_carryOut_68 (by decide)
theorem e735_70 {ls st : List Value} {h : x_H} {x y : Int32}: x_run 735 70 ls (.int y :: .int x :: st) h = if ¬ x = y then x_run 735 102 ls st h else x_run 735 73 ls st h := xe_ic_ne ec735 dX7_carryOut_70 rfl
theorem e735_73 {ls st : List Value} {h : x_H} : x_run 735 73 ls st h = q_gr ls 0 (fun v => x_run 735 74 ls (.ref v :: st) h) := xe_aload_n ec735 dX7_carryOut_73
theorem e735_74 {ls st : List Value} {h : x_H} {a : Nat}: x_run 735 74 ls (.ref a :: st) h = q_gf h a 9 3 (fun v => x_run 735 77 ls (v :: st) h) := xe_getfield ec735 dX7_carryOut_74 ef7_37
theorem e735_77 {ls st : List Value} {h : x_H} : x_run 735 77 ls st h = q_gi ls 3 (fun v => x_run 735 78 ls (.int v :: st) h) := xe_iload_n ec735 dX7_carryOut_77
theorem e735_78 {ls st : List Value} {h : x_H} : x_run 735 78 ls st h = q_gr ls 0 (fun v => x_run 735 79 ls (.ref v :: st) h) := xe_aload_n ec735 dX7_carryOut_78
theorem e735_79 {ls st : List Value} {h : x_H} {a : Nat}: x_run 735 79 ls (.ref a :: st) h = q_gf h a 9 5 (fun v => x_run 735 82 ls (v :: st) h) := xe_getfield ec735 dX7_carryOut_79 ef7_51
theorem e735_82 {ls st : List Value} {h : x_H} : x_run 735 82 ls st h = q_gi ls 1 (fun v => x_run 735 83 ls (.int v :: st) h) := xe_iload_n ec735 dX7_carryOut_82
theorem e735_83 {ls st : List Value} {h : x_H} : x_run 735 83 ls st h = x_run 735 84 ls (.int (q_i 3) :: st) h := xe_iconst ec735 dX7_carryOut_83
theorem e735_84 {ls st : List Value} {h : x_H} {x y : Int32}: x_run 735 84 ls (.int y :: .int x :: st) h = x_run 735 85 ls (.int (x + y) :: st) h := xe_iadd ec735 dX7_carryOut_84
theorem e735_85 {ls st : List Value} {h : x_H} {b : Nat} {a1 : Value}: x_run 735 85 ls (a1 :: .ref b :: st) h = if q_rcv h b 4 = true then (if x_wt st ≤ 8 ∧ x_wt [.ref b, a1] = 2 then q_cl (x_m 203 [.ref b, a1] h) (fun v h' => x_run 735 88 ls (v.toList ++ st) h') else none) else none := xe_virt (r := [a1]) ec735 dX7_carryOut_85 ek7_301 rfl (by decide +kernel) (by decide +kernel)
theorem e735_88 {ls st : List Value} {h : x_H} : x_run 735 88 ls st h = q_gr ls 0 (fun v => x_run 735 89 ls (.ref v :: st) h) := xe_aload_n ec735 dX7_carryOut_88
theorem e735_89 {ls st : List Value} {h : x_H} {a : Nat}: x_run 735 89 ls (.ref a :: st) h = q_gf h a 9 5 (fun v => x_run 735 92 ls (v :: st) h) := xe_getfield ec735 dX7_carryOut_89 ef7_51
theorem e735_92 {ls st : List Value} {h : x_H} : x_run 735 92 ls st h = q_gi ls 1 (fun v => x_run 735 93 ls (.int v :: st) h) := xe_iload_n ec735 dX7_carryOut_92
theorem e735_93 {ls st : List Value} {h : x_H} : x_run 735 93 ls st h = x_run 735 94 ls (.int (q_i 4) :: st) h := xe_iconst ec735 dX7_carryOut_93
theorem e735_94 {ls st : List Value} {h : x_H} {x y : Int32}: x_run 735 94 ls (.int y :: .int x :: st) h = x_run 735 95 ls (.int (x + y) :: st) h := xe_iadd ec735 dX7_carryOut_94
theorem e735_95 {ls st : List Value} {h : x_H} {b : Nat} {a1 : Value}: x_run 735 95 ls (a1 :: .ref b :: st) h = if q_rcv h b 4 = true then (if x_wt st ≤ 8 ∧ x_wt [.ref b, a1] = 2 then q_cl (x_m 203 [.ref b, a1] h) (fun v h' => x_run 735 98 ls (v.toList ++ st) h') else none) else none := xe_virt (r := [a1]) ec735 dX7_carryOut_95 ek7_301 rfl (by decide +kernel) (by decide +kernel)
theorem e735_98 {ls st : List Value} {h : x_H} {b : Nat} {a1 a2 a3 : Value}: x_run 735 98 ls (a3 :: a2 :: a1 :: .ref b :: st) h = if q_rcv h b 3 = true then (if x_wt st ≤ 8 ∧ x_wt [.ref b, a1, a2, a3] = 4 then q_cl (x_m 102 [.ref b, a1, a2, a3] h) (fun v h' => x_run 735 101 ls (v.toList ++ st) h') else none) else none := xe_virt (r := [a1, a2, a3]) ec735 dX7_carryOut_98 ek7_77 rfl (by decide +kernel) (by decide +kernel)
theorem e735_101 {ls : List Value} {h : x_H} {x : Int32} : x_run 735 101 ls [.int x] h = if narrow .int (.int x) = .int x then some (.inl (some (.int x)), h) else none := xe_ireturn ec735 dX7_carryOut_101 rfl
theorem e735_102 {ls st : List Value} {h : x_H} : x_run 735 102 ls st h = q_gr ls 0 (fun v => x_run 735 103 ls (.ref v :: st) h) := xe_aload_n ec735 dX7_carryOut_102
theorem e735_103 {ls st : List Value} {h : x_H} {a : Nat}: x_run 735 103 ls (.ref a :: st) h = q_gf h a 9 3 (fun v => x_run 735 106 ls (v :: st) h) := xe_getfield ec735 dX7_carryOut_103 ef7_37
theorem e735_106 {ls st : List Value} {h : x_H} : x_run 735 106 ls st h = q_gi ls 3 (fun v => x_run 735 107 ls (.int v :: st) h) := xe_iload_n ec735 dX7_carryOut_106
theorem e735_107 {ls st : List Value} {h : x_H} : x_run 735 107 ls st h = q_gr ls 0 (fun v => x_run 735 108 ls (.ref v :: st) h) := xe_aload_n ec735 dX7_carryOut_107
theorem e735_108 {ls st : List Value} {h : x_H} {a : Nat}: x_run 735 108 ls (.ref a :: st) h = q_gf h a 9 5 (fun v => x_run 735 111 ls (v :: st) h) := xe_getfield ec735 dX7_carryOut_108 ef7_51
theorem e735_111 {ls st : List Value} {h : x_H} : x_run 735 111 ls st h = q_gi ls 1 (fun v => x_run 735 112 ls (.int v :: st) h) := xe_iload_n ec735 dX7_carryOut_111
theorem e735_112 {ls st : List Value} {h : x_H} : x_run 735 112 ls st h = x_run 735 113 ls (.int (q_i 2) :: st) h := xe_iconst ec735 dX7_carryOut_112
theorem e735_113 {ls st : List Value} {h : x_H} {x y : Int32}: x_run 735 113 ls (.int y :: .int x :: st) h = x_run 735 114 ls (.int (x + y) :: st) h := xe_iadd ec735 dX7_carryOut_113
theorem e735_114 {ls st : List Value} {h : x_H} {b : Nat} {a1 : Value}: x_run 735 114 ls (a1 :: .ref b :: st) h = if q_rcv h b 4 = true then (if x_wt st ≤ 8 ∧ x_wt [.ref b, a1] = 2 then q_cl (x_m 203 [.ref b, a1] h) (fun v h' => x_run 735 117 ls (v.toList ++ st) h') else none) else none := xe_virt (r := [a1]) ec735 dX7_carryOut_114 ek7_301 rfl (by decide +kernel) (by decide +kernel)
theorem e735_117 {ls st : List Value} {h : x_H} : x_run 735 117 ls st h = q_gr ls 0 (fun v => x_run 735 118 ls (.ref v :: st) h) := xe_aload_n ec735 dX7_carryOut_117
theorem e735_118 {ls st : List Value} {h : x_H} {a : Nat}: x_run 735 118 ls (.ref a :: st) h = q_gf h a 9 5 (fun v => x_run 735 121 ls (v :: st) h) := xe_getfield ec735 dX7_carryOut_118 ef7_51
theorem e735_121 {ls st : List Value} {h : x_H} : x_run 735 121 ls st h = q_gi ls 1 (fun v => x_run 735 122 ls (.int v :: st) h) := xe_iload_n ec735 dX7_carryOut_121
theorem e735_122 {ls st : List Value} {h : x_H} : x_run 735 122 ls st h = x_run 735 123 ls (.int (q_i 3) :: st) h := xe_iconst ec735 dX7_carryOut_122
theorem e735_123 {ls st : List Value} {h : x_H} {x y : Int32}: x_run 735 123 ls (.int y :: .int x :: st) h = x_run 735 124 ls (.int (x + y) :: st) h := xe_iadd ec735 dX7_carryOut_123
theorem e735_124 {ls st : List Value} {h : x_H} {b : Nat} {a1 : Value}: x_run 735 124 ls (a1 :: .ref b :: st) h = if q_rcv h b 4 = true then (if x_wt st ≤ 8 ∧ x_wt [.ref b, a1] = 2 then q_cl (x_m 203 [.ref b, a1] h) (fun v h' => x_run 735 127 ls (v.toList ++ st) h') else none) else none := xe_virt (r := [a1]) ec735 dX7_carryOut_124 ek7_301 rfl (by decide +kernel) (by decide +kernel)
theorem e735_127 {ls st : List Value} {h : x_H} {b : Nat} {a1 a2 a3 : Value}: x_run 735 127 ls (a3 :: a2 :: a1 :: .ref b :: st) h = if q_rcv h b 3 = true then (if x_wt st ≤ 8 ∧ x_wt [.ref b, a1, a2, a3] = 4 then q_cl (x_m 103 [.ref b, a1, a2, a3] h) (fun v h' => x_run 735 130 ls (v.toList ++ st) h') else none) else none := xe_virt (r := [a1, a2, a3]) ec735 dX7_carryOut_127 ek7_81 rfl (by decide +kernel) (by decide +kernel)
theorem e735_130 {ls : List Value} {h : x_H} {x : Int32} : x_run 735 130 ls [.int x] h = if narrow .int (.int x) = .int x then some (.inl (some (.int x)), h) else none := xe_ireturn ec735 dX7_carryOut_130 rfl
theorem ec736 : x_code 736 = cX7_checkNet := rfl
theorem e736_0 {ls st : List Value} {h : x_H} : x_run 736 0 ls st h = q_gr ls 0 (fun v => x_run 736 1 ls (.ref v :: st) h) := xe_aload_n ec736 dX7_checkNet_0
theorem e736_1 {ls st : List Value} {h : x_H} {a : Nat}: x_run 736 1 ls (.ref a :: st) h = q_gf h a 9 0 (fun v => x_run 736 4 ls (v :: st) h) := xe_getfield ec736 dX7_checkNet_1 ef7_12
theorem e736_4 {ls st : List Value} {h : x_H} : x_run 736 4 ls st h = q_gi ls 1 (fun v => x_run 736 5 ls (.int v :: st) h) := xe_iload_n ec736 dX7_checkNet_4
theorem e736_5 {ls st : List Value} {h : x_H} {b : Nat} {a1 : Value}: x_run 736 5 ls (a1 :: .ref b :: st) h = if q_rcv h b 2 = true then (if x_wt st ≤ 8 ∧ x_wt [.ref b, a1] = 2 then q_cl (x_m 2 [.ref b, a1] h) (fun v h' => x_run 736 8 ls (v.toList ++ st) h') else none) else none := xe_virt (r := [a1]) ec736 dX7_checkNet_5 ek7_304 rfl (by decide +kernel) (by decide +kernel)
theorem e736_8 {ls st : List Value} {h : x_H} {x : Int32}: x_run 736 8 ls (.int x :: st) h = if ¬ x = 0 then x_run 736 22 ls st h else x_run 736 11 ls st h := xe_if_ne ec736 dX7_checkNet_8 rfl
theorem e736_11 {ls st : List Value} {h : x_H} : x_run 736 11 ls st h = if x_wt st ≤ 8 ∧ h.2.1 ≤ h.2.2.1 then some (.inr "java/lang/IndexOutOfBoundsException", (h.1, h.2.1, h.2.2.1 + 1, h.2.2.2 + 6)) else none := xe_newthrow ec736 dX7_checkNet_11 (by decide +kernel) (by decide +kernel)
theorem e736_22 {ls : List Value} {h : x_H} : x_run 736 22 ls [] h = some (.inl (none), h) := xe_return ec736 dX7_checkNet_22 rfl
theorem ec737 : x_code 737 = cX7_checkPin := rfl
theorem e737_0 {ls st : List Value} {h : x_H} : x_run 737 0 ls st h = q_gr ls 0 (fun v => x_run 737 1 ls (.ref v :: st) h) := xe_aload_n ec737 dX7_checkPin_0
theorem e737_1 {ls st : List Value} {h : x_H} {a : Nat}: x_run 737 1 ls (.ref a :: st) h = q_gf h a 9 0 (fun v => x_run 737 4 ls (v :: st) h) := xe_getfield ec737 dX7_checkPin_1 ef7_12
theorem e737_4 {ls st : List Value} {h : x_H} : x_run 737 4 ls st h = q_gi ls 1 (fun v => x_run 737 5 ls (.int v :: st) h) := xe_iload_n ec737 dX7_checkPin_4
theorem e737_5 {ls st : List Value} {h : x_H} {b : Nat} {a1 : Value}: x_run 737 5 ls (a1 :: .ref b :: st) h = if q_rcv h b 2 = true then (if x_wt st ≤ 8 ∧ x_wt [.ref b, a1] = 2 then q_cl (x_m 2 [.ref b, a1] h) (fun v h' => x_run 737 8 ls (v.toList ++ st) h') else none) else none := xe_virt (r := [a1]) ec737 dX7_checkPin_5 ek7_304 rfl (by decide +kernel) (by decide +kernel)
theorem e737_8 {ls st : List Value} {h : x_H} {x : Int32}: x_run 737 8 ls (.int x :: st) h = if x = 0 then x_run 737 28 ls st h else x_run 737 11 ls st h := xe_if_eq ec737 dX7_checkPin_8 rfl
theorem e737_11 {ls st : List Value} {h : x_H} : x_run 737 11 ls st h = q_gi ls 2 (fun v => x_run 737 12 ls (.int v :: st) h) := xe_iload_n ec737 dX7_checkPin_11
theorem e737_12 {ls st : List Value} {h : x_H} {x : Int32}: x_run 737 12 ls (.int x :: st) h = if x < 0 then x_run 737 28 ls st h else x_run 737 15 ls st h := xe_if_lt ec737 dX7_checkPin_12 rfl
theorem e737_15 {ls st : List Value} {h : x_H} : x_run 737 15 ls st h = q_gi ls 2 (fun v => x_run 737 16 ls (.int v :: st) h) := xe_iload_n ec737 dX7_checkPin_15
theorem e737_16 {ls st : List Value} {h : x_H} : x_run 737 16 ls st h = q_gr ls 0 (fun v => x_run 737 17 ls (.ref v :: st) h) := xe_aload_n ec737 dX7_checkPin_16
theorem e737_17 {ls st : List Value} {h : x_H} {a : Nat}: x_run 737 17 ls (.ref a :: st) h = q_gf h a 9 0 (fun v => x_run 737 20 ls (v :: st) h) := xe_getfield ec737 dX7_checkPin_17 ef7_12
theorem e737_20 {ls st : List Value} {h : x_H} {a : Nat}: x_run 737 20 ls (.ref a :: st) h = q_gf h a 2 4 (fun v => x_run 737 23 ls (v :: st) h) := xe_getfield ec737 dX7_checkPin_20 ef7_102
theorem e737_23 {ls st : List Value} {h : x_H} : x_run 737 23 ls st h = q_gi ls 1 (fun v => x_run 737 24 ls (.int v :: st) h) := xe_iload_n ec737 dX7_checkPin_23
theorem e737_24 {ls st : List Value} {h : x_H} {x : Int32} {a : Nat}: x_run 737 24 ls (.int x :: .ref a :: st) h = q_ra h a 0 x (fun v => x_run 737 25 ls (.int v :: st) h) := xe_iaload ec737 dX7_checkPin_24
theorem e737_25 {ls st : List Value} {h : x_H} {x y : Int32}: x_run 737 25 ls (.int y :: .int x :: st) h = if x < y then x_run 737 39 ls st h else x_run 737 28 ls st h := xe_ic_lt ec737 dX7_checkPin_25 rfl
theorem e737_28 {ls st : List Value} {h : x_H} : x_run 737 28 ls st h = if x_wt st ≤ 8 ∧ h.2.1 ≤ h.2.2.1 then some (.inr "java/lang/IndexOutOfBoundsException", (h.1, h.2.1, h.2.2.1 + 1, h.2.2.2 + 6)) else none := xe_newthrow ec737 dX7_checkPin_28 (by decide +kernel) (by decide +kernel)
theorem e737_39 {ls : List Value} {h : x_H} : x_run 737 39 ls [] h = some (.inl (none), h) := xe_return ec737 dX7_checkPin_39 rfl
theorem ec738 : x_code 738 = cX7_checkCell := rfl
theorem e738_0 {ls st : List Value} {h : x_H} : x_run 738 0 ls st h = q_gi ls 1 (fun v => x_run 738 1 ls (.int v :: st) h) := xe_iload_n ec738 dX7_checkCell_0
theorem e738_1 {ls st : List Value} {h : x_H} : x_run 738 1 ls st h = q_gi ls 2 (fun v => x_run 738 2 ls (.int v :: st) h) := xe_iload_n ec738 dX7_checkCell_1
theorem e738_2 {ls st : List Value} {h : x_H} : x_run 738 2 ls st h = q_gi ls 3 (fun v => x_run 738 3 ls (.int v :: st) h) := xe_iload_n ec738 dX7_checkCell_2
theorem e738_3 {ls st : List Value} {h : x_H} {a1 a2 a3 : Value}: x_run 738 3 ls (a3 :: a2 :: a1 :: st) h = if x_wt st ≤ 8 ∧ x_wt [a1, a2, a3] = 3 then q_cl (x_m 739 [a1, a2, a3] h) (fun v h' => x_run 738 6 ls (v.toList ++ st) h') else none := xe_stat (args := [a1, a2, a3]) ec738 dX7_checkCell_3 ek7_312 (by decide) rfl (by decide +kernel) (by decide +kernel)
theorem e738_6 {ls st : List Value} {h : x_H} {x : Int32}: x_run 738 6 ls (.int x :: st) h = if ¬ x = 0 then x_run 738 20 ls st h else x_run 738 9 ls st h := xe_if_ne ec738 dX7_checkCell_6 rfl
theorem e738_9 {ls st : List Value} {h : x_H} : x_run 738 9 ls st h = if x_wt st ≤ 8 ∧ h.2.1 ≤ h.2.2.1 then some (.inr "java/lang/IndexOutOfBoundsException", (h.1, h.2.1, h.2.2.1 + 1, h.2.2.2 + 6)) else none := xe_newthrow ec738 dX7_checkCell_9 (by decide +kernel) (by decide +kernel)
theorem e738_20 {ls : List Value} {h : x_H} : x_run 738 20 ls [] h = some (.inl (none), h) := xe_return ec738 dX7_checkCell_20 rfl
theorem ec739 : x_code 739 = cX7_isCell := rfl
theorem e739_0 {ls st : List Value} {h : x_H} : x_run 739 0 ls st h = q_gi ls 0 (fun v => x_run 739 1 ls (.int v :: st) h) := xe_iload_n ec739 dX7_isCell_0
theorem e739_1 {ls st : List Value} {h : x_H} {x : Int32}: x_run 739 1 ls (.int x :: st) h = if x < 0 then x_run 739 33 ls st h else x_run 739 4 ls st h := xe_if_lt ec739 dX7_isCell_1 rfl
theorem e739_4 {ls st : List Value} {h : x_H} : x_run 739 4 ls st h = q_gi ls 0 (fun v => x_run 739 5 ls (.int v :: st) h) := xe_iload_n ec739 dX7_isCell_4
theorem e739_5 {ls st : List Value} {h : x_H} : x_run 739 5 ls st h = x_run 739 7 ls (.int (q_i 6) :: st) h := xe_bipush ec739 dX7_isCell_5 (by decide)
theorem e739_7 {ls st : List Value} {h : x_H} {x y : Int32}: x_run 739 7 ls (.int y :: .int x :: st) h = if y ≤ x then x_run 739 33 ls st h else x_run 739 10 ls st h := xe_ic_ge ec739 dX7_isCell_7 rfl
theorem e739_10 {ls st : List Value} {h : x_H} : x_run 739 10 ls st h = q_gi ls 1 (fun v => x_run 739 11 ls (.int v :: st) h) := xe_iload_n ec739 dX7_isCell_10
theorem e739_11 {ls st : List Value} {h : x_H} {x : Int32}: x_run 739 11 ls (.int x :: st) h = if x < 0 then x_run 739 33 ls st h else x_run 739 14 ls st h := xe_if_lt ec739 dX7_isCell_11 rfl
theorem e739_14 {ls st : List Value} {h : x_H} : x_run 739 14 ls st h = q_gi ls 1 (fun v => x_run 739 15 ls (.int v :: st) h) := xe_iload_n ec739 dX7_isCell_14
theorem e739_15 {ls st : List Value} {h : x_H} : x_run 739 15 ls st h = x_run 739 17 ls (.int (q_i 8) :: st) h := xe_bipush ec739 dX7_isCell_15 (by decide)
theorem e739_17 {ls st : List Value} {h : x_H} {x y : Int32}: x_run 739 17 ls (.int y :: .int x :: st) h = if y ≤ x then x_run 739 33 ls st h else x_run 739 20 ls st h := xe_ic_ge ec739 dX7_isCell_17 rfl
theorem e739_20 {ls st : List Value} {h : x_H} : x_run 739 20 ls st h = q_gi ls 2 (fun v => x_run 739 21 ls (.int v :: st) h) := xe_iload_n ec739 dX7_isCell_20
theorem e739_21 {ls st : List Value} {h : x_H} {x : Int32}: x_run 739 21 ls (.int x :: st) h = if x < 0 then x_run 739 33 ls st h else x_run 739 24 ls st h := xe_if_lt ec739 dX7_isCell_21 rfl
theorem e739_24 {ls st : List Value} {h : x_H} : x_run 739 24 ls st h = q_gi ls 2 (fun v => x_run 739 25 ls (.int v :: st) h) := xe_iload_n ec739 dX7_isCell_24
theorem e739_25 {ls st : List Value} {h : x_H} : x_run 739 25 ls st h = x_run 739 26 ls (.int (q_i 2) :: st) h := xe_iconst ec739 dX7_isCell_25
theorem e739_26 {ls st : List Value} {h : x_H} {x y : Int32}: x_run 739 26 ls (.int y :: .int x :: st) h = if y ≤ x then x_run 739 33 ls st h else x_run 739 29 ls st h := xe_ic_ge ec739 dX7_isCell_26 rfl
theorem e739_29 {ls st : List Value} {h : x_H} : x_run 739 29 ls st h = x_run 739 30 ls (.int (q_i 1) :: st) h := xe_iconst ec739 dX7_isCell_29
theorem e739_30 {ls st : List Value} {h : x_H} : x_run 739 30 ls st h = x_run 739 34 ls st h := xe_goto ec739 dX7_isCell_30 rfl
theorem e739_33 {ls st : List Value} {h : x_H} : x_run 739 33 ls st h = x_run 739 34 ls (.int (q_i 0) :: st) h := xe_iconst ec739 dX7_isCell_33
theorem e739_34 {ls : List Value} {h : x_H} {x : Int32} : x_run 739 34 ls [.int x] h = if narrow .boolean (.int x) = .int x then some (.inl (some (.int x)), h) else none := xe_ireturn ec739 dX7_isCell_34 rfl
theorem ec740 : x_code 740 = cX7_cellAt := rfl
theorem e740_0 {ls st : List Value} {h : x_H} : x_run 740 0 ls st h = q_gi ls 2 (fun v => x_run 740 1 ls (.int v :: st) h) := xe_iload_n ec740 dX7_cellAt_0
theorem e740_1 {ls st : List Value} {h : x_H} : x_run 740 1 ls st h = x_run 740 3 ls (.int (q_i 48) :: st) h := xe_bipush ec740 dX7_cellAt_1 (by decide)
theorem e740_3 {ls st : List Value} {h : x_H} {x y : Int32}: x_run 740 3 ls (.int y :: .int x :: st) h = x_run 740 4 ls (.int (x * y) :: st) h := xe_imul ec740 dX7_cellAt_3
theorem e740_4 {ls st : List Value} {h : x_H} : x_run 740 4 ls st h = q_gi ls 0 (fun v => x_run 740 5 ls (.int v :: st) h) := xe_iload_n ec740 dX7_cellAt_4
theorem e740_5 {ls st : List Value} {h : x_H} : x_run 740 5 ls st h = x_run 740 7 ls (.int (q_i 8) :: st) h := xe_bipush ec740 dX7_cellAt_5 (by decide)
theorem e740_7 {ls st : List Value} {h : x_H} {x y : Int32}: x_run 740 7 ls (.int y :: .int x :: st) h = x_run 740 8 ls (.int (x * y) :: st) h := xe_imul ec740 dX7_cellAt_7
theorem e740_8 {ls st : List Value} {h : x_H} {x y : Int32}: x_run 740 8 ls (.int y :: .int x :: st) h = x_run 740 9 ls (.int (x + y) :: st) h := xe_iadd ec740 dX7_cellAt_8
theorem e740_9 {ls st : List Value} {h : x_H} : x_run 740 9 ls st h = q_gi ls 1 (fun v => x_run 740 10 ls (.int v :: st) h) := xe_iload_n ec740 dX7_cellAt_9
theorem e740_10 {ls st : List Value} {h : x_H} {x y : Int32}: x_run 740 10 ls (.int y :: .int x :: st) h = x_run 740 11 ls (.int (x + y) :: st) h := xe_iadd ec740 dX7_cellAt_10
theorem e740_11 {ls : List Value} {h : x_H} {x : Int32} : x_run 740 11 ls [.int x] h = if narrow .int (.int x) = .int x then some (.inl (some (.int x)), h) else none := xe_ireturn ec740 dX7_cellAt_11 rfl
theorem ec741 : x_code 741 = cX7_beside := rfl
theorem e741_0 {ls st : List Value} {h : x_H} : x_run 741 0 ls st h = q_gi ls 0 (fun v => x_run 741 1 ls (.int v :: st) h) := xe_iload_n ec741 dX7_beside_0
theorem e741_1 {ls st : List Value} {h : x_H} : x_run 741 1 ls st h = x_run 741 3 ls (.int (q_i 48) :: st) h := xe_bipush ec741 dX7_beside_1 (by decide)
theorem e741_3 {ls st : List Value} {h : x_H} {x y : Int32}: x_run 741 3 ls (.int y :: .int x :: st) h = if y = 0 then none else x_run 741 4 ls (.int (x - (x / y) * y) :: st) h := xe_irem ec741 dX7_beside_3
theorem e741_4 {ls st : List Value} {h : x_H} {x : Int32}: x_run 741 4 ls (.int x :: st) h = q_ls ls 2 (.int x) (fun ls' => x_run 741 5 ls' st h) := xe_istore_n ec741 dX7_beside_4
theorem e741_5 {ls st : List Value} {h : x_H} : x_run 741 5 ls st h = q_gi ls 1 (fun v => x_run 741 6 ls (.int v :: st) h) := xe_iload_n ec741 dX7_beside_5
theorem e741_6 {ls st : List Value} {h : x_H} {x : Int32}: x_run 741 6 ls (.int x :: st) h = q_so 6 (x_tsw 92 0 3 #[30, 45, 60, 75] x) (fun t => x_run 741 t ls st h) := xe_tsw ec741 dX7_beside_6
theorem e741_36 {ls st : List Value} {h : x_H} : x_run 741 36 ls st h = q_gi ls 2 (fun v => x_run 741 37 ls (.int v :: st) h) := xe_iload_n ec741 dX7_beside_36
theorem e741_37 {ls st : List Value} {h : x_H} : x_run 741 37 ls st h = x_run 741 39 ls (.int (q_i 8) :: st) h := xe_bipush ec741 dX7_beside_37 (by decide)
theorem e741_39 {ls st : List Value} {h : x_H} {x y : Int32}: x_run 741 39 ls (.int y :: .int x :: st) h = if y ≤ x then x_run 741 46 ls st h else x_run 741 42 ls st h := xe_ic_ge ec741 dX7_beside_39 rfl
theorem e741_42 {ls st : List Value} {h : x_H} : x_run 741 42 ls st h = x_run 741 43 ls (.int (q_i (-1)) :: st) h := xe_iconst ec741 dX7_beside_42
theorem e741_43 {ls st : List Value} {h : x_H} : x_run 741 43 ls st h = x_run 741 50 ls st h := xe_goto ec741 dX7_beside_43 rfl
theorem e741_46 {ls st : List Value} {h : x_H} : x_run 741 46 ls st h = q_gi ls 0 (fun v => x_run 741 47 ls (.int v :: st) h) := xe_iload_n ec741 dX7_beside_46
theorem e741_47 {ls st : List Value} {h : x_H} : x_run 741 47 ls st h = x_run 741 49 ls (.int (q_i 8) :: st) h := xe_bipush ec741 dX7_beside_47 (by decide)
theorem e741_49 {ls st : List Value} {h : x_H} {x y : Int32}: x_run 741 49 ls (.int y :: .int x :: st) h = x_run 741 50 ls (.int (x - y) :: st) h := xe_isub ec741 dX7_beside_49
theorem e741_50 {ls : List Value} {h : x_H} {x : Int32} : x_run 741 50 ls [.int x] h = if narrow .int (.int x) = .int x then some (.inl (some (.int x)), h) else none := xe_ireturn ec741 dX7_beside_50 rfl
theorem e741_51 {ls st : List Value} {h : x_H} : x_run 741 51 ls st h = q_gi ls 2 (fun v => x_run 741 52 ls (.int v :: st) h) := xe_iload_n ec741 dX7_beside_51
theorem e741_52 {ls st : List Value} {h : x_H} : x_run 741 52 ls st h = x_run 741 54 ls (.int (q_i 40) :: st) h := xe_bipush ec741 dX7_beside_52 (by decide)
theorem e741_54 {ls st : List Value} {h : x_H} {x y : Int32}: x_run 741 54 ls (.int y :: .int x :: st) h = if x < y then x_run 741 61 ls st h else x_run 741 57 ls st h := xe_ic_lt ec741 dX7_beside_54 rfl
theorem e741_57 {ls st : List Value} {h : x_H} : x_run 741 57 ls st h = x_run 741 58 ls (.int (q_i (-1)) :: st) h := xe_iconst ec741 dX7_beside_57
theorem e741_58 {ls st : List Value} {h : x_H} : x_run 741 58 ls st h = x_run 741 65 ls st h := xe_goto ec741 dX7_beside_58 rfl
theorem e741_61 {ls st : List Value} {h : x_H} : x_run 741 61 ls st h = q_gi ls 0 (fun v => x_run 741 62 ls (.int v :: st) h) := xe_iload_n ec741 dX7_beside_61
theorem e741_62 {ls st : List Value} {h : x_H} : x_run 741 62 ls st h = x_run 741 64 ls (.int (q_i 8) :: st) h := xe_bipush ec741 dX7_beside_62 (by decide)
theorem e741_64 {ls st : List Value} {h : x_H} {x y : Int32}: x_run 741 64 ls (.int y :: .int x :: st) h = x_run 741 65 ls (.int (x + y) :: st) h := xe_iadd ec741 dX7_beside_64
theorem e741_65 {ls : List Value} {h : x_H} {x : Int32} : x_run 741 65 ls [.int x] h = if narrow .int (.int x) = .int x then some (.inl (some (.int x)), h) else none := xe_ireturn ec741 dX7_beside_65 rfl
theorem e741_66 {ls st : List Value} {h : x_H} : x_run 741 66 ls st h = q_gi ls 2 (fun v => x_run 741 67 ls (.int v :: st) h) := xe_iload_n ec741 dX7_beside_66
theorem e741_67 {ls st : List Value} {h : x_H} : x_run 741 67 ls st h = x_run 741 69 ls (.int (q_i 8) :: st) h := xe_bipush ec741 dX7_beside_67 (by decide)
theorem e741_69 {ls st : List Value} {h : x_H} {x y : Int32}: x_run 741 69 ls (.int y :: .int x :: st) h = if y = 0 then none else x_run 741 70 ls (.int (x - (x / y) * y) :: st) h := xe_irem ec741 dX7_beside_69
theorem e741_70 {ls st : List Value} {h : x_H} {x : Int32}: x_run 741 70 ls (.int x :: st) h = if ¬ x = 0 then x_run 741 77 ls st h else x_run 741 73 ls st h := xe_if_ne ec741 dX7_beside_70 rfl
theorem e741_73 {ls st : List Value} {h : x_H} : x_run 741 73 ls st h = x_run 741 74 ls (.int (q_i (-1)) :: st) h := xe_iconst ec741 dX7_beside_73
theorem e741_74 {ls st : List Value} {h : x_H} : x_run 741 74 ls st h = x_run 741 80 ls st h := xe_goto ec741 dX7_beside_74 rfl
theorem e741_77 {ls st : List Value} {h : x_H} : x_run 741 77 ls st h = q_gi ls 0 (fun v => x_run 741 78 ls (.int v :: st) h) := xe_iload_n ec741 dX7_beside_77
theorem e741_78 {ls st : List Value} {h : x_H} : x_run 741 78 ls st h = x_run 741 79 ls (.int (q_i 1) :: st) h := xe_iconst ec741 dX7_beside_78
theorem e741_79 {ls st : List Value} {h : x_H} {x y : Int32}: x_run 741 79 ls (.int y :: .int x :: st) h = x_run 741 80 ls (.int (x - y) :: st) h := xe_isub ec741 dX7_beside_79
theorem e741_80 {ls : List Value} {h : x_H} {x : Int32} : x_run 741 80 ls [.int x] h = if narrow .int (.int x) = .int x then some (.inl (some (.int x)), h) else none := xe_ireturn ec741 dX7_beside_80 rfl
theorem e741_81 {ls st : List Value} {h : x_H} : x_run 741 81 ls st h = q_gi ls 2 (fun v => x_run 741 82 ls (.int v :: st) h) := xe_iload_n ec741 dX7_beside_81
theorem e741_82 {ls st : List Value} {h : x_H} : x_run 741 82 ls st h = x_run 741 84 ls (.int (q_i 8) :: st) h := xe_bipush ec741 dX7_beside_82 (by decide)
theorem e741_84 {ls st : List Value} {h : x_H} {x y : Int32}: x_run 741 84 ls (.int y :: .int x :: st) h = if y = 0 then none else x_run 741 85 ls (.int (x - (x / y) * y) :: st) h := xe_irem ec741 dX7_beside_84
theorem e741_85 {ls st : List Value} {h : x_H} : x_run 741 85 ls st h = x_run 741 87 ls (.int (q_i 7) :: st) h := xe_bipush ec741 dX7_beside_85 (by decide)
theorem e741_87 {ls st : List Value} {h : x_H} {x y : Int32}: x_run 741 87 ls (.int y :: .int x :: st) h = if ¬ x = y then x_run 741 94 ls st h else x_run 741 90 ls st h := xe_ic_ne ec741 dX7_beside_87 rfl
theorem e741_90 {ls st : List Value} {h : x_H} : x_run 741 90 ls st h = x_run 741 91 ls (.int (q_i (-1)) :: st) h := xe_iconst ec741 dX7_beside_90
theorem e741_91 {ls st : List Value} {h : x_H} : x_run 741 91 ls st h = x_run 741 97 ls st h := xe_goto ec741 dX7_beside_91 rfl
theorem e741_94 {ls st : List Value} {h : x_H} : x_run 741 94 ls st h = q_gi ls 0 (fun v => x_run 741 95 ls (.int v :: st) h) := xe_iload_n ec741 dX7_beside_94
theorem e741_95 {ls st : List Value} {h : x_H} : x_run 741 95 ls st h = x_run 741 96 ls (.int (q_i 1) :: st) h := xe_iconst ec741 dX7_beside_95
theorem e741_96 {ls st : List Value} {h : x_H} {x y : Int32}: x_run 741 96 ls (.int y :: .int x :: st) h = x_run 741 97 ls (.int (x + y) :: st) h := xe_iadd ec741 dX7_beside_96
theorem e741_97 {ls : List Value} {h : x_H} {x : Int32} : x_run 741 97 ls [.int x] h = if narrow .int (.int x) = .int x then some (.inl (some (.int x)), h) else none := xe_ireturn ec741 dX7_beside_97 rfl
theorem e741_98 {ls st : List Value} {h : x_H} : x_run 741 98 ls st h = q_gi ls 0 (fun v => x_run 741 99 ls (.int v :: st) h) := xe_iload_n ec741 dX7_beside_98
theorem e741_99 {ls st : List Value} {h : x_H} : x_run 741 99 ls st h = x_run 741 101 ls (.int (q_i 48) :: st) h := xe_bipush ec741 dX7_beside_99 (by decide)
theorem e741_101 {ls st : List Value} {h : x_H} {x y : Int32}: x_run 741 101 ls (.int y :: .int x :: st) h = if y ≤ x then x_run 741 111 ls st h else x_run 741 104 ls st h := xe_ic_ge ec741 dX7_beside_101 rfl
theorem e741_104 {ls st : List Value} {h : x_H} : x_run 741 104 ls st h = q_gi ls 0 (fun v => x_run 741 105 ls (.int v :: st) h) := xe_iload_n ec741 dX7_beside_104
theorem e741_105 {ls st : List Value} {h : x_H} : x_run 741 105 ls st h = x_run 741 107 ls (.int (q_i 48) :: st) h := xe_bipush ec741 dX7_beside_105 (by decide)
theorem e741_107 {ls st : List Value} {h : x_H} {x y : Int32}: x_run 741 107 ls (.int y :: .int x :: st) h = x_run 741 108 ls (.int (x + y) :: st) h := xe_iadd ec741 dX7_beside_107
theorem e741_108 {ls st : List Value} {h : x_H} : x_run 741 108 ls st h = x_run 741 115 ls st h := xe_goto ec741 dX7_beside_108 rfl
theorem e741_111 {ls st : List Value} {h : x_H} : x_run 741 111 ls st h = q_gi ls 0 (fun v => x_run 741 112 ls (.int v :: st) h) := xe_iload_n ec741 dX7_beside_111
theorem e741_112 {ls st : List Value} {h : x_H} : x_run 741 112 ls st h = x_run 741 114 ls (.int (q_i 48) :: st) h := xe_bipush ec741 dX7_beside_112 (by decide)
theorem e741_114 {ls st : List Value} {h : x_H} {x y : Int32}: x_run 741 114 ls (.int y :: .int x :: st) h = x_run 741 115 ls (.int (x - y) :: st) h := xe_isub ec741 dX7_beside_114
theorem e741_115 {ls : List Value} {h : x_H} {x : Int32} : x_run 741 115 ls [.int x] h = if narrow .int (.int x) = .int x then some (.inl (some (.int x)), h) else none := xe_ireturn ec741 dX7_beside_115 rfl
