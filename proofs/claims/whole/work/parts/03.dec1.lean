theorem dX4_init_0 : decode cX4_init 0 = .ok (.aload_n 0, 1) := by decide +kernel
theorem dX4_init_1 : decode cX4_init 1 = .ok (.invokespecial 3, 3) := by decide +kernel
theorem dX4_init_4 : decode cX4_init 4 = .ok (.aload_n 0, 1) := by decide +kernel
theorem dX4_init_5 : decode cX4_init 5 = .ok (.iconst 0, 1) := by decide +kernel
theorem dX4_init_6 : decode cX4_init 6 = .ok (.putfield 9, 3) := by decide +kernel
theorem dX4_init_9 : decode cX4_init 9 = .ok (.aload_n 0, 1) := by decide +kernel
theorem dX4_init_10 : decode cX4_init 10 = .ok (.iconst 0, 1) := by decide +kernel
theorem dX4_init_11 : decode cX4_init 11 = .ok (.putfield 15, 3) := by decide +kernel
theorem dX4_init_14 : decode cX4_init 14 = .ok (.aload_n 0, 1) := by decide +kernel
theorem dX4_init_15 : decode cX4_init 15 = .ok (.iconst 0, 1) := by decide +kernel
theorem dX4_init_16 : decode cX4_init 16 = .ok (.putfield 18, 3) := by decide +kernel
theorem dX4_init_19 : decode cX4_init 19 = .ok (.aload_n 0, 1) := by decide +kernel
theorem dX4_init_20 : decode cX4_init 20 = .ok (.iconst 0, 1) := by decide +kernel
theorem dX4_init_21 : decode cX4_init 21 = .ok (.putfield 21, 3) := by decide +kernel
theorem dX4_init_24 : decode cX4_init 24 = .ok (.return_, 1) := by decide +kernel
theorem dX4_keep_0 : decode cX4_keep 0 = .ok (.aload_n 0, 1) := by decide +kernel
theorem dX4_keep_1 : decode cX4_keep 1 = .ok (.iload_n 1, 1) := by decide +kernel
theorem dX4_keep_2 : decode cX4_keep 2 = .ok (.putfield 9, 3) := by decide +kernel
theorem dX4_keep_5 : decode cX4_keep 5 = .ok (.aload_n 0, 1) := by decide +kernel
theorem dX4_keep_6 : decode cX4_keep 6 = .ok (.iload_n 2, 1) := by decide +kernel
theorem dX4_keep_7 : decode cX4_keep 7 = .ok (.putfield 15, 3) := by decide +kernel
theorem dX4_keep_10 : decode cX4_keep 10 = .ok (.aload_n 0, 1) := by decide +kernel
theorem dX4_keep_11 : decode cX4_keep 11 = .ok (.aload_n 0, 1) := by decide +kernel
theorem dX4_keep_12 : decode cX4_keep 12 = .ok (.getfield 21, 3) := by decide +kernel
theorem dX4_keep_15 : decode cX4_keep 15 = .ok (.putfield 18, 3) := by decide +kernel
theorem dX4_keep_18 : decode cX4_keep 18 = .ok (.iconst (-1), 1) := by decide +kernel
theorem dX4_keep_19 : decode cX4_keep 19 = .ok (.ireturn, 1) := by decide +kernel
theorem dX5_init_0 : decode cX5_init 0 = .ok (.aload_n 0, 1) := by decide +kernel
theorem dX5_init_1 : decode cX5_init 1 = .ok (.invokespecial 3, 3) := by decide +kernel
theorem dX5_init_4 : decode cX5_init 4 = .ok (.aload_n 0, 1) := by decide +kernel
theorem dX5_init_5 : decode cX5_init 5 = .ok (.bipush 96, 2) := by decide +kernel
theorem dX5_init_7 : decode cX5_init 7 = .ok (.newarray .int, 2) := by decide +kernel
theorem dX5_init_9 : decode cX5_init 9 = .ok (.putfield 9, 3) := by decide +kernel
theorem dX5_init_12 : decode cX5_init 12 = .ok (.aload_n 0, 1) := by decide +kernel
theorem dX5_init_13 : decode cX5_init 13 = .ok (.bipush 48, 2) := by decide +kernel
theorem dX5_init_15 : decode cX5_init 15 = .ok (.newarray .int, 2) := by decide +kernel
theorem dX5_init_17 : decode cX5_init 17 = .ok (.putfield 15, 3) := by decide +kernel
theorem dX5_init_20 : decode cX5_init 20 = .ok (.aload_n 0, 1) := by decide +kernel
theorem dX5_init_21 : decode cX5_init 21 = .ok (.bipush 96, 2) := by decide +kernel
theorem dX5_init_23 : decode cX5_init 23 = .ok (.newarray .int, 2) := by decide +kernel
theorem dX5_init_25 : decode cX5_init 25 = .ok (.putfield 18, 3) := by decide +kernel
theorem dX5_init_28 : decode cX5_init 28 = .ok (.aload_n 0, 1) := by decide +kernel
theorem dX5_init_29 : decode cX5_init 29 = .ok (.bipush 96, 2) := by decide +kernel
theorem dX5_init_31 : decode cX5_init 31 = .ok (.newarray .int, 2) := by decide +kernel
theorem dX5_init_33 : decode cX5_init 33 = .ok (.putfield 21, 3) := by decide +kernel
theorem dX5_init_36 : decode cX5_init 36 = .ok (.aload_n 0, 1) := by decide +kernel
theorem dX5_init_37 : decode cX5_init 37 = .ok (.bipush 96, 2) := by decide +kernel
theorem dX5_init_39 : decode cX5_init 39 = .ok (.newarray .boolean, 2) := by decide +kernel
theorem dX5_init_41 : decode cX5_init 41 = .ok (.putfield 24, 3) := by decide +kernel
theorem dX5_init_44 : decode cX5_init 44 = .ok (.aload_n 0, 1) := by decide +kernel
theorem dX5_init_45 : decode cX5_init 45 = .ok (.iconst 0, 1) := by decide +kernel
theorem dX5_init_46 : decode cX5_init 46 = .ok (.putfield 28, 3) := by decide +kernel
theorem dX5_init_49 : decode cX5_init 49 = .ok (.aload_n 0, 1) := by decide +kernel
theorem dX5_init_50 : decode cX5_init 50 = .ok (.iconst 0, 1) := by decide +kernel
theorem dX5_init_51 : decode cX5_init 51 = .ok (.putfield 32, 3) := by decide +kernel
theorem dX5_init_54 : decode cX5_init 54 = .ok (.aload_n 0, 1) := by decide +kernel
theorem dX5_init_55 : decode cX5_init 55 = .ok (.iconst 0, 1) := by decide +kernel
theorem dX5_init_56 : decode cX5_init 56 = .ok (.putfield 35, 3) := by decide +kernel
theorem dX5_init_59 : decode cX5_init 59 = .ok (.aload_n 0, 1) := by decide +kernel
theorem dX5_init_60 : decode cX5_init 60 = .ok (.iconst 0, 1) := by decide +kernel
theorem dX5_init_61 : decode cX5_init 61 = .ok (.putfield 38, 3) := by decide +kernel
theorem dX5_init_64 : decode cX5_init 64 = .ok (.aload_n 0, 1) := by decide +kernel
theorem dX5_init_65 : decode cX5_init 65 = .ok (.bipush 96, 2) := by decide +kernel
theorem dX5_init_67 : decode cX5_init 67 = .ok (.newarray .boolean, 2) := by decide +kernel
theorem dX5_init_69 : decode cX5_init 69 = .ok (.putfield 42, 3) := by decide +kernel
theorem dX5_init_72 : decode cX5_init 72 = .ok (.aload_n 0, 1) := by decide +kernel
theorem dX5_init_73 : decode cX5_init 73 = .ok (.bipush 48, 2) := by decide +kernel
theorem dX5_init_75 : decode cX5_init 75 = .ok (.newarray .boolean, 2) := by decide +kernel
theorem dX5_init_77 : decode cX5_init 77 = .ok (.putfield 45, 3) := by decide +kernel
theorem dX5_init_80 : decode cX5_init 80 = .ok (.aload_n 0, 1) := by decide +kernel
theorem dX5_init_81 : decode cX5_init 81 = .ok (.iconst 0, 1) := by decide +kernel
theorem dX5_init_82 : decode cX5_init 82 = .ok (.putfield 48, 3) := by decide +kernel
theorem dX5_init_85 : decode cX5_init 85 = .ok (.aload_n 0, 1) := by decide +kernel
theorem dX5_init_86 : decode cX5_init 86 = .ok (.iconst 0, 1) := by decide +kernel
theorem dX5_init_87 : decode cX5_init 87 = .ok (.putfield 51, 3) := by decide +kernel
theorem dX5_init_90 : decode cX5_init 90 = .ok (.aload_n 0, 1) := by decide +kernel
theorem dX5_init_91 : decode cX5_init 91 = .ok (.iconst 0, 1) := by decide +kernel
theorem dX5_init_92 : decode cX5_init 92 = .ok (.putfield 54, 3) := by decide +kernel
theorem dX5_init_95 : decode cX5_init 95 = .ok (.aload_n 0, 1) := by decide +kernel
theorem dX5_init_96 : decode cX5_init 96 = .ok (.aload_n 1, 1) := by decide +kernel
theorem dX5_init_97 : decode cX5_init 97 = .ok (.putfield 57, 3) := by decide +kernel
theorem dX5_init_100 : decode cX5_init 100 = .ok (.return_, 1) := by decide +kernel
theorem dX5_readPrices_0 : decode cX5_readPrices 0 = .ok (.aload_n 0, 1) := by decide +kernel
theorem dX5_readPrices_1 : decode cX5_readPrices 1 = .ok (.iload_n 1, 1) := by decide +kernel
theorem dX5_readPrices_2 : decode cX5_readPrices 2 = .ok (.putfield 35, 3) := by decide +kernel
theorem dX5_readPrices_5 : decode cX5_readPrices 5 = .ok (.iconst 0, 1) := by decide +kernel
theorem dX5_readPrices_6 : decode cX5_readPrices 6 = .ok (.istore_n 2, 1) := by decide +kernel
theorem dX5_readPrices_7 : decode cX5_readPrices 7 = .ok (.iload_n 2, 1) := by decide +kernel
theorem dX5_readPrices_8 : decode cX5_readPrices 8 = .ok (.bipush 96, 2) := by decide +kernel
theorem dX5_readPrices_10 : decode cX5_readPrices 10 = .ok (.if_icmp .ge 24, 3) := by decide +kernel
theorem dX5_readPrices_13 : decode cX5_readPrices 13 = .ok (.aload_n 0, 1) := by decide +kernel
theorem dX5_readPrices_14 : decode cX5_readPrices 14 = .ok (.getfield 9, 3) := by decide +kernel
theorem dX5_readPrices_17 : decode cX5_readPrices 17 = .ok (.iload_n 2, 1) := by decide +kernel
theorem dX5_readPrices_18 : decode cX5_readPrices 18 = .ok (.aload_n 0, 1) := by decide +kernel
theorem dX5_readPrices_19 : decode cX5_readPrices 19 = .ok (.getfield 57, 3) := by decide +kernel
theorem dX5_readPrices_22 : decode cX5_readPrices 22 = .ok (.iload_n 1, 1) := by decide +kernel
theorem dX5_readPrices_23 : decode cX5_readPrices 23 = .ok (.iload_n 2, 1) := by decide +kernel
theorem dX5_readPrices_24 : decode cX5_readPrices 24 = .ok (.invokevirtual 61, 3) := by decide +kernel
theorem dX5_readPrices_27 : decode cX5_readPrices 27 = .ok (.iastore, 1) := by decide +kernel
theorem dX5_readPrices_28 : decode cX5_readPrices 28 = .ok (.iinc 2 1, 3) := by decide +kernel
theorem dX5_readPrices_31 : decode cX5_readPrices 31 = .ok (.goto (-24), 3) := by decide +kernel
theorem dX5_readPrices_34 : decode cX5_readPrices 34 = .ok (.iconst 0, 1) := by decide +kernel
theorem dX5_readPrices_35 : decode cX5_readPrices 35 = .ok (.istore_n 2, 1) := by decide +kernel
theorem dX5_readPrices_36 : decode cX5_readPrices 36 = .ok (.iload_n 2, 1) := by decide +kernel
theorem dX5_readPrices_37 : decode cX5_readPrices 37 = .ok (.bipush 48, 2) := by decide +kernel
theorem dX5_readPrices_39 : decode cX5_readPrices 39 = .ok (.if_icmp .ge 55, 3) := by decide +kernel
theorem dX5_readPrices_42 : decode cX5_readPrices 42 = .ok (.aload_n 0, 1) := by decide +kernel
theorem dX5_readPrices_43 : decode cX5_readPrices 43 = .ok (.getfield 57, 3) := by decide +kernel
theorem dX5_readPrices_46 : decode cX5_readPrices 46 = .ok (.getfield 67, 3) := by decide +kernel
theorem dX5_readPrices_49 : decode cX5_readPrices 49 = .ok (.iload_n 2, 1) := by decide +kernel
theorem dX5_readPrices_50 : decode cX5_readPrices 50 = .ok (.iaload, 1) := by decide +kernel
theorem dX5_readPrices_51 : decode cX5_readPrices 51 = .ok (.iload_n 1, 1) := by decide +kernel
theorem dX5_readPrices_52 : decode cX5_readPrices 52 = .ok (.if_icmp .ne 19, 3) := by decide +kernel
theorem dX5_readPrices_55 : decode cX5_readPrices 55 = .ok (.aload_n 0, 1) := by decide +kernel
theorem dX5_readPrices_56 : decode cX5_readPrices 56 = .ok (.getfield 57, 3) := by decide +kernel
theorem dX5_readPrices_59 : decode cX5_readPrices 59 = .ok (.getfield 70, 3) := by decide +kernel
theorem dX5_readPrices_62 : decode cX5_readPrices 62 = .ok (.iload_n 2, 1) := by decide +kernel
theorem dX5_readPrices_63 : decode cX5_readPrices 63 = .ok (.baload, 1) := by decide +kernel
theorem dX5_readPrices_64 : decode cX5_readPrices 64 = .ok (.ifCond .eq 7, 3) := by decide +kernel
theorem dX5_readPrices_67 : decode cX5_readPrices 67 = .ok (.iconst 1, 1) := by decide +kernel
theorem dX5_readPrices_68 : decode cX5_readPrices 68 = .ok (.goto 4, 3) := by decide +kernel
theorem dX5_readPrices_71 : decode cX5_readPrices 71 = .ok (.iconst 0, 1) := by decide +kernel
theorem dX5_readPrices_72 : decode cX5_readPrices 72 = .ok (.istore_n 3, 1) := by decide +kernel
theorem dX5_readPrices_73 : decode cX5_readPrices 73 = .ok (.aload_n 0, 1) := by decide +kernel
theorem dX5_readPrices_74 : decode cX5_readPrices 74 = .ok (.getfield 15, 3) := by decide +kernel
theorem dX5_readPrices_77 : decode cX5_readPrices 77 = .ok (.iload_n 2, 1) := by decide +kernel
theorem dX5_readPrices_78 : decode cX5_readPrices 78 = .ok (.iload_n 3, 1) := by decide +kernel
theorem dX5_readPrices_79 : decode cX5_readPrices 79 = .ok (.ifCond .eq 7, 3) := by decide +kernel
theorem dX5_readPrices_82 : decode cX5_readPrices 82 = .ok (.iconst 0, 1) := by decide +kernel
theorem dX5_readPrices_83 : decode cX5_readPrices 83 = .ok (.goto 4, 3) := by decide +kernel
theorem dX5_readPrices_86 : decode cX5_readPrices 86 = .ok (.iconst 3, 1) := by decide +kernel
theorem dX5_readPrices_87 : decode cX5_readPrices 87 = .ok (.iastore, 1) := by decide +kernel
theorem dX5_readPrices_88 : decode cX5_readPrices 88 = .ok (.iinc 2 1, 3) := by decide +kernel
theorem dX5_readPrices_91 : decode cX5_readPrices 91 = .ok (.goto (-55), 3) := by decide +kernel
theorem dX5_readPrices_94 : decode cX5_readPrices 94 = .ok (.return_, 1) := by decide +kernel
theorem dX5_findWays_0 : decode cX5_findWays 0 = .ok (.aload_n 0, 1) := by decide +kernel
theorem dX5_findWays_1 : decode cX5_findWays 1 = .ok (.getfield 57, 3) := by decide +kernel
theorem dX5_findWays_4 : decode cX5_findWays 4 = .ok (.getfield 73, 3) := by decide +kernel
theorem dX5_findWays_7 : decode cX5_findWays 7 = .ok (.iload_n 1, 1) := by decide +kernel
theorem dX5_findWays_8 : decode cX5_findWays 8 = .ok (.baload, 1) := by decide +kernel
theorem dX5_findWays_9 : decode cX5_findWays 9 = .ok (.ifCond .ne 16, 3) := by decide +kernel
theorem dX5_findWays_12 : decode cX5_findWays 12 = .ok (.aload_n 0, 1) := by decide +kernel
theorem dX5_findWays_13 : decode cX5_findWays 13 = .ok (.getfield 57, 3) := by decide +kernel
theorem dX5_findWays_16 : decode cX5_findWays 16 = .ok (.getfield 76, 3) := by decide +kernel
theorem dX5_findWays_19 : decode cX5_findWays 19 = .ok (.iload_n 1, 1) := by decide +kernel
theorem dX5_findWays_20 : decode cX5_findWays 20 = .ok (.iaload, 1) := by decide +kernel
theorem dX5_findWays_21 : decode cX5_findWays 21 = .ok (.iconst 2, 1) := by decide +kernel
theorem dX5_findWays_22 : decode cX5_findWays 22 = .ok (.if_icmp .ge 5, 3) := by decide +kernel
theorem dX5_findWays_25 : decode cX5_findWays 25 = .ok (.iconst 0, 1) := by decide +kernel
theorem dX5_findWays_26 : decode cX5_findWays 26 = .ok (.ireturn, 1) := by decide +kernel
theorem dX5_findWays_27 : decode cX5_findWays 27 = .ok (.aload_n 0, 1) := by decide +kernel
theorem dX5_findWays_28 : decode cX5_findWays 28 = .ok (.iload_n 1, 1) := by decide +kernel
theorem dX5_findWays_29 : decode cX5_findWays 29 = .ok (.invokevirtual 79, 3) := by decide +kernel
theorem dX5_findWays_32 : decode cX5_findWays 32 = .ok (.aload_n 0, 1) := by decide +kernel
theorem dX5_findWays_33 : decode cX5_findWays 33 = .ok (.iload_n 2, 1) := by decide +kernel
theorem dX5_findWays_34 : decode cX5_findWays 34 = .ok (.invokevirtual 83, 3) := by decide +kernel
theorem dX5_findWays_37 : decode cX5_findWays 37 = .ok (.ireturn, 1) := by decide +kernel
theorem dX5_joinPins_0 : decode cX5_joinPins 0 = .ok (.aload_n 0, 1) := by decide +kernel
theorem dX5_joinPins_1 : decode cX5_joinPins 1 = .ok (.iload_n 1, 1) := by decide +kernel
theorem dX5_joinPins_2 : decode cX5_joinPins 2 = .ok (.putfield 38, 3) := by decide +kernel
theorem dX5_joinPins_5 : decode cX5_joinPins 5 = .ok (.aload_n 0, 1) := by decide +kernel
theorem dX5_joinPins_6 : decode cX5_joinPins 6 = .ok (.invokevirtual 87, 3) := by decide +kernel
theorem dX5_joinPins_9 : decode cX5_joinPins 9 = .ok (.aload_n 0, 1) := by decide +kernel
theorem dX5_joinPins_10 : decode cX5_joinPins 10 = .ok (.aload_n 0, 1) := by decide +kernel
theorem dX5_joinPins_11 : decode cX5_joinPins 11 = .ok (.getfield 57, 3) := by decide +kernel
theorem dX5_joinPins_14 : decode cX5_joinPins 14 = .ok (.aload_n 0, 1) := by decide +kernel
theorem dX5_joinPins_15 : decode cX5_joinPins 15 = .ok (.getfield 35, 3) := by decide +kernel
theorem dX5_joinPins_18 : decode cX5_joinPins 18 = .ok (.iconst 0, 1) := by decide +kernel
theorem dX5_joinPins_19 : decode cX5_joinPins 19 = .ok (.invokevirtual 90, 3) := by decide +kernel
theorem dX5_joinPins_22 : decode cX5_joinPins 22 = .ok (.invokevirtual 93, 3) := by decide +kernel
theorem dX5_joinPins_25 : decode cX5_joinPins 25 = .ok (.iconst 1, 1) := by decide +kernel
theorem dX5_joinPins_26 : decode cX5_joinPins 26 = .ok (.istore_n 2, 1) := by decide +kernel
theorem dX5_joinPins_27 : decode cX5_joinPins 27 = .ok (.iload_n 2, 1) := by decide +kernel
theorem dX5_joinPins_28 : decode cX5_joinPins 28 = .ok (.aload_n 0, 1) := by decide +kernel
theorem dX5_joinPins_29 : decode cX5_joinPins 29 = .ok (.getfield 57, 3) := by decide +kernel
theorem dX5_joinPins_32 : decode cX5_joinPins 32 = .ok (.getfield 76, 3) := by decide +kernel
theorem dX5_joinPins_35 : decode cX5_joinPins 35 = .ok (.aload_n 0, 1) := by decide +kernel
theorem dX5_joinPins_36 : decode cX5_joinPins 36 = .ok (.getfield 35, 3) := by decide +kernel
theorem dX5_joinPins_39 : decode cX5_joinPins 39 = .ok (.iaload, 1) := by decide +kernel
theorem dX5_joinPins_40 : decode cX5_joinPins 40 = .ok (.if_icmp .ge 100, 3) := by decide +kernel
theorem dX5_joinPins_43 : decode cX5_joinPins 43 = .ok (.aload_n 0, 1) := by decide +kernel
theorem dX5_joinPins_44 : decode cX5_joinPins 44 = .ok (.getfield 57, 3) := by decide +kernel
theorem dX5_joinPins_47 : decode cX5_joinPins 47 = .ok (.aload_n 0, 1) := by decide +kernel
theorem dX5_joinPins_48 : decode cX5_joinPins 48 = .ok (.getfield 35, 3) := by decide +kernel
theorem dX5_joinPins_51 : decode cX5_joinPins 51 = .ok (.iload_n 2, 1) := by decide +kernel
theorem dX5_joinPins_52 : decode cX5_joinPins 52 = .ok (.invokevirtual 90, 3) := by decide +kernel
theorem dX5_joinPins_55 : decode cX5_joinPins 55 = .ok (.istore_n 3, 1) := by decide +kernel
theorem dX5_joinPins_56 : decode cX5_joinPins 56 = .ok (.aload_n 0, 1) := by decide +kernel
theorem dX5_joinPins_57 : decode cX5_joinPins 57 = .ok (.invokevirtual 96, 3) := by decide +kernel
theorem dX5_joinPins_60 : decode cX5_joinPins 60 = .ok (.aload_n 0, 1) := by decide +kernel
theorem dX5_joinPins_61 : decode cX5_joinPins 61 = .ok (.getfield 18, 3) := by decide +kernel
theorem dX5_joinPins_64 : decode cX5_joinPins 64 = .ok (.iload_n 3, 1) := by decide +kernel
theorem dX5_joinPins_65 : decode cX5_joinPins 65 = .ok (.iaload, 1) := by decide +kernel
theorem dX5_joinPins_66 : decode cX5_joinPins 66 = .ok (.aload_n 0, 1) := by decide +kernel
theorem dX5_joinPins_67 : decode cX5_joinPins 67 = .ok (.getfield 18, 3) := by decide +kernel
theorem dX5_joinPins_70 : decode cX5_joinPins 70 = .ok (.iload_n 3, 1) := by decide +kernel
theorem dX5_joinPins_71 : decode cX5_joinPins 71 = .ok (.bipush 48, 2) := by decide +kernel
theorem dX5_joinPins_73 : decode cX5_joinPins 73 = .ok (.iadd, 1) := by decide +kernel
theorem dX5_joinPins_74 : decode cX5_joinPins 74 = .ok (.iaload, 1) := by decide +kernel
theorem dX5_joinPins_75 : decode cX5_joinPins 75 = .ok (.if_icmp .gt 7, 3) := by decide +kernel
theorem dX5_joinPins_78 : decode cX5_joinPins 78 = .ok (.iload_n 3, 1) := by decide +kernel
theorem dX5_joinPins_79 : decode cX5_joinPins 79 = .ok (.goto 7, 3) := by decide +kernel
theorem dX5_joinPins_82 : decode cX5_joinPins 82 = .ok (.iload_n 3, 1) := by decide +kernel
theorem dX5_joinPins_83 : decode cX5_joinPins 83 = .ok (.bipush 48, 2) := by decide +kernel
theorem dX5_joinPins_85 : decode cX5_joinPins 85 = .ok (.iadd, 1) := by decide +kernel
theorem dX5_joinPins_86 : decode cX5_joinPins 86 = .ok (.istore 4, 2) := by decide +kernel
theorem dX5_joinPins_88 : decode cX5_joinPins 88 = .ok (.aload_n 0, 1) := by decide +kernel
theorem dX5_joinPins_89 : decode cX5_joinPins 89 = .ok (.getfield 18, 3) := by decide +kernel
theorem dX5_joinPins_92 : decode cX5_joinPins 92 = .ok (.iload 4, 2) := by decide +kernel
theorem dX5_joinPins_94 : decode cX5_joinPins 94 = .ok (.iaload, 1) := by decide +kernel
theorem dX5_joinPins_95 : decode cX5_joinPins 95 = .ok (.ldc 99, 2) := by decide +kernel
theorem dX5_joinPins_97 : decode cX5_joinPins 97 = .ok (.if_icmp .ne 10, 3) := by decide +kernel
theorem dX5_joinPins_100 : decode cX5_joinPins 100 = .ok (.aload_n 0, 1) := by decide +kernel
theorem dX5_joinPins_101 : decode cX5_joinPins 101 = .ok (.iload_n 2, 1) := by decide +kernel
theorem dX5_joinPins_102 : decode cX5_joinPins 102 = .ok (.putfield 54, 3) := by decide +kernel
theorem dX5_joinPins_105 : decode cX5_joinPins 105 = .ok (.iconst 0, 1) := by decide +kernel
theorem dX5_joinPins_106 : decode cX5_joinPins 106 = .ok (.ireturn, 1) := by decide +kernel
theorem dX5_joinPins_107 : decode cX5_joinPins 107 = .ok (.aload_n 0, 1) := by decide +kernel
theorem dX5_joinPins_108 : decode cX5_joinPins 108 = .ok (.dup, 1) := by decide +kernel
theorem dX5_joinPins_109 : decode cX5_joinPins 109 = .ok (.getfield 51, 3) := by decide +kernel
theorem dX5_joinPins_112 : decode cX5_joinPins 112 = .ok (.aload_n 0, 1) := by decide +kernel
theorem dX5_joinPins_113 : decode cX5_joinPins 113 = .ok (.getfield 18, 3) := by decide +kernel
theorem dX5_joinPins_116 : decode cX5_joinPins 116 = .ok (.iload 4, 2) := by decide +kernel
theorem dX5_joinPins_118 : decode cX5_joinPins 118 = .ok (.iaload, 1) := by decide +kernel
theorem dX5_joinPins_119 : decode cX5_joinPins 119 = .ok (.iadd, 1) := by decide +kernel
theorem dX5_joinPins_120 : decode cX5_joinPins 120 = .ok (.putfield 51, 3) := by decide +kernel
theorem dX5_joinPins_123 : decode cX5_joinPins 123 = .ok (.aload_n 0, 1) := by decide +kernel
theorem dX5_joinPins_124 : decode cX5_joinPins 124 = .ok (.iload 4, 2) := by decide +kernel
theorem dX5_joinPins_126 : decode cX5_joinPins 126 = .ok (.invokevirtual 100, 3) := by decide +kernel
theorem dX5_joinPins_129 : decode cX5_joinPins 129 = .ok (.aload_n 0, 1) := by decide +kernel
theorem dX5_joinPins_130 : decode cX5_joinPins 130 = .ok (.iload_n 3, 1) := by decide +kernel
theorem dX5_joinPins_131 : decode cX5_joinPins 131 = .ok (.invokevirtual 93, 3) := by decide +kernel
theorem dX5_joinPins_134 : decode cX5_joinPins 134 = .ok (.iinc 2 1, 3) := by decide +kernel
theorem dX5_joinPins_137 : decode cX5_joinPins 137 = .ok (.goto (-110), 3) := by decide +kernel
theorem dX5_joinPins_140 : decode cX5_joinPins 140 = .ok (.iconst 1, 1) := by decide +kernel
theorem dX5_joinPins_141 : decode cX5_joinPins 141 = .ok (.ireturn, 1) := by decide +kernel
theorem dX5_netsInTheWay_0 : decode cX5_netsInTheWay 0 = .ok (.iconst 0, 1) := by decide +kernel
theorem dX5_netsInTheWay_1 : decode cX5_netsInTheWay 1 = .ok (.istore_n 1, 1) := by decide +kernel
theorem dX5_netsInTheWay_2 : decode cX5_netsInTheWay 2 = .ok (.iconst 0, 1) := by decide +kernel
theorem dX5_netsInTheWay_3 : decode cX5_netsInTheWay 3 = .ok (.istore_n 2, 1) := by decide +kernel
theorem dX5_netsInTheWay_4 : decode cX5_netsInTheWay 4 = .ok (.iload_n 2, 1) := by decide +kernel
theorem dX5_netsInTheWay_5 : decode cX5_netsInTheWay 5 = .ok (.bipush 96, 2) := by decide +kernel
theorem dX5_netsInTheWay_7 : decode cX5_netsInTheWay 7 = .ok (.if_icmp .ge 33, 3) := by decide +kernel
theorem dX5_netsInTheWay_10 : decode cX5_netsInTheWay 10 = .ok (.aload_n 0, 1) := by decide +kernel
theorem dX5_netsInTheWay_11 : decode cX5_netsInTheWay 11 = .ok (.getfield 42, 3) := by decide +kernel
theorem dX5_netsInTheWay_14 : decode cX5_netsInTheWay 14 = .ok (.iload_n 2, 1) := by decide +kernel
theorem dX5_netsInTheWay_15 : decode cX5_netsInTheWay 15 = .ok (.baload, 1) := by decide +kernel
theorem dX5_netsInTheWay_16 : decode cX5_netsInTheWay 16 = .ok (.ifCond .eq 18, 3) := by decide +kernel
theorem dX5_netsInTheWay_19 : decode cX5_netsInTheWay 19 = .ok (.iload_n 1, 1) := by decide +kernel
theorem dX5_netsInTheWay_20 : decode cX5_netsInTheWay 20 = .ok (.aload_n 0, 1) := by decide +kernel
theorem dX5_netsInTheWay_21 : decode cX5_netsInTheWay 21 = .ok (.getfield 57, 3) := by decide +kernel
theorem dX5_netsInTheWay_24 : decode cX5_netsInTheWay 24 = .ok (.aload_n 0, 1) := by decide +kernel
theorem dX5_netsInTheWay_25 : decode cX5_netsInTheWay 25 = .ok (.getfield 35, 3) := by decide +kernel
theorem dX5_netsInTheWay_28 : decode cX5_netsInTheWay 28 = .ok (.iload_n 2, 1) := by decide +kernel
theorem dX5_netsInTheWay_29 : decode cX5_netsInTheWay 29 = .ok (.invokevirtual 103, 3) := by decide +kernel
theorem dX5_netsInTheWay_32 : decode cX5_netsInTheWay 32 = .ok (.ior, 1) := by decide +kernel
theorem dX5_netsInTheWay_33 : decode cX5_netsInTheWay 33 = .ok (.istore_n 1, 1) := by decide +kernel
theorem dX5_netsInTheWay_34 : decode cX5_netsInTheWay 34 = .ok (.iinc 2 1, 3) := by decide +kernel
theorem dX5_netsInTheWay_37 : decode cX5_netsInTheWay 37 = .ok (.goto (-33), 3) := by decide +kernel
theorem dX5_netsInTheWay_40 : decode cX5_netsInTheWay 40 = .ok (.iload_n 1, 1) := by decide +kernel
theorem dX5_netsInTheWay_41 : decode cX5_netsInTheWay 41 = .ok (.ireturn, 1) := by decide +kernel
theorem dX5_countReached_0 : decode cX5_countReached 0 = .ok (.aload_n 0, 1) := by decide +kernel
theorem dX5_countReached_1 : decode cX5_countReached 1 = .ok (.iconst 0, 1) := by decide +kernel
theorem dX5_countReached_2 : decode cX5_countReached 2 = .ok (.putfield 38, 3) := by decide +kernel
theorem dX5_countReached_5 : decode cX5_countReached 5 = .ok (.aload_n 0, 1) := by decide +kernel
theorem dX5_countReached_6 : decode cX5_countReached 6 = .ok (.invokevirtual 87, 3) := by decide +kernel
theorem dX5_countReached_9 : decode cX5_countReached 9 = .ok (.aload_n 0, 1) := by decide +kernel
theorem dX5_countReached_10 : decode cX5_countReached 10 = .ok (.iload_n 1, 1) := by decide +kernel
theorem dX5_countReached_11 : decode cX5_countReached 11 = .ok (.invokevirtual 93, 3) := by decide +kernel
theorem dX5_countReached_14 : decode cX5_countReached 14 = .ok (.aload_n 0, 1) := by decide +kernel
theorem dX5_countReached_15 : decode cX5_countReached 15 = .ok (.invokevirtual 96, 3) := by decide +kernel
theorem dX5_countReached_18 : decode cX5_countReached 18 = .ok (.iconst 0, 1) := by decide +kernel
theorem dX5_countReached_19 : decode cX5_countReached 19 = .ok (.istore_n 2, 1) := by decide +kernel
theorem dX5_countReached_20 : decode cX5_countReached 20 = .ok (.iconst 0, 1) := by decide +kernel
theorem dX5_countReached_21 : decode cX5_countReached 21 = .ok (.istore_n 3, 1) := by decide +kernel
theorem dX5_countReached_22 : decode cX5_countReached 22 = .ok (.iload_n 3, 1) := by decide +kernel
theorem dX5_countReached_23 : decode cX5_countReached 23 = .ok (.bipush 96, 2) := by decide +kernel
theorem dX5_countReached_25 : decode cX5_countReached 25 = .ok (.if_icmp .ge 23, 3) := by decide +kernel
theorem dX5_countReached_28 : decode cX5_countReached 28 = .ok (.aload_n 0, 1) := by decide +kernel
theorem dX5_countReached_29 : decode cX5_countReached 29 = .ok (.getfield 18, 3) := by decide +kernel
theorem dX5_countReached_32 : decode cX5_countReached 32 = .ok (.iload_n 3, 1) := by decide +kernel
theorem dX5_countReached_33 : decode cX5_countReached 33 = .ok (.iaload, 1) := by decide +kernel
theorem dX5_countReached_34 : decode cX5_countReached 34 = .ok (.ldc 99, 2) := by decide +kernel
theorem dX5_countReached_36 : decode cX5_countReached 36 = .ok (.if_icmp .ge 6, 3) := by decide +kernel
theorem dX5_countReached_39 : decode cX5_countReached 39 = .ok (.iinc 2 1, 3) := by decide +kernel
theorem dX5_countReached_42 : decode cX5_countReached 42 = .ok (.iinc 3 1, 3) := by decide +kernel
theorem dX5_countReached_45 : decode cX5_countReached 45 = .ok (.goto (-23), 3) := by decide +kernel
theorem dX5_countReached_48 : decode cX5_countReached 48 = .ok (.iload_n 2, 1) := by decide +kernel
theorem dX5_countReached_49 : decode cX5_countReached 49 = .ok (.ireturn, 1) := by decide +kernel
theorem dX5_clearWays_0 : decode cX5_clearWays 0 = .ok (.iconst 0, 1) := by decide +kernel
theorem dX5_clearWays_1 : decode cX5_clearWays 1 = .ok (.istore_n 1, 1) := by decide +kernel
theorem dX5_clearWays_2 : decode cX5_clearWays 2 = .ok (.iload_n 1, 1) := by decide +kernel
theorem dX5_clearWays_3 : decode cX5_clearWays 3 = .ok (.bipush 96, 2) := by decide +kernel
theorem dX5_clearWays_5 : decode cX5_clearWays 5 = .ok (.if_icmp .ge 16, 3) := by decide +kernel
theorem dX5_clearWays_8 : decode cX5_clearWays 8 = .ok (.aload_n 0, 1) := by decide +kernel
theorem dX5_clearWays_9 : decode cX5_clearWays 9 = .ok (.getfield 42, 3) := by decide +kernel
theorem dX5_clearWays_12 : decode cX5_clearWays 12 = .ok (.iload_n 1, 1) := by decide +kernel
theorem dX5_clearWays_13 : decode cX5_clearWays 13 = .ok (.iconst 0, 1) := by decide +kernel
theorem dX5_clearWays_14 : decode cX5_clearWays 14 = .ok (.bastore, 1) := by decide +kernel
theorem dX5_clearWays_15 : decode cX5_clearWays 15 = .ok (.iinc 1 1, 3) := by decide +kernel
theorem dX5_clearWays_18 : decode cX5_clearWays 18 = .ok (.goto (-16), 3) := by decide +kernel
theorem dX5_clearWays_21 : decode cX5_clearWays 21 = .ok (.iconst 0, 1) := by decide +kernel
theorem dX5_clearWays_22 : decode cX5_clearWays 22 = .ok (.istore_n 1, 1) := by decide +kernel
theorem dX5_clearWays_23 : decode cX5_clearWays 23 = .ok (.iload_n 1, 1) := by decide +kernel
theorem dX5_clearWays_24 : decode cX5_clearWays 24 = .ok (.bipush 48, 2) := by decide +kernel
theorem dX5_clearWays_26 : decode cX5_clearWays 26 = .ok (.if_icmp .ge 16, 3) := by decide +kernel
theorem dX5_clearWays_29 : decode cX5_clearWays 29 = .ok (.aload_n 0, 1) := by decide +kernel
theorem dX5_clearWays_30 : decode cX5_clearWays 30 = .ok (.getfield 45, 3) := by decide +kernel
theorem dX5_clearWays_33 : decode cX5_clearWays 33 = .ok (.iload_n 1, 1) := by decide +kernel
theorem dX5_clearWays_34 : decode cX5_clearWays 34 = .ok (.iconst 0, 1) := by decide +kernel
theorem dX5_clearWays_35 : decode cX5_clearWays 35 = .ok (.bastore, 1) := by decide +kernel
theorem dX5_clearWays_36 : decode cX5_clearWays 36 = .ok (.iinc 1 1, 3) := by decide +kernel
theorem dX5_clearWays_39 : decode cX5_clearWays 39 = .ok (.goto (-16), 3) := by decide +kernel
theorem dX5_clearWays_42 : decode cX5_clearWays 42 = .ok (.aload_n 0, 1) := by decide +kernel
theorem dX5_clearWays_43 : decode cX5_clearWays 43 = .ok (.iconst 0, 1) := by decide +kernel
theorem dX5_clearWays_44 : decode cX5_clearWays 44 = .ok (.putfield 48, 3) := by decide +kernel
theorem dX5_clearWays_47 : decode cX5_clearWays 47 = .ok (.aload_n 0, 1) := by decide +kernel
theorem dX5_clearWays_48 : decode cX5_clearWays 48 = .ok (.iconst 0, 1) := by decide +kernel
theorem dX5_clearWays_49 : decode cX5_clearWays 49 = .ok (.putfield 51, 3) := by decide +kernel
theorem dX5_clearWays_52 : decode cX5_clearWays 52 = .ok (.return_, 1) := by decide +kernel
theorem dX5_takePin_0 : decode cX5_takePin 0 = .ok (.aload_n 0, 1) := by decide +kernel
theorem dX5_takePin_1 : decode cX5_takePin 1 = .ok (.getfield 42, 3) := by decide +kernel
theorem dX5_takePin_4 : decode cX5_takePin 4 = .ok (.iload_n 1, 1) := by decide +kernel
theorem dX5_takePin_5 : decode cX5_takePin 5 = .ok (.iconst 1, 1) := by decide +kernel
theorem dX5_takePin_6 : decode cX5_takePin 6 = .ok (.bastore, 1) := by decide +kernel
theorem dX5_takePin_7 : decode cX5_takePin 7 = .ok (.aload_n 0, 1) := by decide +kernel
theorem dX5_takePin_8 : decode cX5_takePin 8 = .ok (.getfield 42, 3) := by decide +kernel
theorem dX5_takePin_11 : decode cX5_takePin 11 = .ok (.iload_n 1, 1) := by decide +kernel
theorem dX5_takePin_12 : decode cX5_takePin 12 = .ok (.bipush 48, 2) := by decide +kernel
theorem dX5_takePin_14 : decode cX5_takePin 14 = .ok (.iadd, 1) := by decide +kernel
theorem dX5_takePin_15 : decode cX5_takePin 15 = .ok (.iconst 1, 1) := by decide +kernel
theorem dX5_takePin_16 : decode cX5_takePin 16 = .ok (.bastore, 1) := by decide +kernel
theorem dX5_takePin_17 : decode cX5_takePin 17 = .ok (.return_, 1) := by decide +kernel
theorem dX5_spreadCosts_0 : decode cX5_spreadCosts 0 = .ok (.aload_n 0, 1) := by decide +kernel
theorem dX5_spreadCosts_1 : decode cX5_spreadCosts 1 = .ok (.iconst 0, 1) := by decide +kernel
theorem dX5_spreadCosts_2 : decode cX5_spreadCosts 2 = .ok (.putfield 28, 3) := by decide +kernel
theorem dX5_spreadCosts_5 : decode cX5_spreadCosts 5 = .ok (.aload_n 0, 1) := by decide +kernel
theorem dX5_spreadCosts_6 : decode cX5_spreadCosts 6 = .ok (.iconst 0, 1) := by decide +kernel
theorem dX5_spreadCosts_7 : decode cX5_spreadCosts 7 = .ok (.putfield 32, 3) := by decide +kernel
theorem dX5_spreadCosts_10 : decode cX5_spreadCosts 10 = .ok (.iconst 0, 1) := by decide +kernel
theorem dX5_spreadCosts_11 : decode cX5_spreadCosts 11 = .ok (.istore_n 1, 1) := by decide +kernel
theorem dX5_spreadCosts_12 : decode cX5_spreadCosts 12 = .ok (.iload_n 1, 1) := by decide +kernel
theorem dX5_spreadCosts_13 : decode cX5_spreadCosts 13 = .ok (.bipush 96, 2) := by decide +kernel
theorem dX5_spreadCosts_15 : decode cX5_spreadCosts 15 = .ok (.if_icmp .ge 51, 3) := by decide +kernel
theorem dX5_spreadCosts_18 : decode cX5_spreadCosts 18 = .ok (.aload_n 0, 1) := by decide +kernel
theorem dX5_spreadCosts_19 : decode cX5_spreadCosts 19 = .ok (.getfield 18, 3) := by decide +kernel
theorem dX5_spreadCosts_22 : decode cX5_spreadCosts 22 = .ok (.iload_n 1, 1) := by decide +kernel
theorem dX5_spreadCosts_23 : decode cX5_spreadCosts 23 = .ok (.aload_n 0, 1) := by decide +kernel
theorem dX5_spreadCosts_24 : decode cX5_spreadCosts 24 = .ok (.getfield 42, 3) := by decide +kernel
theorem dX5_spreadCosts_27 : decode cX5_spreadCosts 27 = .ok (.iload_n 1, 1) := by decide +kernel
theorem dX5_spreadCosts_28 : decode cX5_spreadCosts 28 = .ok (.baload, 1) := by decide +kernel
theorem dX5_spreadCosts_29 : decode cX5_spreadCosts 29 = .ok (.ifCond .eq 7, 3) := by decide +kernel
theorem dX5_spreadCosts_32 : decode cX5_spreadCosts 32 = .ok (.iconst 0, 1) := by decide +kernel
theorem dX5_spreadCosts_33 : decode cX5_spreadCosts 33 = .ok (.goto 5, 3) := by decide +kernel
theorem dX5_spreadCosts_36 : decode cX5_spreadCosts 36 = .ok (.ldc 99, 2) := by decide +kernel
theorem dX5_spreadCosts_38 : decode cX5_spreadCosts 38 = .ok (.iastore, 1) := by decide +kernel
theorem dX5_spreadCosts_39 : decode cX5_spreadCosts 39 = .ok (.aload_n 0, 1) := by decide +kernel
theorem dX5_spreadCosts_40 : decode cX5_spreadCosts 40 = .ok (.getfield 24, 3) := by decide +kernel
theorem dX5_spreadCosts_43 : decode cX5_spreadCosts 43 = .ok (.iload_n 1, 1) := by decide +kernel
theorem dX5_spreadCosts_44 : decode cX5_spreadCosts 44 = .ok (.iconst 0, 1) := by decide +kernel
theorem dX5_spreadCosts_45 : decode cX5_spreadCosts 45 = .ok (.bastore, 1) := by decide +kernel
theorem dX5_spreadCosts_46 : decode cX5_spreadCosts 46 = .ok (.aload_n 0, 1) := by decide +kernel
theorem dX5_spreadCosts_47 : decode cX5_spreadCosts 47 = .ok (.getfield 42, 3) := by decide +kernel
theorem dX5_spreadCosts_50 : decode cX5_spreadCosts 50 = .ok (.iload_n 1, 1) := by decide +kernel
theorem dX5_spreadCosts_51 : decode cX5_spreadCosts 51 = .ok (.baload, 1) := by decide +kernel
theorem dX5_spreadCosts_52 : decode cX5_spreadCosts 52 = .ok (.ifCond .eq 8, 3) := by decide +kernel
theorem dX5_spreadCosts_55 : decode cX5_spreadCosts 55 = .ok (.aload_n 0, 1) := by decide +kernel
theorem dX5_spreadCosts_56 : decode cX5_spreadCosts 56 = .ok (.iload_n 1, 1) := by decide +kernel
theorem dX5_spreadCosts_57 : decode cX5_spreadCosts 57 = .ok (.invokevirtual 106, 3) := by decide +kernel
theorem dX5_spreadCosts_60 : decode cX5_spreadCosts 60 = .ok (.iinc 1 1, 3) := by decide +kernel
theorem dX5_spreadCosts_63 : decode cX5_spreadCosts 63 = .ok (.goto (-51), 3) := by decide +kernel
theorem dX5_spreadCosts_66 : decode cX5_spreadCosts 66 = .ok (.iconst 0, 1) := by decide +kernel
theorem dX5_spreadCosts_67 : decode cX5_spreadCosts 67 = .ok (.istore_n 1, 1) := by decide +kernel
theorem dX5_spreadCosts_68 : decode cX5_spreadCosts 68 = .ok (.aload_n 0, 1) := by decide +kernel
theorem dX5_spreadCosts_69 : decode cX5_spreadCosts 69 = .ok (.getfield 32, 3) := by decide +kernel
theorem dX5_spreadCosts_72 : decode cX5_spreadCosts 72 = .ok (.ifCond .le 60, 3) := by decide +kernel
theorem dX5_spreadCosts_75 : decode cX5_spreadCosts 75 = .ok (.iload_n 1, 1) := by decide +kernel
theorem dX5_spreadCosts_76 : decode cX5_spreadCosts 76 = .ok (.ldc 99, 2) := by decide +kernel
theorem dX5_spreadCosts_78 : decode cX5_spreadCosts 78 = .ok (.if_icmp .ge 54, 3) := by decide +kernel
theorem dX5_spreadCosts_81 : decode cX5_spreadCosts 81 = .ok (.aload_n 0, 1) := by decide +kernel
theorem dX5_spreadCosts_82 : decode cX5_spreadCosts 82 = .ok (.getfield 21, 3) := by decide +kernel
theorem dX5_spreadCosts_85 : decode cX5_spreadCosts 85 = .ok (.aload_n 0, 1) := by decide +kernel
theorem dX5_spreadCosts_86 : decode cX5_spreadCosts 86 = .ok (.getfield 28, 3) := by decide +kernel
theorem dX5_spreadCosts_89 : decode cX5_spreadCosts 89 = .ok (.iaload, 1) := by decide +kernel
theorem dX5_spreadCosts_90 : decode cX5_spreadCosts 90 = .ok (.istore_n 2, 1) := by decide +kernel
theorem dX5_spreadCosts_91 : decode cX5_spreadCosts 91 = .ok (.aload_n 0, 1) := by decide +kernel
theorem dX5_spreadCosts_92 : decode cX5_spreadCosts 92 = .ok (.aload_n 0, 1) := by decide +kernel
theorem dX5_spreadCosts_93 : decode cX5_spreadCosts 93 = .ok (.getfield 28, 3) := by decide +kernel
theorem dX5_spreadCosts_96 : decode cX5_spreadCosts 96 = .ok (.iconst 1, 1) := by decide +kernel
theorem dX5_spreadCosts_97 : decode cX5_spreadCosts 97 = .ok (.iadd, 1) := by decide +kernel
theorem dX5_spreadCosts_98 : decode cX5_spreadCosts 98 = .ok (.bipush 96, 2) := by decide +kernel
theorem dX5_spreadCosts_100 : decode cX5_spreadCosts 100 = .ok (.irem, 1) := by decide +kernel
theorem dX5_spreadCosts_101 : decode cX5_spreadCosts 101 = .ok (.putfield 28, 3) := by decide +kernel
theorem dX5_spreadCosts_104 : decode cX5_spreadCosts 104 = .ok (.aload_n 0, 1) := by decide +kernel
theorem dX5_spreadCosts_105 : decode cX5_spreadCosts 105 = .ok (.dup, 1) := by decide +kernel
theorem dX5_spreadCosts_106 : decode cX5_spreadCosts 106 = .ok (.getfield 32, 3) := by decide +kernel
theorem dX5_spreadCosts_109 : decode cX5_spreadCosts 109 = .ok (.iconst 1, 1) := by decide +kernel
theorem dX5_spreadCosts_110 : decode cX5_spreadCosts 110 = .ok (.isub, 1) := by decide +kernel
theorem dX5_spreadCosts_111 : decode cX5_spreadCosts 111 = .ok (.putfield 32, 3) := by decide +kernel
theorem dX5_spreadCosts_114 : decode cX5_spreadCosts 114 = .ok (.aload_n 0, 1) := by decide +kernel
theorem dX5_spreadCosts_115 : decode cX5_spreadCosts 115 = .ok (.getfield 24, 3) := by decide +kernel
theorem dX5_spreadCosts_118 : decode cX5_spreadCosts 118 = .ok (.iload_n 2, 1) := by decide +kernel
theorem dX5_spreadCosts_119 : decode cX5_spreadCosts 119 = .ok (.iconst 0, 1) := by decide +kernel
theorem dX5_spreadCosts_120 : decode cX5_spreadCosts 120 = .ok (.bastore, 1) := by decide +kernel
theorem dX5_spreadCosts_121 : decode cX5_spreadCosts 121 = .ok (.aload_n 0, 1) := by decide +kernel
theorem dX5_spreadCosts_122 : decode cX5_spreadCosts 122 = .ok (.iload_n 2, 1) := by decide +kernel
theorem dX5_spreadCosts_123 : decode cX5_spreadCosts 123 = .ok (.invokevirtual 109, 3) := by decide +kernel
theorem dX5_spreadCosts_126 : decode cX5_spreadCosts 126 = .ok (.iinc 1 1, 3) := by decide +kernel
theorem dX5_spreadCosts_129 : decode cX5_spreadCosts 129 = .ok (.goto (-61), 3) := by decide +kernel
theorem dX5_spreadCosts_132 : decode cX5_spreadCosts 132 = .ok (.return_, 1) := by decide +kernel
theorem dX5_spreadFrom_0 : decode cX5_spreadFrom 0 = .ok (.iconst 0, 1) := by decide +kernel
theorem dX5_spreadFrom_1 : decode cX5_spreadFrom 1 = .ok (.istore_n 2, 1) := by decide +kernel
theorem dX5_spreadFrom_2 : decode cX5_spreadFrom 2 = .ok (.iload_n 2, 1) := by decide +kernel
theorem dX5_spreadFrom_3 : decode cX5_spreadFrom 3 = .ok (.iconst 5, 1) := by decide +kernel
theorem dX5_spreadFrom_4 : decode cX5_spreadFrom 4 = .ok (.if_icmp .ge 85, 3) := by decide +kernel
theorem dX5_spreadFrom_7 : decode cX5_spreadFrom 7 = .ok (.iload_n 1, 1) := by decide +kernel
theorem dX5_spreadFrom_8 : decode cX5_spreadFrom 8 = .ok (.iload_n 2, 1) := by decide +kernel
theorem dX5_spreadFrom_9 : decode cX5_spreadFrom 9 = .ok (.invokestatic 112, 3) := by decide +kernel
theorem dX5_spreadFrom_12 : decode cX5_spreadFrom 12 = .ok (.istore_n 3, 1) := by decide +kernel
theorem dX5_spreadFrom_13 : decode cX5_spreadFrom 13 = .ok (.iload_n 3, 1) := by decide +kernel
theorem dX5_spreadFrom_14 : decode cX5_spreadFrom 14 = .ok (.ifCond .lt 69, 3) := by decide +kernel
theorem dX5_spreadFrom_17 : decode cX5_spreadFrom 17 = .ok (.aload_n 0, 1) := by decide +kernel
theorem dX5_spreadFrom_18 : decode cX5_spreadFrom 18 = .ok (.getfield 9, 3) := by decide +kernel
theorem dX5_spreadFrom_21 : decode cX5_spreadFrom 21 = .ok (.iload_n 3, 1) := by decide +kernel
theorem dX5_spreadFrom_22 : decode cX5_spreadFrom 22 = .ok (.iaload, 1) := by decide +kernel
theorem dX5_spreadFrom_23 : decode cX5_spreadFrom 23 = .ok (.ifCond .eq 21, 3) := by decide +kernel
theorem dX5_spreadFrom_26 : decode cX5_spreadFrom 26 = .ok (.aload_n 0, 1) := by decide +kernel
theorem dX5_spreadFrom_27 : decode cX5_spreadFrom 27 = .ok (.getfield 38, 3) := by decide +kernel
theorem dX5_spreadFrom_30 : decode cX5_spreadFrom 30 = .ok (.ifCond .eq 53, 3) := by decide +kernel
theorem dX5_spreadFrom_33 : decode cX5_spreadFrom 33 = .ok (.aload_n 0, 1) := by decide +kernel
theorem dX5_spreadFrom_34 : decode cX5_spreadFrom 34 = .ok (.getfield 9, 3) := by decide +kernel
theorem dX5_spreadFrom_37 : decode cX5_spreadFrom 37 = .ok (.iload_n 3, 1) := by decide +kernel
theorem dX5_spreadFrom_38 : decode cX5_spreadFrom 38 = .ok (.iaload, 1) := by decide +kernel
theorem dX5_spreadFrom_39 : decode cX5_spreadFrom 39 = .ok (.bipush 8, 2) := by decide +kernel
theorem dX5_spreadFrom_41 : decode cX5_spreadFrom 41 = .ok (.if_icmp .ne 42, 3) := by decide +kernel
theorem dX5_spreadFrom_44 : decode cX5_spreadFrom 44 = .ok (.aload_n 0, 1) := by decide +kernel
theorem dX5_spreadFrom_45 : decode cX5_spreadFrom 45 = .ok (.getfield 18, 3) := by decide +kernel
theorem dX5_spreadFrom_48 : decode cX5_spreadFrom 48 = .ok (.iload_n 1, 1) := by decide +kernel
theorem dX5_spreadFrom_49 : decode cX5_spreadFrom 49 = .ok (.iaload, 1) := by decide +kernel
theorem dX5_spreadFrom_50 : decode cX5_spreadFrom 50 = .ok (.aload_n 0, 1) := by decide +kernel
theorem dX5_spreadFrom_51 : decode cX5_spreadFrom 51 = .ok (.iload_n 3, 1) := by decide +kernel
theorem dX5_spreadFrom_52 : decode cX5_spreadFrom 52 = .ok (.iload_n 2, 1) := by decide +kernel
theorem dX5_spreadFrom_53 : decode cX5_spreadFrom 53 = .ok (.invokevirtual 115, 3) := by decide +kernel
theorem dX5_spreadFrom_56 : decode cX5_spreadFrom 56 = .ok (.iadd, 1) := by decide +kernel
theorem dX5_spreadFrom_57 : decode cX5_spreadFrom 57 = .ok (.istore 4, 2) := by decide +kernel
theorem dX5_spreadFrom_59 : decode cX5_spreadFrom 59 = .ok (.iload 4, 2) := by decide +kernel
theorem dX5_spreadFrom_61 : decode cX5_spreadFrom 61 = .ok (.aload_n 0, 1) := by decide +kernel
theorem dX5_spreadFrom_62 : decode cX5_spreadFrom 62 = .ok (.getfield 18, 3) := by decide +kernel
theorem dX5_spreadFrom_65 : decode cX5_spreadFrom 65 = .ok (.iload_n 3, 1) := by decide +kernel
theorem dX5_spreadFrom_66 : decode cX5_spreadFrom 66 = .ok (.iaload, 1) := by decide +kernel
theorem dX5_spreadFrom_67 : decode cX5_spreadFrom 67 = .ok (.if_icmp .ge 16, 3) := by decide +kernel
theorem dX5_spreadFrom_70 : decode cX5_spreadFrom 70 = .ok (.aload_n 0, 1) := by decide +kernel
theorem dX5_spreadFrom_71 : decode cX5_spreadFrom 71 = .ok (.getfield 18, 3) := by decide +kernel
theorem dX5_spreadFrom_74 : decode cX5_spreadFrom 74 = .ok (.iload_n 3, 1) := by decide +kernel
theorem dX5_spreadFrom_75 : decode cX5_spreadFrom 75 = .ok (.iload 4, 2) := by decide +kernel
theorem dX5_spreadFrom_77 : decode cX5_spreadFrom 77 = .ok (.iastore, 1) := by decide +kernel
theorem dX5_spreadFrom_78 : decode cX5_spreadFrom 78 = .ok (.aload_n 0, 1) := by decide +kernel
theorem dX5_spreadFrom_79 : decode cX5_spreadFrom 79 = .ok (.iload_n 3, 1) := by decide +kernel
theorem dX5_spreadFrom_80 : decode cX5_spreadFrom 80 = .ok (.invokevirtual 106, 3) := by decide +kernel
theorem dX5_spreadFrom_83 : decode cX5_spreadFrom 83 = .ok (.iinc 2 1, 3) := by decide +kernel
theorem dX5_spreadFrom_86 : decode cX5_spreadFrom 86 = .ok (.goto (-84), 3) := by decide +kernel
theorem dX5_spreadFrom_89 : decode cX5_spreadFrom 89 = .ok (.return_, 1) := by decide +kernel
theorem dX5_enqueue_0 : decode cX5_enqueue 0 = .ok (.aload_n 0, 1) := by decide +kernel
theorem dX5_enqueue_1 : decode cX5_enqueue 1 = .ok (.getfield 24, 3) := by decide +kernel
theorem dX5_enqueue_4 : decode cX5_enqueue 4 = .ok (.iload_n 1, 1) := by decide +kernel
theorem dX5_enqueue_5 : decode cX5_enqueue 5 = .ok (.baload, 1) := by decide +kernel
theorem dX5_enqueue_6 : decode cX5_enqueue 6 = .ok (.ifCond .ne 38, 3) := by decide +kernel
theorem dX5_enqueue_9 : decode cX5_enqueue 9 = .ok (.aload_n 0, 1) := by decide +kernel
theorem dX5_enqueue_10 : decode cX5_enqueue 10 = .ok (.getfield 24, 3) := by decide +kernel
theorem dX5_enqueue_13 : decode cX5_enqueue 13 = .ok (.iload_n 1, 1) := by decide +kernel
theorem dX5_enqueue_14 : decode cX5_enqueue 14 = .ok (.iconst 1, 1) := by decide +kernel
theorem dX5_enqueue_15 : decode cX5_enqueue 15 = .ok (.bastore, 1) := by decide +kernel
theorem dX5_enqueue_16 : decode cX5_enqueue 16 = .ok (.aload_n 0, 1) := by decide +kernel
theorem dX5_enqueue_17 : decode cX5_enqueue 17 = .ok (.getfield 21, 3) := by decide +kernel
theorem dX5_enqueue_20 : decode cX5_enqueue 20 = .ok (.aload_n 0, 1) := by decide +kernel
theorem dX5_enqueue_21 : decode cX5_enqueue 21 = .ok (.getfield 28, 3) := by decide +kernel
theorem dX5_enqueue_24 : decode cX5_enqueue 24 = .ok (.aload_n 0, 1) := by decide +kernel
theorem dX5_enqueue_25 : decode cX5_enqueue 25 = .ok (.getfield 32, 3) := by decide +kernel
theorem dX5_enqueue_28 : decode cX5_enqueue 28 = .ok (.iadd, 1) := by decide +kernel
theorem dX5_enqueue_29 : decode cX5_enqueue 29 = .ok (.bipush 96, 2) := by decide +kernel
theorem dX5_enqueue_31 : decode cX5_enqueue 31 = .ok (.irem, 1) := by decide +kernel
theorem dX5_enqueue_32 : decode cX5_enqueue 32 = .ok (.iload_n 1, 1) := by decide +kernel
theorem dX5_enqueue_33 : decode cX5_enqueue 33 = .ok (.iastore, 1) := by decide +kernel
theorem dX5_enqueue_34 : decode cX5_enqueue 34 = .ok (.aload_n 0, 1) := by decide +kernel
theorem dX5_enqueue_35 : decode cX5_enqueue 35 = .ok (.dup, 1) := by decide +kernel
theorem dX5_enqueue_36 : decode cX5_enqueue 36 = .ok (.getfield 32, 3) := by decide +kernel
theorem dX5_enqueue_39 : decode cX5_enqueue 39 = .ok (.iconst 1, 1) := by decide +kernel
theorem dX5_enqueue_40 : decode cX5_enqueue 40 = .ok (.iadd, 1) := by decide +kernel
theorem dX5_enqueue_41 : decode cX5_enqueue 41 = .ok (.putfield 32, 3) := by decide +kernel
theorem dX5_enqueue_44 : decode cX5_enqueue 44 = .ok (.return_, 1) := by decide +kernel
theorem dX5_stepCost_0 : decode cX5_stepCost 0 = .ok (.aload_n 0, 1) := by decide +kernel
theorem dX5_stepCost_1 : decode cX5_stepCost 1 = .ok (.getfield 9, 3) := by decide +kernel
theorem dX5_stepCost_4 : decode cX5_stepCost 4 = .ok (.iload_n 1, 1) := by decide +kernel
theorem dX5_stepCost_5 : decode cX5_stepCost 5 = .ok (.iaload, 1) := by decide +kernel
theorem dX5_stepCost_6 : decode cX5_stepCost 6 = .ok (.bipush 8, 2) := by decide +kernel
theorem dX5_stepCost_8 : decode cX5_stepCost 8 = .ok (.if_icmp .ne 8, 3) := by decide +kernel
theorem dX5_stepCost_11 : decode cX5_stepCost 11 = .ok (.bipush 8, 2) := by decide +kernel
theorem dX5_stepCost_13 : decode cX5_stepCost 13 = .ok (.goto 4, 3) := by decide +kernel
theorem dX5_stepCost_16 : decode cX5_stepCost 16 = .ok (.iconst 0, 1) := by decide +kernel
theorem dX5_stepCost_17 : decode cX5_stepCost 17 = .ok (.istore_n 3, 1) := by decide +kernel
theorem dX5_stepCost_18 : decode cX5_stepCost 18 = .ok (.iload_n 2, 1) := by decide +kernel
theorem dX5_stepCost_19 : decode cX5_stepCost 19 = .ok (.iconst 4, 1) := by decide +kernel
theorem dX5_stepCost_20 : decode cX5_stepCost 20 = .ok (.if_icmp .ne 15, 3) := by decide +kernel
theorem dX5_stepCost_23 : decode cX5_stepCost 23 = .ok (.iload_n 3, 1) := by decide +kernel
theorem dX5_stepCost_24 : decode cX5_stepCost 24 = .ok (.aload_n 0, 1) := by decide +kernel
theorem dX5_stepCost_25 : decode cX5_stepCost 25 = .ok (.getfield 15, 3) := by decide +kernel
theorem dX5_stepCost_28 : decode cX5_stepCost 28 = .ok (.iload_n 1, 1) := by decide +kernel
theorem dX5_stepCost_29 : decode cX5_stepCost 29 = .ok (.bipush 48, 2) := by decide +kernel
theorem dX5_stepCost_31 : decode cX5_stepCost 31 = .ok (.irem, 1) := by decide +kernel
theorem dX5_stepCost_32 : decode cX5_stepCost 32 = .ok (.iaload, 1) := by decide +kernel
theorem dX5_stepCost_33 : decode cX5_stepCost 33 = .ok (.iadd, 1) := by decide +kernel
theorem dX5_stepCost_34 : decode cX5_stepCost 34 = .ok (.ireturn, 1) := by decide +kernel
theorem dX5_stepCost_35 : decode cX5_stepCost 35 = .ok (.iload_n 2, 1) := by decide +kernel
theorem dX5_stepCost_36 : decode cX5_stepCost 36 = .ok (.iconst 2, 1) := by decide +kernel
theorem dX5_stepCost_37 : decode cX5_stepCost 37 = .ok (.if_icmp .eq 8, 3) := by decide +kernel
theorem dX5_stepCost_40 : decode cX5_stepCost 40 = .ok (.iload_n 2, 1) := by decide +kernel
theorem dX5_stepCost_41 : decode cX5_stepCost 41 = .ok (.iconst 3, 1) := by decide +kernel
theorem dX5_stepCost_42 : decode cX5_stepCost 42 = .ok (.if_icmp .ne 7, 3) := by decide +kernel
theorem dX5_stepCost_45 : decode cX5_stepCost 45 = .ok (.iconst 1, 1) := by decide +kernel
theorem dX5_stepCost_46 : decode cX5_stepCost 46 = .ok (.goto 4, 3) := by decide +kernel
theorem dX5_stepCost_49 : decode cX5_stepCost 49 = .ok (.iconst 0, 1) := by decide +kernel
theorem dX5_stepCost_50 : decode cX5_stepCost 50 = .ok (.istore 4, 2) := by decide +kernel
theorem dX5_stepCost_52 : decode cX5_stepCost 52 = .ok (.iload_n 1, 1) := by decide +kernel
theorem dX5_stepCost_53 : decode cX5_stepCost 53 = .ok (.bipush 48, 2) := by decide +kernel
theorem dX5_stepCost_55 : decode cX5_stepCost 55 = .ok (.if_icmp .ge 7, 3) := by decide +kernel
theorem dX5_stepCost_58 : decode cX5_stepCost 58 = .ok (.iconst 1, 1) := by decide +kernel
theorem dX5_stepCost_59 : decode cX5_stepCost 59 = .ok (.goto 4, 3) := by decide +kernel
theorem dX5_stepCost_62 : decode cX5_stepCost 62 = .ok (.iconst 0, 1) := by decide +kernel
theorem dX5_stepCost_63 : decode cX5_stepCost 63 = .ok (.istore 5, 2) := by decide +kernel
theorem dX5_stepCost_65 : decode cX5_stepCost 65 = .ok (.iload_n 3, 1) := by decide +kernel
theorem dX5_stepCost_66 : decode cX5_stepCost 66 = .ok (.iload 4, 2) := by decide +kernel
theorem dX5_stepCost_68 : decode cX5_stepCost 68 = .ok (.iload 5, 2) := by decide +kernel
theorem dX5_stepCost_70 : decode cX5_stepCost 70 = .ok (.if_icmp .ne 7, 3) := by decide +kernel
theorem dX5_stepCost_73 : decode cX5_stepCost 73 = .ok (.iconst 1, 1) := by decide +kernel
theorem dX5_stepCost_74 : decode cX5_stepCost 74 = .ok (.goto 4, 3) := by decide +kernel
theorem dX5_stepCost_77 : decode cX5_stepCost 77 = .ok (.iconst 2, 1) := by decide +kernel
theorem dX5_stepCost_78 : decode cX5_stepCost 78 = .ok (.iadd, 1) := by decide +kernel
theorem dX5_stepCost_79 : decode cX5_stepCost 79 = .ok (.ireturn, 1) := by decide +kernel
theorem dX5_goBack_0 : decode cX5_goBack 0 = .ok (.iload_n 1, 1) := by decide +kernel
theorem dX5_goBack_1 : decode cX5_goBack 1 = .ok (.istore_n 2, 1) := by decide +kernel
theorem dX5_goBack_2 : decode cX5_goBack 2 = .ok (.iconst 0, 1) := by decide +kernel
theorem dX5_goBack_3 : decode cX5_goBack 3 = .ok (.istore_n 3, 1) := by decide +kernel
theorem dX5_goBack_4 : decode cX5_goBack 4 = .ok (.iload_n 3, 1) := by decide +kernel
theorem dX5_goBack_5 : decode cX5_goBack 5 = .ok (.bipush 96, 2) := by decide +kernel
theorem dX5_goBack_7 : decode cX5_goBack 7 = .ok (.if_icmp .ge 77, 3) := by decide +kernel
theorem dX5_goBack_10 : decode cX5_goBack 10 = .ok (.aload_n 0, 1) := by decide +kernel
theorem dX5_goBack_11 : decode cX5_goBack 11 = .ok (.getfield 42, 3) := by decide +kernel
theorem dX5_goBack_14 : decode cX5_goBack 14 = .ok (.iload_n 2, 1) := by decide +kernel
theorem dX5_goBack_15 : decode cX5_goBack 15 = .ok (.baload, 1) := by decide +kernel
theorem dX5_goBack_16 : decode cX5_goBack 16 = .ok (.ifCond .ne 68, 3) := by decide +kernel
theorem dX5_goBack_19 : decode cX5_goBack 19 = .ok (.aload_n 0, 1) := by decide +kernel
theorem dX5_goBack_20 : decode cX5_goBack 20 = .ok (.iload_n 2, 1) := by decide +kernel
theorem dX5_goBack_21 : decode cX5_goBack 21 = .ok (.invokevirtual 118, 3) := by decide +kernel
theorem dX5_goBack_24 : decode cX5_goBack 24 = .ok (.istore 4, 2) := by decide +kernel
theorem dX5_goBack_26 : decode cX5_goBack 26 = .ok (.iload 4, 2) := by decide +kernel
theorem dX5_goBack_28 : decode cX5_goBack 28 = .ok (.iconst 4, 1) := by decide +kernel
theorem dX5_goBack_29 : decode cX5_goBack 29 = .ok (.if_icmp .ne 35, 3) := by decide +kernel
theorem dX5_goBack_32 : decode cX5_goBack 32 = .ok (.aload_n 0, 1) := by decide +kernel
theorem dX5_goBack_33 : decode cX5_goBack 33 = .ok (.getfield 15, 3) := by decide +kernel
theorem dX5_goBack_36 : decode cX5_goBack 36 = .ok (.iload_n 2, 1) := by decide +kernel
theorem dX5_goBack_37 : decode cX5_goBack 37 = .ok (.bipush 48, 2) := by decide +kernel
theorem dX5_goBack_39 : decode cX5_goBack 39 = .ok (.irem, 1) := by decide +kernel
theorem dX5_goBack_40 : decode cX5_goBack 40 = .ok (.iaload, 1) := by decide +kernel
theorem dX5_goBack_41 : decode cX5_goBack 41 = .ok (.ifCond .le 23, 3) := by decide +kernel
theorem dX5_goBack_44 : decode cX5_goBack 44 = .ok (.aload_n 0, 1) := by decide +kernel
theorem dX5_goBack_45 : decode cX5_goBack 45 = .ok (.getfield 45, 3) := by decide +kernel
theorem dX5_goBack_48 : decode cX5_goBack 48 = .ok (.iload_n 2, 1) := by decide +kernel
theorem dX5_goBack_49 : decode cX5_goBack 49 = .ok (.bipush 48, 2) := by decide +kernel
theorem dX5_goBack_51 : decode cX5_goBack 51 = .ok (.irem, 1) := by decide +kernel
theorem dX5_goBack_52 : decode cX5_goBack 52 = .ok (.iconst 1, 1) := by decide +kernel
theorem dX5_goBack_53 : decode cX5_goBack 53 = .ok (.bastore, 1) := by decide +kernel
theorem dX5_goBack_54 : decode cX5_goBack 54 = .ok (.aload_n 0, 1) := by decide +kernel
theorem dX5_goBack_55 : decode cX5_goBack 55 = .ok (.dup, 1) := by decide +kernel
theorem dX5_goBack_56 : decode cX5_goBack 56 = .ok (.getfield 48, 3) := by decide +kernel
theorem dX5_goBack_59 : decode cX5_goBack 59 = .ok (.iconst 1, 1) := by decide +kernel
theorem dX5_goBack_60 : decode cX5_goBack 60 = .ok (.iadd, 1) := by decide +kernel
theorem dX5_goBack_61 : decode cX5_goBack 61 = .ok (.putfield 48, 3) := by decide +kernel
theorem dX5_goBack_64 : decode cX5_goBack 64 = .ok (.aload_n 0, 1) := by decide +kernel
theorem dX5_goBack_65 : decode cX5_goBack 65 = .ok (.getfield 42, 3) := by decide +kernel
theorem dX5_goBack_68 : decode cX5_goBack 68 = .ok (.iload_n 2, 1) := by decide +kernel
theorem dX5_goBack_69 : decode cX5_goBack 69 = .ok (.iconst 1, 1) := by decide +kernel
theorem dX5_goBack_70 : decode cX5_goBack 70 = .ok (.bastore, 1) := by decide +kernel
theorem dX5_goBack_71 : decode cX5_goBack 71 = .ok (.iload_n 2, 1) := by decide +kernel
theorem dX5_goBack_72 : decode cX5_goBack 72 = .ok (.iload 4, 2) := by decide +kernel
theorem dX5_goBack_74 : decode cX5_goBack 74 = .ok (.invokestatic 112, 3) := by decide +kernel
theorem dX5_goBack_77 : decode cX5_goBack 77 = .ok (.istore_n 2, 1) := by decide +kernel
theorem dX5_goBack_78 : decode cX5_goBack 78 = .ok (.iinc 3 1, 3) := by decide +kernel
theorem dX5_goBack_81 : decode cX5_goBack 81 = .ok (.goto (-77), 3) := by decide +kernel
theorem dX5_goBack_84 : decode cX5_goBack 84 = .ok (.return_, 1) := by decide +kernel
theorem dX5_firstBack_0 : decode cX5_firstBack 0 = .ok (.iconst 0, 1) := by decide +kernel
theorem dX5_firstBack_1 : decode cX5_firstBack 1 = .ok (.istore_n 2, 1) := by decide +kernel
theorem dX5_firstBack_2 : decode cX5_firstBack 2 = .ok (.iload_n 2, 1) := by decide +kernel
theorem dX5_firstBack_3 : decode cX5_firstBack 3 = .ok (.iconst 4, 1) := by decide +kernel
theorem dX5_firstBack_4 : decode cX5_firstBack 4 = .ok (.if_icmp .ge 54, 3) := by decide +kernel
theorem dX5_firstBack_7 : decode cX5_firstBack 7 = .ok (.iload_n 1, 1) := by decide +kernel
theorem dX5_firstBack_8 : decode cX5_firstBack 8 = .ok (.iload_n 2, 1) := by decide +kernel
theorem dX5_firstBack_9 : decode cX5_firstBack 9 = .ok (.invokestatic 112, 3) := by decide +kernel
theorem dX5_firstBack_12 : decode cX5_firstBack 12 = .ok (.istore_n 3, 1) := by decide +kernel
theorem dX5_firstBack_13 : decode cX5_firstBack 13 = .ok (.iload_n 3, 1) := by decide +kernel
theorem dX5_firstBack_14 : decode cX5_firstBack 14 = .ok (.ifCond .lt 38, 3) := by decide +kernel
theorem dX5_firstBack_17 : decode cX5_firstBack 17 = .ok (.aload_n 0, 1) := by decide +kernel
theorem dX5_firstBack_18 : decode cX5_firstBack 18 = .ok (.getfield 18, 3) := by decide +kernel
theorem dX5_firstBack_21 : decode cX5_firstBack 21 = .ok (.iload_n 3, 1) := by decide +kernel
theorem dX5_firstBack_22 : decode cX5_firstBack 22 = .ok (.iaload, 1) := by decide +kernel
theorem dX5_firstBack_23 : decode cX5_firstBack 23 = .ok (.ldc 99, 2) := by decide +kernel
theorem dX5_firstBack_25 : decode cX5_firstBack 25 = .ok (.if_icmp .ge 27, 3) := by decide +kernel
theorem dX5_firstBack_28 : decode cX5_firstBack 28 = .ok (.aload_n 0, 1) := by decide +kernel
theorem dX5_firstBack_29 : decode cX5_firstBack 29 = .ok (.getfield 18, 3) := by decide +kernel
theorem dX5_firstBack_32 : decode cX5_firstBack 32 = .ok (.iload_n 3, 1) := by decide +kernel
theorem dX5_firstBack_33 : decode cX5_firstBack 33 = .ok (.iaload, 1) := by decide +kernel
theorem dX5_firstBack_34 : decode cX5_firstBack 34 = .ok (.aload_n 0, 1) := by decide +kernel
theorem dX5_firstBack_35 : decode cX5_firstBack 35 = .ok (.iload_n 1, 1) := by decide +kernel
theorem dX5_firstBack_36 : decode cX5_firstBack 36 = .ok (.iload_n 2, 1) := by decide +kernel
theorem dX5_firstBack_37 : decode cX5_firstBack 37 = .ok (.invokevirtual 115, 3) := by decide +kernel
theorem dX5_firstBack_40 : decode cX5_firstBack 40 = .ok (.iadd, 1) := by decide +kernel
theorem dX5_firstBack_41 : decode cX5_firstBack 41 = .ok (.aload_n 0, 1) := by decide +kernel
theorem dX5_firstBack_42 : decode cX5_firstBack 42 = .ok (.getfield 18, 3) := by decide +kernel
theorem dX5_firstBack_45 : decode cX5_firstBack 45 = .ok (.iload_n 1, 1) := by decide +kernel
theorem dX5_firstBack_46 : decode cX5_firstBack 46 = .ok (.iaload, 1) := by decide +kernel
theorem dX5_firstBack_47 : decode cX5_firstBack 47 = .ok (.if_icmp .ne 5, 3) := by decide +kernel
theorem dX5_firstBack_50 : decode cX5_firstBack 50 = .ok (.iload_n 2, 1) := by decide +kernel
theorem dX5_firstBack_51 : decode cX5_firstBack 51 = .ok (.ireturn, 1) := by decide +kernel
theorem dX5_firstBack_52 : decode cX5_firstBack 52 = .ok (.iinc 2 1, 3) := by decide +kernel
theorem dX5_firstBack_55 : decode cX5_firstBack 55 = .ok (.goto (-53), 3) := by decide +kernel
theorem dX5_firstBack_58 : decode cX5_firstBack 58 = .ok (.iconst 4, 1) := by decide +kernel
theorem dX5_firstBack_59 : decode cX5_firstBack 59 = .ok (.ireturn, 1) := by decide +kernel
theorem dX6_init_0 : decode cX6_init 0 = .ok (.aload_n 0, 1) := by decide +kernel
theorem dX6_init_1 : decode cX6_init 1 = .ok (.invokespecial 3, 3) := by decide +kernel
theorem dX6_init_4 : decode cX6_init 4 = .ok (.aload_n 0, 1) := by decide +kernel
theorem dX6_init_5 : decode cX6_init 5 = .ok (.bipush 16, 2) := by decide +kernel
theorem dX6_init_7 : decode cX6_init 7 = .ok (.newarray .char, 2) := by decide +kernel
theorem dX6_init_9 : decode cX6_init 9 = .ok (.putfield 9, 3) := by decide +kernel
theorem dX6_init_12 : decode cX6_init 12 = .ok (.aload_n 0, 1) := by decide +kernel
theorem dX6_init_13 : decode cX6_init 13 = .ok (.iconst 0, 1) := by decide +kernel
theorem dX6_init_14 : decode cX6_init 14 = .ok (.putfield 15, 3) := by decide +kernel
theorem dX6_init_17 : decode cX6_init 17 = .ok (.return_, 1) := by decide +kernel
theorem dX6_write_0 : decode cX6_write 0 = .ok (.aload_n 0, 1) := by decide +kernel
theorem dX6_write_1 : decode cX6_write 1 = .ok (.iconst 0, 1) := by decide +kernel
theorem dX6_write_2 : decode cX6_write 2 = .ok (.putfield 15, 3) := by decide +kernel
theorem dX6_write_5 : decode cX6_write 5 = .ok (.iload_n 2, 1) := by decide +kernel
theorem dX6_write_6 : decode cX6_write 6 = .ok (.istore_n 3, 1) := by decide +kernel
theorem dX6_write_7 : decode cX6_write 7 = .ok (.iload_n 3, 1) := by decide +kernel
theorem dX6_write_8 : decode cX6_write 8 = .ok (.iload_n 2, 1) := by decide +kernel
theorem dX6_write_9 : decode cX6_write 9 = .ok (.bipush 8, 2) := by decide +kernel
theorem dX6_write_11 : decode cX6_write 11 = .ok (.iadd, 1) := by decide +kernel
theorem dX6_write_12 : decode cX6_write 12 = .ok (.if_icmp .ge 36, 3) := by decide +kernel
theorem dX6_write_15 : decode cX6_write 15 = .ok (.aload_n 0, 1) := by decide +kernel
theorem dX6_write_16 : decode cX6_write 16 = .ok (.aload_n 1, 1) := by decide +kernel
theorem dX6_write_17 : decode cX6_write 17 = .ok (.iload_n 3, 1) := by decide +kernel
theorem dX6_write_18 : decode cX6_write 18 = .ok (.invokestatic 19, 3) := by decide +kernel
theorem dX6_write_21 : decode cX6_write 21 = .ok (.invokevirtual 23, 3) := by decide +kernel
theorem dX6_write_24 : decode cX6_write 24 = .ok (.aload_n 1, 1) := by decide +kernel
theorem dX6_write_25 : decode cX6_write 25 = .ok (.getfield 27, 3) := by decide +kernel
theorem dX6_write_28 : decode cX6_write 28 = .ok (.iload_n 3, 1) := by decide +kernel
theorem dX6_write_29 : decode cX6_write 29 = .ok (.bipush 48, 2) := by decide +kernel
theorem dX6_write_31 : decode cX6_write 31 = .ok (.irem, 1) := by decide +kernel
theorem dX6_write_32 : decode cX6_write 32 = .ok (.baload, 1) := by decide +kernel
theorem dX6_write_33 : decode cX6_write 33 = .ok (.ifCond .eq 9, 3) := by decide +kernel
theorem dX6_write_36 : decode cX6_write 36 = .ok (.aload_n 0, 1) := by decide +kernel
theorem dX6_write_37 : decode cX6_write 37 = .ok (.bipush 111, 2) := by decide +kernel
theorem dX6_write_39 : decode cX6_write 39 = .ok (.invokevirtual 23, 3) := by decide +kernel
theorem dX6_write_42 : decode cX6_write 42 = .ok (.iinc 3 1, 3) := by decide +kernel
theorem dX6_write_45 : decode cX6_write 45 = .ok (.goto (-38), 3) := by decide +kernel
theorem dX6_write_48 : decode cX6_write 48 = .ok (.return_, 1) := by decide +kernel
theorem dX6_add_0 : decode cX6_add 0 = .ok (.aload_n 0, 1) := by decide +kernel
theorem dX6_add_1 : decode cX6_add 1 = .ok (.getfield 15, 3) := by decide +kernel
theorem dX6_add_4 : decode cX6_add 4 = .ok (.aload_n 0, 1) := by decide +kernel
theorem dX6_add_5 : decode cX6_add 5 = .ok (.getfield 9, 3) := by decide +kernel
theorem dX6_add_8 : decode cX6_add 8 = .ok (.arraylength, 1) := by decide +kernel
theorem dX6_add_9 : decode cX6_add 9 = .ok (.if_icmp .ge 23, 3) := by decide +kernel
theorem dX6_add_12 : decode cX6_add 12 = .ok (.aload_n 0, 1) := by decide +kernel
theorem dX6_add_13 : decode cX6_add 13 = .ok (.getfield 9, 3) := by decide +kernel
theorem dX6_add_16 : decode cX6_add 16 = .ok (.aload_n 0, 1) := by decide +kernel
theorem dX6_add_17 : decode cX6_add 17 = .ok (.getfield 15, 3) := by decide +kernel
theorem dX6_add_20 : decode cX6_add 20 = .ok (.iload_n 1, 1) := by decide +kernel
theorem dX6_add_21 : decode cX6_add 21 = .ok (.castore, 1) := by decide +kernel
theorem dX6_add_22 : decode cX6_add 22 = .ok (.aload_n 0, 1) := by decide +kernel
theorem dX6_add_23 : decode cX6_add 23 = .ok (.dup, 1) := by decide +kernel
theorem dX6_add_24 : decode cX6_add 24 = .ok (.getfield 15, 3) := by decide +kernel
theorem dX6_add_27 : decode cX6_add 27 = .ok (.iconst 1, 1) := by decide +kernel
theorem dX6_add_28 : decode cX6_add 28 = .ok (.iadd, 1) := by decide +kernel
theorem dX6_add_29 : decode cX6_add 29 = .ok (.putfield 15, 3) := by decide +kernel
theorem dX6_add_32 : decode cX6_add 32 = .ok (.return_, 1) := by decide +kernel
theorem dX6_signOf_0 : decode cX6_signOf 0 = .ok (.aload_n 0, 1) := by decide +kernel
theorem dX6_signOf_1 : decode cX6_signOf 1 = .ok (.getfield 33, 3) := by decide +kernel
theorem dX6_signOf_4 : decode cX6_signOf 4 = .ok (.iload_n 1, 1) := by decide +kernel
theorem dX6_signOf_5 : decode cX6_signOf 5 = .ok (.iaload, 1) := by decide +kernel
theorem dX6_signOf_6 : decode cX6_signOf 6 = .ok (.istore_n 2, 1) := by decide +kernel
theorem dX6_signOf_7 : decode cX6_signOf 7 = .ok (.iload_n 2, 1) := by decide +kernel
theorem dX6_signOf_8 : decode cX6_signOf 8 = .ok (.iconst (-1), 1) := by decide +kernel
theorem dX6_signOf_9 : decode cX6_signOf 9 = .ok (.if_icmp .ne 6, 3) := by decide +kernel
theorem dX6_signOf_12 : decode cX6_signOf 12 = .ok (.bipush 46, 2) := by decide +kernel
theorem dX6_signOf_14 : decode cX6_signOf 14 = .ok (.ireturn, 1) := by decide +kernel
theorem dX6_signOf_15 : decode cX6_signOf 15 = .ok (.iload_n 2, 1) := by decide +kernel
theorem dX6_signOf_16 : decode cX6_signOf 16 = .ok (.bipush (-2), 2) := by decide +kernel
theorem dX6_signOf_18 : decode cX6_signOf 18 = .ok (.if_icmp .ne 6, 3) := by decide +kernel
theorem dX6_signOf_21 : decode cX6_signOf 21 = .ok (.bipush 35, 2) := by decide +kernel
theorem dX6_signOf_23 : decode cX6_signOf 23 = .ok (.ireturn, 1) := by decide +kernel
theorem dX6_signOf_24 : decode cX6_signOf 24 = .ok (.aload_n 0, 1) := by decide +kernel
theorem dX6_signOf_25 : decode cX6_signOf 25 = .ok (.getfield 37, 3) := by decide +kernel
theorem dX6_signOf_28 : decode cX6_signOf 28 = .ok (.iload_n 1, 1) := by decide +kernel
theorem dX6_signOf_29 : decode cX6_signOf 29 = .ok (.bipush 48, 2) := by decide +kernel
theorem dX6_signOf_31 : decode cX6_signOf 31 = .ok (.irem, 1) := by decide +kernel
theorem dX6_signOf_32 : decode cX6_signOf 32 = .ok (.baload, 1) := by decide +kernel
theorem dX6_signOf_33 : decode cX6_signOf 33 = .ok (.ifCond .eq 8, 3) := by decide +kernel
theorem dX6_signOf_36 : decode cX6_signOf 36 = .ok (.bipush 65, 2) := by decide +kernel
theorem dX6_signOf_38 : decode cX6_signOf 38 = .ok (.goto 5, 3) := by decide +kernel
theorem dX6_signOf_41 : decode cX6_signOf 41 = .ok (.bipush 97, 2) := by decide +kernel
theorem dX6_signOf_43 : decode cX6_signOf 43 = .ok (.iload_n 2, 1) := by decide +kernel
theorem dX6_signOf_44 : decode cX6_signOf 44 = .ok (.iadd, 1) := by decide +kernel
theorem dX6_signOf_45 : decode cX6_signOf 45 = .ok (.i2c, 1) := by decide +kernel
theorem dX6_signOf_46 : decode cX6_signOf 46 = .ok (.ireturn, 1) := by decide +kernel
