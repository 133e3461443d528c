theorem dX8_init_0 : decode cX8_init 0 = .ok (.aload_n 0, 1) := by decide +kernel
theorem dX8_init_1 : decode cX8_init 1 = .ok (.invokespecial 1, 3) := by decide +kernel
theorem dX8_init_4 : decode cX8_init 4 = .ok (.aload_n 0, 1) := by decide +kernel
theorem dX8_init_5 : decode cX8_init 5 = .ok (.sipush 199, 3) := by decide +kernel
theorem dX8_init_8 : decode cX8_init 8 = .ok (.newarray .int, 2) := by decide +kernel
theorem dX8_init_10 : decode cX8_init 10 = .ok (.putfield 7, 3) := by decide +kernel
theorem dX8_init_13 : decode cX8_init 13 = .ok (.aload_n 0, 1) := by decide +kernel
theorem dX8_init_14 : decode cX8_init 14 = .ok (.sipush 1592, 3) := by decide +kernel
theorem dX8_init_17 : decode cX8_init 17 = .ok (.newarray .int, 2) := by decide +kernel
theorem dX8_init_19 : decode cX8_init 19 = .ok (.putfield 13, 3) := by decide +kernel
theorem dX8_init_22 : decode cX8_init 22 = .ok (.aload_n 0, 1) := by decide +kernel
theorem dX8_init_23 : decode cX8_init 23 = .ok (.sipush 199, 3) := by decide +kernel
theorem dX8_init_26 : decode cX8_init 26 = .ok (.newarray .int, 2) := by decide +kernel
theorem dX8_init_28 : decode cX8_init 28 = .ok (.putfield 16, 3) := by decide +kernel
theorem dX8_init_31 : decode cX8_init 31 = .ok (.aload_n 0, 1) := by decide +kernel
theorem dX8_init_32 : decode cX8_init 32 = .ok (.sipush 199, 3) := by decide +kernel
theorem dX8_init_35 : decode cX8_init 35 = .ok (.newarray .int, 2) := by decide +kernel
theorem dX8_init_37 : decode cX8_init 37 = .ok (.putfield 19, 3) := by decide +kernel
theorem dX8_init_40 : decode cX8_init 40 = .ok (.aload_n 0, 1) := by decide +kernel
theorem dX8_init_41 : decode cX8_init 41 = .ok (.bipush 60, 2) := by decide +kernel
theorem dX8_init_43 : decode cX8_init 43 = .ok (.newarray .int, 2) := by decide +kernel
theorem dX8_init_45 : decode cX8_init 45 = .ok (.putfield 22, 3) := by decide +kernel
theorem dX8_init_48 : decode cX8_init 48 = .ok (.aload_n 0, 1) := by decide +kernel
theorem dX8_init_49 : decode cX8_init 49 = .ok (.iconst (-1), 1) := by decide +kernel
theorem dX8_init_50 : decode cX8_init 50 = .ok (.putfield 25, 3) := by decide +kernel
theorem dX8_init_53 : decode cX8_init 53 = .ok (.aload_n 0, 1) := by decide +kernel
theorem dX8_init_54 : decode cX8_init 54 = .ok (.bipush 20, 2) := by decide +kernel
theorem dX8_init_56 : decode cX8_init 56 = .ok (.newarray .char, 2) := by decide +kernel
theorem dX8_init_58 : decode cX8_init 58 = .ok (.putfield 29, 3) := by decide +kernel
theorem dX8_init_61 : decode cX8_init 61 = .ok (.aload_n 0, 1) := by decide +kernel
theorem dX8_init_62 : decode cX8_init 62 = .ok (.bipush 96, 2) := by decide +kernel
theorem dX8_init_64 : decode cX8_init 64 = .ok (.newarray .int, 2) := by decide +kernel
theorem dX8_init_66 : decode cX8_init 66 = .ok (.putfield 33, 3) := by decide +kernel
theorem dX8_init_69 : decode cX8_init 69 = .ok (.aload_n 0, 1) := by decide +kernel
theorem dX8_init_70 : decode cX8_init 70 = .ok (.bipush 96, 2) := by decide +kernel
theorem dX8_init_72 : decode cX8_init 72 = .ok (.newarray .int, 2) := by decide +kernel
theorem dX8_init_74 : decode cX8_init 74 = .ok (.putfield 36, 3) := by decide +kernel
theorem dX8_init_77 : decode cX8_init 77 = .ok (.aload_n 0, 1) := by decide +kernel
theorem dX8_init_78 : decode cX8_init 78 = .ok (.bipush 48, 2) := by decide +kernel
theorem dX8_init_80 : decode cX8_init 80 = .ok (.newarray .int, 2) := by decide +kernel
theorem dX8_init_82 : decode cX8_init 82 = .ok (.putfield 39, 3) := by decide +kernel
theorem dX8_init_85 : decode cX8_init 85 = .ok (.aload_n 0, 1) := by decide +kernel
theorem dX8_init_86 : decode cX8_init 86 = .ok (.sipush 128, 3) := by decide +kernel
theorem dX8_init_89 : decode cX8_init 89 = .ok (.newarray .int, 2) := by decide +kernel
theorem dX8_init_91 : decode cX8_init 91 = .ok (.putfield 42, 3) := by decide +kernel
theorem dX8_init_94 : decode cX8_init 94 = .ok (.return_, 1) := by decide +kernel
theorem dX8_thrown_0 : decode cX8_thrown 0 = .ok (.aload_n 0, 1) := by decide +kernel
theorem dX8_thrown_1 : decode cX8_thrown 1 = .ok (.getfield 45, 3) := by decide +kernel
theorem dX8_thrown_4 : decode cX8_thrown 4 = .ok (.ireturn, 1) := by decide +kernel
theorem dX8_fails_0 : decode cX8_fails 0 = .ok (.aload_n 0, 1) := by decide +kernel
theorem dX8_fails_1 : decode cX8_fails 1 = .ok (.iload_n 1, 1) := by decide +kernel
theorem dX8_fails_2 : decode cX8_fails 2 = .ok (.putfield 45, 3) := by decide +kernel
theorem dX8_fails_5 : decode cX8_fails 5 = .ok (.iload_n 1, 1) := by decide +kernel
theorem dX8_fails_6 : decode cX8_fails 6 = .ok (.ifCond .le 7, 3) := by decide +kernel
theorem dX8_fails_9 : decode cX8_fails 9 = .ok (.iconst 1, 1) := by decide +kernel
theorem dX8_fails_10 : decode cX8_fails 10 = .ok (.goto 4, 3) := by decide +kernel
theorem dX8_fails_13 : decode cX8_fails 13 = .ok (.iconst 0, 1) := by decide +kernel
theorem dX8_fails_14 : decode cX8_fails 14 = .ok (.ireturn, 1) := by decide +kernel
theorem dX8_refuses_0 : decode cX8_refuses 0 = .ok (.aload_n 0, 1) := by decide +kernel
theorem dX8_refuses_1 : decode cX8_refuses 1 = .ok (.iconst 1, 1) := by decide +kernel
theorem dX8_refuses_2 : decode cX8_refuses 2 = .ok (.putfield 45, 3) := by decide +kernel
theorem dX8_refuses_5 : decode cX8_refuses 5 = .ok (.aload_n 0, 1) := by decide +kernel
theorem dX8_refuses_6 : decode cX8_refuses 6 = .ok (.iload_n 1, 1) := by decide +kernel
theorem dX8_refuses_7 : decode cX8_refuses 7 = .ok (.putfield 48, 3) := by decide +kernel
theorem dX8_refuses_10 : decode cX8_refuses 10 = .ok (.aload_n 0, 1) := by decide +kernel
theorem dX8_refuses_11 : decode cX8_refuses 11 = .ok (.iload_n 2, 1) := by decide +kernel
theorem dX8_refuses_12 : decode cX8_refuses 12 = .ok (.putfield 51, 3) := by decide +kernel
theorem dX8_refuses_15 : decode cX8_refuses 15 = .ok (.aload_n 0, 1) := by decide +kernel
theorem dX8_refuses_16 : decode cX8_refuses 16 = .ok (.iconst 0, 1) := by decide +kernel
theorem dX8_refuses_17 : decode cX8_refuses 17 = .ok (.putfield 54, 3) := by decide +kernel
theorem dX8_refuses_20 : decode cX8_refuses 20 = .ok (.iconst 0, 1) := by decide +kernel
theorem dX8_refuses_21 : decode cX8_refuses 21 = .ok (.ireturn, 1) := by decide +kernel
theorem dX8_in_0 : decode cX8_in 0 = .ok (.iload_n 0, 1) := by decide +kernel
theorem dX8_in_1 : decode cX8_in 1 = .ok (.iload_n 1, 1) := by decide +kernel
theorem dX8_in_2 : decode cX8_in 2 = .ok (.if_icmp .lt 12, 3) := by decide +kernel
theorem dX8_in_5 : decode cX8_in 5 = .ok (.iload_n 0, 1) := by decide +kernel
theorem dX8_in_6 : decode cX8_in 6 = .ok (.iload_n 2, 1) := by decide +kernel
theorem dX8_in_7 : decode cX8_in 7 = .ok (.if_icmp .gt 7, 3) := by decide +kernel
theorem dX8_in_10 : decode cX8_in 10 = .ok (.iconst 1, 1) := by decide +kernel
theorem dX8_in_11 : decode cX8_in 11 = .ok (.goto 4, 3) := by decide +kernel
theorem dX8_in_14 : decode cX8_in 14 = .ok (.iconst 0, 1) := by decide +kernel
theorem dX8_in_15 : decode cX8_in 15 = .ok (.ireturn, 1) := by decide +kernel
theorem dX8_copies_0 : decode cX8_copies 0 = .ok (.iconst 0, 1) := by decide +kernel
theorem dX8_copies_1 : decode cX8_copies 1 = .ok (.istore 4, 2) := by decide +kernel
theorem dX8_copies_3 : decode cX8_copies 3 = .ok (.iload 4, 2) := by decide +kernel
theorem dX8_copies_5 : decode cX8_copies 5 = .ok (.sipush 199, 3) := by decide +kernel
theorem dX8_copies_8 : decode cX8_copies 8 = .ok (.if_icmp .ge 21, 3) := by decide +kernel
theorem dX8_copies_11 : decode cX8_copies 11 = .ok (.aload_n 2, 1) := by decide +kernel
theorem dX8_copies_12 : decode cX8_copies 12 = .ok (.iload_n 3, 1) := by decide +kernel
theorem dX8_copies_13 : decode cX8_copies 13 = .ok (.iload 4, 2) := by decide +kernel
theorem dX8_copies_15 : decode cX8_copies 15 = .ok (.iadd, 1) := by decide +kernel
theorem dX8_copies_16 : decode cX8_copies 16 = .ok (.aload_n 0, 1) := by decide +kernel
theorem dX8_copies_17 : decode cX8_copies 17 = .ok (.iload_n 1, 1) := by decide +kernel
theorem dX8_copies_18 : decode cX8_copies 18 = .ok (.iload 4, 2) := by decide +kernel
theorem dX8_copies_20 : decode cX8_copies 20 = .ok (.iadd, 1) := by decide +kernel
theorem dX8_copies_21 : decode cX8_copies 21 = .ok (.iaload, 1) := by decide +kernel
theorem dX8_copies_22 : decode cX8_copies 22 = .ok (.iastore, 1) := by decide +kernel
theorem dX8_copies_23 : decode cX8_copies 23 = .ok (.iinc 4 1, 3) := by decide +kernel
theorem dX8_copies_26 : decode cX8_copies 26 = .ok (.goto (-23), 3) := by decide +kernel
theorem dX8_copies_29 : decode cX8_copies 29 = .ok (.return_, 1) := by decide +kernel
theorem dX8_keeps_0 : decode cX8_keeps 0 = .ok (.aload_n 0, 1) := by decide +kernel
theorem dX8_keeps_1 : decode cX8_keeps 1 = .ok (.iconst 0, 1) := by decide +kernel
theorem dX8_keeps_2 : decode cX8_keeps 2 = .ok (.putfield 45, 3) := by decide +kernel
theorem dX8_keeps_5 : decode cX8_keeps 5 = .ok (.aload_n 0, 1) := by decide +kernel
theorem dX8_keeps_6 : decode cX8_keeps 6 = .ok (.getfield 57, 3) := by decide +kernel
theorem dX8_keeps_9 : decode cX8_keeps 9 = .ok (.ifCond .eq 4, 3) := by decide +kernel
theorem dX8_keeps_12 : decode cX8_keeps 12 = .ok (.return_, 1) := by decide +kernel
theorem dX8_keeps_13 : decode cX8_keeps 13 = .ok (.aload_n 0, 1) := by decide +kernel
theorem dX8_keeps_14 : decode cX8_keeps 14 = .ok (.getfield 61, 3) := by decide +kernel
theorem dX8_keeps_17 : decode cX8_keeps 17 = .ok (.bipush 8, 2) := by decide +kernel
theorem dX8_keeps_19 : decode cX8_keeps 19 = .ok (.if_icmp .ne 44, 3) := by decide +kernel
theorem dX8_keeps_22 : decode cX8_keeps 22 = .ok (.iconst 0, 1) := by decide +kernel
theorem dX8_keeps_23 : decode cX8_keeps 23 = .ok (.istore_n 2, 1) := by decide +kernel
theorem dX8_keeps_24 : decode cX8_keeps 24 = .ok (.iload_n 2, 1) := by decide +kernel
theorem dX8_keeps_25 : decode cX8_keeps 25 = .ok (.sipush 1393, 3) := by decide +kernel
theorem dX8_keeps_28 : decode cX8_keeps 28 = .ok (.if_icmp .ge 25, 3) := by decide +kernel
theorem dX8_keeps_31 : decode cX8_keeps 31 = .ok (.aload_n 0, 1) := by decide +kernel
theorem dX8_keeps_32 : decode cX8_keeps 32 = .ok (.getfield 13, 3) := by decide +kernel
theorem dX8_keeps_35 : decode cX8_keeps 35 = .ok (.iload_n 2, 1) := by decide +kernel
theorem dX8_keeps_36 : decode cX8_keeps 36 = .ok (.aload_n 0, 1) := by decide +kernel
theorem dX8_keeps_37 : decode cX8_keeps 37 = .ok (.getfield 13, 3) := by decide +kernel
theorem dX8_keeps_40 : decode cX8_keeps 40 = .ok (.iload_n 2, 1) := by decide +kernel
theorem dX8_keeps_41 : decode cX8_keeps 41 = .ok (.sipush 199, 3) := by decide +kernel
theorem dX8_keeps_44 : decode cX8_keeps 44 = .ok (.iadd, 1) := by decide +kernel
theorem dX8_keeps_45 : decode cX8_keeps 45 = .ok (.iaload, 1) := by decide +kernel
theorem dX8_keeps_46 : decode cX8_keeps 46 = .ok (.iastore, 1) := by decide +kernel
theorem dX8_keeps_47 : decode cX8_keeps 47 = .ok (.iinc 2 1, 3) := by decide +kernel
theorem dX8_keeps_50 : decode cX8_keeps 50 = .ok (.goto (-26), 3) := by decide +kernel
theorem dX8_keeps_53 : decode cX8_keeps 53 = .ok (.aload_n 0, 1) := by decide +kernel
theorem dX8_keeps_54 : decode cX8_keeps 54 = .ok (.dup, 1) := by decide +kernel
theorem dX8_keeps_55 : decode cX8_keeps 55 = .ok (.getfield 61, 3) := by decide +kernel
theorem dX8_keeps_58 : decode cX8_keeps 58 = .ok (.iconst 1, 1) := by decide +kernel
theorem dX8_keeps_59 : decode cX8_keeps 59 = .ok (.isub, 1) := by decide +kernel
theorem dX8_keeps_60 : decode cX8_keeps 60 = .ok (.putfield 61, 3) := by decide +kernel
theorem dX8_keeps_63 : decode cX8_keeps 63 = .ok (.aload_n 1, 1) := by decide +kernel
theorem dX8_keeps_64 : decode cX8_keeps 64 = .ok (.iconst 0, 1) := by decide +kernel
theorem dX8_keeps_65 : decode cX8_keeps 65 = .ok (.aload_n 0, 1) := by decide +kernel
theorem dX8_keeps_66 : decode cX8_keeps 66 = .ok (.getfield 13, 3) := by decide +kernel
theorem dX8_keeps_69 : decode cX8_keeps 69 = .ok (.sipush 199, 3) := by decide +kernel
theorem dX8_keeps_72 : decode cX8_keeps 72 = .ok (.aload_n 0, 1) := by decide +kernel
theorem dX8_keeps_73 : decode cX8_keeps 73 = .ok (.getfield 61, 3) := by decide +kernel
theorem dX8_keeps_76 : decode cX8_keeps 76 = .ok (.imul, 1) := by decide +kernel
theorem dX8_keeps_77 : decode cX8_keeps 77 = .ok (.invokestatic 64, 3) := by decide +kernel
theorem dX8_keeps_80 : decode cX8_keeps 80 = .ok (.aload_n 0, 1) := by decide +kernel
theorem dX8_keeps_81 : decode cX8_keeps 81 = .ok (.dup, 1) := by decide +kernel
theorem dX8_keeps_82 : decode cX8_keeps 82 = .ok (.getfield 61, 3) := by decide +kernel
theorem dX8_keeps_85 : decode cX8_keeps 85 = .ok (.iconst 1, 1) := by decide +kernel
theorem dX8_keeps_86 : decode cX8_keeps 86 = .ok (.iadd, 1) := by decide +kernel
theorem dX8_keeps_87 : decode cX8_keeps 87 = .ok (.putfield 61, 3) := by decide +kernel
theorem dX8_keeps_90 : decode cX8_keeps 90 = .ok (.return_, 1) := by decide +kernel
theorem dX8_isPlace_0 : decode cX8_isPlace 0 = .ok (.iload_n 0, 1) := by decide +kernel
theorem dX8_isPlace_1 : decode cX8_isPlace 1 = .ok (.iconst 0, 1) := by decide +kernel
theorem dX8_isPlace_2 : decode cX8_isPlace 2 = .ok (.iconst 5, 1) := by decide +kernel
theorem dX8_isPlace_3 : decode cX8_isPlace 3 = .ok (.invokestatic 68, 3) := by decide +kernel
theorem dX8_isPlace_6 : decode cX8_isPlace 6 = .ok (.ifCond .eq 17, 3) := by decide +kernel
theorem dX8_isPlace_9 : decode cX8_isPlace 9 = .ok (.iload_n 1, 1) := by decide +kernel
theorem dX8_isPlace_10 : decode cX8_isPlace 10 = .ok (.iconst 0, 1) := by decide +kernel
theorem dX8_isPlace_11 : decode cX8_isPlace 11 = .ok (.bipush 7, 2) := by decide +kernel
theorem dX8_isPlace_13 : decode cX8_isPlace 13 = .ok (.invokestatic 68, 3) := by decide +kernel
theorem dX8_isPlace_16 : decode cX8_isPlace 16 = .ok (.ifCond .eq 7, 3) := by decide +kernel
theorem dX8_isPlace_19 : decode cX8_isPlace 19 = .ok (.iconst 1, 1) := by decide +kernel
theorem dX8_isPlace_20 : decode cX8_isPlace 20 = .ok (.goto 4, 3) := by decide +kernel
theorem dX8_isPlace_23 : decode cX8_isPlace 23 = .ok (.iconst 0, 1) := by decide +kernel
theorem dX8_isPlace_24 : decode cX8_isPlace 24 = .ok (.ireturn, 1) := by decide +kernel
theorem dX8_isCell_0 : decode cX8_isCell 0 = .ok (.iload_n 0, 1) := by decide +kernel
theorem dX8_isCell_1 : decode cX8_isCell 1 = .ok (.iload_n 1, 1) := by decide +kernel
theorem dX8_isCell_2 : decode cX8_isCell 2 = .ok (.invokestatic 72, 3) := by decide +kernel
theorem dX8_isCell_5 : decode cX8_isCell 5 = .ok (.ifCond .eq 16, 3) := by decide +kernel
theorem dX8_isCell_8 : decode cX8_isCell 8 = .ok (.iload_n 2, 1) := by decide +kernel
theorem dX8_isCell_9 : decode cX8_isCell 9 = .ok (.iconst 0, 1) := by decide +kernel
theorem dX8_isCell_10 : decode cX8_isCell 10 = .ok (.iconst 1, 1) := by decide +kernel
theorem dX8_isCell_11 : decode cX8_isCell 11 = .ok (.invokestatic 68, 3) := by decide +kernel
theorem dX8_isCell_14 : decode cX8_isCell 14 = .ok (.ifCond .eq 7, 3) := by decide +kernel
theorem dX8_isCell_17 : decode cX8_isCell 17 = .ok (.iconst 1, 1) := by decide +kernel
theorem dX8_isCell_18 : decode cX8_isCell 18 = .ok (.goto 4, 3) := by decide +kernel
theorem dX8_isCell_21 : decode cX8_isCell 21 = .ok (.iconst 0, 1) := by decide +kernel
theorem dX8_isCell_22 : decode cX8_isCell 22 = .ok (.ireturn, 1) := by decide +kernel
theorem dX8_cellOf_0 : decode cX8_cellOf 0 = .ok (.bipush 48, 2) := by decide +kernel
theorem dX8_cellOf_2 : decode cX8_cellOf 2 = .ok (.iload_n 2, 1) := by decide +kernel
theorem dX8_cellOf_3 : decode cX8_cellOf 3 = .ok (.imul, 1) := by decide +kernel
theorem dX8_cellOf_4 : decode cX8_cellOf 4 = .ok (.bipush 8, 2) := by decide +kernel
theorem dX8_cellOf_6 : decode cX8_cellOf 6 = .ok (.iload_n 0, 1) := by decide +kernel
theorem dX8_cellOf_7 : decode cX8_cellOf 7 = .ok (.imul, 1) := by decide +kernel
theorem dX8_cellOf_8 : decode cX8_cellOf 8 = .ok (.iadd, 1) := by decide +kernel
theorem dX8_cellOf_9 : decode cX8_cellOf 9 = .ok (.iload_n 1, 1) := by decide +kernel
theorem dX8_cellOf_10 : decode cX8_cellOf 10 = .ok (.iadd, 1) := by decide +kernel
theorem dX8_cellOf_11 : decode cX8_cellOf 11 = .ok (.ireturn, 1) := by decide +kernel
theorem dX8_isNet_0 : decode cX8_isNet 0 = .ok (.iload_n 1, 1) := by decide +kernel
theorem dX8_isNet_1 : decode cX8_isNet 1 = .ok (.iconst 0, 1) := by decide +kernel
theorem dX8_isNet_2 : decode cX8_isNet 2 = .ok (.aload_n 0, 1) := by decide +kernel
theorem dX8_isNet_3 : decode cX8_isNet 3 = .ok (.getfield 7, 3) := by decide +kernel
theorem dX8_isNet_6 : decode cX8_isNet 6 = .ok (.iconst 0, 1) := by decide +kernel
theorem dX8_isNet_7 : decode cX8_isNet 7 = .ok (.iaload, 1) := by decide +kernel
theorem dX8_isNet_8 : decode cX8_isNet 8 = .ok (.iconst 1, 1) := by decide +kernel
theorem dX8_isNet_9 : decode cX8_isNet 9 = .ok (.isub, 1) := by decide +kernel
theorem dX8_isNet_10 : decode cX8_isNet 10 = .ok (.invokestatic 68, 3) := by decide +kernel
theorem dX8_isNet_13 : decode cX8_isNet 13 = .ok (.ireturn, 1) := by decide +kernel
theorem dX8_of_0 : decode cX8_of 0 = .ok (.aload_n 0, 1) := by decide +kernel
theorem dX8_of_1 : decode cX8_of 1 = .ok (.getfield 7, 3) := by decide +kernel
theorem dX8_of_4 : decode cX8_of 4 = .ok (.iconst 1, 1) := by decide +kernel
theorem dX8_of_5 : decode cX8_of 5 = .ok (.bipush 9, 2) := by decide +kernel
theorem dX8_of_7 : decode cX8_of 7 = .ok (.iload_n 1, 1) := by decide +kernel
theorem dX8_of_8 : decode cX8_of 8 = .ok (.imul, 1) := by decide +kernel
theorem dX8_of_9 : decode cX8_of 9 = .ok (.iadd, 1) := by decide +kernel
theorem dX8_of_10 : decode cX8_of 10 = .ok (.iload_n 2, 1) := by decide +kernel
theorem dX8_of_11 : decode cX8_of 11 = .ok (.iadd, 1) := by decide +kernel
theorem dX8_of_12 : decode cX8_of 12 = .ok (.iaload, 1) := by decide +kernel
theorem dX8_of_13 : decode cX8_of 13 = .ok (.ireturn, 1) := by decide +kernel
theorem dX8_lays_0 : decode cX8_lays 0 = .ok (.aload_n 0, 1) := by decide +kernel
theorem dX8_lays_1 : decode cX8_lays 1 = .ok (.getfield 7, 3) := by decide +kernel
theorem dX8_lays_4 : decode cX8_lays 4 = .ok (.iconst 1, 1) := by decide +kernel
theorem dX8_lays_5 : decode cX8_lays 5 = .ok (.bipush 9, 2) := by decide +kernel
theorem dX8_lays_7 : decode cX8_lays 7 = .ok (.iload_n 1, 1) := by decide +kernel
theorem dX8_lays_8 : decode cX8_lays 8 = .ok (.imul, 1) := by decide +kernel
theorem dX8_lays_9 : decode cX8_lays 9 = .ok (.iadd, 1) := by decide +kernel
theorem dX8_lays_10 : decode cX8_lays 10 = .ok (.iload_n 2, 1) := by decide +kernel
theorem dX8_lays_11 : decode cX8_lays 11 = .ok (.iadd, 1) := by decide +kernel
theorem dX8_lays_12 : decode cX8_lays 12 = .ok (.iload_n 3, 1) := by decide +kernel
theorem dX8_lays_13 : decode cX8_lays 13 = .ok (.iastore, 1) := by decide +kernel
theorem dX8_lays_14 : decode cX8_lays 14 = .ok (.return_, 1) := by decide +kernel
theorem dX8_is_0 : decode cX8_is 0 = .ok (.aload_n 0, 1) := by decide +kernel
theorem dX8_is_1 : decode cX8_is 1 = .ok (.getfield 7, 3) := by decide +kernel
theorem dX8_is_4 : decode cX8_is 4 = .ok (.bipush 55, 2) := by decide +kernel
theorem dX8_is_6 : decode cX8_is 6 = .ok (.iload_n 1, 1) := by decide +kernel
theorem dX8_is_7 : decode cX8_is 7 = .ok (.iadd, 1) := by decide +kernel
theorem dX8_is_8 : decode cX8_is 8 = .ok (.iaload, 1) := by decide +kernel
theorem dX8_is_9 : decode cX8_is 9 = .ok (.ireturn, 1) := by decide +kernel
theorem dX8_netIn_0 : decode cX8_netIn 0 = .ok (.aload_n 0, 1) := by decide +kernel
theorem dX8_netIn_1 : decode cX8_netIn 1 = .ok (.iload_n 1, 1) := by decide +kernel
theorem dX8_netIn_2 : decode cX8_netIn 2 = .ok (.invokevirtual 76, 3) := by decide +kernel
theorem dX8_netIn_5 : decode cX8_netIn 5 = .ok (.iconst 2, 1) := by decide +kernel
theorem dX8_netIn_6 : decode cX8_netIn 6 = .ok (.if_icmp .ge 7, 3) := by decide +kernel
theorem dX8_netIn_9 : decode cX8_netIn 9 = .ok (.iconst (-1), 1) := by decide +kernel
theorem dX8_netIn_10 : decode cX8_netIn 10 = .ok (.goto 12, 3) := by decide +kernel
theorem dX8_netIn_13 : decode cX8_netIn 13 = .ok (.aload_n 0, 1) := by decide +kernel
theorem dX8_netIn_14 : decode cX8_netIn 14 = .ok (.iload_n 1, 1) := by decide +kernel
theorem dX8_netIn_15 : decode cX8_netIn 15 = .ok (.invokevirtual 76, 3) := by decide +kernel
theorem dX8_netIn_18 : decode cX8_netIn 18 = .ok (.iconst 2, 1) := by decide +kernel
theorem dX8_netIn_19 : decode cX8_netIn 19 = .ok (.idiv, 1) := by decide +kernel
theorem dX8_netIn_20 : decode cX8_netIn 20 = .ok (.iconst 1, 1) := by decide +kernel
theorem dX8_netIn_21 : decode cX8_netIn 21 = .ok (.isub, 1) := by decide +kernel
theorem dX8_netIn_22 : decode cX8_netIn 22 = .ok (.ireturn, 1) := by decide +kernel
theorem dX8_isPin_0 : decode cX8_isPin 0 = .ok (.aload_n 0, 1) := by decide +kernel
theorem dX8_isPin_1 : decode cX8_isPin 1 = .ok (.iload_n 1, 1) := by decide +kernel
theorem dX8_isPin_2 : decode cX8_isPin 2 = .ok (.invokevirtual 76, 3) := by decide +kernel
theorem dX8_isPin_5 : decode cX8_isPin 5 = .ok (.iconst 2, 1) := by decide +kernel
theorem dX8_isPin_6 : decode cX8_isPin 6 = .ok (.if_icmp .lt 17, 3) := by decide +kernel
theorem dX8_isPin_9 : decode cX8_isPin 9 = .ok (.aload_n 0, 1) := by decide +kernel
theorem dX8_isPin_10 : decode cX8_isPin 10 = .ok (.iload_n 1, 1) := by decide +kernel
theorem dX8_isPin_11 : decode cX8_isPin 11 = .ok (.invokevirtual 76, 3) := by decide +kernel
theorem dX8_isPin_14 : decode cX8_isPin 14 = .ok (.iconst 2, 1) := by decide +kernel
theorem dX8_isPin_15 : decode cX8_isPin 15 = .ok (.irem, 1) := by decide +kernel
theorem dX8_isPin_16 : decode cX8_isPin 16 = .ok (.ifCond .ne 7, 3) := by decide +kernel
theorem dX8_isPin_19 : decode cX8_isPin 19 = .ok (.iconst 1, 1) := by decide +kernel
theorem dX8_isPin_20 : decode cX8_isPin 20 = .ok (.goto 4, 3) := by decide +kernel
theorem dX8_isPin_23 : decode cX8_isPin 23 = .ok (.iconst 0, 1) := by decide +kernel
theorem dX8_isPin_24 : decode cX8_isPin 24 = .ok (.ireturn, 1) := by decide +kernel
theorem dX8_beside_0 : decode cX8_beside 0 = .ok (.iload_n 0, 1) := by decide +kernel
theorem dX8_beside_1 : decode cX8_beside 1 = .ok (.bipush 48, 2) := by decide +kernel
theorem dX8_beside_3 : decode cX8_beside 3 = .ok (.irem, 1) := by decide +kernel
theorem dX8_beside_4 : decode cX8_beside 4 = .ok (.istore_n 2, 1) := by decide +kernel
theorem dX8_beside_5 : decode cX8_beside 5 = .ok (.iload_n 1, 1) := by decide +kernel
theorem dX8_beside_6 : decode cX8_beside 6 = .ok (.tableswitch 95 0 3 #[30, 46, 63, 78], 30) := by decide +kernel
theorem dX8_beside_36 : decode cX8_beside 36 = .ok (.iload_n 2, 1) := by decide +kernel
theorem dX8_beside_37 : decode cX8_beside 37 = .ok (.bipush 8, 2) := by decide +kernel
theorem dX8_beside_39 : decode cX8_beside 39 = .ok (.idiv, 1) := by decide +kernel
theorem dX8_beside_40 : decode cX8_beside 40 = .ok (.ifCond .ne 7, 3) := by decide +kernel
theorem dX8_beside_43 : decode cX8_beside 43 = .ok (.iconst (-1), 1) := by decide +kernel
theorem dX8_beside_44 : decode cX8_beside 44 = .ok (.goto 7, 3) := by decide +kernel
theorem dX8_beside_47 : decode cX8_beside 47 = .ok (.iload_n 0, 1) := by decide +kernel
theorem dX8_beside_48 : decode cX8_beside 48 = .ok (.bipush 8, 2) := by decide +kernel
theorem dX8_beside_50 : decode cX8_beside 50 = .ok (.isub, 1) := by decide +kernel
theorem dX8_beside_51 : decode cX8_beside 51 = .ok (.ireturn, 1) := by decide +kernel
theorem dX8_beside_52 : decode cX8_beside 52 = .ok (.iload_n 2, 1) := by decide +kernel
theorem dX8_beside_53 : decode cX8_beside 53 = .ok (.bipush 8, 2) := by decide +kernel
theorem dX8_beside_55 : decode cX8_beside 55 = .ok (.idiv, 1) := by decide +kernel
theorem dX8_beside_56 : decode cX8_beside 56 = .ok (.iconst 5, 1) := by decide +kernel
theorem dX8_beside_57 : decode cX8_beside 57 = .ok (.if_icmp .ne 7, 3) := by decide +kernel
theorem dX8_beside_60 : decode cX8_beside 60 = .ok (.iconst (-1), 1) := by decide +kernel
theorem dX8_beside_61 : decode cX8_beside 61 = .ok (.goto 7, 3) := by decide +kernel
theorem dX8_beside_64 : decode cX8_beside 64 = .ok (.iload_n 0, 1) := by decide +kernel
theorem dX8_beside_65 : decode cX8_beside 65 = .ok (.bipush 8, 2) := by decide +kernel
theorem dX8_beside_67 : decode cX8_beside 67 = .ok (.iadd, 1) := by decide +kernel
theorem dX8_beside_68 : decode cX8_beside 68 = .ok (.ireturn, 1) := by decide +kernel
theorem dX8_beside_69 : decode cX8_beside 69 = .ok (.iload_n 2, 1) := by decide +kernel
theorem dX8_beside_70 : decode cX8_beside 70 = .ok (.bipush 8, 2) := by decide +kernel
theorem dX8_beside_72 : decode cX8_beside 72 = .ok (.irem, 1) := by decide +kernel
theorem dX8_beside_73 : decode cX8_beside 73 = .ok (.ifCond .ne 7, 3) := by decide +kernel
theorem dX8_beside_76 : decode cX8_beside 76 = .ok (.iconst (-1), 1) := by decide +kernel
theorem dX8_beside_77 : decode cX8_beside 77 = .ok (.goto 6, 3) := by decide +kernel
theorem dX8_beside_80 : decode cX8_beside 80 = .ok (.iload_n 0, 1) := by decide +kernel
theorem dX8_beside_81 : decode cX8_beside 81 = .ok (.iconst 1, 1) := by decide +kernel
theorem dX8_beside_82 : decode cX8_beside 82 = .ok (.isub, 1) := by decide +kernel
theorem dX8_beside_83 : decode cX8_beside 83 = .ok (.ireturn, 1) := by decide +kernel
theorem dX8_beside_84 : decode cX8_beside 84 = .ok (.iload_n 2, 1) := by decide +kernel
theorem dX8_beside_85 : decode cX8_beside 85 = .ok (.bipush 8, 2) := by decide +kernel
theorem dX8_beside_87 : decode cX8_beside 87 = .ok (.irem, 1) := by decide +kernel
theorem dX8_beside_88 : decode cX8_beside 88 = .ok (.bipush 7, 2) := by decide +kernel
theorem dX8_beside_90 : decode cX8_beside 90 = .ok (.if_icmp .ne 7, 3) := by decide +kernel
theorem dX8_beside_93 : decode cX8_beside 93 = .ok (.iconst (-1), 1) := by decide +kernel
theorem dX8_beside_94 : decode cX8_beside 94 = .ok (.goto 6, 3) := by decide +kernel
theorem dX8_beside_97 : decode cX8_beside 97 = .ok (.iload_n 0, 1) := by decide +kernel
theorem dX8_beside_98 : decode cX8_beside 98 = .ok (.iconst 1, 1) := by decide +kernel
theorem dX8_beside_99 : decode cX8_beside 99 = .ok (.iadd, 1) := by decide +kernel
theorem dX8_beside_100 : decode cX8_beside 100 = .ok (.ireturn, 1) := by decide +kernel
theorem dX8_beside_101 : decode cX8_beside 101 = .ok (.iload_n 0, 1) := by decide +kernel
theorem dX8_beside_102 : decode cX8_beside 102 = .ok (.bipush 48, 2) := by decide +kernel
theorem dX8_beside_104 : decode cX8_beside 104 = .ok (.iadd, 1) := by decide +kernel
theorem dX8_beside_105 : decode cX8_beside 105 = .ok (.bipush 96, 2) := by decide +kernel
theorem dX8_beside_107 : decode cX8_beside 107 = .ok (.irem, 1) := by decide +kernel
theorem dX8_beside_108 : decode cX8_beside 108 = .ok (.ireturn, 1) := by decide +kernel
theorem dX8_areWide_0 : decode cX8_areWide 0 = .ok (.aload_n 0, 1) := by decide +kernel
theorem dX8_areWide_1 : decode cX8_areWide 1 = .ok (.iload_n 1, 1) := by decide +kernel
theorem dX8_areWide_2 : decode cX8_areWide 2 = .ok (.iconst 0, 1) := by decide +kernel
theorem dX8_areWide_3 : decode cX8_areWide 3 = .ok (.invokevirtual 80, 3) := by decide +kernel
theorem dX8_areWide_6 : decode cX8_areWide 6 = .ok (.iconst 1, 1) := by decide +kernel
theorem dX8_areWide_7 : decode cX8_areWide 7 = .ok (.if_icmp .eq 13, 3) := by decide +kernel
theorem dX8_areWide_10 : decode cX8_areWide 10 = .ok (.aload_n 0, 1) := by decide +kernel
theorem dX8_areWide_11 : decode cX8_areWide 11 = .ok (.iload_n 2, 1) := by decide +kernel
theorem dX8_areWide_12 : decode cX8_areWide 12 = .ok (.iconst 0, 1) := by decide +kernel
theorem dX8_areWide_13 : decode cX8_areWide 13 = .ok (.invokevirtual 80, 3) := by decide +kernel
theorem dX8_areWide_16 : decode cX8_areWide 16 = .ok (.iconst 1, 1) := by decide +kernel
theorem dX8_areWide_17 : decode cX8_areWide 17 = .ok (.if_icmp .ne 7, 3) := by decide +kernel
theorem dX8_areWide_20 : decode cX8_areWide 20 = .ok (.iconst 1, 1) := by decide +kernel
theorem dX8_areWide_21 : decode cX8_areWide 21 = .ok (.goto 4, 3) := by decide +kernel
theorem dX8_areWide_24 : decode cX8_areWide 24 = .ok (.iconst 0, 1) := by decide +kernel
theorem dX8_areWide_25 : decode cX8_areWide 25 = .ok (.ireturn, 1) := by decide +kernel
theorem dX8_tooNear_0 : decode cX8_tooNear 0 = .ok (.iconst (-1), 1) := by decide +kernel
theorem dX8_tooNear_1 : decode cX8_tooNear 1 = .ok (.istore 4, 2) := by decide +kernel
theorem dX8_tooNear_3 : decode cX8_tooNear 3 = .ok (.iconst 0, 1) := by decide +kernel
theorem dX8_tooNear_4 : decode cX8_tooNear 4 = .ok (.istore 5, 2) := by decide +kernel
theorem dX8_tooNear_6 : decode cX8_tooNear 6 = .ok (.iload 5, 2) := by decide +kernel
theorem dX8_tooNear_8 : decode cX8_tooNear 8 = .ok (.iconst 4, 1) := by decide +kernel
theorem dX8_tooNear_9 : decode cX8_tooNear 9 = .ok (.if_icmp .ge 87, 3) := by decide +kernel
theorem dX8_tooNear_12 : decode cX8_tooNear 12 = .ok (.iload_n 2, 1) := by decide +kernel
theorem dX8_tooNear_13 : decode cX8_tooNear 13 = .ok (.iload 5, 2) := by decide +kernel
theorem dX8_tooNear_15 : decode cX8_tooNear 15 = .ok (.invokestatic 84, 3) := by decide +kernel
theorem dX8_tooNear_18 : decode cX8_tooNear 18 = .ok (.istore 6, 2) := by decide +kernel
theorem dX8_tooNear_20 : decode cX8_tooNear 20 = .ok (.iload 6, 2) := by decide +kernel
theorem dX8_tooNear_22 : decode cX8_tooNear 22 = .ok (.ifCond .ge 7, 3) := by decide +kernel
theorem dX8_tooNear_25 : decode cX8_tooNear 25 = .ok (.iconst (-1), 1) := by decide +kernel
theorem dX8_tooNear_26 : decode cX8_tooNear 26 = .ok (.goto 9, 3) := by decide +kernel
theorem dX8_tooNear_29 : decode cX8_tooNear 29 = .ok (.aload_n 0, 1) := by decide +kernel
theorem dX8_tooNear_30 : decode cX8_tooNear 30 = .ok (.iload 6, 2) := by decide +kernel
theorem dX8_tooNear_32 : decode cX8_tooNear 32 = .ok (.invokevirtual 87, 3) := by decide +kernel
theorem dX8_tooNear_35 : decode cX8_tooNear 35 = .ok (.istore 7, 2) := by decide +kernel
theorem dX8_tooNear_37 : decode cX8_tooNear 37 = .ok (.iload 7, 2) := by decide +kernel
theorem dX8_tooNear_39 : decode cX8_tooNear 39 = .ok (.ifCond .lt 51, 3) := by decide +kernel
theorem dX8_tooNear_42 : decode cX8_tooNear 42 = .ok (.iload 7, 2) := by decide +kernel
theorem dX8_tooNear_44 : decode cX8_tooNear 44 = .ok (.iload_n 1, 1) := by decide +kernel
theorem dX8_tooNear_45 : decode cX8_tooNear 45 = .ok (.if_icmp .eq 45, 3) := by decide +kernel
theorem dX8_tooNear_48 : decode cX8_tooNear 48 = .ok (.aload_n 0, 1) := by decide +kernel
theorem dX8_tooNear_49 : decode cX8_tooNear 49 = .ok (.iload_n 1, 1) := by decide +kernel
theorem dX8_tooNear_50 : decode cX8_tooNear 50 = .ok (.iload 7, 2) := by decide +kernel
theorem dX8_tooNear_52 : decode cX8_tooNear 52 = .ok (.invokevirtual 90, 3) := by decide +kernel
theorem dX8_tooNear_55 : decode cX8_tooNear 55 = .ok (.ifCond .eq 35, 3) := by decide +kernel
theorem dX8_tooNear_58 : decode cX8_tooNear 58 = .ok (.iload_n 3, 1) := by decide +kernel
theorem dX8_tooNear_59 : decode cX8_tooNear 59 = .ok (.ifCond .eq 15, 3) := by decide +kernel
theorem dX8_tooNear_62 : decode cX8_tooNear 62 = .ok (.aload_n 0, 1) := by decide +kernel
theorem dX8_tooNear_63 : decode cX8_tooNear 63 = .ok (.iload 6, 2) := by decide +kernel
theorem dX8_tooNear_65 : decode cX8_tooNear 65 = .ok (.invokevirtual 93, 3) := by decide +kernel
theorem dX8_tooNear_68 : decode cX8_tooNear 68 = .ok (.ifCond .ne 6, 3) := by decide +kernel
theorem dX8_tooNear_71 : decode cX8_tooNear 71 = .ok (.goto 19, 3) := by decide +kernel
theorem dX8_tooNear_74 : decode cX8_tooNear 74 = .ok (.iload 4, 2) := by decide +kernel
theorem dX8_tooNear_76 : decode cX8_tooNear 76 = .ok (.ifCond .lt 10, 3) := by decide +kernel
theorem dX8_tooNear_79 : decode cX8_tooNear 79 = .ok (.iload 7, 2) := by decide +kernel
theorem dX8_tooNear_81 : decode cX8_tooNear 81 = .ok (.iload 4, 2) := by decide +kernel
theorem dX8_tooNear_83 : decode cX8_tooNear 83 = .ok (.if_icmp .ge 7, 3) := by decide +kernel
theorem dX8_tooNear_86 : decode cX8_tooNear 86 = .ok (.iload 7, 2) := by decide +kernel
theorem dX8_tooNear_88 : decode cX8_tooNear 88 = .ok (.istore 4, 2) := by decide +kernel
theorem dX8_tooNear_90 : decode cX8_tooNear 90 = .ok (.iinc 5 1, 3) := by decide +kernel
theorem dX8_tooNear_93 : decode cX8_tooNear 93 = .ok (.goto (-87), 3) := by decide +kernel
theorem dX8_tooNear_96 : decode cX8_tooNear 96 = .ok (.iload 4, 2) := by decide +kernel
theorem dX8_tooNear_98 : decode cX8_tooNear 98 = .ok (.ireturn, 1) := by decide +kernel
theorem dX8_priceOf_0 : decode cX8_priceOf 0 = .ok (.aload_n 0, 1) := by decide +kernel
theorem dX8_priceOf_1 : decode cX8_priceOf 1 = .ok (.iload_n 2, 1) := by decide +kernel
theorem dX8_priceOf_2 : decode cX8_priceOf 2 = .ok (.invokevirtual 87, 3) := by decide +kernel
theorem dX8_priceOf_5 : decode cX8_priceOf 5 = .ok (.istore_n 3, 1) := by decide +kernel
theorem dX8_priceOf_6 : decode cX8_priceOf 6 = .ok (.aload_n 0, 1) := by decide +kernel
theorem dX8_priceOf_7 : decode cX8_priceOf 7 = .ok (.iload_n 2, 1) := by decide +kernel
theorem dX8_priceOf_8 : decode cX8_priceOf 8 = .ok (.invokevirtual 76, 3) := by decide +kernel
theorem dX8_priceOf_11 : decode cX8_priceOf 11 = .ok (.iconst 1, 1) := by decide +kernel
theorem dX8_priceOf_12 : decode cX8_priceOf 12 = .ok (.if_icmp .eq 30, 3) := by decide +kernel
theorem dX8_priceOf_15 : decode cX8_priceOf 15 = .ok (.iload_n 3, 1) := by decide +kernel
theorem dX8_priceOf_16 : decode cX8_priceOf 16 = .ok (.ifCond .lt 16, 3) := by decide +kernel
theorem dX8_priceOf_19 : decode cX8_priceOf 19 = .ok (.iload_n 3, 1) := by decide +kernel
theorem dX8_priceOf_20 : decode cX8_priceOf 20 = .ok (.iload_n 1, 1) := by decide +kernel
theorem dX8_priceOf_21 : decode cX8_priceOf 21 = .ok (.if_icmp .eq 11, 3) := by decide +kernel
theorem dX8_priceOf_24 : decode cX8_priceOf 24 = .ok (.aload_n 0, 1) := by decide +kernel
theorem dX8_priceOf_25 : decode cX8_priceOf 25 = .ok (.iload_n 2, 1) := by decide +kernel
theorem dX8_priceOf_26 : decode cX8_priceOf 26 = .ok (.invokevirtual 93, 3) := by decide +kernel
theorem dX8_priceOf_29 : decode cX8_priceOf 29 = .ok (.ifCond .ne 13, 3) := by decide +kernel
theorem dX8_priceOf_32 : decode cX8_priceOf 32 = .ok (.aload_n 0, 1) := by decide +kernel
theorem dX8_priceOf_33 : decode cX8_priceOf 33 = .ok (.iload_n 1, 1) := by decide +kernel
theorem dX8_priceOf_34 : decode cX8_priceOf 34 = .ok (.iload_n 2, 1) := by decide +kernel
theorem dX8_priceOf_35 : decode cX8_priceOf 35 = .ok (.iconst 1, 1) := by decide +kernel
theorem dX8_priceOf_36 : decode cX8_priceOf 36 = .ok (.invokevirtual 97, 3) := by decide +kernel
theorem dX8_priceOf_39 : decode cX8_priceOf 39 = .ok (.ifCond .lt 5, 3) := by decide +kernel
theorem dX8_priceOf_42 : decode cX8_priceOf 42 = .ok (.iconst (-1), 1) := by decide +kernel
theorem dX8_priceOf_43 : decode cX8_priceOf 43 = .ok (.ireturn, 1) := by decide +kernel
theorem dX8_priceOf_44 : decode cX8_priceOf 44 = .ok (.iload_n 3, 1) := by decide +kernel
theorem dX8_priceOf_45 : decode cX8_priceOf 45 = .ok (.ifCond .lt 8, 3) := by decide +kernel
theorem dX8_priceOf_48 : decode cX8_priceOf 48 = .ok (.iload_n 3, 1) := by decide +kernel
theorem dX8_priceOf_49 : decode cX8_priceOf 49 = .ok (.iload_n 1, 1) := by decide +kernel
theorem dX8_priceOf_50 : decode cX8_priceOf 50 = .ok (.if_icmp .ne 13, 3) := by decide +kernel
theorem dX8_priceOf_53 : decode cX8_priceOf 53 = .ok (.aload_n 0, 1) := by decide +kernel
theorem dX8_priceOf_54 : decode cX8_priceOf 54 = .ok (.iload_n 1, 1) := by decide +kernel
theorem dX8_priceOf_55 : decode cX8_priceOf 55 = .ok (.iload_n 2, 1) := by decide +kernel
theorem dX8_priceOf_56 : decode cX8_priceOf 56 = .ok (.iconst 0, 1) := by decide +kernel
theorem dX8_priceOf_57 : decode cX8_priceOf 57 = .ok (.invokevirtual 97, 3) := by decide +kernel
theorem dX8_priceOf_60 : decode cX8_priceOf 60 = .ok (.ifCond .lt 8, 3) := by decide +kernel
theorem dX8_priceOf_63 : decode cX8_priceOf 63 = .ok (.bipush 8, 2) := by decide +kernel
theorem dX8_priceOf_65 : decode cX8_priceOf 65 = .ok (.goto 4, 3) := by decide +kernel
theorem dX8_priceOf_68 : decode cX8_priceOf 68 = .ok (.iconst 0, 1) := by decide +kernel
theorem dX8_priceOf_69 : decode cX8_priceOf 69 = .ok (.ireturn, 1) := by decide +kernel
theorem dX8_net_0 : decode cX8_net 0 = .ok (.aload_n 0, 1) := by decide +kernel
theorem dX8_net_1 : decode cX8_net 1 = .ok (.getfield 7, 3) := by decide +kernel
theorem dX8_net_4 : decode cX8_net 4 = .ok (.iconst 0, 1) := by decide +kernel
theorem dX8_net_5 : decode cX8_net 5 = .ok (.iaload, 1) := by decide +kernel
theorem dX8_net_6 : decode cX8_net 6 = .ok (.bipush 6, 2) := by decide +kernel
theorem dX8_net_8 : decode cX8_net 8 = .ok (.if_icmp .ne 11, 3) := by decide +kernel
theorem dX8_net_11 : decode cX8_net 11 = .ok (.aload_n 0, 1) := by decide +kernel
theorem dX8_net_12 : decode cX8_net 12 = .ok (.iconst 2, 1) := by decide +kernel
theorem dX8_net_13 : decode cX8_net 13 = .ok (.bipush 6, 2) := by decide +kernel
theorem dX8_net_15 : decode cX8_net 15 = .ok (.invokevirtual 101, 3) := by decide +kernel
theorem dX8_net_18 : decode cX8_net 18 = .ok (.ireturn, 1) := by decide +kernel
theorem dX8_net_19 : decode cX8_net 19 = .ok (.aload_n 0, 1) := by decide +kernel
theorem dX8_net_20 : decode cX8_net 20 = .ok (.aload_n 0, 1) := by decide +kernel
theorem dX8_net_21 : decode cX8_net 21 = .ok (.getfield 7, 3) := by decide +kernel
theorem dX8_net_24 : decode cX8_net 24 = .ok (.invokevirtual 104, 3) := by decide +kernel
theorem dX8_net_27 : decode cX8_net 27 = .ok (.aload_n 0, 1) := by decide +kernel
theorem dX8_net_28 : decode cX8_net 28 = .ok (.getfield 7, 3) := by decide +kernel
theorem dX8_net_31 : decode cX8_net 31 = .ok (.iconst 0, 1) := by decide +kernel
theorem dX8_net_32 : decode cX8_net 32 = .ok (.iaload, 1) := by decide +kernel
theorem dX8_net_33 : decode cX8_net 33 = .ok (.istore_n 2, 1) := by decide +kernel
theorem dX8_net_34 : decode cX8_net 34 = .ok (.aload_n 0, 1) := by decide +kernel
theorem dX8_net_35 : decode cX8_net 35 = .ok (.getfield 7, 3) := by decide +kernel
theorem dX8_net_38 : decode cX8_net 38 = .ok (.iconst 0, 1) := by decide +kernel
theorem dX8_net_39 : decode cX8_net 39 = .ok (.dup2, 1) := by decide +kernel
theorem dX8_net_40 : decode cX8_net 40 = .ok (.iaload, 1) := by decide +kernel
theorem dX8_net_41 : decode cX8_net 41 = .ok (.iconst 1, 1) := by decide +kernel
theorem dX8_net_42 : decode cX8_net 42 = .ok (.iadd, 1) := by decide +kernel
theorem dX8_net_43 : decode cX8_net 43 = .ok (.iastore, 1) := by decide +kernel
theorem dX8_net_44 : decode cX8_net 44 = .ok (.iconst 0, 1) := by decide +kernel
theorem dX8_net_45 : decode cX8_net 45 = .ok (.istore_n 3, 1) := by decide +kernel
theorem dX8_net_46 : decode cX8_net 46 = .ok (.iload_n 3, 1) := by decide +kernel
theorem dX8_net_47 : decode cX8_net 47 = .ok (.bipush 9, 2) := by decide +kernel
theorem dX8_net_49 : decode cX8_net 49 = .ok (.if_icmp .ge 16, 3) := by decide +kernel
theorem dX8_net_52 : decode cX8_net 52 = .ok (.aload_n 0, 1) := by decide +kernel
theorem dX8_net_53 : decode cX8_net 53 = .ok (.iload_n 2, 1) := by decide +kernel
theorem dX8_net_54 : decode cX8_net 54 = .ok (.iload_n 3, 1) := by decide +kernel
theorem dX8_net_55 : decode cX8_net 55 = .ok (.iconst 0, 1) := by decide +kernel
theorem dX8_net_56 : decode cX8_net 56 = .ok (.invokevirtual 108, 3) := by decide +kernel
theorem dX8_net_59 : decode cX8_net 59 = .ok (.iinc 3 1, 3) := by decide +kernel
theorem dX8_net_62 : decode cX8_net 62 = .ok (.goto (-16), 3) := by decide +kernel
theorem dX8_net_65 : decode cX8_net 65 = .ok (.aload_n 0, 1) := by decide +kernel
theorem dX8_net_66 : decode cX8_net 66 = .ok (.iload_n 2, 1) := by decide +kernel
theorem dX8_net_67 : decode cX8_net 67 = .ok (.iconst 0, 1) := by decide +kernel
theorem dX8_net_68 : decode cX8_net 68 = .ok (.iload_n 1, 1) := by decide +kernel
theorem dX8_net_69 : decode cX8_net 69 = .ok (.ifCond .eq 7, 3) := by decide +kernel
theorem dX8_net_72 : decode cX8_net 72 = .ok (.iconst 1, 1) := by decide +kernel
theorem dX8_net_73 : decode cX8_net 73 = .ok (.goto 4, 3) := by decide +kernel
theorem dX8_net_76 : decode cX8_net 76 = .ok (.iconst 0, 1) := by decide +kernel
theorem dX8_net_77 : decode cX8_net 77 = .ok (.invokevirtual 108, 3) := by decide +kernel
theorem dX8_net_80 : decode cX8_net 80 = .ok (.iload_n 2, 1) := by decide +kernel
theorem dX8_net_81 : decode cX8_net 81 = .ok (.ireturn, 1) := by decide +kernel
theorem dX8_pin_0 : decode cX8_pin 0 = .ok (.aload_n 0, 1) := by decide +kernel
theorem dX8_pin_1 : decode cX8_pin 1 = .ok (.iload_n 1, 1) := by decide +kernel
theorem dX8_pin_2 : decode cX8_pin 2 = .ok (.invokevirtual 112, 3) := by decide +kernel
theorem dX8_pin_5 : decode cX8_pin 5 = .ok (.ifCond .ne 10, 3) := by decide +kernel
theorem dX8_pin_8 : decode cX8_pin 8 = .ok (.aload_n 0, 1) := by decide +kernel
theorem dX8_pin_9 : decode cX8_pin 9 = .ok (.iconst 3, 1) := by decide +kernel
theorem dX8_pin_10 : decode cX8_pin 10 = .ok (.iload_n 1, 1) := by decide +kernel
theorem dX8_pin_11 : decode cX8_pin 11 = .ok (.invokevirtual 101, 3) := by decide +kernel
theorem dX8_pin_14 : decode cX8_pin 14 = .ok (.ireturn, 1) := by decide +kernel
theorem dX8_pin_15 : decode cX8_pin 15 = .ok (.iload_n 2, 1) := by decide +kernel
theorem dX8_pin_16 : decode cX8_pin 16 = .ok (.iload_n 3, 1) := by decide +kernel
theorem dX8_pin_17 : decode cX8_pin 17 = .ok (.invokestatic 72, 3) := by decide +kernel
theorem dX8_pin_20 : decode cX8_pin 20 = .ok (.ifCond .ne 10, 3) := by decide +kernel
theorem dX8_pin_23 : decode cX8_pin 23 = .ok (.aload_n 0, 1) := by decide +kernel
theorem dX8_pin_24 : decode cX8_pin 24 = .ok (.iconst 1, 1) := by decide +kernel
theorem dX8_pin_25 : decode cX8_pin 25 = .ok (.iconst 0, 1) := by decide +kernel
theorem dX8_pin_26 : decode cX8_pin 26 = .ok (.invokevirtual 101, 3) := by decide +kernel
theorem dX8_pin_29 : decode cX8_pin 29 = .ok (.ireturn, 1) := by decide +kernel
theorem dX8_pin_30 : decode cX8_pin 30 = .ok (.aload_n 0, 1) := by decide +kernel
theorem dX8_pin_31 : decode cX8_pin 31 = .ok (.iload_n 1, 1) := by decide +kernel
theorem dX8_pin_32 : decode cX8_pin 32 = .ok (.bipush 6, 2) := by decide +kernel
theorem dX8_pin_34 : decode cX8_pin 34 = .ok (.invokevirtual 80, 3) := by decide +kernel
theorem dX8_pin_37 : decode cX8_pin 37 = .ok (.iconst 1, 1) := by decide +kernel
theorem dX8_pin_38 : decode cX8_pin 38 = .ok (.if_icmp .ne 10, 3) := by decide +kernel
theorem dX8_pin_41 : decode cX8_pin 41 = .ok (.aload_n 0, 1) := by decide +kernel
theorem dX8_pin_42 : decode cX8_pin 42 = .ok (.iconst 4, 1) := by decide +kernel
theorem dX8_pin_43 : decode cX8_pin 43 = .ok (.iload_n 1, 1) := by decide +kernel
theorem dX8_pin_44 : decode cX8_pin 44 = .ok (.invokevirtual 101, 3) := by decide +kernel
theorem dX8_pin_47 : decode cX8_pin 47 = .ok (.ireturn, 1) := by decide +kernel
theorem dX8_pin_48 : decode cX8_pin 48 = .ok (.aload_n 0, 1) := by decide +kernel
theorem dX8_pin_49 : decode cX8_pin 49 = .ok (.iload_n 1, 1) := by decide +kernel
theorem dX8_pin_50 : decode cX8_pin 50 = .ok (.iconst 1, 1) := by decide +kernel
theorem dX8_pin_51 : decode cX8_pin 51 = .ok (.invokevirtual 80, 3) := by decide +kernel
theorem dX8_pin_54 : decode cX8_pin 54 = .ok (.istore 4, 2) := by decide +kernel
theorem dX8_pin_56 : decode cX8_pin 56 = .ok (.iload 4, 2) := by decide +kernel
theorem dX8_pin_58 : decode cX8_pin 58 = .ok (.iconst 4, 1) := by decide +kernel
theorem dX8_pin_59 : decode cX8_pin 59 = .ok (.if_icmp .ne 10, 3) := by decide +kernel
theorem dX8_pin_62 : decode cX8_pin 62 = .ok (.aload_n 0, 1) := by decide +kernel
theorem dX8_pin_63 : decode cX8_pin 63 = .ok (.iconst 2, 1) := by decide +kernel
theorem dX8_pin_64 : decode cX8_pin 64 = .ok (.iconst 4, 1) := by decide +kernel
theorem dX8_pin_65 : decode cX8_pin 65 = .ok (.invokevirtual 101, 3) := by decide +kernel
theorem dX8_pin_68 : decode cX8_pin 68 = .ok (.ireturn, 1) := by decide +kernel
theorem dX8_pin_69 : decode cX8_pin 69 = .ok (.iload_n 2, 1) := by decide +kernel
theorem dX8_pin_70 : decode cX8_pin 70 = .ok (.iload_n 3, 1) := by decide +kernel
theorem dX8_pin_71 : decode cX8_pin 71 = .ok (.iconst 0, 1) := by decide +kernel
theorem dX8_pin_72 : decode cX8_pin 72 = .ok (.invokestatic 115, 3) := by decide +kernel
theorem dX8_pin_75 : decode cX8_pin 75 = .ok (.istore 5, 2) := by decide +kernel
theorem dX8_pin_77 : decode cX8_pin 77 = .ok (.iload 5, 2) := by decide +kernel
theorem dX8_pin_79 : decode cX8_pin 79 = .ok (.istore 6, 2) := by decide +kernel
theorem dX8_pin_81 : decode cX8_pin 81 = .ok (.iload 6, 2) := by decide +kernel
theorem dX8_pin_83 : decode cX8_pin 83 = .ok (.bipush 96, 2) := by decide +kernel
theorem dX8_pin_85 : decode cX8_pin 85 = .ok (.if_icmp .ge 30, 3) := by decide +kernel
theorem dX8_pin_88 : decode cX8_pin 88 = .ok (.aload_n 0, 1) := by decide +kernel
theorem dX8_pin_89 : decode cX8_pin 89 = .ok (.iload 6, 2) := by decide +kernel
theorem dX8_pin_91 : decode cX8_pin 91 = .ok (.invokevirtual 76, 3) := by decide +kernel
theorem dX8_pin_94 : decode cX8_pin 94 = .ok (.ifCond .eq 15, 3) := by decide +kernel
theorem dX8_pin_97 : decode cX8_pin 97 = .ok (.aload_n 0, 1) := by decide +kernel
theorem dX8_pin_98 : decode cX8_pin 98 = .ok (.iconst 5, 1) := by decide +kernel
theorem dX8_pin_99 : decode cX8_pin 99 = .ok (.aload_n 0, 1) := by decide +kernel
theorem dX8_pin_100 : decode cX8_pin 100 = .ok (.iload 6, 2) := by decide +kernel
theorem dX8_pin_102 : decode cX8_pin 102 = .ok (.invokevirtual 87, 3) := by decide +kernel
theorem dX8_pin_105 : decode cX8_pin 105 = .ok (.invokevirtual 101, 3) := by decide +kernel
theorem dX8_pin_108 : decode cX8_pin 108 = .ok (.ireturn, 1) := by decide +kernel
theorem dX8_pin_109 : decode cX8_pin 109 = .ok (.iinc 6 48, 3) := by decide +kernel
theorem dX8_pin_112 : decode cX8_pin 112 = .ok (.goto (-31), 3) := by decide +kernel
theorem dX8_pin_115 : decode cX8_pin 115 = .ok (.iload 5, 2) := by decide +kernel
theorem dX8_pin_117 : decode cX8_pin 117 = .ok (.istore 6, 2) := by decide +kernel
theorem dX8_pin_119 : decode cX8_pin 119 = .ok (.iload 6, 2) := by decide +kernel
theorem dX8_pin_121 : decode cX8_pin 121 = .ok (.bipush 96, 2) := by decide +kernel
theorem dX8_pin_123 : decode cX8_pin 123 = .ok (.if_icmp .ge 35, 3) := by decide +kernel
theorem dX8_pin_126 : decode cX8_pin 126 = .ok (.aload_n 0, 1) := by decide +kernel
theorem dX8_pin_127 : decode cX8_pin 127 = .ok (.iload_n 1, 1) := by decide +kernel
theorem dX8_pin_128 : decode cX8_pin 128 = .ok (.iload 6, 2) := by decide +kernel
theorem dX8_pin_130 : decode cX8_pin 130 = .ok (.iconst 0, 1) := by decide +kernel
theorem dX8_pin_131 : decode cX8_pin 131 = .ok (.invokevirtual 97, 3) := by decide +kernel
theorem dX8_pin_134 : decode cX8_pin 134 = .ok (.ifCond .lt 18, 3) := by decide +kernel
theorem dX8_pin_137 : decode cX8_pin 137 = .ok (.aload_n 0, 1) := by decide +kernel
theorem dX8_pin_138 : decode cX8_pin 138 = .ok (.bipush 6, 2) := by decide +kernel
theorem dX8_pin_140 : decode cX8_pin 140 = .ok (.aload_n 0, 1) := by decide +kernel
theorem dX8_pin_141 : decode cX8_pin 141 = .ok (.iload_n 1, 1) := by decide +kernel
theorem dX8_pin_142 : decode cX8_pin 142 = .ok (.iload 6, 2) := by decide +kernel
theorem dX8_pin_144 : decode cX8_pin 144 = .ok (.iconst 0, 1) := by decide +kernel
theorem dX8_pin_145 : decode cX8_pin 145 = .ok (.invokevirtual 97, 3) := by decide +kernel
theorem dX8_pin_148 : decode cX8_pin 148 = .ok (.invokevirtual 101, 3) := by decide +kernel
theorem dX8_pin_151 : decode cX8_pin 151 = .ok (.ireturn, 1) := by decide +kernel
theorem dX8_pin_152 : decode cX8_pin 152 = .ok (.iinc 6 48, 3) := by decide +kernel
theorem dX8_pin_155 : decode cX8_pin 155 = .ok (.goto (-36), 3) := by decide +kernel
theorem dX8_pin_158 : decode cX8_pin 158 = .ok (.aload_n 0, 1) := by decide +kernel
theorem dX8_pin_159 : decode cX8_pin 159 = .ok (.aload_n 0, 1) := by decide +kernel
theorem dX8_pin_160 : decode cX8_pin 160 = .ok (.getfield 7, 3) := by decide +kernel
theorem dX8_pin_163 : decode cX8_pin 163 = .ok (.invokevirtual 104, 3) := by decide +kernel
theorem dX8_pin_166 : decode cX8_pin 166 = .ok (.aload_n 0, 1) := by decide +kernel
theorem dX8_pin_167 : decode cX8_pin 167 = .ok (.iload_n 1, 1) := by decide +kernel
theorem dX8_pin_168 : decode cX8_pin 168 = .ok (.iconst 2, 1) := by decide +kernel
theorem dX8_pin_169 : decode cX8_pin 169 = .ok (.iload 4, 2) := by decide +kernel
theorem dX8_pin_171 : decode cX8_pin 171 = .ok (.iadd, 1) := by decide +kernel
theorem dX8_pin_172 : decode cX8_pin 172 = .ok (.iload 5, 2) := by decide +kernel
theorem dX8_pin_174 : decode cX8_pin 174 = .ok (.invokevirtual 108, 3) := by decide +kernel
theorem dX8_pin_177 : decode cX8_pin 177 = .ok (.aload_n 0, 1) := by decide +kernel
theorem dX8_pin_178 : decode cX8_pin 178 = .ok (.iload_n 1, 1) := by decide +kernel
theorem dX8_pin_179 : decode cX8_pin 179 = .ok (.iconst 1, 1) := by decide +kernel
theorem dX8_pin_180 : decode cX8_pin 180 = .ok (.iload 4, 2) := by decide +kernel
theorem dX8_pin_182 : decode cX8_pin 182 = .ok (.iconst 1, 1) := by decide +kernel
theorem dX8_pin_183 : decode cX8_pin 183 = .ok (.iadd, 1) := by decide +kernel
theorem dX8_pin_184 : decode cX8_pin 184 = .ok (.invokevirtual 108, 3) := by decide +kernel
theorem dX8_pin_187 : decode cX8_pin 187 = .ok (.aload_n 0, 1) := by decide +kernel
theorem dX8_pin_188 : decode cX8_pin 188 = .ok (.getfield 7, 3) := by decide +kernel
theorem dX8_pin_191 : decode cX8_pin 191 = .ok (.bipush 55, 2) := by decide +kernel
theorem dX8_pin_193 : decode cX8_pin 193 = .ok (.iload 5, 2) := by decide +kernel
theorem dX8_pin_195 : decode cX8_pin 195 = .ok (.iadd, 1) := by decide +kernel
theorem dX8_pin_196 : decode cX8_pin 196 = .ok (.iconst 2, 1) := by decide +kernel
theorem dX8_pin_197 : decode cX8_pin 197 = .ok (.iconst 2, 1) := by decide +kernel
theorem dX8_pin_198 : decode cX8_pin 198 = .ok (.iload_n 1, 1) := by decide +kernel
theorem dX8_pin_199 : decode cX8_pin 199 = .ok (.imul, 1) := by decide +kernel
theorem dX8_pin_200 : decode cX8_pin 200 = .ok (.iadd, 1) := by decide +kernel
theorem dX8_pin_201 : decode cX8_pin 201 = .ok (.iastore, 1) := by decide +kernel
theorem dX8_pin_202 : decode cX8_pin 202 = .ok (.aload_n 0, 1) := by decide +kernel
theorem dX8_pin_203 : decode cX8_pin 203 = .ok (.getfield 7, 3) := by decide +kernel
theorem dX8_pin_206 : decode cX8_pin 206 = .ok (.bipush 55, 2) := by decide +kernel
theorem dX8_pin_208 : decode cX8_pin 208 = .ok (.iload 5, 2) := by decide +kernel
theorem dX8_pin_210 : decode cX8_pin 210 = .ok (.iadd, 1) := by decide +kernel
theorem dX8_pin_211 : decode cX8_pin 211 = .ok (.bipush 48, 2) := by decide +kernel
theorem dX8_pin_213 : decode cX8_pin 213 = .ok (.iadd, 1) := by decide +kernel
theorem dX8_pin_214 : decode cX8_pin 214 = .ok (.iconst 2, 1) := by decide +kernel
theorem dX8_pin_215 : decode cX8_pin 215 = .ok (.iconst 2, 1) := by decide +kernel
theorem dX8_pin_216 : decode cX8_pin 216 = .ok (.iload_n 1, 1) := by decide +kernel
theorem dX8_pin_217 : decode cX8_pin 217 = .ok (.imul, 1) := by decide +kernel
theorem dX8_pin_218 : decode cX8_pin 218 = .ok (.iadd, 1) := by decide +kernel
theorem dX8_pin_219 : decode cX8_pin 219 = .ok (.iastore, 1) := by decide +kernel
theorem dX8_pin_220 : decode cX8_pin 220 = .ok (.iload 4, 2) := by decide +kernel
theorem dX8_pin_222 : decode cX8_pin 222 = .ok (.ireturn, 1) := by decide +kernel
theorem dX8_walls_0 : decode cX8_walls 0 = .ok (.iconst 0, 1) := by decide +kernel
theorem dX8_walls_1 : decode cX8_walls 1 = .ok (.istore_n 1, 1) := by decide +kernel
theorem dX8_walls_2 : decode cX8_walls 2 = .ok (.iconst 0, 1) := by decide +kernel
theorem dX8_walls_3 : decode cX8_walls 3 = .ok (.istore_n 2, 1) := by decide +kernel
theorem dX8_walls_4 : decode cX8_walls 4 = .ok (.iload_n 2, 1) := by decide +kernel
theorem dX8_walls_5 : decode cX8_walls 5 = .ok (.bipush 96, 2) := by decide +kernel
theorem dX8_walls_7 : decode cX8_walls 7 = .ok (.if_icmp .ge 26, 3) := by decide +kernel
theorem dX8_walls_10 : decode cX8_walls 10 = .ok (.iload_n 1, 1) := by decide +kernel
theorem dX8_walls_11 : decode cX8_walls 11 = .ok (.aload_n 0, 1) := by decide +kernel
theorem dX8_walls_12 : decode cX8_walls 12 = .ok (.iload_n 2, 1) := by decide +kernel
theorem dX8_walls_13 : decode cX8_walls 13 = .ok (.invokevirtual 76, 3) := by decide +kernel
theorem dX8_walls_16 : decode cX8_walls 16 = .ok (.iconst 1, 1) := by decide +kernel
theorem dX8_walls_17 : decode cX8_walls 17 = .ok (.if_icmp .ne 7, 3) := by decide +kernel
theorem dX8_walls_20 : decode cX8_walls 20 = .ok (.iconst 1, 1) := by decide +kernel
theorem dX8_walls_21 : decode cX8_walls 21 = .ok (.goto 4, 3) := by decide +kernel
theorem dX8_walls_24 : decode cX8_walls 24 = .ok (.iconst 0, 1) := by decide +kernel
theorem dX8_walls_25 : decode cX8_walls 25 = .ok (.iadd, 1) := by decide +kernel
theorem dX8_walls_26 : decode cX8_walls 26 = .ok (.istore_n 1, 1) := by decide +kernel
theorem dX8_walls_27 : decode cX8_walls 27 = .ok (.iinc 2 1, 3) := by decide +kernel
theorem dX8_walls_30 : decode cX8_walls 30 = .ok (.goto (-26), 3) := by decide +kernel
theorem dX8_walls_33 : decode cX8_walls 33 = .ok (.iload_n 1, 1) := by decide +kernel
theorem dX8_walls_34 : decode cX8_walls 34 = .ok (.ireturn, 1) := by decide +kernel
theorem dX8_wall_0 : decode cX8_wall 0 = .ok (.iload_n 1, 1) := by decide +kernel
theorem dX8_wall_1 : decode cX8_wall 1 = .ok (.iload_n 2, 1) := by decide +kernel
theorem dX8_wall_2 : decode cX8_wall 2 = .ok (.iload_n 3, 1) := by decide +kernel
theorem dX8_wall_3 : decode cX8_wall 3 = .ok (.invokestatic 119, 3) := by decide +kernel
theorem dX8_wall_6 : decode cX8_wall 6 = .ok (.ifCond .ne 10, 3) := by decide +kernel
theorem dX8_wall_9 : decode cX8_wall 9 = .ok (.aload_n 0, 1) := by decide +kernel
theorem dX8_wall_10 : decode cX8_wall 10 = .ok (.iconst 1, 1) := by decide +kernel
theorem dX8_wall_11 : decode cX8_wall 11 = .ok (.iconst 0, 1) := by decide +kernel
theorem dX8_wall_12 : decode cX8_wall 12 = .ok (.invokevirtual 101, 3) := by decide +kernel
theorem dX8_wall_15 : decode cX8_wall 15 = .ok (.ireturn, 1) := by decide +kernel
theorem dX8_wall_16 : decode cX8_wall 16 = .ok (.iload_n 1, 1) := by decide +kernel
theorem dX8_wall_17 : decode cX8_wall 17 = .ok (.iload_n 2, 1) := by decide +kernel
theorem dX8_wall_18 : decode cX8_wall 18 = .ok (.iload_n 3, 1) := by decide +kernel
theorem dX8_wall_19 : decode cX8_wall 19 = .ok (.invokestatic 115, 3) := by decide +kernel
theorem dX8_wall_22 : decode cX8_wall 22 = .ok (.istore 4, 2) := by decide +kernel
theorem dX8_wall_24 : decode cX8_wall 24 = .ok (.aload_n 0, 1) := by decide +kernel
theorem dX8_wall_25 : decode cX8_wall 25 = .ok (.iload 4, 2) := by decide +kernel
theorem dX8_wall_27 : decode cX8_wall 27 = .ok (.invokevirtual 76, 3) := by decide +kernel
theorem dX8_wall_30 : decode cX8_wall 30 = .ok (.ifCond .eq 15, 3) := by decide +kernel
theorem dX8_wall_33 : decode cX8_wall 33 = .ok (.aload_n 0, 1) := by decide +kernel
theorem dX8_wall_34 : decode cX8_wall 34 = .ok (.iconst 5, 1) := by decide +kernel
theorem dX8_wall_35 : decode cX8_wall 35 = .ok (.aload_n 0, 1) := by decide +kernel
theorem dX8_wall_36 : decode cX8_wall 36 = .ok (.iload 4, 2) := by decide +kernel
theorem dX8_wall_38 : decode cX8_wall 38 = .ok (.invokevirtual 87, 3) := by decide +kernel
theorem dX8_wall_41 : decode cX8_wall 41 = .ok (.invokevirtual 101, 3) := by decide +kernel
theorem dX8_wall_44 : decode cX8_wall 44 = .ok (.ireturn, 1) := by decide +kernel
theorem dX8_wall_45 : decode cX8_wall 45 = .ok (.aload_n 0, 1) := by decide +kernel
theorem dX8_wall_46 : decode cX8_wall 46 = .ok (.aload_n 0, 1) := by decide +kernel
theorem dX8_wall_47 : decode cX8_wall 47 = .ok (.getfield 7, 3) := by decide +kernel
theorem dX8_wall_50 : decode cX8_wall 50 = .ok (.invokevirtual 104, 3) := by decide +kernel
theorem dX8_wall_53 : decode cX8_wall 53 = .ok (.aload_n 0, 1) := by decide +kernel
theorem dX8_wall_54 : decode cX8_wall 54 = .ok (.getfield 7, 3) := by decide +kernel
theorem dX8_wall_57 : decode cX8_wall 57 = .ok (.bipush 55, 2) := by decide +kernel
theorem dX8_wall_59 : decode cX8_wall 59 = .ok (.iload 4, 2) := by decide +kernel
theorem dX8_wall_61 : decode cX8_wall 61 = .ok (.iadd, 1) := by decide +kernel
theorem dX8_wall_62 : decode cX8_wall 62 = .ok (.iconst 1, 1) := by decide +kernel
theorem dX8_wall_63 : decode cX8_wall 63 = .ok (.iastore, 1) := by decide +kernel
theorem dX8_wall_64 : decode cX8_wall 64 = .ok (.aload_n 0, 1) := by decide +kernel
theorem dX8_wall_65 : decode cX8_wall 65 = .ok (.invokevirtual 122, 3) := by decide +kernel
theorem dX8_wall_68 : decode cX8_wall 68 = .ok (.ireturn, 1) := by decide +kernel
theorem dX8_tearDown_0 : decode cX8_tearDown 0 = .ok (.iload_n 1, 1) := by decide +kernel
theorem dX8_tearDown_1 : decode cX8_tearDown 1 = .ok (.iload_n 2, 1) := by decide +kernel
theorem dX8_tearDown_2 : decode cX8_tearDown 2 = .ok (.iload_n 3, 1) := by decide +kernel
theorem dX8_tearDown_3 : decode cX8_tearDown 3 = .ok (.invokestatic 119, 3) := by decide +kernel
theorem dX8_tearDown_6 : decode cX8_tearDown 6 = .ok (.ifCond .ne 10, 3) := by decide +kernel
theorem dX8_tearDown_9 : decode cX8_tearDown 9 = .ok (.aload_n 0, 1) := by decide +kernel
theorem dX8_tearDown_10 : decode cX8_tearDown 10 = .ok (.iconst 1, 1) := by decide +kernel
theorem dX8_tearDown_11 : decode cX8_tearDown 11 = .ok (.iconst 0, 1) := by decide +kernel
theorem dX8_tearDown_12 : decode cX8_tearDown 12 = .ok (.invokevirtual 101, 3) := by decide +kernel
theorem dX8_tearDown_15 : decode cX8_tearDown 15 = .ok (.ireturn, 1) := by decide +kernel
theorem dX8_tearDown_16 : decode cX8_tearDown 16 = .ok (.iload_n 1, 1) := by decide +kernel
theorem dX8_tearDown_17 : decode cX8_tearDown 17 = .ok (.iload_n 2, 1) := by decide +kernel
theorem dX8_tearDown_18 : decode cX8_tearDown 18 = .ok (.iload_n 3, 1) := by decide +kernel
theorem dX8_tearDown_19 : decode cX8_tearDown 19 = .ok (.invokestatic 115, 3) := by decide +kernel
theorem dX8_tearDown_22 : decode cX8_tearDown 22 = .ok (.istore 4, 2) := by decide +kernel
theorem dX8_tearDown_24 : decode cX8_tearDown 24 = .ok (.aload_n 0, 1) := by decide +kernel
theorem dX8_tearDown_25 : decode cX8_tearDown 25 = .ok (.iload 4, 2) := by decide +kernel
theorem dX8_tearDown_27 : decode cX8_tearDown 27 = .ok (.invokevirtual 76, 3) := by decide +kernel
theorem dX8_tearDown_30 : decode cX8_tearDown 30 = .ok (.iconst 1, 1) := by decide +kernel
theorem dX8_tearDown_31 : decode cX8_tearDown 31 = .ok (.if_icmp .eq 11, 3) := by decide +kernel
theorem dX8_tearDown_34 : decode cX8_tearDown 34 = .ok (.aload_n 0, 1) := by decide +kernel
theorem dX8_tearDown_35 : decode cX8_tearDown 35 = .ok (.bipush 7, 2) := by decide +kernel
theorem dX8_tearDown_37 : decode cX8_tearDown 37 = .ok (.iconst 0, 1) := by decide +kernel
theorem dX8_tearDown_38 : decode cX8_tearDown 38 = .ok (.invokevirtual 101, 3) := by decide +kernel
theorem dX8_tearDown_41 : decode cX8_tearDown 41 = .ok (.ireturn, 1) := by decide +kernel
theorem dX8_tearDown_42 : decode cX8_tearDown 42 = .ok (.aload_n 0, 1) := by decide +kernel
theorem dX8_tearDown_43 : decode cX8_tearDown 43 = .ok (.aload_n 0, 1) := by decide +kernel
theorem dX8_tearDown_44 : decode cX8_tearDown 44 = .ok (.getfield 7, 3) := by decide +kernel
theorem dX8_tearDown_47 : decode cX8_tearDown 47 = .ok (.invokevirtual 104, 3) := by decide +kernel
theorem dX8_tearDown_50 : decode cX8_tearDown 50 = .ok (.aload_n 0, 1) := by decide +kernel
theorem dX8_tearDown_51 : decode cX8_tearDown 51 = .ok (.getfield 7, 3) := by decide +kernel
theorem dX8_tearDown_54 : decode cX8_tearDown 54 = .ok (.bipush 55, 2) := by decide +kernel
theorem dX8_tearDown_56 : decode cX8_tearDown 56 = .ok (.iload 4, 2) := by decide +kernel
theorem dX8_tearDown_58 : decode cX8_tearDown 58 = .ok (.iadd, 1) := by decide +kernel
theorem dX8_tearDown_59 : decode cX8_tearDown 59 = .ok (.iconst 0, 1) := by decide +kernel
theorem dX8_tearDown_60 : decode cX8_tearDown 60 = .ok (.iastore, 1) := by decide +kernel
theorem dX8_tearDown_61 : decode cX8_tearDown 61 = .ok (.aload_n 0, 1) := by decide +kernel
theorem dX8_tearDown_62 : decode cX8_tearDown 62 = .ok (.invokevirtual 122, 3) := by decide +kernel
theorem dX8_tearDown_65 : decode cX8_tearDown 65 = .ok (.ireturn, 1) := by decide +kernel
theorem dX8_isOwnPin_0 : decode cX8_isOwnPin 0 = .ok (.aload_n 0, 1) := by decide +kernel
theorem dX8_isOwnPin_1 : decode cX8_isOwnPin 1 = .ok (.iload_n 2, 1) := by decide +kernel
theorem dX8_isOwnPin_2 : decode cX8_isOwnPin 2 = .ok (.invokevirtual 87, 3) := by decide +kernel
theorem dX8_isOwnPin_5 : decode cX8_isOwnPin 5 = .ok (.iload_n 1, 1) := by decide +kernel
theorem dX8_isOwnPin_6 : decode cX8_isOwnPin 6 = .ok (.if_icmp .ne 15, 3) := by decide +kernel
theorem dX8_isOwnPin_9 : decode cX8_isOwnPin 9 = .ok (.aload_n 0, 1) := by decide +kernel
theorem dX8_isOwnPin_10 : decode cX8_isOwnPin 10 = .ok (.iload_n 2, 1) := by decide +kernel
theorem dX8_isOwnPin_11 : decode cX8_isOwnPin 11 = .ok (.invokevirtual 93, 3) := by decide +kernel
theorem dX8_isOwnPin_14 : decode cX8_isOwnPin 14 = .ok (.ifCond .eq 7, 3) := by decide +kernel
theorem dX8_isOwnPin_17 : decode cX8_isOwnPin 17 = .ok (.iconst 1, 1) := by decide +kernel
theorem dX8_isOwnPin_18 : decode cX8_isOwnPin 18 = .ok (.goto 4, 3) := by decide +kernel
theorem dX8_isOwnPin_21 : decode cX8_isOwnPin 21 = .ok (.iconst 0, 1) := by decide +kernel
theorem dX8_isOwnPin_22 : decode cX8_isOwnPin 22 = .ok (.ireturn, 1) := by decide +kernel
theorem dX8_stepCost_0 : decode cX8_stepCost 0 = .ok (.iload_n 3, 1) := by decide +kernel
theorem dX8_stepCost_1 : decode cX8_stepCost 1 = .ok (.iconst 4, 1) := by decide +kernel
theorem dX8_stepCost_2 : decode cX8_stepCost 2 = .ok (.if_icmp .ne 18, 3) := by decide +kernel
theorem dX8_stepCost_5 : decode cX8_stepCost 5 = .ok (.aload_n 0, 1) := by decide +kernel
theorem dX8_stepCost_6 : decode cX8_stepCost 6 = .ok (.iload_n 1, 1) := by decide +kernel
theorem dX8_stepCost_7 : decode cX8_stepCost 7 = .ok (.iload_n 2, 1) := by decide +kernel
theorem dX8_stepCost_8 : decode cX8_stepCost 8 = .ok (.invokevirtual 126, 3) := by decide +kernel
theorem dX8_stepCost_11 : decode cX8_stepCost 11 = .ok (.ifCond .eq 7, 3) := by decide +kernel
theorem dX8_stepCost_14 : decode cX8_stepCost 14 = .ok (.iconst 0, 1) := by decide +kernel
theorem dX8_stepCost_15 : decode cX8_stepCost 15 = .ok (.goto 4, 3) := by decide +kernel
theorem dX8_stepCost_18 : decode cX8_stepCost 18 = .ok (.iconst 3, 1) := by decide +kernel
theorem dX8_stepCost_19 : decode cX8_stepCost 19 = .ok (.ireturn, 1) := by decide +kernel
theorem dX8_stepCost_20 : decode cX8_stepCost 20 = .ok (.iload_n 3, 1) := by decide +kernel
theorem dX8_stepCost_21 : decode cX8_stepCost 21 = .ok (.iconst 1, 1) := by decide +kernel
theorem dX8_stepCost_22 : decode cX8_stepCost 22 = .ok (.if_icmp .le 7, 3) := by decide +kernel
theorem dX8_stepCost_25 : decode cX8_stepCost 25 = .ok (.iconst 1, 1) := by decide +kernel
theorem dX8_stepCost_26 : decode cX8_stepCost 26 = .ok (.goto 4, 3) := by decide +kernel
theorem dX8_stepCost_29 : decode cX8_stepCost 29 = .ok (.iconst 0, 1) := by decide +kernel
theorem dX8_stepCost_30 : decode cX8_stepCost 30 = .ok (.istore 4, 2) := by decide +kernel
theorem dX8_stepCost_32 : decode cX8_stepCost 32 = .ok (.iload 4, 2) := by decide +kernel
theorem dX8_stepCost_34 : decode cX8_stepCost 34 = .ok (.iload_n 2, 1) := by decide +kernel
theorem dX8_stepCost_35 : decode cX8_stepCost 35 = .ok (.bipush 48, 2) := by decide +kernel
theorem dX8_stepCost_37 : decode cX8_stepCost 37 = .ok (.if_icmp .ge 7, 3) := by decide +kernel
theorem dX8_stepCost_40 : decode cX8_stepCost 40 = .ok (.iconst 1, 1) := by decide +kernel
theorem dX8_stepCost_41 : decode cX8_stepCost 41 = .ok (.goto 4, 3) := by decide +kernel
theorem dX8_stepCost_44 : decode cX8_stepCost 44 = .ok (.iconst 0, 1) := by decide +kernel
theorem dX8_stepCost_45 : decode cX8_stepCost 45 = .ok (.if_icmp .ne 7, 3) := by decide +kernel
theorem dX8_stepCost_48 : decode cX8_stepCost 48 = .ok (.iconst 1, 1) := by decide +kernel
theorem dX8_stepCost_49 : decode cX8_stepCost 49 = .ok (.goto 4, 3) := by decide +kernel
theorem dX8_stepCost_52 : decode cX8_stepCost 52 = .ok (.iconst 2, 1) := by decide +kernel
theorem dX8_stepCost_53 : decode cX8_stepCost 53 = .ok (.ireturn, 1) := by decide +kernel
theorem dX8_moreFor_0 : decode cX8_moreFor 0 = .ok (.aload_n 0, 1) := by decide +kernel
theorem dX8_moreFor_1 : decode cX8_moreFor 1 = .ok (.iload_n 1, 1) := by decide +kernel
theorem dX8_moreFor_2 : decode cX8_moreFor 2 = .ok (.iload_n 2, 1) := by decide +kernel
theorem dX8_moreFor_3 : decode cX8_moreFor 3 = .ok (.invokevirtual 129, 3) := by decide +kernel
theorem dX8_moreFor_6 : decode cX8_moreFor 6 = .ok (.istore 4, 2) := by decide +kernel
theorem dX8_moreFor_8 : decode cX8_moreFor 8 = .ok (.iload 4, 2) := by decide +kernel
theorem dX8_moreFor_10 : decode cX8_moreFor 10 = .ok (.ifCond .ne 7, 3) := by decide +kernel
theorem dX8_moreFor_13 : decode cX8_moreFor 13 = .ok (.iconst 0, 1) := by decide +kernel
theorem dX8_moreFor_14 : decode cX8_moreFor 14 = .ok (.goto 21, 3) := by decide +kernel
theorem dX8_moreFor_17 : decode cX8_moreFor 17 = .ok (.iload 4, 2) := by decide +kernel
theorem dX8_moreFor_19 : decode cX8_moreFor 19 = .ok (.bipush 8, 2) := by decide +kernel
theorem dX8_moreFor_21 : decode cX8_moreFor 21 = .ok (.if_icmp .ne 12, 3) := by decide +kernel
theorem dX8_moreFor_24 : decode cX8_moreFor 24 = .ok (.iload_n 3, 1) := by decide +kernel
theorem dX8_moreFor_25 : decode cX8_moreFor 25 = .ok (.ifCond .eq 8, 3) := by decide +kernel
theorem dX8_moreFor_28 : decode cX8_moreFor 28 = .ok (.bipush 8, 2) := by decide +kernel
theorem dX8_moreFor_30 : decode cX8_moreFor 30 = .ok (.goto 5, 3) := by decide +kernel
theorem dX8_moreFor_33 : decode cX8_moreFor 33 = .ok (.ldc 132, 2) := by decide +kernel
theorem dX8_moreFor_35 : decode cX8_moreFor 35 = .ok (.ireturn, 1) := by decide +kernel
theorem dX8_spreads_0 : decode cX8_spreads 0 = .ok (.iconst 0, 1) := by decide +kernel
theorem dX8_spreads_1 : decode cX8_spreads 1 = .ok (.istore_n 3, 1) := by decide +kernel
theorem dX8_spreads_2 : decode cX8_spreads 2 = .ok (.iload_n 3, 1) := by decide +kernel
theorem dX8_spreads_3 : decode cX8_spreads 3 = .ok (.bipush 96, 2) := by decide +kernel
theorem dX8_spreads_5 : decode cX8_spreads 5 = .ok (.if_icmp .ge 31, 3) := by decide +kernel
theorem dX8_spreads_8 : decode cX8_spreads 8 = .ok (.aload_n 0, 1) := by decide +kernel
theorem dX8_spreads_9 : decode cX8_spreads 9 = .ok (.getfield 33, 3) := by decide +kernel
theorem dX8_spreads_12 : decode cX8_spreads 12 = .ok (.iload_n 3, 1) := by decide +kernel
theorem dX8_spreads_13 : decode cX8_spreads 13 = .ok (.aload_n 0, 1) := by decide +kernel
theorem dX8_spreads_14 : decode cX8_spreads 14 = .ok (.getfield 36, 3) := by decide +kernel
theorem dX8_spreads_17 : decode cX8_spreads 17 = .ok (.iload_n 3, 1) := by decide +kernel
theorem dX8_spreads_18 : decode cX8_spreads 18 = .ok (.iaload, 1) := by decide +kernel
theorem dX8_spreads_19 : decode cX8_spreads 19 = .ok (.iconst 1, 1) := by decide +kernel
theorem dX8_spreads_20 : decode cX8_spreads 20 = .ok (.if_icmp .ne 7, 3) := by decide +kernel
theorem dX8_spreads_23 : decode cX8_spreads 23 = .ok (.iconst 0, 1) := by decide +kernel
theorem dX8_spreads_24 : decode cX8_spreads 24 = .ok (.goto 5, 3) := by decide +kernel
theorem dX8_spreads_27 : decode cX8_spreads 27 = .ok (.ldc 132, 2) := by decide +kernel
theorem dX8_spreads_29 : decode cX8_spreads 29 = .ok (.iastore, 1) := by decide +kernel
theorem dX8_spreads_30 : decode cX8_spreads 30 = .ok (.iinc 3 1, 3) := by decide +kernel
theorem dX8_spreads_33 : decode cX8_spreads 33 = .ok (.goto (-31), 3) := by decide +kernel
theorem dX8_spreads_36 : decode cX8_spreads 36 = .ok (.iconst 1, 1) := by decide +kernel
theorem dX8_spreads_37 : decode cX8_spreads 37 = .ok (.istore_n 3, 1) := by decide +kernel
theorem dX8_spreads_38 : decode cX8_spreads 38 = .ok (.iload_n 3, 1) := by decide +kernel
theorem dX8_spreads_39 : decode cX8_spreads 39 = .ok (.ifCond .eq 149, 3) := by decide +kernel
theorem dX8_spreads_42 : decode cX8_spreads 42 = .ok (.iconst 0, 1) := by decide +kernel
theorem dX8_spreads_43 : decode cX8_spreads 43 = .ok (.istore_n 3, 1) := by decide +kernel
theorem dX8_spreads_44 : decode cX8_spreads 44 = .ok (.iconst 0, 1) := by decide +kernel
theorem dX8_spreads_45 : decode cX8_spreads 45 = .ok (.istore 4, 2) := by decide +kernel
theorem dX8_spreads_47 : decode cX8_spreads 47 = .ok (.iload 4, 2) := by decide +kernel
theorem dX8_spreads_49 : decode cX8_spreads 49 = .ok (.bipush 96, 2) := by decide +kernel
theorem dX8_spreads_51 : decode cX8_spreads 51 = .ok (.if_icmp .ge 134, 3) := by decide +kernel
theorem dX8_spreads_54 : decode cX8_spreads 54 = .ok (.aload_n 0, 1) := by decide +kernel
theorem dX8_spreads_55 : decode cX8_spreads 55 = .ok (.getfield 36, 3) := by decide +kernel
theorem dX8_spreads_58 : decode cX8_spreads 58 = .ok (.iload 4, 2) := by decide +kernel
theorem dX8_spreads_60 : decode cX8_spreads 60 = .ok (.iaload, 1) := by decide +kernel
theorem dX8_spreads_61 : decode cX8_spreads 61 = .ok (.iconst 1, 1) := by decide +kernel
theorem dX8_spreads_62 : decode cX8_spreads 62 = .ok (.if_icmp .eq 117, 3) := by decide +kernel
theorem dX8_spreads_65 : decode cX8_spreads 65 = .ok (.aload_n 0, 1) := by decide +kernel
theorem dX8_spreads_66 : decode cX8_spreads 66 = .ok (.iload_n 1, 1) := by decide +kernel
theorem dX8_spreads_67 : decode cX8_spreads 67 = .ok (.iload 4, 2) := by decide +kernel
theorem dX8_spreads_69 : decode cX8_spreads 69 = .ok (.iload_n 2, 1) := by decide +kernel
theorem dX8_spreads_70 : decode cX8_spreads 70 = .ok (.invokevirtual 133, 3) := by decide +kernel
theorem dX8_spreads_73 : decode cX8_spreads 73 = .ok (.ldc 132, 2) := by decide +kernel
theorem dX8_spreads_75 : decode cX8_spreads 75 = .ok (.if_icmp .ne 6, 3) := by decide +kernel
theorem dX8_spreads_78 : decode cX8_spreads 78 = .ok (.goto 101, 3) := by decide +kernel
theorem dX8_spreads_81 : decode cX8_spreads 81 = .ok (.iconst 0, 1) := by decide +kernel
theorem dX8_spreads_82 : decode cX8_spreads 82 = .ok (.istore 5, 2) := by decide +kernel
theorem dX8_spreads_84 : decode cX8_spreads 84 = .ok (.iload 5, 2) := by decide +kernel
theorem dX8_spreads_86 : decode cX8_spreads 86 = .ok (.iconst 5, 1) := by decide +kernel
theorem dX8_spreads_87 : decode cX8_spreads 87 = .ok (.if_icmp .ge 92, 3) := by decide +kernel
theorem dX8_spreads_90 : decode cX8_spreads 90 = .ok (.iload 4, 2) := by decide +kernel
theorem dX8_spreads_92 : decode cX8_spreads 92 = .ok (.iload 5, 2) := by decide +kernel
theorem dX8_spreads_94 : decode cX8_spreads 94 = .ok (.invokestatic 84, 3) := by decide +kernel
theorem dX8_spreads_97 : decode cX8_spreads 97 = .ok (.istore 6, 2) := by decide +kernel
theorem dX8_spreads_99 : decode cX8_spreads 99 = .ok (.iload 6, 2) := by decide +kernel
theorem dX8_spreads_101 : decode cX8_spreads 101 = .ok (.ifCond .lt 72, 3) := by decide +kernel
theorem dX8_spreads_104 : decode cX8_spreads 104 = .ok (.aload_n 0, 1) := by decide +kernel
theorem dX8_spreads_105 : decode cX8_spreads 105 = .ok (.getfield 33, 3) := by decide +kernel
theorem dX8_spreads_108 : decode cX8_spreads 108 = .ok (.iload 6, 2) := by decide +kernel
theorem dX8_spreads_110 : decode cX8_spreads 110 = .ok (.iaload, 1) := by decide +kernel
theorem dX8_spreads_111 : decode cX8_spreads 111 = .ok (.ldc 132, 2) := by decide +kernel
theorem dX8_spreads_113 : decode cX8_spreads 113 = .ok (.if_icmp .lt 6, 3) := by decide +kernel
theorem dX8_spreads_116 : decode cX8_spreads 116 = .ok (.goto 57, 3) := by decide +kernel
theorem dX8_spreads_119 : decode cX8_spreads 119 = .ok (.aload_n 0, 1) := by decide +kernel
theorem dX8_spreads_120 : decode cX8_spreads 120 = .ok (.getfield 33, 3) := by decide +kernel
theorem dX8_spreads_123 : decode cX8_spreads 123 = .ok (.iload 6, 2) := by decide +kernel
theorem dX8_spreads_125 : decode cX8_spreads 125 = .ok (.iaload, 1) := by decide +kernel
theorem dX8_spreads_126 : decode cX8_spreads 126 = .ok (.aload_n 0, 1) := by decide +kernel
theorem dX8_spreads_127 : decode cX8_spreads 127 = .ok (.iload_n 1, 1) := by decide +kernel
theorem dX8_spreads_128 : decode cX8_spreads 128 = .ok (.iload 4, 2) := by decide +kernel
theorem dX8_spreads_130 : decode cX8_spreads 130 = .ok (.iload 5, 2) := by decide +kernel
theorem dX8_spreads_132 : decode cX8_spreads 132 = .ok (.invokevirtual 136, 3) := by decide +kernel
theorem dX8_spreads_135 : decode cX8_spreads 135 = .ok (.iadd, 1) := by decide +kernel
theorem dX8_spreads_136 : decode cX8_spreads 136 = .ok (.aload_n 0, 1) := by decide +kernel
theorem dX8_spreads_137 : decode cX8_spreads 137 = .ok (.iload_n 1, 1) := by decide +kernel
theorem dX8_spreads_138 : decode cX8_spreads 138 = .ok (.iload 4, 2) := by decide +kernel
theorem dX8_spreads_140 : decode cX8_spreads 140 = .ok (.iload_n 2, 1) := by decide +kernel
theorem dX8_spreads_141 : decode cX8_spreads 141 = .ok (.invokevirtual 133, 3) := by decide +kernel
theorem dX8_spreads_144 : decode cX8_spreads 144 = .ok (.iadd, 1) := by decide +kernel
theorem dX8_spreads_145 : decode cX8_spreads 145 = .ok (.istore 7, 2) := by decide +kernel
theorem dX8_spreads_147 : decode cX8_spreads 147 = .ok (.iload 7, 2) := by decide +kernel
theorem dX8_spreads_149 : decode cX8_spreads 149 = .ok (.aload_n 0, 1) := by decide +kernel
theorem dX8_spreads_150 : decode cX8_spreads 150 = .ok (.getfield 33, 3) := by decide +kernel
theorem dX8_spreads_153 : decode cX8_spreads 153 = .ok (.iload 4, 2) := by decide +kernel
theorem dX8_spreads_155 : decode cX8_spreads 155 = .ok (.iaload, 1) := by decide +kernel
theorem dX8_spreads_156 : decode cX8_spreads 156 = .ok (.if_icmp .lt 6, 3) := by decide +kernel
theorem dX8_spreads_159 : decode cX8_spreads 159 = .ok (.goto 14, 3) := by decide +kernel
theorem dX8_spreads_162 : decode cX8_spreads 162 = .ok (.aload_n 0, 1) := by decide +kernel
theorem dX8_spreads_163 : decode cX8_spreads 163 = .ok (.getfield 33, 3) := by decide +kernel
theorem dX8_spreads_166 : decode cX8_spreads 166 = .ok (.iload 4, 2) := by decide +kernel
theorem dX8_spreads_168 : decode cX8_spreads 168 = .ok (.iload 7, 2) := by decide +kernel
theorem dX8_spreads_170 : decode cX8_spreads 170 = .ok (.iastore, 1) := by decide +kernel
theorem dX8_spreads_171 : decode cX8_spreads 171 = .ok (.iconst 1, 1) := by decide +kernel
theorem dX8_spreads_172 : decode cX8_spreads 172 = .ok (.istore_n 3, 1) := by decide +kernel
theorem dX8_spreads_173 : decode cX8_spreads 173 = .ok (.iinc 5 1, 3) := by decide +kernel
theorem dX8_spreads_176 : decode cX8_spreads 176 = .ok (.goto (-92), 3) := by decide +kernel
theorem dX8_spreads_179 : decode cX8_spreads 179 = .ok (.iinc 4 1, 3) := by decide +kernel
theorem dX8_spreads_182 : decode cX8_spreads 182 = .ok (.goto (-135), 3) := by decide +kernel
theorem dX8_spreads_185 : decode cX8_spreads 185 = .ok (.goto (-147), 3) := by decide +kernel
theorem dX8_spreads_188 : decode cX8_spreads 188 = .ok (.return_, 1) := by decide +kernel
theorem dX8_goesBack_0 : decode cX8_goesBack 0 = .ok (.iload_n 2, 1) := by decide +kernel
theorem dX8_goesBack_1 : decode cX8_goesBack 1 = .ok (.istore 4, 2) := by decide +kernel
theorem dX8_goesBack_3 : decode cX8_goesBack 3 = .ok (.aload_n 0, 1) := by decide +kernel
theorem dX8_goesBack_4 : decode cX8_goesBack 4 = .ok (.getfield 36, 3) := by decide +kernel
theorem dX8_goesBack_7 : decode cX8_goesBack 7 = .ok (.iload 4, 2) := by decide +kernel
theorem dX8_goesBack_9 : decode cX8_goesBack 9 = .ok (.iaload, 1) := by decide +kernel
theorem dX8_goesBack_10 : decode cX8_goesBack 10 = .ok (.ifCond .ne 110, 3) := by decide +kernel
theorem dX8_goesBack_13 : decode cX8_goesBack 13 = .ok (.aload_n 0, 1) := by decide +kernel
theorem dX8_goesBack_14 : decode cX8_goesBack 14 = .ok (.getfield 36, 3) := by decide +kernel
theorem dX8_goesBack_17 : decode cX8_goesBack 17 = .ok (.iload 4, 2) := by decide +kernel
theorem dX8_goesBack_19 : decode cX8_goesBack 19 = .ok (.iconst 2, 1) := by decide +kernel
theorem dX8_goesBack_20 : decode cX8_goesBack 20 = .ok (.iastore, 1) := by decide +kernel
theorem dX8_goesBack_21 : decode cX8_goesBack 21 = .ok (.iconst 0, 1) := by decide +kernel
theorem dX8_goesBack_22 : decode cX8_goesBack 22 = .ok (.istore 5, 2) := by decide +kernel
theorem dX8_goesBack_24 : decode cX8_goesBack 24 = .ok (.iload 4, 2) := by decide +kernel
theorem dX8_goesBack_26 : decode cX8_goesBack 26 = .ok (.iload 5, 2) := by decide +kernel
theorem dX8_goesBack_28 : decode cX8_goesBack 28 = .ok (.invokestatic 84, 3) := by decide +kernel
theorem dX8_goesBack_31 : decode cX8_goesBack 31 = .ok (.ifCond .lt 44, 3) := by decide +kernel
theorem dX8_goesBack_34 : decode cX8_goesBack 34 = .ok (.aload_n 0, 1) := by decide +kernel
theorem dX8_goesBack_35 : decode cX8_goesBack 35 = .ok (.getfield 33, 3) := by decide +kernel
theorem dX8_goesBack_38 : decode cX8_goesBack 38 = .ok (.iload 4, 2) := by decide +kernel
theorem dX8_goesBack_40 : decode cX8_goesBack 40 = .ok (.iload 5, 2) := by decide +kernel
theorem dX8_goesBack_42 : decode cX8_goesBack 42 = .ok (.invokestatic 84, 3) := by decide +kernel
theorem dX8_goesBack_45 : decode cX8_goesBack 45 = .ok (.iaload, 1) := by decide +kernel
theorem dX8_goesBack_46 : decode cX8_goesBack 46 = .ok (.aload_n 0, 1) := by decide +kernel
theorem dX8_goesBack_47 : decode cX8_goesBack 47 = .ok (.iload_n 1, 1) := by decide +kernel
theorem dX8_goesBack_48 : decode cX8_goesBack 48 = .ok (.iload 4, 2) := by decide +kernel
theorem dX8_goesBack_50 : decode cX8_goesBack 50 = .ok (.iload 5, 2) := by decide +kernel
theorem dX8_goesBack_52 : decode cX8_goesBack 52 = .ok (.invokevirtual 136, 3) := by decide +kernel
theorem dX8_goesBack_55 : decode cX8_goesBack 55 = .ok (.iadd, 1) := by decide +kernel
theorem dX8_goesBack_56 : decode cX8_goesBack 56 = .ok (.aload_n 0, 1) := by decide +kernel
theorem dX8_goesBack_57 : decode cX8_goesBack 57 = .ok (.iload_n 1, 1) := by decide +kernel
theorem dX8_goesBack_58 : decode cX8_goesBack 58 = .ok (.iload 4, 2) := by decide +kernel
theorem dX8_goesBack_60 : decode cX8_goesBack 60 = .ok (.iload_n 3, 1) := by decide +kernel
theorem dX8_goesBack_61 : decode cX8_goesBack 61 = .ok (.invokevirtual 133, 3) := by decide +kernel
theorem dX8_goesBack_64 : decode cX8_goesBack 64 = .ok (.iadd, 1) := by decide +kernel
theorem dX8_goesBack_65 : decode cX8_goesBack 65 = .ok (.aload_n 0, 1) := by decide +kernel
theorem dX8_goesBack_66 : decode cX8_goesBack 66 = .ok (.getfield 33, 3) := by decide +kernel
theorem dX8_goesBack_69 : decode cX8_goesBack 69 = .ok (.iload 4, 2) := by decide +kernel
theorem dX8_goesBack_71 : decode cX8_goesBack 71 = .ok (.iaload, 1) := by decide +kernel
theorem dX8_goesBack_72 : decode cX8_goesBack 72 = .ok (.if_icmp .eq 9, 3) := by decide +kernel
theorem dX8_goesBack_75 : decode cX8_goesBack 75 = .ok (.iinc 5 1, 3) := by decide +kernel
theorem dX8_goesBack_78 : decode cX8_goesBack 78 = .ok (.goto (-54), 3) := by decide +kernel
theorem dX8_goesBack_81 : decode cX8_goesBack 81 = .ok (.iload 5, 2) := by decide +kernel
theorem dX8_goesBack_83 : decode cX8_goesBack 83 = .ok (.iconst 4, 1) := by decide +kernel
theorem dX8_goesBack_84 : decode cX8_goesBack 84 = .ok (.if_icmp .ne 24, 3) := by decide +kernel
theorem dX8_goesBack_87 : decode cX8_goesBack 87 = .ok (.aload_n 0, 1) := by decide +kernel
theorem dX8_goesBack_88 : decode cX8_goesBack 88 = .ok (.iload_n 1, 1) := by decide +kernel
theorem dX8_goesBack_89 : decode cX8_goesBack 89 = .ok (.iload 4, 2) := by decide +kernel
theorem dX8_goesBack_91 : decode cX8_goesBack 91 = .ok (.invokevirtual 126, 3) := by decide +kernel
theorem dX8_goesBack_94 : decode cX8_goesBack 94 = .ok (.ifCond .ne 14, 3) := by decide +kernel
theorem dX8_goesBack_97 : decode cX8_goesBack 97 = .ok (.aload_n 0, 1) := by decide +kernel
theorem dX8_goesBack_98 : decode cX8_goesBack 98 = .ok (.getfield 39, 3) := by decide +kernel
theorem dX8_goesBack_101 : decode cX8_goesBack 101 = .ok (.iload 4, 2) := by decide +kernel
theorem dX8_goesBack_103 : decode cX8_goesBack 103 = .ok (.bipush 48, 2) := by decide +kernel
theorem dX8_goesBack_105 : decode cX8_goesBack 105 = .ok (.irem, 1) := by decide +kernel
theorem dX8_goesBack_106 : decode cX8_goesBack 106 = .ok (.iconst 1, 1) := by decide +kernel
theorem dX8_goesBack_107 : decode cX8_goesBack 107 = .ok (.iastore, 1) := by decide +kernel
theorem dX8_goesBack_108 : decode cX8_goesBack 108 = .ok (.iload 4, 2) := by decide +kernel
theorem dX8_goesBack_110 : decode cX8_goesBack 110 = .ok (.iload 5, 2) := by decide +kernel
theorem dX8_goesBack_112 : decode cX8_goesBack 112 = .ok (.invokestatic 84, 3) := by decide +kernel
theorem dX8_goesBack_115 : decode cX8_goesBack 115 = .ok (.istore 4, 2) := by decide +kernel
theorem dX8_goesBack_117 : decode cX8_goesBack 117 = .ok (.goto (-114), 3) := by decide +kernel
theorem dX8_goesBack_120 : decode cX8_goesBack 120 = .ok (.iconst 0, 1) := by decide +kernel
theorem dX8_goesBack_121 : decode cX8_goesBack 121 = .ok (.istore 5, 2) := by decide +kernel
theorem dX8_goesBack_123 : decode cX8_goesBack 123 = .ok (.iload 5, 2) := by decide +kernel
theorem dX8_goesBack_125 : decode cX8_goesBack 125 = .ok (.bipush 96, 2) := by decide +kernel
theorem dX8_goesBack_127 : decode cX8_goesBack 127 = .ok (.if_icmp .ge 31, 3) := by decide +kernel
theorem dX8_goesBack_130 : decode cX8_goesBack 130 = .ok (.aload_n 0, 1) := by decide +kernel
theorem dX8_goesBack_131 : decode cX8_goesBack 131 = .ok (.getfield 36, 3) := by decide +kernel
theorem dX8_goesBack_134 : decode cX8_goesBack 134 = .ok (.iload 5, 2) := by decide +kernel
theorem dX8_goesBack_136 : decode cX8_goesBack 136 = .ok (.aload_n 0, 1) := by decide +kernel
theorem dX8_goesBack_137 : decode cX8_goesBack 137 = .ok (.getfield 36, 3) := by decide +kernel
theorem dX8_goesBack_140 : decode cX8_goesBack 140 = .ok (.iload 5, 2) := by decide +kernel
theorem dX8_goesBack_142 : decode cX8_goesBack 142 = .ok (.iaload, 1) := by decide +kernel
theorem dX8_goesBack_143 : decode cX8_goesBack 143 = .ok (.ifCond .le 7, 3) := by decide +kernel
theorem dX8_goesBack_146 : decode cX8_goesBack 146 = .ok (.iconst 1, 1) := by decide +kernel
theorem dX8_goesBack_147 : decode cX8_goesBack 147 = .ok (.goto 4, 3) := by decide +kernel
theorem dX8_goesBack_150 : decode cX8_goesBack 150 = .ok (.iconst 0, 1) := by decide +kernel
theorem dX8_goesBack_151 : decode cX8_goesBack 151 = .ok (.iastore, 1) := by decide +kernel
theorem dX8_goesBack_152 : decode cX8_goesBack 152 = .ok (.iinc 5 1, 3) := by decide +kernel
theorem dX8_goesBack_155 : decode cX8_goesBack 155 = .ok (.goto (-32), 3) := by decide +kernel
theorem dX8_goesBack_158 : decode cX8_goesBack 158 = .ok (.return_, 1) := by decide +kernel
theorem dX8_joins_0 : decode cX8_joins 0 = .ok (.aload_n 0, 1) := by decide +kernel
theorem dX8_joins_1 : decode cX8_joins 1 = .ok (.getfield 36, 3) := by decide +kernel
theorem dX8_joins_4 : decode cX8_joins 4 = .ok (.iload_n 1, 1) := by decide +kernel
theorem dX8_joins_5 : decode cX8_joins 5 = .ok (.iconst 1, 1) := by decide +kernel
theorem dX8_joins_6 : decode cX8_joins 6 = .ok (.iastore, 1) := by decide +kernel
theorem dX8_joins_7 : decode cX8_joins 7 = .ok (.aload_n 0, 1) := by decide +kernel
theorem dX8_joins_8 : decode cX8_joins 8 = .ok (.getfield 36, 3) := by decide +kernel
theorem dX8_joins_11 : decode cX8_joins 11 = .ok (.iload_n 1, 1) := by decide +kernel
theorem dX8_joins_12 : decode cX8_joins 12 = .ok (.bipush 48, 2) := by decide +kernel
theorem dX8_joins_14 : decode cX8_joins 14 = .ok (.iadd, 1) := by decide +kernel
theorem dX8_joins_15 : decode cX8_joins 15 = .ok (.iconst 1, 1) := by decide +kernel
theorem dX8_joins_16 : decode cX8_joins 16 = .ok (.iastore, 1) := by decide +kernel
theorem dX8_joins_17 : decode cX8_joins 17 = .ok (.return_, 1) := by decide +kernel
theorem dX8_finds_0 : decode cX8_finds 0 = .ok (.iconst 0, 1) := by decide +kernel
theorem dX8_finds_1 : decode cX8_finds 1 = .ok (.istore_n 3, 1) := by decide +kernel
theorem dX8_finds_2 : decode cX8_finds 2 = .ok (.iload_n 3, 1) := by decide +kernel
theorem dX8_finds_3 : decode cX8_finds 3 = .ok (.bipush 96, 2) := by decide +kernel
theorem dX8_finds_5 : decode cX8_finds 5 = .ok (.if_icmp .ge 16, 3) := by decide +kernel
theorem dX8_finds_8 : decode cX8_finds 8 = .ok (.aload_n 0, 1) := by decide +kernel
theorem dX8_finds_9 : decode cX8_finds 9 = .ok (.getfield 36, 3) := by decide +kernel
theorem dX8_finds_12 : decode cX8_finds 12 = .ok (.iload_n 3, 1) := by decide +kernel
theorem dX8_finds_13 : decode cX8_finds 13 = .ok (.iconst 0, 1) := by decide +kernel
theorem dX8_finds_14 : decode cX8_finds 14 = .ok (.iastore, 1) := by decide +kernel
theorem dX8_finds_15 : decode cX8_finds 15 = .ok (.iinc 3 1, 3) := by decide +kernel
theorem dX8_finds_18 : decode cX8_finds 18 = .ok (.goto (-16), 3) := by decide +kernel
theorem dX8_finds_21 : decode cX8_finds 21 = .ok (.iconst 0, 1) := by decide +kernel
theorem dX8_finds_22 : decode cX8_finds 22 = .ok (.istore_n 3, 1) := by decide +kernel
theorem dX8_finds_23 : decode cX8_finds 23 = .ok (.iload_n 3, 1) := by decide +kernel
theorem dX8_finds_24 : decode cX8_finds 24 = .ok (.bipush 48, 2) := by decide +kernel
theorem dX8_finds_26 : decode cX8_finds 26 = .ok (.if_icmp .ge 16, 3) := by decide +kernel
theorem dX8_finds_29 : decode cX8_finds 29 = .ok (.aload_n 0, 1) := by decide +kernel
theorem dX8_finds_30 : decode cX8_finds 30 = .ok (.getfield 39, 3) := by decide +kernel
theorem dX8_finds_33 : decode cX8_finds 33 = .ok (.iload_n 3, 1) := by decide +kernel
theorem dX8_finds_34 : decode cX8_finds 34 = .ok (.iconst 0, 1) := by decide +kernel
theorem dX8_finds_35 : decode cX8_finds 35 = .ok (.iastore, 1) := by decide +kernel
theorem dX8_finds_36 : decode cX8_finds 36 = .ok (.iinc 3 1, 3) := by decide +kernel
theorem dX8_finds_39 : decode cX8_finds 39 = .ok (.goto (-16), 3) := by decide +kernel
theorem dX8_finds_42 : decode cX8_finds 42 = .ok (.aload_n 0, 1) := by decide +kernel
theorem dX8_finds_43 : decode cX8_finds 43 = .ok (.iconst 0, 1) := by decide +kernel
theorem dX8_finds_44 : decode cX8_finds 44 = .ok (.putfield 139, 3) := by decide +kernel
theorem dX8_finds_47 : decode cX8_finds 47 = .ok (.aload_n 0, 1) := by decide +kernel
theorem dX8_finds_48 : decode cX8_finds 48 = .ok (.aload_n 0, 1) := by decide +kernel
theorem dX8_finds_49 : decode cX8_finds 49 = .ok (.iload_n 1, 1) := by decide +kernel
theorem dX8_finds_50 : decode cX8_finds 50 = .ok (.iconst 2, 1) := by decide +kernel
theorem dX8_finds_51 : decode cX8_finds 51 = .ok (.invokevirtual 80, 3) := by decide +kernel
theorem dX8_finds_54 : decode cX8_finds 54 = .ok (.invokevirtual 142, 3) := by decide +kernel
theorem dX8_finds_57 : decode cX8_finds 57 = .ok (.iconst 1, 1) := by decide +kernel
theorem dX8_finds_58 : decode cX8_finds 58 = .ok (.istore_n 3, 1) := by decide +kernel
theorem dX8_finds_59 : decode cX8_finds 59 = .ok (.iload_n 3, 1) := by decide +kernel
theorem dX8_finds_60 : decode cX8_finds 60 = .ok (.aload_n 0, 1) := by decide +kernel
theorem dX8_finds_61 : decode cX8_finds 61 = .ok (.iload_n 1, 1) := by decide +kernel
theorem dX8_finds_62 : decode cX8_finds 62 = .ok (.iconst 1, 1) := by decide +kernel
theorem dX8_finds_63 : decode cX8_finds 63 = .ok (.invokevirtual 80, 3) := by decide +kernel
theorem dX8_finds_66 : decode cX8_finds 66 = .ok (.if_icmp .ge 101, 3) := by decide +kernel
theorem dX8_finds_69 : decode cX8_finds 69 = .ok (.aload_n 0, 1) := by decide +kernel
theorem dX8_finds_70 : decode cX8_finds 70 = .ok (.iload_n 1, 1) := by decide +kernel
theorem dX8_finds_71 : decode cX8_finds 71 = .ok (.iconst 2, 1) := by decide +kernel
theorem dX8_finds_72 : decode cX8_finds 72 = .ok (.iload_n 3, 1) := by decide +kernel
theorem dX8_finds_73 : decode cX8_finds 73 = .ok (.iadd, 1) := by decide +kernel
theorem dX8_finds_74 : decode cX8_finds 74 = .ok (.invokevirtual 80, 3) := by decide +kernel
theorem dX8_finds_77 : decode cX8_finds 77 = .ok (.istore 4, 2) := by decide +kernel
theorem dX8_finds_79 : decode cX8_finds 79 = .ok (.aload_n 0, 1) := by decide +kernel
theorem dX8_finds_80 : decode cX8_finds 80 = .ok (.iload_n 1, 1) := by decide +kernel
theorem dX8_finds_81 : decode cX8_finds 81 = .ok (.iload_n 2, 1) := by decide +kernel
theorem dX8_finds_82 : decode cX8_finds 82 = .ok (.invokevirtual 146, 3) := by decide +kernel
theorem dX8_finds_85 : decode cX8_finds 85 = .ok (.aload_n 0, 1) := by decide +kernel
theorem dX8_finds_86 : decode cX8_finds 86 = .ok (.getfield 33, 3) := by decide +kernel
theorem dX8_finds_89 : decode cX8_finds 89 = .ok (.iload 4, 2) := by decide +kernel
theorem dX8_finds_91 : decode cX8_finds 91 = .ok (.iaload, 1) := by decide +kernel
theorem dX8_finds_92 : decode cX8_finds 92 = .ok (.aload_n 0, 1) := by decide +kernel
theorem dX8_finds_93 : decode cX8_finds 93 = .ok (.getfield 33, 3) := by decide +kernel
theorem dX8_finds_96 : decode cX8_finds 96 = .ok (.iload 4, 2) := by decide +kernel
theorem dX8_finds_98 : decode cX8_finds 98 = .ok (.bipush 48, 2) := by decide +kernel
theorem dX8_finds_100 : decode cX8_finds 100 = .ok (.iadd, 1) := by decide +kernel
theorem dX8_finds_101 : decode cX8_finds 101 = .ok (.iaload, 1) := by decide +kernel
theorem dX8_finds_102 : decode cX8_finds 102 = .ok (.if_icmp .gt 8, 3) := by decide +kernel
theorem dX8_finds_105 : decode cX8_finds 105 = .ok (.iload 4, 2) := by decide +kernel
theorem dX8_finds_107 : decode cX8_finds 107 = .ok (.goto 8, 3) := by decide +kernel
theorem dX8_finds_110 : decode cX8_finds 110 = .ok (.iload 4, 2) := by decide +kernel
theorem dX8_finds_112 : decode cX8_finds 112 = .ok (.bipush 48, 2) := by decide +kernel
theorem dX8_finds_114 : decode cX8_finds 114 = .ok (.iadd, 1) := by decide +kernel
theorem dX8_finds_115 : decode cX8_finds 115 = .ok (.istore 5, 2) := by decide +kernel
theorem dX8_finds_117 : decode cX8_finds 117 = .ok (.aload_n 0, 1) := by decide +kernel
theorem dX8_finds_118 : decode cX8_finds 118 = .ok (.getfield 33, 3) := by decide +kernel
theorem dX8_finds_121 : decode cX8_finds 121 = .ok (.iload 5, 2) := by decide +kernel
theorem dX8_finds_123 : decode cX8_finds 123 = .ok (.iaload, 1) := by decide +kernel
theorem dX8_finds_124 : decode cX8_finds 124 = .ok (.ldc 132, 2) := by decide +kernel
theorem dX8_finds_126 : decode cX8_finds 126 = .ok (.if_icmp .lt 5, 3) := by decide +kernel
theorem dX8_finds_129 : decode cX8_finds 129 = .ok (.iload_n 3, 1) := by decide +kernel
theorem dX8_finds_130 : decode cX8_finds 130 = .ok (.ireturn, 1) := by decide +kernel
theorem dX8_finds_131 : decode cX8_finds 131 = .ok (.aload_n 0, 1) := by decide +kernel
theorem dX8_finds_132 : decode cX8_finds 132 = .ok (.dup, 1) := by decide +kernel
theorem dX8_finds_133 : decode cX8_finds 133 = .ok (.getfield 139, 3) := by decide +kernel
theorem dX8_finds_136 : decode cX8_finds 136 = .ok (.aload_n 0, 1) := by decide +kernel
theorem dX8_finds_137 : decode cX8_finds 137 = .ok (.getfield 33, 3) := by decide +kernel
theorem dX8_finds_140 : decode cX8_finds 140 = .ok (.iload 5, 2) := by decide +kernel
theorem dX8_finds_142 : decode cX8_finds 142 = .ok (.iaload, 1) := by decide +kernel
theorem dX8_finds_143 : decode cX8_finds 143 = .ok (.iadd, 1) := by decide +kernel
theorem dX8_finds_144 : decode cX8_finds 144 = .ok (.putfield 139, 3) := by decide +kernel
theorem dX8_finds_147 : decode cX8_finds 147 = .ok (.aload_n 0, 1) := by decide +kernel
theorem dX8_finds_148 : decode cX8_finds 148 = .ok (.iload_n 1, 1) := by decide +kernel
theorem dX8_finds_149 : decode cX8_finds 149 = .ok (.iload 5, 2) := by decide +kernel
theorem dX8_finds_151 : decode cX8_finds 151 = .ok (.iload_n 2, 1) := by decide +kernel
theorem dX8_finds_152 : decode cX8_finds 152 = .ok (.invokevirtual 150, 3) := by decide +kernel
theorem dX8_finds_155 : decode cX8_finds 155 = .ok (.aload_n 0, 1) := by decide +kernel
theorem dX8_finds_156 : decode cX8_finds 156 = .ok (.iload 4, 2) := by decide +kernel
theorem dX8_finds_158 : decode cX8_finds 158 = .ok (.invokevirtual 142, 3) := by decide +kernel
theorem dX8_finds_161 : decode cX8_finds 161 = .ok (.iinc 3 1, 3) := by decide +kernel
theorem dX8_finds_164 : decode cX8_finds 164 = .ok (.goto (-105), 3) := by decide +kernel
theorem dX8_finds_167 : decode cX8_finds 167 = .ok (.iconst 0, 1) := by decide +kernel
theorem dX8_finds_168 : decode cX8_finds 168 = .ok (.ireturn, 1) := by decide +kernel
theorem dX8_newHoles_0 : decode cX8_newHoles 0 = .ok (.iconst 0, 1) := by decide +kernel
theorem dX8_newHoles_1 : decode cX8_newHoles 1 = .ok (.istore_n 1, 1) := by decide +kernel
theorem dX8_newHoles_2 : decode cX8_newHoles 2 = .ok (.iconst 0, 1) := by decide +kernel
theorem dX8_newHoles_3 : decode cX8_newHoles 3 = .ok (.istore_n 2, 1) := by decide +kernel
theorem dX8_newHoles_4 : decode cX8_newHoles 4 = .ok (.iload_n 2, 1) := by decide +kernel
theorem dX8_newHoles_5 : decode cX8_newHoles 5 = .ok (.bipush 48, 2) := by decide +kernel
theorem dX8_newHoles_7 : decode cX8_newHoles 7 = .ok (.if_icmp .ge 18, 3) := by decide +kernel
theorem dX8_newHoles_10 : decode cX8_newHoles 10 = .ok (.iload_n 1, 1) := by decide +kernel
theorem dX8_newHoles_11 : decode cX8_newHoles 11 = .ok (.aload_n 0, 1) := by decide +kernel
theorem dX8_newHoles_12 : decode cX8_newHoles 12 = .ok (.getfield 39, 3) := by decide +kernel
theorem dX8_newHoles_15 : decode cX8_newHoles 15 = .ok (.iload_n 2, 1) := by decide +kernel
theorem dX8_newHoles_16 : decode cX8_newHoles 16 = .ok (.iaload, 1) := by decide +kernel
theorem dX8_newHoles_17 : decode cX8_newHoles 17 = .ok (.iadd, 1) := by decide +kernel
theorem dX8_newHoles_18 : decode cX8_newHoles 18 = .ok (.istore_n 1, 1) := by decide +kernel
theorem dX8_newHoles_19 : decode cX8_newHoles 19 = .ok (.iinc 2 1, 3) := by decide +kernel
theorem dX8_newHoles_22 : decode cX8_newHoles 22 = .ok (.goto (-18), 3) := by decide +kernel
theorem dX8_newHoles_25 : decode cX8_newHoles 25 = .ok (.iload_n 1, 1) := by decide +kernel
theorem dX8_newHoles_26 : decode cX8_newHoles 26 = .ok (.ireturn, 1) := by decide +kernel
theorem dX8_inTheWay_0 : decode cX8_inTheWay 0 = .ok (.iconst 0, 1) := by decide +kernel
theorem dX8_inTheWay_1 : decode cX8_inTheWay 1 = .ok (.istore_n 2, 1) := by decide +kernel
theorem dX8_inTheWay_2 : decode cX8_inTheWay 2 = .ok (.iconst 0, 1) := by decide +kernel
theorem dX8_inTheWay_3 : decode cX8_inTheWay 3 = .ok (.istore_n 3, 1) := by decide +kernel
theorem dX8_inTheWay_4 : decode cX8_inTheWay 4 = .ok (.iload_n 3, 1) := by decide +kernel
theorem dX8_inTheWay_5 : decode cX8_inTheWay 5 = .ok (.bipush 96, 2) := by decide +kernel
theorem dX8_inTheWay_7 : decode cX8_inTheWay 7 = .ok (.if_icmp .ge 125, 3) := by decide +kernel
theorem dX8_inTheWay_10 : decode cX8_inTheWay 10 = .ok (.aload_n 0, 1) := by decide +kernel
theorem dX8_inTheWay_11 : decode cX8_inTheWay 11 = .ok (.getfield 36, 3) := by decide +kernel
theorem dX8_inTheWay_14 : decode cX8_inTheWay 14 = .ok (.iload_n 3, 1) := by decide +kernel
theorem dX8_inTheWay_15 : decode cX8_inTheWay 15 = .ok (.iaload, 1) := by decide +kernel
theorem dX8_inTheWay_16 : decode cX8_inTheWay 16 = .ok (.ifCond .ne 6, 3) := by decide +kernel
theorem dX8_inTheWay_19 : decode cX8_inTheWay 19 = .ok (.goto 107, 3) := by decide +kernel
theorem dX8_inTheWay_22 : decode cX8_inTheWay 22 = .ok (.aload_n 0, 1) := by decide +kernel
theorem dX8_inTheWay_23 : decode cX8_inTheWay 23 = .ok (.iload_n 3, 1) := by decide +kernel
theorem dX8_inTheWay_24 : decode cX8_inTheWay 24 = .ok (.invokevirtual 87, 3) := by decide +kernel
theorem dX8_inTheWay_27 : decode cX8_inTheWay 27 = .ok (.ifCond .lt 22, 3) := by decide +kernel
theorem dX8_inTheWay_30 : decode cX8_inTheWay 30 = .ok (.aload_n 0, 1) := by decide +kernel
theorem dX8_inTheWay_31 : decode cX8_inTheWay 31 = .ok (.iload_n 3, 1) := by decide +kernel
theorem dX8_inTheWay_32 : decode cX8_inTheWay 32 = .ok (.invokevirtual 87, 3) := by decide +kernel
theorem dX8_inTheWay_35 : decode cX8_inTheWay 35 = .ok (.iload_n 1, 1) := by decide +kernel
theorem dX8_inTheWay_36 : decode cX8_inTheWay 36 = .ok (.if_icmp .eq 13, 3) := by decide +kernel
theorem dX8_inTheWay_39 : decode cX8_inTheWay 39 = .ok (.iload_n 2, 1) := by decide +kernel
theorem dX8_inTheWay_40 : decode cX8_inTheWay 40 = .ok (.iconst 1, 1) := by decide +kernel
theorem dX8_inTheWay_41 : decode cX8_inTheWay 41 = .ok (.aload_n 0, 1) := by decide +kernel
theorem dX8_inTheWay_42 : decode cX8_inTheWay 42 = .ok (.iload_n 3, 1) := by decide +kernel
theorem dX8_inTheWay_43 : decode cX8_inTheWay 43 = .ok (.invokevirtual 87, 3) := by decide +kernel
theorem dX8_inTheWay_46 : decode cX8_inTheWay 46 = .ok (.ishl, 1) := by decide +kernel
theorem dX8_inTheWay_47 : decode cX8_inTheWay 47 = .ok (.ior, 1) := by decide +kernel
theorem dX8_inTheWay_48 : decode cX8_inTheWay 48 = .ok (.istore_n 2, 1) := by decide +kernel
theorem dX8_inTheWay_49 : decode cX8_inTheWay 49 = .ok (.iconst 0, 1) := by decide +kernel
theorem dX8_inTheWay_50 : decode cX8_inTheWay 50 = .ok (.istore 4, 2) := by decide +kernel
theorem dX8_inTheWay_52 : decode cX8_inTheWay 52 = .ok (.iload 4, 2) := by decide +kernel
theorem dX8_inTheWay_54 : decode cX8_inTheWay 54 = .ok (.iconst 4, 1) := by decide +kernel
theorem dX8_inTheWay_55 : decode cX8_inTheWay 55 = .ok (.if_icmp .ge 71, 3) := by decide +kernel
theorem dX8_inTheWay_58 : decode cX8_inTheWay 58 = .ok (.iload_n 3, 1) := by decide +kernel
theorem dX8_inTheWay_59 : decode cX8_inTheWay 59 = .ok (.iload 4, 2) := by decide +kernel
theorem dX8_inTheWay_61 : decode cX8_inTheWay 61 = .ok (.invokestatic 84, 3) := by decide +kernel
theorem dX8_inTheWay_64 : decode cX8_inTheWay 64 = .ok (.istore 5, 2) := by decide +kernel
theorem dX8_inTheWay_66 : decode cX8_inTheWay 66 = .ok (.iload 5, 2) := by decide +kernel
theorem dX8_inTheWay_68 : decode cX8_inTheWay 68 = .ok (.ifCond .ge 7, 3) := by decide +kernel
theorem dX8_inTheWay_71 : decode cX8_inTheWay 71 = .ok (.iconst (-1), 1) := by decide +kernel
theorem dX8_inTheWay_72 : decode cX8_inTheWay 72 = .ok (.goto 9, 3) := by decide +kernel
theorem dX8_inTheWay_75 : decode cX8_inTheWay 75 = .ok (.aload_n 0, 1) := by decide +kernel
theorem dX8_inTheWay_76 : decode cX8_inTheWay 76 = .ok (.iload 5, 2) := by decide +kernel
theorem dX8_inTheWay_78 : decode cX8_inTheWay 78 = .ok (.invokevirtual 87, 3) := by decide +kernel
theorem dX8_inTheWay_81 : decode cX8_inTheWay 81 = .ok (.istore 6, 2) := by decide +kernel
theorem dX8_inTheWay_83 : decode cX8_inTheWay 83 = .ok (.iload 6, 2) := by decide +kernel
theorem dX8_inTheWay_85 : decode cX8_inTheWay 85 = .ok (.ifCond .lt 35, 3) := by decide +kernel
theorem dX8_inTheWay_88 : decode cX8_inTheWay 88 = .ok (.iload 6, 2) := by decide +kernel
theorem dX8_inTheWay_90 : decode cX8_inTheWay 90 = .ok (.iload_n 1, 1) := by decide +kernel
theorem dX8_inTheWay_91 : decode cX8_inTheWay 91 = .ok (.if_icmp .eq 29, 3) := by decide +kernel
theorem dX8_inTheWay_94 : decode cX8_inTheWay 94 = .ok (.aload_n 0, 1) := by decide +kernel
theorem dX8_inTheWay_95 : decode cX8_inTheWay 95 = .ok (.iload_n 1, 1) := by decide +kernel
theorem dX8_inTheWay_96 : decode cX8_inTheWay 96 = .ok (.iload 6, 2) := by decide +kernel
theorem dX8_inTheWay_98 : decode cX8_inTheWay 98 = .ok (.invokevirtual 90, 3) := by decide +kernel
theorem dX8_inTheWay_101 : decode cX8_inTheWay 101 = .ok (.ifCond .eq 19, 3) := by decide +kernel
theorem dX8_inTheWay_104 : decode cX8_inTheWay 104 = .ok (.aload_n 0, 1) := by decide +kernel
theorem dX8_inTheWay_105 : decode cX8_inTheWay 105 = .ok (.iload 5, 2) := by decide +kernel
theorem dX8_inTheWay_107 : decode cX8_inTheWay 107 = .ok (.invokevirtual 93, 3) := by decide +kernel
theorem dX8_inTheWay_110 : decode cX8_inTheWay 110 = .ok (.ifCond .ne 10, 3) := by decide +kernel
theorem dX8_inTheWay_113 : decode cX8_inTheWay 113 = .ok (.iload_n 2, 1) := by decide +kernel
theorem dX8_inTheWay_114 : decode cX8_inTheWay 114 = .ok (.iconst 1, 1) := by decide +kernel
theorem dX8_inTheWay_115 : decode cX8_inTheWay 115 = .ok (.iload 6, 2) := by decide +kernel
theorem dX8_inTheWay_117 : decode cX8_inTheWay 117 = .ok (.ishl, 1) := by decide +kernel
theorem dX8_inTheWay_118 : decode cX8_inTheWay 118 = .ok (.ior, 1) := by decide +kernel
theorem dX8_inTheWay_119 : decode cX8_inTheWay 119 = .ok (.istore_n 2, 1) := by decide +kernel
theorem dX8_inTheWay_120 : decode cX8_inTheWay 120 = .ok (.iinc 4 1, 3) := by decide +kernel
theorem dX8_inTheWay_123 : decode cX8_inTheWay 123 = .ok (.goto (-71), 3) := by decide +kernel
theorem dX8_inTheWay_126 : decode cX8_inTheWay 126 = .ok (.iinc 3 1, 3) := by decide +kernel
theorem dX8_inTheWay_129 : decode cX8_inTheWay 129 = .ok (.goto (-125), 3) := by decide +kernel
theorem dX8_inTheWay_132 : decode cX8_inTheWay 132 = .ok (.iload_n 2, 1) := by decide +kernel
theorem dX8_inTheWay_133 : decode cX8_inTheWay 133 = .ok (.ireturn, 1) := by decide +kernel
theorem dX8_wireOf_0 : decode cX8_wireOf 0 = .ok (.iconst 0, 1) := by decide +kernel
theorem dX8_wireOf_1 : decode cX8_wireOf 1 = .ok (.istore_n 2, 1) := by decide +kernel
theorem dX8_wireOf_2 : decode cX8_wireOf 2 = .ok (.iconst 0, 1) := by decide +kernel
theorem dX8_wireOf_3 : decode cX8_wireOf 3 = .ok (.istore_n 3, 1) := by decide +kernel
theorem dX8_wireOf_4 : decode cX8_wireOf 4 = .ok (.iload_n 3, 1) := by decide +kernel
theorem dX8_wireOf_5 : decode cX8_wireOf 5 = .ok (.bipush 96, 2) := by decide +kernel
theorem dX8_wireOf_7 : decode cX8_wireOf 7 = .ok (.if_icmp .ge 34, 3) := by decide +kernel
theorem dX8_wireOf_10 : decode cX8_wireOf 10 = .ok (.iload_n 2, 1) := by decide +kernel
theorem dX8_wireOf_11 : decode cX8_wireOf 11 = .ok (.aload_n 0, 1) := by decide +kernel
theorem dX8_wireOf_12 : decode cX8_wireOf 12 = .ok (.iload_n 3, 1) := by decide +kernel
theorem dX8_wireOf_13 : decode cX8_wireOf 13 = .ok (.invokevirtual 87, 3) := by decide +kernel
theorem dX8_wireOf_16 : decode cX8_wireOf 16 = .ok (.iload_n 1, 1) := by decide +kernel
theorem dX8_wireOf_17 : decode cX8_wireOf 17 = .ok (.if_icmp .ne 15, 3) := by decide +kernel
theorem dX8_wireOf_20 : decode cX8_wireOf 20 = .ok (.aload_n 0, 1) := by decide +kernel
theorem dX8_wireOf_21 : decode cX8_wireOf 21 = .ok (.iload_n 3, 1) := by decide +kernel
theorem dX8_wireOf_22 : decode cX8_wireOf 22 = .ok (.invokevirtual 93, 3) := by decide +kernel
theorem dX8_wireOf_25 : decode cX8_wireOf 25 = .ok (.ifCond .ne 7, 3) := by decide +kernel
theorem dX8_wireOf_28 : decode cX8_wireOf 28 = .ok (.iconst 1, 1) := by decide +kernel
theorem dX8_wireOf_29 : decode cX8_wireOf 29 = .ok (.goto 4, 3) := by decide +kernel
theorem dX8_wireOf_32 : decode cX8_wireOf 32 = .ok (.iconst 0, 1) := by decide +kernel
theorem dX8_wireOf_33 : decode cX8_wireOf 33 = .ok (.iadd, 1) := by decide +kernel
theorem dX8_wireOf_34 : decode cX8_wireOf 34 = .ok (.istore_n 2, 1) := by decide +kernel
theorem dX8_wireOf_35 : decode cX8_wireOf 35 = .ok (.iinc 3 1, 3) := by decide +kernel
theorem dX8_wireOf_38 : decode cX8_wireOf 38 = .ok (.goto (-34), 3) := by decide +kernel
theorem dX8_wireOf_41 : decode cX8_wireOf 41 = .ok (.iload_n 2, 1) := by decide +kernel
theorem dX8_wireOf_42 : decode cX8_wireOf 42 = .ok (.ireturn, 1) := by decide +kernel
theorem dX8_holesOf_0 : decode cX8_holesOf 0 = .ok (.iconst 0, 1) := by decide +kernel
theorem dX8_holesOf_1 : decode cX8_holesOf 1 = .ok (.istore_n 2, 1) := by decide +kernel
theorem dX8_holesOf_2 : decode cX8_holesOf 2 = .ok (.iconst 0, 1) := by decide +kernel
theorem dX8_holesOf_3 : decode cX8_holesOf 3 = .ok (.istore_n 3, 1) := by decide +kernel
theorem dX8_holesOf_4 : decode cX8_holesOf 4 = .ok (.iload_n 3, 1) := by decide +kernel
theorem dX8_holesOf_5 : decode cX8_holesOf 5 = .ok (.bipush 48, 2) := by decide +kernel
theorem dX8_holesOf_7 : decode cX8_holesOf 7 = .ok (.if_icmp .ge 33, 3) := by decide +kernel
theorem dX8_holesOf_10 : decode cX8_holesOf 10 = .ok (.iload_n 2, 1) := by decide +kernel
theorem dX8_holesOf_11 : decode cX8_holesOf 11 = .ok (.aload_n 0, 1) := by decide +kernel
theorem dX8_holesOf_12 : decode cX8_holesOf 12 = .ok (.getfield 7, 3) := by decide +kernel
theorem dX8_holesOf_15 : decode cX8_holesOf 15 = .ok (.sipush 151, 3) := by decide +kernel
theorem dX8_holesOf_18 : decode cX8_holesOf 18 = .ok (.iload_n 3, 1) := by decide +kernel
theorem dX8_holesOf_19 : decode cX8_holesOf 19 = .ok (.iadd, 1) := by decide +kernel
theorem dX8_holesOf_20 : decode cX8_holesOf 20 = .ok (.iaload, 1) := by decide +kernel
theorem dX8_holesOf_21 : decode cX8_holesOf 21 = .ok (.iload_n 1, 1) := by decide +kernel
theorem dX8_holesOf_22 : decode cX8_holesOf 22 = .ok (.iconst 1, 1) := by decide +kernel
theorem dX8_holesOf_23 : decode cX8_holesOf 23 = .ok (.iadd, 1) := by decide +kernel
theorem dX8_holesOf_24 : decode cX8_holesOf 24 = .ok (.if_icmp .ne 7, 3) := by decide +kernel
theorem dX8_holesOf_27 : decode cX8_holesOf 27 = .ok (.iconst 1, 1) := by decide +kernel
theorem dX8_holesOf_28 : decode cX8_holesOf 28 = .ok (.goto 4, 3) := by decide +kernel
theorem dX8_holesOf_31 : decode cX8_holesOf 31 = .ok (.iconst 0, 1) := by decide +kernel
theorem dX8_holesOf_32 : decode cX8_holesOf 32 = .ok (.iadd, 1) := by decide +kernel
theorem dX8_holesOf_33 : decode cX8_holesOf 33 = .ok (.istore_n 2, 1) := by decide +kernel
theorem dX8_holesOf_34 : decode cX8_holesOf 34 = .ok (.iinc 3 1, 3) := by decide +kernel
theorem dX8_holesOf_37 : decode cX8_holesOf 37 = .ok (.goto (-33), 3) := by decide +kernel
theorem dX8_holesOf_40 : decode cX8_holesOf 40 = .ok (.iload_n 2, 1) := by decide +kernel
theorem dX8_holesOf_41 : decode cX8_holesOf 41 = .ok (.ireturn, 1) := by decide +kernel
theorem dX8_rips_0 : decode cX8_rips 0 = .ok (.iconst 0, 1) := by decide +kernel
theorem dX8_rips_1 : decode cX8_rips 1 = .ok (.istore_n 2, 1) := by decide +kernel
theorem dX8_rips_2 : decode cX8_rips 2 = .ok (.iload_n 2, 1) := by decide +kernel
theorem dX8_rips_3 : decode cX8_rips 3 = .ok (.bipush 96, 2) := by decide +kernel
theorem dX8_rips_5 : decode cX8_rips 5 = .ok (.if_icmp .ge 36, 3) := by decide +kernel
theorem dX8_rips_8 : decode cX8_rips 8 = .ok (.aload_n 0, 1) := by decide +kernel
theorem dX8_rips_9 : decode cX8_rips 9 = .ok (.iload_n 2, 1) := by decide +kernel
theorem dX8_rips_10 : decode cX8_rips 10 = .ok (.invokevirtual 87, 3) := by decide +kernel
theorem dX8_rips_13 : decode cX8_rips 13 = .ok (.iload_n 1, 1) := by decide +kernel
theorem dX8_rips_14 : decode cX8_rips 14 = .ok (.if_icmp .ne 21, 3) := by decide +kernel
theorem dX8_rips_17 : decode cX8_rips 17 = .ok (.aload_n 0, 1) := by decide +kernel
theorem dX8_rips_18 : decode cX8_rips 18 = .ok (.iload_n 2, 1) := by decide +kernel
theorem dX8_rips_19 : decode cX8_rips 19 = .ok (.invokevirtual 93, 3) := by decide +kernel
theorem dX8_rips_22 : decode cX8_rips 22 = .ok (.ifCond .ne 13, 3) := by decide +kernel
theorem dX8_rips_25 : decode cX8_rips 25 = .ok (.aload_n 0, 1) := by decide +kernel
theorem dX8_rips_26 : decode cX8_rips 26 = .ok (.getfield 7, 3) := by decide +kernel
theorem dX8_rips_29 : decode cX8_rips 29 = .ok (.bipush 55, 2) := by decide +kernel
theorem dX8_rips_31 : decode cX8_rips 31 = .ok (.iload_n 2, 1) := by decide +kernel
theorem dX8_rips_32 : decode cX8_rips 32 = .ok (.iadd, 1) := by decide +kernel
theorem dX8_rips_33 : decode cX8_rips 33 = .ok (.iconst 0, 1) := by decide +kernel
theorem dX8_rips_34 : decode cX8_rips 34 = .ok (.iastore, 1) := by decide +kernel
theorem dX8_rips_35 : decode cX8_rips 35 = .ok (.iinc 2 1, 3) := by decide +kernel
theorem dX8_rips_38 : decode cX8_rips 38 = .ok (.goto (-36), 3) := by decide +kernel
theorem dX8_rips_41 : decode cX8_rips 41 = .ok (.iconst 0, 1) := by decide +kernel
theorem dX8_rips_42 : decode cX8_rips 42 = .ok (.istore_n 2, 1) := by decide +kernel
theorem dX8_rips_43 : decode cX8_rips 43 = .ok (.iload_n 2, 1) := by decide +kernel
theorem dX8_rips_44 : decode cX8_rips 44 = .ok (.bipush 48, 2) := by decide +kernel
theorem dX8_rips_46 : decode cX8_rips 46 = .ok (.if_icmp .ge 36, 3) := by decide +kernel
theorem dX8_rips_49 : decode cX8_rips 49 = .ok (.aload_n 0, 1) := by decide +kernel
theorem dX8_rips_50 : decode cX8_rips 50 = .ok (.getfield 7, 3) := by decide +kernel
theorem dX8_rips_53 : decode cX8_rips 53 = .ok (.sipush 151, 3) := by decide +kernel
theorem dX8_rips_56 : decode cX8_rips 56 = .ok (.iload_n 2, 1) := by decide +kernel
theorem dX8_rips_57 : decode cX8_rips 57 = .ok (.iadd, 1) := by decide +kernel
theorem dX8_rips_58 : decode cX8_rips 58 = .ok (.iaload, 1) := by decide +kernel
theorem dX8_rips_59 : decode cX8_rips 59 = .ok (.iload_n 1, 1) := by decide +kernel
theorem dX8_rips_60 : decode cX8_rips 60 = .ok (.iconst 1, 1) := by decide +kernel
theorem dX8_rips_61 : decode cX8_rips 61 = .ok (.iadd, 1) := by decide +kernel
theorem dX8_rips_62 : decode cX8_rips 62 = .ok (.if_icmp .ne 14, 3) := by decide +kernel
theorem dX8_rips_65 : decode cX8_rips 65 = .ok (.aload_n 0, 1) := by decide +kernel
theorem dX8_rips_66 : decode cX8_rips 66 = .ok (.getfield 7, 3) := by decide +kernel
theorem dX8_rips_69 : decode cX8_rips 69 = .ok (.sipush 151, 3) := by decide +kernel
theorem dX8_rips_72 : decode cX8_rips 72 = .ok (.iload_n 2, 1) := by decide +kernel
theorem dX8_rips_73 : decode cX8_rips 73 = .ok (.iadd, 1) := by decide +kernel
theorem dX8_rips_74 : decode cX8_rips 74 = .ok (.iconst 0, 1) := by decide +kernel
theorem dX8_rips_75 : decode cX8_rips 75 = .ok (.iastore, 1) := by decide +kernel
theorem dX8_rips_76 : decode cX8_rips 76 = .ok (.iinc 2 1, 3) := by decide +kernel
theorem dX8_rips_79 : decode cX8_rips 79 = .ok (.goto (-36), 3) := by decide +kernel
theorem dX8_rips_82 : decode cX8_rips 82 = .ok (.aload_n 0, 1) := by decide +kernel
theorem dX8_rips_83 : decode cX8_rips 83 = .ok (.iload_n 1, 1) := by decide +kernel
theorem dX8_rips_84 : decode cX8_rips 84 = .ok (.bipush 6, 2) := by decide +kernel
theorem dX8_rips_86 : decode cX8_rips 86 = .ok (.iconst 0, 1) := by decide +kernel
theorem dX8_rips_87 : decode cX8_rips 87 = .ok (.invokevirtual 108, 3) := by decide +kernel
theorem dX8_rips_90 : decode cX8_rips 90 = .ok (.aload_n 0, 1) := by decide +kernel
theorem dX8_rips_91 : decode cX8_rips 91 = .ok (.iload_n 1, 1) := by decide +kernel
theorem dX8_rips_92 : decode cX8_rips 92 = .ok (.bipush 7, 2) := by decide +kernel
theorem dX8_rips_94 : decode cX8_rips 94 = .ok (.iconst 0, 1) := by decide +kernel
theorem dX8_rips_95 : decode cX8_rips 95 = .ok (.invokevirtual 108, 3) := by decide +kernel
theorem dX8_rips_98 : decode cX8_rips 98 = .ok (.aload_n 0, 1) := by decide +kernel
theorem dX8_rips_99 : decode cX8_rips 99 = .ok (.iload_n 1, 1) := by decide +kernel
theorem dX8_rips_100 : decode cX8_rips 100 = .ok (.bipush 8, 2) := by decide +kernel
theorem dX8_rips_102 : decode cX8_rips 102 = .ok (.aload_n 0, 1) := by decide +kernel
theorem dX8_rips_103 : decode cX8_rips 103 = .ok (.iload_n 1, 1) := by decide +kernel
theorem dX8_rips_104 : decode cX8_rips 104 = .ok (.bipush 8, 2) := by decide +kernel
theorem dX8_rips_106 : decode cX8_rips 106 = .ok (.invokevirtual 80, 3) := by decide +kernel
theorem dX8_rips_109 : decode cX8_rips 109 = .ok (.iconst 1, 1) := by decide +kernel
theorem dX8_rips_110 : decode cX8_rips 110 = .ok (.iadd, 1) := by decide +kernel
theorem dX8_rips_111 : decode cX8_rips 111 = .ok (.invokevirtual 108, 3) := by decide +kernel
theorem dX8_rips_114 : decode cX8_rips 114 = .ok (.return_, 1) := by decide +kernel
theorem dX8_allHoles_0 : decode cX8_allHoles 0 = .ok (.iconst 0, 1) := by decide +kernel
theorem dX8_allHoles_1 : decode cX8_allHoles 1 = .ok (.istore_n 1, 1) := by decide +kernel
theorem dX8_allHoles_2 : decode cX8_allHoles 2 = .ok (.iconst 0, 1) := by decide +kernel
theorem dX8_allHoles_3 : decode cX8_allHoles 3 = .ok (.istore_n 2, 1) := by decide +kernel
theorem dX8_allHoles_4 : decode cX8_allHoles 4 = .ok (.iload_n 2, 1) := by decide +kernel
theorem dX8_allHoles_5 : decode cX8_allHoles 5 = .ok (.bipush 48, 2) := by decide +kernel
theorem dX8_allHoles_7 : decode cX8_allHoles 7 = .ok (.if_icmp .ge 30, 3) := by decide +kernel
theorem dX8_allHoles_10 : decode cX8_allHoles 10 = .ok (.iload_n 1, 1) := by decide +kernel
theorem dX8_allHoles_11 : decode cX8_allHoles 11 = .ok (.aload_n 0, 1) := by decide +kernel
theorem dX8_allHoles_12 : decode cX8_allHoles 12 = .ok (.getfield 7, 3) := by decide +kernel
theorem dX8_allHoles_15 : decode cX8_allHoles 15 = .ok (.sipush 151, 3) := by decide +kernel
theorem dX8_allHoles_18 : decode cX8_allHoles 18 = .ok (.iload_n 2, 1) := by decide +kernel
theorem dX8_allHoles_19 : decode cX8_allHoles 19 = .ok (.iadd, 1) := by decide +kernel
theorem dX8_allHoles_20 : decode cX8_allHoles 20 = .ok (.iaload, 1) := by decide +kernel
theorem dX8_allHoles_21 : decode cX8_allHoles 21 = .ok (.ifCond .le 7, 3) := by decide +kernel
theorem dX8_allHoles_24 : decode cX8_allHoles 24 = .ok (.iconst 1, 1) := by decide +kernel
theorem dX8_allHoles_25 : decode cX8_allHoles 25 = .ok (.goto 4, 3) := by decide +kernel
theorem dX8_allHoles_28 : decode cX8_allHoles 28 = .ok (.iconst 0, 1) := by decide +kernel
theorem dX8_allHoles_29 : decode cX8_allHoles 29 = .ok (.iadd, 1) := by decide +kernel
theorem dX8_allHoles_30 : decode cX8_allHoles 30 = .ok (.istore_n 1, 1) := by decide +kernel
theorem dX8_allHoles_31 : decode cX8_allHoles 31 = .ok (.iinc 2 1, 3) := by decide +kernel
theorem dX8_allHoles_34 : decode cX8_allHoles 34 = .ok (.goto (-30), 3) := by decide +kernel
theorem dX8_allHoles_37 : decode cX8_allHoles 37 = .ok (.iload_n 1, 1) := by decide +kernel
theorem dX8_allHoles_38 : decode cX8_allHoles 38 = .ok (.ireturn, 1) := by decide +kernel
theorem dX8_cannotRoute_0 : decode cX8_cannotRoute 0 = .ok (.aload_n 0, 1) := by decide +kernel
theorem dX8_cannotRoute_1 : decode cX8_cannotRoute 1 = .ok (.iload_n 1, 1) := by decide +kernel
theorem dX8_cannotRoute_2 : decode cX8_cannotRoute 2 = .ok (.invokevirtual 112, 3) := by decide +kernel
theorem dX8_cannotRoute_5 : decode cX8_cannotRoute 5 = .ok (.ifCond .ne 13, 3) := by decide +kernel
theorem dX8_cannotRoute_8 : decode cX8_cannotRoute 8 = .ok (.aload_n 0, 1) := by decide +kernel
theorem dX8_cannotRoute_9 : decode cX8_cannotRoute 9 = .ok (.iconst 3, 1) := by decide +kernel
theorem dX8_cannotRoute_10 : decode cX8_cannotRoute 10 = .ok (.iload_n 1, 1) := by decide +kernel
theorem dX8_cannotRoute_11 : decode cX8_cannotRoute 11 = .ok (.invokevirtual 101, 3) := by decide +kernel
theorem dX8_cannotRoute_14 : decode cX8_cannotRoute 14 = .ok (.pop, 1) := by decide +kernel
theorem dX8_cannotRoute_15 : decode cX8_cannotRoute 15 = .ok (.goto 71, 3) := by decide +kernel
theorem dX8_cannotRoute_18 : decode cX8_cannotRoute 18 = .ok (.aload_n 0, 1) := by decide +kernel
theorem dX8_cannotRoute_19 : decode cX8_cannotRoute 19 = .ok (.iload_n 1, 1) := by decide +kernel
theorem dX8_cannotRoute_20 : decode cX8_cannotRoute 20 = .ok (.bipush 6, 2) := by decide +kernel
theorem dX8_cannotRoute_22 : decode cX8_cannotRoute 22 = .ok (.invokevirtual 80, 3) := by decide +kernel
theorem dX8_cannotRoute_25 : decode cX8_cannotRoute 25 = .ok (.iconst 1, 1) := by decide +kernel
theorem dX8_cannotRoute_26 : decode cX8_cannotRoute 26 = .ok (.if_icmp .ne 13, 3) := by decide +kernel
theorem dX8_cannotRoute_29 : decode cX8_cannotRoute 29 = .ok (.aload_n 0, 1) := by decide +kernel
theorem dX8_cannotRoute_30 : decode cX8_cannotRoute 30 = .ok (.iconst 4, 1) := by decide +kernel
theorem dX8_cannotRoute_31 : decode cX8_cannotRoute 31 = .ok (.iload_n 1, 1) := by decide +kernel
theorem dX8_cannotRoute_32 : decode cX8_cannotRoute 32 = .ok (.invokevirtual 101, 3) := by decide +kernel
theorem dX8_cannotRoute_35 : decode cX8_cannotRoute 35 = .ok (.pop, 1) := by decide +kernel
theorem dX8_cannotRoute_36 : decode cX8_cannotRoute 36 = .ok (.goto 50, 3) := by decide +kernel
theorem dX8_cannotRoute_39 : decode cX8_cannotRoute 39 = .ok (.aload_n 0, 1) := by decide +kernel
theorem dX8_cannotRoute_40 : decode cX8_cannotRoute 40 = .ok (.iload_n 1, 1) := by decide +kernel
theorem dX8_cannotRoute_41 : decode cX8_cannotRoute 41 = .ok (.iconst 1, 1) := by decide +kernel
theorem dX8_cannotRoute_42 : decode cX8_cannotRoute 42 = .ok (.invokevirtual 80, 3) := by decide +kernel
theorem dX8_cannotRoute_45 : decode cX8_cannotRoute 45 = .ok (.iconst 2, 1) := by decide +kernel
theorem dX8_cannotRoute_46 : decode cX8_cannotRoute 46 = .ok (.if_icmp .ge 19, 3) := by decide +kernel
theorem dX8_cannotRoute_49 : decode cX8_cannotRoute 49 = .ok (.aload_n 0, 1) := by decide +kernel
theorem dX8_cannotRoute_50 : decode cX8_cannotRoute 50 = .ok (.bipush 8, 2) := by decide +kernel
theorem dX8_cannotRoute_52 : decode cX8_cannotRoute 52 = .ok (.aload_n 0, 1) := by decide +kernel
theorem dX8_cannotRoute_53 : decode cX8_cannotRoute 53 = .ok (.iload_n 1, 1) := by decide +kernel
theorem dX8_cannotRoute_54 : decode cX8_cannotRoute 54 = .ok (.iconst 1, 1) := by decide +kernel
theorem dX8_cannotRoute_55 : decode cX8_cannotRoute 55 = .ok (.invokevirtual 80, 3) := by decide +kernel
theorem dX8_cannotRoute_58 : decode cX8_cannotRoute 58 = .ok (.invokevirtual 101, 3) := by decide +kernel
theorem dX8_cannotRoute_61 : decode cX8_cannotRoute 61 = .ok (.pop, 1) := by decide +kernel
theorem dX8_cannotRoute_62 : decode cX8_cannotRoute 62 = .ok (.goto 24, 3) := by decide +kernel
theorem dX8_cannotRoute_65 : decode cX8_cannotRoute 65 = .ok (.aload_n 0, 1) := by decide +kernel
theorem dX8_cannotRoute_66 : decode cX8_cannotRoute 66 = .ok (.iload_n 1, 1) := by decide +kernel
theorem dX8_cannotRoute_67 : decode cX8_cannotRoute 67 = .ok (.iload_n 2, 1) := by decide +kernel
theorem dX8_cannotRoute_68 : decode cX8_cannotRoute 68 = .ok (.invokevirtual 154, 3) := by decide +kernel
theorem dX8_cannotRoute_71 : decode cX8_cannotRoute 71 = .ok (.istore_n 3, 1) := by decide +kernel
theorem dX8_cannotRoute_72 : decode cX8_cannotRoute 72 = .ok (.iload_n 3, 1) := by decide +kernel
theorem dX8_cannotRoute_73 : decode cX8_cannotRoute 73 = .ok (.ifCond .ne 5, 3) := by decide +kernel
theorem dX8_cannotRoute_76 : decode cX8_cannotRoute 76 = .ok (.iconst 0, 1) := by decide +kernel
theorem dX8_cannotRoute_77 : decode cX8_cannotRoute 77 = .ok (.ireturn, 1) := by decide +kernel
theorem dX8_cannotRoute_78 : decode cX8_cannotRoute 78 = .ok (.aload_n 0, 1) := by decide +kernel
theorem dX8_cannotRoute_79 : decode cX8_cannotRoute 79 = .ok (.bipush 9, 2) := by decide +kernel
theorem dX8_cannotRoute_81 : decode cX8_cannotRoute 81 = .ok (.iload_n 3, 1) := by decide +kernel
theorem dX8_cannotRoute_82 : decode cX8_cannotRoute 82 = .ok (.invokevirtual 101, 3) := by decide +kernel
theorem dX8_cannotRoute_85 : decode cX8_cannotRoute 85 = .ok (.pop, 1) := by decide +kernel
theorem dX8_cannotRoute_86 : decode cX8_cannotRoute 86 = .ok (.iconst 1, 1) := by decide +kernel
theorem dX8_cannotRoute_87 : decode cX8_cannotRoute 87 = .ok (.ireturn, 1) := by decide +kernel
theorem dX8_routes_0 : decode cX8_routes 0 = .ok (.iconst 0, 1) := by decide +kernel
theorem dX8_routes_1 : decode cX8_routes 1 = .ok (.istore_n 2, 1) := by decide +kernel
theorem dX8_routes_2 : decode cX8_routes 2 = .ok (.iload_n 2, 1) := by decide +kernel
theorem dX8_routes_3 : decode cX8_routes 3 = .ok (.bipush 96, 2) := by decide +kernel
theorem dX8_routes_5 : decode cX8_routes 5 = .ok (.if_icmp .ge 41, 3) := by decide +kernel
theorem dX8_routes_8 : decode cX8_routes 8 = .ok (.aload_n 0, 1) := by decide +kernel
theorem dX8_routes_9 : decode cX8_routes 9 = .ok (.getfield 36, 3) := by decide +kernel
theorem dX8_routes_12 : decode cX8_routes 12 = .ok (.iload_n 2, 1) := by decide +kernel
theorem dX8_routes_13 : decode cX8_routes 13 = .ok (.iaload, 1) := by decide +kernel
theorem dX8_routes_14 : decode cX8_routes 14 = .ok (.iconst 1, 1) := by decide +kernel
theorem dX8_routes_15 : decode cX8_routes 15 = .ok (.if_icmp .ne 25, 3) := by decide +kernel
theorem dX8_routes_18 : decode cX8_routes 18 = .ok (.aload_n 0, 1) := by decide +kernel
theorem dX8_routes_19 : decode cX8_routes 19 = .ok (.iload_n 2, 1) := by decide +kernel
theorem dX8_routes_20 : decode cX8_routes 20 = .ok (.invokevirtual 76, 3) := by decide +kernel
theorem dX8_routes_23 : decode cX8_routes 23 = .ok (.ifCond .ne 17, 3) := by decide +kernel
theorem dX8_routes_26 : decode cX8_routes 26 = .ok (.aload_n 0, 1) := by decide +kernel
theorem dX8_routes_27 : decode cX8_routes 27 = .ok (.getfield 7, 3) := by decide +kernel
theorem dX8_routes_30 : decode cX8_routes 30 = .ok (.bipush 55, 2) := by decide +kernel
theorem dX8_routes_32 : decode cX8_routes 32 = .ok (.iload_n 2, 1) := by decide +kernel
theorem dX8_routes_33 : decode cX8_routes 33 = .ok (.iadd, 1) := by decide +kernel
theorem dX8_routes_34 : decode cX8_routes 34 = .ok (.iconst 3, 1) := by decide +kernel
theorem dX8_routes_35 : decode cX8_routes 35 = .ok (.iconst 2, 1) := by decide +kernel
theorem dX8_routes_36 : decode cX8_routes 36 = .ok (.iload_n 1, 1) := by decide +kernel
theorem dX8_routes_37 : decode cX8_routes 37 = .ok (.imul, 1) := by decide +kernel
theorem dX8_routes_38 : decode cX8_routes 38 = .ok (.iadd, 1) := by decide +kernel
theorem dX8_routes_39 : decode cX8_routes 39 = .ok (.iastore, 1) := by decide +kernel
theorem dX8_routes_40 : decode cX8_routes 40 = .ok (.iinc 2 1, 3) := by decide +kernel
theorem dX8_routes_43 : decode cX8_routes 43 = .ok (.goto (-41), 3) := by decide +kernel
theorem dX8_routes_46 : decode cX8_routes 46 = .ok (.iconst 0, 1) := by decide +kernel
theorem dX8_routes_47 : decode cX8_routes 47 = .ok (.istore_n 2, 1) := by decide +kernel
theorem dX8_routes_48 : decode cX8_routes 48 = .ok (.iload_n 2, 1) := by decide +kernel
theorem dX8_routes_49 : decode cX8_routes 49 = .ok (.bipush 48, 2) := by decide +kernel
theorem dX8_routes_51 : decode cX8_routes 51 = .ok (.if_icmp .ge 32, 3) := by decide +kernel
theorem dX8_routes_54 : decode cX8_routes 54 = .ok (.aload_n 0, 1) := by decide +kernel
theorem dX8_routes_55 : decode cX8_routes 55 = .ok (.getfield 39, 3) := by decide +kernel
theorem dX8_routes_58 : decode cX8_routes 58 = .ok (.iload_n 2, 1) := by decide +kernel
theorem dX8_routes_59 : decode cX8_routes 59 = .ok (.iaload, 1) := by decide +kernel
theorem dX8_routes_60 : decode cX8_routes 60 = .ok (.iconst 1, 1) := by decide +kernel
theorem dX8_routes_61 : decode cX8_routes 61 = .ok (.if_icmp .ne 16, 3) := by decide +kernel
theorem dX8_routes_64 : decode cX8_routes 64 = .ok (.aload_n 0, 1) := by decide +kernel
theorem dX8_routes_65 : decode cX8_routes 65 = .ok (.getfield 7, 3) := by decide +kernel
theorem dX8_routes_68 : decode cX8_routes 68 = .ok (.sipush 151, 3) := by decide +kernel
theorem dX8_routes_71 : decode cX8_routes 71 = .ok (.iload_n 2, 1) := by decide +kernel
theorem dX8_routes_72 : decode cX8_routes 72 = .ok (.iadd, 1) := by decide +kernel
theorem dX8_routes_73 : decode cX8_routes 73 = .ok (.iload_n 1, 1) := by decide +kernel
theorem dX8_routes_74 : decode cX8_routes 74 = .ok (.iconst 1, 1) := by decide +kernel
theorem dX8_routes_75 : decode cX8_routes 75 = .ok (.iadd, 1) := by decide +kernel
theorem dX8_routes_76 : decode cX8_routes 76 = .ok (.iastore, 1) := by decide +kernel
theorem dX8_routes_77 : decode cX8_routes 77 = .ok (.iinc 2 1, 3) := by decide +kernel
theorem dX8_routes_80 : decode cX8_routes 80 = .ok (.goto (-32), 3) := by decide +kernel
theorem dX8_routes_83 : decode cX8_routes 83 = .ok (.aload_n 0, 1) := by decide +kernel
theorem dX8_routes_84 : decode cX8_routes 84 = .ok (.iload_n 1, 1) := by decide +kernel
theorem dX8_routes_85 : decode cX8_routes 85 = .ok (.bipush 6, 2) := by decide +kernel
theorem dX8_routes_87 : decode cX8_routes 87 = .ok (.iconst 1, 1) := by decide +kernel
theorem dX8_routes_88 : decode cX8_routes 88 = .ok (.invokevirtual 108, 3) := by decide +kernel
theorem dX8_routes_91 : decode cX8_routes 91 = .ok (.aload_n 0, 1) := by decide +kernel
theorem dX8_routes_92 : decode cX8_routes 92 = .ok (.iload_n 1, 1) := by decide +kernel
theorem dX8_routes_93 : decode cX8_routes 93 = .ok (.bipush 7, 2) := by decide +kernel
theorem dX8_routes_95 : decode cX8_routes 95 = .ok (.aload_n 0, 1) := by decide +kernel
theorem dX8_routes_96 : decode cX8_routes 96 = .ok (.getfield 139, 3) := by decide +kernel
theorem dX8_routes_99 : decode cX8_routes 99 = .ok (.invokevirtual 108, 3) := by decide +kernel
theorem dX8_routes_102 : decode cX8_routes 102 = .ok (.return_, 1) := by decide +kernel
theorem dX8_route_0 : decode cX8_route 0 = .ok (.aload_n 0, 1) := by decide +kernel
theorem dX8_route_1 : decode cX8_route 1 = .ok (.iload_n 1, 1) := by decide +kernel
theorem dX8_route_2 : decode cX8_route 2 = .ok (.iconst 0, 1) := by decide +kernel
theorem dX8_route_3 : decode cX8_route 3 = .ok (.invokevirtual 158, 3) := by decide +kernel
theorem dX8_route_6 : decode cX8_route 6 = .ok (.ifCond .eq 5, 3) := by decide +kernel
theorem dX8_route_9 : decode cX8_route 9 = .ok (.iconst 0, 1) := by decide +kernel
theorem dX8_route_10 : decode cX8_route 10 = .ok (.ireturn, 1) := by decide +kernel
theorem dX8_route_11 : decode cX8_route 11 = .ok (.aload_n 0, 1) := by decide +kernel
theorem dX8_route_12 : decode cX8_route 12 = .ok (.invokevirtual 162, 3) := by decide +kernel
theorem dX8_route_15 : decode cX8_route 15 = .ok (.aload_n 0, 1) := by decide +kernel
theorem dX8_route_16 : decode cX8_route 16 = .ok (.invokevirtual 165, 3) := by decide +kernel
theorem dX8_route_19 : decode cX8_route 19 = .ok (.iadd, 1) := by decide +kernel
theorem dX8_route_20 : decode cX8_route 20 = .ok (.istore_n 2, 1) := by decide +kernel
theorem dX8_route_21 : decode cX8_route 21 = .ok (.iload_n 2, 1) := by decide +kernel
theorem dX8_route_22 : decode cX8_route 22 = .ok (.bipush 12, 2) := by decide +kernel
theorem dX8_route_24 : decode cX8_route 24 = .ok (.if_icmp .le 11, 3) := by decide +kernel
theorem dX8_route_27 : decode cX8_route 27 = .ok (.aload_n 0, 1) := by decide +kernel
theorem dX8_route_28 : decode cX8_route 28 = .ok (.bipush 10, 2) := by decide +kernel
theorem dX8_route_30 : decode cX8_route 30 = .ok (.iload_n 2, 1) := by decide +kernel
theorem dX8_route_31 : decode cX8_route 31 = .ok (.invokevirtual 101, 3) := by decide +kernel
theorem dX8_route_34 : decode cX8_route 34 = .ok (.ireturn, 1) := by decide +kernel
theorem dX8_route_35 : decode cX8_route 35 = .ok (.aload_n 0, 1) := by decide +kernel
theorem dX8_route_36 : decode cX8_route 36 = .ok (.aload_n 0, 1) := by decide +kernel
theorem dX8_route_37 : decode cX8_route 37 = .ok (.getfield 7, 3) := by decide +kernel
theorem dX8_route_40 : decode cX8_route 40 = .ok (.invokevirtual 104, 3) := by decide +kernel
theorem dX8_route_43 : decode cX8_route 43 = .ok (.aload_n 0, 1) := by decide +kernel
theorem dX8_route_44 : decode cX8_route 44 = .ok (.iload_n 1, 1) := by decide +kernel
theorem dX8_route_45 : decode cX8_route 45 = .ok (.invokevirtual 168, 3) := by decide +kernel
theorem dX8_route_48 : decode cX8_route 48 = .ok (.aload_n 0, 1) := by decide +kernel
theorem dX8_route_49 : decode cX8_route 49 = .ok (.iload_n 1, 1) := by decide +kernel
theorem dX8_route_50 : decode cX8_route 50 = .ok (.bipush 7, 2) := by decide +kernel
theorem dX8_route_52 : decode cX8_route 52 = .ok (.invokevirtual 80, 3) := by decide +kernel
theorem dX8_route_55 : decode cX8_route 55 = .ok (.ireturn, 1) := by decide +kernel
theorem dX8_hard_0 : decode cX8_hard 0 = .ok (.aload_n 0, 1) := by decide +kernel
theorem dX8_hard_1 : decode cX8_hard 1 = .ok (.iload_n 1, 1) := by decide +kernel
theorem dX8_hard_2 : decode cX8_hard 2 = .ok (.iconst 1, 1) := by decide +kernel
theorem dX8_hard_3 : decode cX8_hard 3 = .ok (.invokevirtual 158, 3) := by decide +kernel
theorem dX8_hard_6 : decode cX8_hard 6 = .ok (.ifCond .eq 5, 3) := by decide +kernel
theorem dX8_hard_9 : decode cX8_hard 9 = .ok (.iconst 0, 1) := by decide +kernel
theorem dX8_hard_10 : decode cX8_hard 10 = .ok (.ireturn, 1) := by decide +kernel
theorem dX8_hard_11 : decode cX8_hard 11 = .ok (.aload_n 0, 1) := by decide +kernel
theorem dX8_hard_12 : decode cX8_hard 12 = .ok (.iload_n 1, 1) := by decide +kernel
theorem dX8_hard_13 : decode cX8_hard 13 = .ok (.invokevirtual 171, 3) := by decide +kernel
theorem dX8_hard_16 : decode cX8_hard 16 = .ok (.istore_n 2, 1) := by decide +kernel
theorem dX8_hard_17 : decode cX8_hard 17 = .ok (.aload_n 0, 1) := by decide +kernel
theorem dX8_hard_18 : decode cX8_hard 18 = .ok (.invokevirtual 162, 3) := by decide +kernel
theorem dX8_hard_21 : decode cX8_hard 21 = .ok (.aload_n 0, 1) := by decide +kernel
theorem dX8_hard_22 : decode cX8_hard 22 = .ok (.invokevirtual 165, 3) := by decide +kernel
theorem dX8_hard_25 : decode cX8_hard 25 = .ok (.iadd, 1) := by decide +kernel
theorem dX8_hard_26 : decode cX8_hard 26 = .ok (.istore_n 3, 1) := by decide +kernel
theorem dX8_hard_27 : decode cX8_hard 27 = .ok (.iconst 0, 1) := by decide +kernel
theorem dX8_hard_28 : decode cX8_hard 28 = .ok (.istore 4, 2) := by decide +kernel
theorem dX8_hard_30 : decode cX8_hard 30 = .ok (.iload 4, 2) := by decide +kernel
theorem dX8_hard_32 : decode cX8_hard 32 = .ok (.aload_n 0, 1) := by decide +kernel
theorem dX8_hard_33 : decode cX8_hard 33 = .ok (.getfield 7, 3) := by decide +kernel
theorem dX8_hard_36 : decode cX8_hard 36 = .ok (.iconst 0, 1) := by decide +kernel
theorem dX8_hard_37 : decode cX8_hard 37 = .ok (.iaload, 1) := by decide +kernel
theorem dX8_hard_38 : decode cX8_hard 38 = .ok (.if_icmp .ge 32, 3) := by decide +kernel
theorem dX8_hard_41 : decode cX8_hard 41 = .ok (.iload_n 3, 1) := by decide +kernel
theorem dX8_hard_42 : decode cX8_hard 42 = .ok (.iload_n 2, 1) := by decide +kernel
theorem dX8_hard_43 : decode cX8_hard 43 = .ok (.iload 4, 2) := by decide +kernel
theorem dX8_hard_45 : decode cX8_hard 45 = .ok (.ishr, 1) := by decide +kernel
theorem dX8_hard_46 : decode cX8_hard 46 = .ok (.iconst 1, 1) := by decide +kernel
theorem dX8_hard_47 : decode cX8_hard 47 = .ok (.iand, 1) := by decide +kernel
theorem dX8_hard_48 : decode cX8_hard 48 = .ok (.iconst 1, 1) := by decide +kernel
theorem dX8_hard_49 : decode cX8_hard 49 = .ok (.if_icmp .ne 12, 3) := by decide +kernel
theorem dX8_hard_52 : decode cX8_hard 52 = .ok (.aload_n 0, 1) := by decide +kernel
theorem dX8_hard_53 : decode cX8_hard 53 = .ok (.iload 4, 2) := by decide +kernel
theorem dX8_hard_55 : decode cX8_hard 55 = .ok (.invokevirtual 174, 3) := by decide +kernel
theorem dX8_hard_58 : decode cX8_hard 58 = .ok (.goto 4, 3) := by decide +kernel
theorem dX8_hard_61 : decode cX8_hard 61 = .ok (.iconst 0, 1) := by decide +kernel
theorem dX8_hard_62 : decode cX8_hard 62 = .ok (.isub, 1) := by decide +kernel
theorem dX8_hard_63 : decode cX8_hard 63 = .ok (.istore_n 3, 1) := by decide +kernel
theorem dX8_hard_64 : decode cX8_hard 64 = .ok (.iinc 4 1, 3) := by decide +kernel
theorem dX8_hard_67 : decode cX8_hard 67 = .ok (.goto (-37), 3) := by decide +kernel
theorem dX8_hard_70 : decode cX8_hard 70 = .ok (.iload_n 3, 1) := by decide +kernel
theorem dX8_hard_71 : decode cX8_hard 71 = .ok (.bipush 12, 2) := by decide +kernel
theorem dX8_hard_73 : decode cX8_hard 73 = .ok (.if_icmp .le 11, 3) := by decide +kernel
theorem dX8_hard_76 : decode cX8_hard 76 = .ok (.aload_n 0, 1) := by decide +kernel
theorem dX8_hard_77 : decode cX8_hard 77 = .ok (.bipush 10, 2) := by decide +kernel
theorem dX8_hard_79 : decode cX8_hard 79 = .ok (.iload_n 3, 1) := by decide +kernel
theorem dX8_hard_80 : decode cX8_hard 80 = .ok (.invokevirtual 101, 3) := by decide +kernel
theorem dX8_hard_83 : decode cX8_hard 83 = .ok (.ireturn, 1) := by decide +kernel
theorem dX8_hard_84 : decode cX8_hard 84 = .ok (.aload_n 0, 1) := by decide +kernel
theorem dX8_hard_85 : decode cX8_hard 85 = .ok (.aload_n 0, 1) := by decide +kernel
theorem dX8_hard_86 : decode cX8_hard 86 = .ok (.getfield 7, 3) := by decide +kernel
theorem dX8_hard_89 : decode cX8_hard 89 = .ok (.invokevirtual 104, 3) := by decide +kernel
theorem dX8_hard_92 : decode cX8_hard 92 = .ok (.iconst 0, 1) := by decide +kernel
theorem dX8_hard_93 : decode cX8_hard 93 = .ok (.istore 4, 2) := by decide +kernel
theorem dX8_hard_95 : decode cX8_hard 95 = .ok (.iload 4, 2) := by decide +kernel
theorem dX8_hard_97 : decode cX8_hard 97 = .ok (.aload_n 0, 1) := by decide +kernel
theorem dX8_hard_98 : decode cX8_hard 98 = .ok (.getfield 7, 3) := by decide +kernel
theorem dX8_hard_101 : decode cX8_hard 101 = .ok (.iconst 0, 1) := by decide +kernel
theorem dX8_hard_102 : decode cX8_hard 102 = .ok (.iaload, 1) := by decide +kernel
theorem dX8_hard_103 : decode cX8_hard 103 = .ok (.if_icmp .ge 25, 3) := by decide +kernel
theorem dX8_hard_106 : decode cX8_hard 106 = .ok (.iload_n 2, 1) := by decide +kernel
theorem dX8_hard_107 : decode cX8_hard 107 = .ok (.iload 4, 2) := by decide +kernel
theorem dX8_hard_109 : decode cX8_hard 109 = .ok (.ishr, 1) := by decide +kernel
theorem dX8_hard_110 : decode cX8_hard 110 = .ok (.iconst 1, 1) := by decide +kernel
theorem dX8_hard_111 : decode cX8_hard 111 = .ok (.iand, 1) := by decide +kernel
theorem dX8_hard_112 : decode cX8_hard 112 = .ok (.iconst 1, 1) := by decide +kernel
theorem dX8_hard_113 : decode cX8_hard 113 = .ok (.if_icmp .ne 9, 3) := by decide +kernel
theorem dX8_hard_116 : decode cX8_hard 116 = .ok (.aload_n 0, 1) := by decide +kernel
theorem dX8_hard_117 : decode cX8_hard 117 = .ok (.iload 4, 2) := by decide +kernel
theorem dX8_hard_119 : decode cX8_hard 119 = .ok (.invokevirtual 177, 3) := by decide +kernel
theorem dX8_hard_122 : decode cX8_hard 122 = .ok (.iinc 4 1, 3) := by decide +kernel
theorem dX8_hard_125 : decode cX8_hard 125 = .ok (.goto (-30), 3) := by decide +kernel
theorem dX8_hard_128 : decode cX8_hard 128 = .ok (.aload_n 0, 1) := by decide +kernel
theorem dX8_hard_129 : decode cX8_hard 129 = .ok (.iload_n 1, 1) := by decide +kernel
theorem dX8_hard_130 : decode cX8_hard 130 = .ok (.invokevirtual 168, 3) := by decide +kernel
theorem dX8_hard_133 : decode cX8_hard 133 = .ok (.iload_n 2, 1) := by decide +kernel
theorem dX8_hard_134 : decode cX8_hard 134 = .ok (.ireturn, 1) := by decide +kernel
theorem dX8_rip_0 : decode cX8_rip 0 = .ok (.aload_n 0, 1) := by decide +kernel
theorem dX8_rip_1 : decode cX8_rip 1 = .ok (.iload_n 1, 1) := by decide +kernel
theorem dX8_rip_2 : decode cX8_rip 2 = .ok (.invokevirtual 112, 3) := by decide +kernel
theorem dX8_rip_5 : decode cX8_rip 5 = .ok (.ifCond .ne 10, 3) := by decide +kernel
theorem dX8_rip_8 : decode cX8_rip 8 = .ok (.aload_n 0, 1) := by decide +kernel
theorem dX8_rip_9 : decode cX8_rip 9 = .ok (.iconst 3, 1) := by decide +kernel
theorem dX8_rip_10 : decode cX8_rip 10 = .ok (.iload_n 1, 1) := by decide +kernel
theorem dX8_rip_11 : decode cX8_rip 11 = .ok (.invokevirtual 101, 3) := by decide +kernel
theorem dX8_rip_14 : decode cX8_rip 14 = .ok (.ireturn, 1) := by decide +kernel
theorem dX8_rip_15 : decode cX8_rip 15 = .ok (.aload_n 0, 1) := by decide +kernel
theorem dX8_rip_16 : decode cX8_rip 16 = .ok (.iload_n 1, 1) := by decide +kernel
theorem dX8_rip_17 : decode cX8_rip 17 = .ok (.bipush 6, 2) := by decide +kernel
theorem dX8_rip_19 : decode cX8_rip 19 = .ok (.invokevirtual 80, 3) := by decide +kernel
theorem dX8_rip_22 : decode cX8_rip 22 = .ok (.ifCond .ne 11, 3) := by decide +kernel
theorem dX8_rip_25 : decode cX8_rip 25 = .ok (.aload_n 0, 1) := by decide +kernel
theorem dX8_rip_26 : decode cX8_rip 26 = .ok (.bipush 11, 2) := by decide +kernel
theorem dX8_rip_28 : decode cX8_rip 28 = .ok (.iload_n 1, 1) := by decide +kernel
theorem dX8_rip_29 : decode cX8_rip 29 = .ok (.invokevirtual 101, 3) := by decide +kernel
theorem dX8_rip_32 : decode cX8_rip 32 = .ok (.ireturn, 1) := by decide +kernel
theorem dX8_rip_33 : decode cX8_rip 33 = .ok (.aload_n 0, 1) := by decide +kernel
theorem dX8_rip_34 : decode cX8_rip 34 = .ok (.aload_n 0, 1) := by decide +kernel
theorem dX8_rip_35 : decode cX8_rip 35 = .ok (.getfield 7, 3) := by decide +kernel
theorem dX8_rip_38 : decode cX8_rip 38 = .ok (.invokevirtual 104, 3) := by decide +kernel
theorem dX8_rip_41 : decode cX8_rip 41 = .ok (.aload_n 0, 1) := by decide +kernel
theorem dX8_rip_42 : decode cX8_rip 42 = .ok (.iload_n 1, 1) := by decide +kernel
theorem dX8_rip_43 : decode cX8_rip 43 = .ok (.invokevirtual 180, 3) := by decide +kernel
theorem dX8_rip_46 : decode cX8_rip 46 = .ok (.istore_n 2, 1) := by decide +kernel
theorem dX8_rip_47 : decode cX8_rip 47 = .ok (.aload_n 0, 1) := by decide +kernel
theorem dX8_rip_48 : decode cX8_rip 48 = .ok (.iload_n 1, 1) := by decide +kernel
theorem dX8_rip_49 : decode cX8_rip 49 = .ok (.invokevirtual 177, 3) := by decide +kernel
theorem dX8_rip_52 : decode cX8_rip 52 = .ok (.iload_n 2, 1) := by decide +kernel
theorem dX8_rip_53 : decode cX8_rip 53 = .ok (.ireturn, 1) := by decide +kernel
theorem dX8_netOf_0 : decode cX8_netOf 0 = .ok (.aload_n 0, 1) := by decide +kernel
theorem dX8_netOf_1 : decode cX8_netOf 1 = .ok (.aload_n 0, 1) := by decide +kernel
theorem dX8_netOf_2 : decode cX8_netOf 2 = .ok (.iload_n 1, 1) := by decide +kernel
theorem dX8_netOf_3 : decode cX8_netOf 3 = .ok (.invokevirtual 112, 3) := by decide +kernel
theorem dX8_netOf_6 : decode cX8_netOf 6 = .ok (.ifCond .ne 7, 3) := by decide +kernel
theorem dX8_netOf_9 : decode cX8_netOf 9 = .ok (.iconst 1, 1) := by decide +kernel
theorem dX8_netOf_10 : decode cX8_netOf 10 = .ok (.goto 18, 3) := by decide +kernel
theorem dX8_netOf_13 : decode cX8_netOf 13 = .ok (.iload_n 2, 1) := by decide +kernel
theorem dX8_netOf_14 : decode cX8_netOf 14 = .ok (.iconst 0, 1) := by decide +kernel
theorem dX8_netOf_15 : decode cX8_netOf 15 = .ok (.bipush 6, 2) := by decide +kernel
theorem dX8_netOf_17 : decode cX8_netOf 17 = .ok (.invokestatic 68, 3) := by decide +kernel
theorem dX8_netOf_20 : decode cX8_netOf 20 = .ok (.ifCond .eq 7, 3) := by decide +kernel
theorem dX8_netOf_23 : decode cX8_netOf 23 = .ok (.iconst 0, 1) := by decide +kernel
theorem dX8_netOf_24 : decode cX8_netOf 24 = .ok (.goto 4, 3) := by decide +kernel
theorem dX8_netOf_27 : decode cX8_netOf 27 = .ok (.iconst 2, 1) := by decide +kernel
theorem dX8_netOf_28 : decode cX8_netOf 28 = .ok (.invokevirtual 183, 3) := by decide +kernel
theorem dX8_netOf_31 : decode cX8_netOf 31 = .ok (.ifCond .eq 5, 3) := by decide +kernel
theorem dX8_netOf_34 : decode cX8_netOf 34 = .ok (.iconst 0, 1) := by decide +kernel
theorem dX8_netOf_35 : decode cX8_netOf 35 = .ok (.ireturn, 1) := by decide +kernel
theorem dX8_netOf_36 : decode cX8_netOf 36 = .ok (.iload_n 2, 1) := by decide +kernel
theorem dX8_netOf_37 : decode cX8_netOf 37 = .ok (.tableswitch 81 0 5 #[39, 46, 53, 61, 69, 75], 39) := by decide +kernel
theorem dX8_netOf_76 : decode cX8_netOf 76 = .ok (.aload_n 0, 1) := by decide +kernel
theorem dX8_netOf_77 : decode cX8_netOf 77 = .ok (.iload_n 1, 1) := by decide +kernel
theorem dX8_netOf_78 : decode cX8_netOf 78 = .ok (.iconst 0, 1) := by decide +kernel
theorem dX8_netOf_79 : decode cX8_netOf 79 = .ok (.invokevirtual 80, 3) := by decide +kernel
theorem dX8_netOf_82 : decode cX8_netOf 82 = .ok (.ireturn, 1) := by decide +kernel
theorem dX8_netOf_83 : decode cX8_netOf 83 = .ok (.aload_n 0, 1) := by decide +kernel
theorem dX8_netOf_84 : decode cX8_netOf 84 = .ok (.iload_n 1, 1) := by decide +kernel
theorem dX8_netOf_85 : decode cX8_netOf 85 = .ok (.iconst 1, 1) := by decide +kernel
theorem dX8_netOf_86 : decode cX8_netOf 86 = .ok (.invokevirtual 80, 3) := by decide +kernel
theorem dX8_netOf_89 : decode cX8_netOf 89 = .ok (.ireturn, 1) := by decide +kernel
theorem dX8_netOf_90 : decode cX8_netOf 90 = .ok (.aload_n 0, 1) := by decide +kernel
theorem dX8_netOf_91 : decode cX8_netOf 91 = .ok (.iload_n 1, 1) := by decide +kernel
theorem dX8_netOf_92 : decode cX8_netOf 92 = .ok (.bipush 6, 2) := by decide +kernel
theorem dX8_netOf_94 : decode cX8_netOf 94 = .ok (.invokevirtual 80, 3) := by decide +kernel
theorem dX8_netOf_97 : decode cX8_netOf 97 = .ok (.ireturn, 1) := by decide +kernel
theorem dX8_netOf_98 : decode cX8_netOf 98 = .ok (.aload_n 0, 1) := by decide +kernel
theorem dX8_netOf_99 : decode cX8_netOf 99 = .ok (.iload_n 1, 1) := by decide +kernel
theorem dX8_netOf_100 : decode cX8_netOf 100 = .ok (.bipush 7, 2) := by decide +kernel
theorem dX8_netOf_102 : decode cX8_netOf 102 = .ok (.invokevirtual 80, 3) := by decide +kernel
theorem dX8_netOf_105 : decode cX8_netOf 105 = .ok (.ireturn, 1) := by decide +kernel
theorem dX8_netOf_106 : decode cX8_netOf 106 = .ok (.aload_n 0, 1) := by decide +kernel
theorem dX8_netOf_107 : decode cX8_netOf 107 = .ok (.iload_n 1, 1) := by decide +kernel
theorem dX8_netOf_108 : decode cX8_netOf 108 = .ok (.invokevirtual 180, 3) := by decide +kernel
theorem dX8_netOf_111 : decode cX8_netOf 111 = .ok (.ireturn, 1) := by decide +kernel
theorem dX8_netOf_112 : decode cX8_netOf 112 = .ok (.aload_n 0, 1) := by decide +kernel
theorem dX8_netOf_113 : decode cX8_netOf 113 = .ok (.iload_n 1, 1) := by decide +kernel
theorem dX8_netOf_114 : decode cX8_netOf 114 = .ok (.invokevirtual 174, 3) := by decide +kernel
theorem dX8_netOf_117 : decode cX8_netOf 117 = .ok (.ireturn, 1) := by decide +kernel
theorem dX8_netOf_118 : decode cX8_netOf 118 = .ok (.aload_n 0, 1) := by decide +kernel
theorem dX8_netOf_119 : decode cX8_netOf 119 = .ok (.iload_n 1, 1) := by decide +kernel
