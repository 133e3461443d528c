theorem dX7_init_0 : decode cX7_init 0 = .ok (.aload_n 0, 1) := by decide +kernel
theorem dX7_init_1 : decode cX7_init 1 = .ok (.invokespecial 3, 3) := by decide +kernel
theorem dX7_init_4 : decode cX7_init 4 = .ok (.aload_n 0, 1) := by decide +kernel
theorem dX7_init_5 : decode cX7_init 5 = .ok (.new 9, 3) := by decide +kernel
theorem dX7_init_8 : decode cX7_init 8 = .ok (.dup, 1) := by decide +kernel
theorem dX7_init_9 : decode cX7_init 9 = .ok (.invokespecial 11, 3) := by decide +kernel
theorem dX7_init_12 : decode cX7_init 12 = .ok (.putfield 12, 3) := by decide +kernel
theorem dX7_init_15 : decode cX7_init 15 = .ok (.aload_n 0, 1) := by decide +kernel
theorem dX7_init_16 : decode cX7_init 16 = .ok (.new 16, 3) := by decide +kernel
theorem dX7_init_19 : decode cX7_init 19 = .ok (.dup, 1) := by decide +kernel
theorem dX7_init_20 : decode cX7_init 20 = .ok (.aload_n 0, 1) := by decide +kernel
theorem dX7_init_21 : decode cX7_init 21 = .ok (.getfield 12, 3) := by decide +kernel
theorem dX7_init_24 : decode cX7_init 24 = .ok (.invokespecial 18, 3) := by decide +kernel
theorem dX7_init_27 : decode cX7_init 27 = .ok (.putfield 21, 3) := by decide +kernel
theorem dX7_init_30 : decode cX7_init 30 = .ok (.aload_n 0, 1) := by decide +kernel
theorem dX7_init_31 : decode cX7_init 31 = .ok (.new 25, 3) := by decide +kernel
theorem dX7_init_34 : decode cX7_init 34 = .ok (.dup, 1) := by decide +kernel
theorem dX7_init_35 : decode cX7_init 35 = .ok (.invokespecial 27, 3) := by decide +kernel
theorem dX7_init_38 : decode cX7_init 38 = .ok (.putfield 28, 3) := by decide +kernel
theorem dX7_init_41 : decode cX7_init 41 = .ok (.aload_n 0, 1) := by decide +kernel
theorem dX7_init_42 : decode cX7_init 42 = .ok (.new 32, 3) := by decide +kernel
theorem dX7_init_45 : decode cX7_init 45 = .ok (.dup, 1) := by decide +kernel
theorem dX7_init_46 : decode cX7_init 46 = .ok (.aload_n 0, 1) := by decide +kernel
theorem dX7_init_47 : decode cX7_init 47 = .ok (.getfield 12, 3) := by decide +kernel
theorem dX7_init_50 : decode cX7_init 50 = .ok (.aload_n 0, 1) := by decide +kernel
theorem dX7_init_51 : decode cX7_init 51 = .ok (.getfield 21, 3) := by decide +kernel
theorem dX7_init_54 : decode cX7_init 54 = .ok (.aload_n 0, 1) := by decide +kernel
theorem dX7_init_55 : decode cX7_init 55 = .ok (.getfield 28, 3) := by decide +kernel
theorem dX7_init_58 : decode cX7_init 58 = .ok (.invokespecial 34, 3) := by decide +kernel
theorem dX7_init_61 : decode cX7_init 61 = .ok (.putfield 37, 3) := by decide +kernel
theorem dX7_init_64 : decode cX7_init 64 = .ok (.aload_n 0, 1) := by decide +kernel
theorem dX7_init_65 : decode cX7_init 65 = .ok (.new 41, 3) := by decide +kernel
theorem dX7_init_68 : decode cX7_init 68 = .ok (.dup, 1) := by decide +kernel
theorem dX7_init_69 : decode cX7_init 69 = .ok (.aload_n 0, 1) := by decide +kernel
theorem dX7_init_70 : decode cX7_init 70 = .ok (.getfield 12, 3) := by decide +kernel
theorem dX7_init_73 : decode cX7_init 73 = .ok (.invokespecial 43, 3) := by decide +kernel
theorem dX7_init_76 : decode cX7_init 76 = .ok (.putfield 44, 3) := by decide +kernel
theorem dX7_init_79 : decode cX7_init 79 = .ok (.aload_n 0, 1) := by decide +kernel
theorem dX7_init_80 : decode cX7_init 80 = .ok (.new 48, 3) := by decide +kernel
theorem dX7_init_83 : decode cX7_init 83 = .ok (.dup, 1) := by decide +kernel
theorem dX7_init_84 : decode cX7_init 84 = .ok (.invokespecial 50, 3) := by decide +kernel
theorem dX7_init_87 : decode cX7_init 87 = .ok (.putfield 51, 3) := by decide +kernel
theorem dX7_init_90 : decode cX7_init 90 = .ok (.aload_n 0, 1) := by decide +kernel
theorem dX7_init_91 : decode cX7_init 91 = .ok (.new 55, 3) := by decide +kernel
theorem dX7_init_94 : decode cX7_init 94 = .ok (.dup, 1) := by decide +kernel
theorem dX7_init_95 : decode cX7_init 95 = .ok (.invokespecial 57, 3) := by decide +kernel
theorem dX7_init_98 : decode cX7_init 98 = .ok (.putfield 58, 3) := by decide +kernel
theorem dX7_init_101 : decode cX7_init 101 = .ok (.aload_n 0, 1) := by decide +kernel
theorem dX7_init_102 : decode cX7_init 102 = .ok (.iconst (-1), 1) := by decide +kernel
theorem dX7_init_103 : decode cX7_init 103 = .ok (.putfield 62, 3) := by decide +kernel
theorem dX7_init_106 : decode cX7_init 106 = .ok (.return_, 1) := by decide +kernel
theorem dX7_net_0 : decode cX7_net 0 = .ok (.aload_n 0, 1) := by decide +kernel
theorem dX7_net_1 : decode cX7_net 1 = .ok (.getfield 44, 3) := by decide +kernel
theorem dX7_net_4 : decode cX7_net 4 = .ok (.invokevirtual 66, 3) := by decide +kernel
theorem dX7_net_7 : decode cX7_net 7 = .ok (.aload_n 0, 1) := by decide +kernel
theorem dX7_net_8 : decode cX7_net 8 = .ok (.aload_n 0, 1) := by decide +kernel
theorem dX7_net_9 : decode cX7_net 9 = .ok (.getfield 37, 3) := by decide +kernel
theorem dX7_net_12 : decode cX7_net 12 = .ok (.iload_n 1, 1) := by decide +kernel
theorem dX7_net_13 : decode cX7_net 13 = .ok (.invokevirtual 69, 3) := by decide +kernel
theorem dX7_net_16 : decode cX7_net 16 = .ok (.invokevirtual 73, 3) := by decide +kernel
theorem dX7_net_19 : decode cX7_net 19 = .ok (.ireturn, 1) := by decide +kernel
theorem dX7_pin_0 : decode cX7_pin 0 = .ok (.aload_n 0, 1) := by decide +kernel
theorem dX7_pin_1 : decode cX7_pin 1 = .ok (.getfield 44, 3) := by decide +kernel
theorem dX7_pin_4 : decode cX7_pin 4 = .ok (.invokevirtual 66, 3) := by decide +kernel
theorem dX7_pin_7 : decode cX7_pin 7 = .ok (.aload_n 0, 1) := by decide +kernel
theorem dX7_pin_8 : decode cX7_pin 8 = .ok (.aload_n 0, 1) := by decide +kernel
theorem dX7_pin_9 : decode cX7_pin 9 = .ok (.getfield 37, 3) := by decide +kernel
theorem dX7_pin_12 : decode cX7_pin 12 = .ok (.iload_n 1, 1) := by decide +kernel
theorem dX7_pin_13 : decode cX7_pin 13 = .ok (.iload_n 2, 1) := by decide +kernel
theorem dX7_pin_14 : decode cX7_pin 14 = .ok (.iload_n 3, 1) := by decide +kernel
theorem dX7_pin_15 : decode cX7_pin 15 = .ok (.invokevirtual 77, 3) := by decide +kernel
theorem dX7_pin_18 : decode cX7_pin 18 = .ok (.invokevirtual 73, 3) := by decide +kernel
theorem dX7_pin_21 : decode cX7_pin 21 = .ok (.ireturn, 1) := by decide +kernel
theorem dX7_wall_0 : decode cX7_wall 0 = .ok (.aload_n 0, 1) := by decide +kernel
theorem dX7_wall_1 : decode cX7_wall 1 = .ok (.getfield 44, 3) := by decide +kernel
theorem dX7_wall_4 : decode cX7_wall 4 = .ok (.invokevirtual 66, 3) := by decide +kernel
theorem dX7_wall_7 : decode cX7_wall 7 = .ok (.aload_n 0, 1) := by decide +kernel
theorem dX7_wall_8 : decode cX7_wall 8 = .ok (.aload_n 0, 1) := by decide +kernel
theorem dX7_wall_9 : decode cX7_wall 9 = .ok (.getfield 37, 3) := by decide +kernel
theorem dX7_wall_12 : decode cX7_wall 12 = .ok (.iload_n 1, 1) := by decide +kernel
theorem dX7_wall_13 : decode cX7_wall 13 = .ok (.iload_n 2, 1) := by decide +kernel
theorem dX7_wall_14 : decode cX7_wall 14 = .ok (.iload_n 3, 1) := by decide +kernel
theorem dX7_wall_15 : decode cX7_wall 15 = .ok (.invokevirtual 81, 3) := by decide +kernel
theorem dX7_wall_18 : decode cX7_wall 18 = .ok (.invokevirtual 73, 3) := by decide +kernel
theorem dX7_wall_21 : decode cX7_wall 21 = .ok (.ireturn, 1) := by decide +kernel
theorem dX7_tearDown_0 : decode cX7_tearDown 0 = .ok (.aload_n 0, 1) := by decide +kernel
theorem dX7_tearDown_1 : decode cX7_tearDown 1 = .ok (.getfield 44, 3) := by decide +kernel
theorem dX7_tearDown_4 : decode cX7_tearDown 4 = .ok (.invokevirtual 66, 3) := by decide +kernel
theorem dX7_tearDown_7 : decode cX7_tearDown 7 = .ok (.aload_n 0, 1) := by decide +kernel
theorem dX7_tearDown_8 : decode cX7_tearDown 8 = .ok (.aload_n 0, 1) := by decide +kernel
theorem dX7_tearDown_9 : decode cX7_tearDown 9 = .ok (.getfield 37, 3) := by decide +kernel
theorem dX7_tearDown_12 : decode cX7_tearDown 12 = .ok (.iload_n 1, 1) := by decide +kernel
theorem dX7_tearDown_13 : decode cX7_tearDown 13 = .ok (.iload_n 2, 1) := by decide +kernel
theorem dX7_tearDown_14 : decode cX7_tearDown 14 = .ok (.iload_n 3, 1) := by decide +kernel
theorem dX7_tearDown_15 : decode cX7_tearDown 15 = .ok (.invokevirtual 84, 3) := by decide +kernel
theorem dX7_tearDown_18 : decode cX7_tearDown 18 = .ok (.invokevirtual 73, 3) := by decide +kernel
theorem dX7_tearDown_21 : decode cX7_tearDown 21 = .ok (.ireturn, 1) := by decide +kernel
theorem dX7_route_0 : decode cX7_route 0 = .ok (.aload_n 0, 1) := by decide +kernel
theorem dX7_route_1 : decode cX7_route 1 = .ok (.getfield 44, 3) := by decide +kernel
theorem dX7_route_4 : decode cX7_route 4 = .ok (.invokevirtual 66, 3) := by decide +kernel
theorem dX7_route_7 : decode cX7_route 7 = .ok (.aload_n 0, 1) := by decide +kernel
theorem dX7_route_8 : decode cX7_route 8 = .ok (.aload_n 0, 1) := by decide +kernel
theorem dX7_route_9 : decode cX7_route 9 = .ok (.getfield 37, 3) := by decide +kernel
theorem dX7_route_12 : decode cX7_route 12 = .ok (.iload_n 1, 1) := by decide +kernel
theorem dX7_route_13 : decode cX7_route 13 = .ok (.iconst 0, 1) := by decide +kernel
theorem dX7_route_14 : decode cX7_route 14 = .ok (.invokevirtual 87, 3) := by decide +kernel
theorem dX7_route_17 : decode cX7_route 17 = .ok (.invokevirtual 73, 3) := by decide +kernel
theorem dX7_route_20 : decode cX7_route 20 = .ok (.ireturn, 1) := by decide +kernel
theorem dX7_hard_0 : decode cX7_hard 0 = .ok (.aload_n 0, 1) := by decide +kernel
theorem dX7_hard_1 : decode cX7_hard 1 = .ok (.getfield 44, 3) := by decide +kernel
theorem dX7_hard_4 : decode cX7_hard 4 = .ok (.invokevirtual 66, 3) := by decide +kernel
theorem dX7_hard_7 : decode cX7_hard 7 = .ok (.aload_n 0, 1) := by decide +kernel
theorem dX7_hard_8 : decode cX7_hard 8 = .ok (.aload_n 0, 1) := by decide +kernel
theorem dX7_hard_9 : decode cX7_hard 9 = .ok (.getfield 37, 3) := by decide +kernel
theorem dX7_hard_12 : decode cX7_hard 12 = .ok (.iload_n 1, 1) := by decide +kernel
theorem dX7_hard_13 : decode cX7_hard 13 = .ok (.iconst 1, 1) := by decide +kernel
theorem dX7_hard_14 : decode cX7_hard 14 = .ok (.invokevirtual 87, 3) := by decide +kernel
theorem dX7_hard_17 : decode cX7_hard 17 = .ok (.invokevirtual 73, 3) := by decide +kernel
theorem dX7_hard_20 : decode cX7_hard 20 = .ok (.ireturn, 1) := by decide +kernel
theorem dX7_rip_0 : decode cX7_rip 0 = .ok (.aload_n 0, 1) := by decide +kernel
theorem dX7_rip_1 : decode cX7_rip 1 = .ok (.getfield 44, 3) := by decide +kernel
theorem dX7_rip_4 : decode cX7_rip 4 = .ok (.invokevirtual 66, 3) := by decide +kernel
theorem dX7_rip_7 : decode cX7_rip 7 = .ok (.aload_n 0, 1) := by decide +kernel
theorem dX7_rip_8 : decode cX7_rip 8 = .ok (.aload_n 0, 1) := by decide +kernel
theorem dX7_rip_9 : decode cX7_rip 9 = .ok (.getfield 37, 3) := by decide +kernel
theorem dX7_rip_12 : decode cX7_rip 12 = .ok (.iload_n 1, 1) := by decide +kernel
theorem dX7_rip_13 : decode cX7_rip 13 = .ok (.invokevirtual 91, 3) := by decide +kernel
theorem dX7_rip_16 : decode cX7_rip 16 = .ok (.invokevirtual 73, 3) := by decide +kernel
theorem dX7_rip_19 : decode cX7_rip 19 = .ok (.ireturn, 1) := by decide +kernel
theorem dX7_netOf_0 : decode cX7_netOf 0 = .ok (.aload_n 0, 1) := by decide +kernel
theorem dX7_netOf_1 : decode cX7_netOf 1 = .ok (.iload_n 1, 1) := by decide +kernel
theorem dX7_netOf_2 : decode cX7_netOf 2 = .ok (.invokevirtual 94, 3) := by decide +kernel
theorem dX7_netOf_5 : decode cX7_netOf 5 = .ok (.iload_n 2, 1) := by decide +kernel
theorem dX7_netOf_6 : decode cX7_netOf 6 = .ok (.tableswitch 128 0 6 #[42, 60, 70, 88, 98, 108, 118], 42) := by decide +kernel
theorem dX7_netOf_48 : decode cX7_netOf 48 = .ok (.aload_n 0, 1) := by decide +kernel
theorem dX7_netOf_49 : decode cX7_netOf 49 = .ok (.getfield 12, 3) := by decide +kernel
theorem dX7_netOf_52 : decode cX7_netOf 52 = .ok (.getfield 98, 3) := by decide +kernel
theorem dX7_netOf_55 : decode cX7_netOf 55 = .ok (.iload_n 1, 1) := by decide +kernel
theorem dX7_netOf_56 : decode cX7_netOf 56 = .ok (.baload, 1) := by decide +kernel
theorem dX7_netOf_57 : decode cX7_netOf 57 = .ok (.ifCond .eq 7, 3) := by decide +kernel
theorem dX7_netOf_60 : decode cX7_netOf 60 = .ok (.iconst 1, 1) := by decide +kernel
theorem dX7_netOf_61 : decode cX7_netOf 61 = .ok (.goto 4, 3) := by decide +kernel
theorem dX7_netOf_64 : decode cX7_netOf 64 = .ok (.iconst 0, 1) := by decide +kernel
theorem dX7_netOf_65 : decode cX7_netOf 65 = .ok (.ireturn, 1) := by decide +kernel
theorem dX7_netOf_66 : decode cX7_netOf 66 = .ok (.aload_n 0, 1) := by decide +kernel
theorem dX7_netOf_67 : decode cX7_netOf 67 = .ok (.getfield 12, 3) := by decide +kernel
theorem dX7_netOf_70 : decode cX7_netOf 70 = .ok (.getfield 102, 3) := by decide +kernel
theorem dX7_netOf_73 : decode cX7_netOf 73 = .ok (.iload_n 1, 1) := by decide +kernel
theorem dX7_netOf_74 : decode cX7_netOf 74 = .ok (.iaload, 1) := by decide +kernel
theorem dX7_netOf_75 : decode cX7_netOf 75 = .ok (.ireturn, 1) := by decide +kernel
theorem dX7_netOf_76 : decode cX7_netOf 76 = .ok (.aload_n 0, 1) := by decide +kernel
theorem dX7_netOf_77 : decode cX7_netOf 77 = .ok (.getfield 12, 3) := by decide +kernel
theorem dX7_netOf_80 : decode cX7_netOf 80 = .ok (.getfield 106, 3) := by decide +kernel
theorem dX7_netOf_83 : decode cX7_netOf 83 = .ok (.iload_n 1, 1) := by decide +kernel
theorem dX7_netOf_84 : decode cX7_netOf 84 = .ok (.baload, 1) := by decide +kernel
theorem dX7_netOf_85 : decode cX7_netOf 85 = .ok (.ifCond .eq 7, 3) := by decide +kernel
theorem dX7_netOf_88 : decode cX7_netOf 88 = .ok (.iconst 1, 1) := by decide +kernel
theorem dX7_netOf_89 : decode cX7_netOf 89 = .ok (.goto 4, 3) := by decide +kernel
theorem dX7_netOf_92 : decode cX7_netOf 92 = .ok (.iconst 0, 1) := by decide +kernel
theorem dX7_netOf_93 : decode cX7_netOf 93 = .ok (.ireturn, 1) := by decide +kernel
theorem dX7_netOf_94 : decode cX7_netOf 94 = .ok (.aload_n 0, 1) := by decide +kernel
theorem dX7_netOf_95 : decode cX7_netOf 95 = .ok (.getfield 12, 3) := by decide +kernel
theorem dX7_netOf_98 : decode cX7_netOf 98 = .ok (.getfield 109, 3) := by decide +kernel
theorem dX7_netOf_101 : decode cX7_netOf 101 = .ok (.iload_n 1, 1) := by decide +kernel
theorem dX7_netOf_102 : decode cX7_netOf 102 = .ok (.iaload, 1) := by decide +kernel
theorem dX7_netOf_103 : decode cX7_netOf 103 = .ok (.ireturn, 1) := by decide +kernel
theorem dX7_netOf_104 : decode cX7_netOf 104 = .ok (.aload_n 0, 1) := by decide +kernel
theorem dX7_netOf_105 : decode cX7_netOf 105 = .ok (.getfield 12, 3) := by decide +kernel
theorem dX7_netOf_108 : decode cX7_netOf 108 = .ok (.getfield 112, 3) := by decide +kernel
theorem dX7_netOf_111 : decode cX7_netOf 111 = .ok (.iload_n 1, 1) := by decide +kernel
theorem dX7_netOf_112 : decode cX7_netOf 112 = .ok (.iaload, 1) := by decide +kernel
theorem dX7_netOf_113 : decode cX7_netOf 113 = .ok (.ireturn, 1) := by decide +kernel
theorem dX7_netOf_114 : decode cX7_netOf 114 = .ok (.aload_n 0, 1) := by decide +kernel
theorem dX7_netOf_115 : decode cX7_netOf 115 = .ok (.getfield 12, 3) := by decide +kernel
theorem dX7_netOf_118 : decode cX7_netOf 118 = .ok (.getfield 115, 3) := by decide +kernel
theorem dX7_netOf_121 : decode cX7_netOf 121 = .ok (.iload_n 1, 1) := by decide +kernel
theorem dX7_netOf_122 : decode cX7_netOf 122 = .ok (.iaload, 1) := by decide +kernel
theorem dX7_netOf_123 : decode cX7_netOf 123 = .ok (.ireturn, 1) := by decide +kernel
theorem dX7_netOf_124 : decode cX7_netOf 124 = .ok (.aload_n 0, 1) := by decide +kernel
theorem dX7_netOf_125 : decode cX7_netOf 125 = .ok (.getfield 12, 3) := by decide +kernel
theorem dX7_netOf_128 : decode cX7_netOf 128 = .ok (.getfield 118, 3) := by decide +kernel
theorem dX7_netOf_131 : decode cX7_netOf 131 = .ok (.iload_n 1, 1) := by decide +kernel
theorem dX7_netOf_132 : decode cX7_netOf 132 = .ok (.iaload, 1) := by decide +kernel
theorem dX7_netOf_133 : decode cX7_netOf 133 = .ok (.ireturn, 1) := by decide +kernel
theorem dX7_netOf_134 : decode cX7_netOf 134 = .ok (.new 121, 3) := by decide +kernel
theorem dX7_netOf_137 : decode cX7_netOf 137 = .ok (.dup, 1) := by decide +kernel
theorem dX7_netOf_138 : decode cX7_netOf 138 = .ok (.ldc 123, 2) := by decide +kernel
theorem dX7_netOf_140 : decode cX7_netOf 140 = .ok (.invokespecial 125, 3) := by decide +kernel
theorem dX7_netOf_143 : decode cX7_netOf 143 = .ok (.athrow, 1) := by decide +kernel
theorem dX7_pinOf_0 : decode cX7_pinOf 0 = .ok (.aload_n 0, 1) := by decide +kernel
theorem dX7_pinOf_1 : decode cX7_pinOf 1 = .ok (.iload_n 1, 1) := by decide +kernel
theorem dX7_pinOf_2 : decode cX7_pinOf 2 = .ok (.iload_n 2, 1) := by decide +kernel
theorem dX7_pinOf_3 : decode cX7_pinOf 3 = .ok (.invokevirtual 128, 3) := by decide +kernel
theorem dX7_pinOf_6 : decode cX7_pinOf 6 = .ok (.aload_n 0, 1) := by decide +kernel
theorem dX7_pinOf_7 : decode cX7_pinOf 7 = .ok (.getfield 12, 3) := by decide +kernel
theorem dX7_pinOf_10 : decode cX7_pinOf 10 = .ok (.iload_n 1, 1) := by decide +kernel
theorem dX7_pinOf_11 : decode cX7_pinOf 11 = .ok (.iload_n 2, 1) := by decide +kernel
theorem dX7_pinOf_12 : decode cX7_pinOf 12 = .ok (.invokevirtual 132, 3) := by decide +kernel
theorem dX7_pinOf_15 : decode cX7_pinOf 15 = .ok (.ireturn, 1) := by decide +kernel
theorem dX7_at_0 : decode cX7_at 0 = .ok (.aload_n 0, 1) := by decide +kernel
theorem dX7_at_1 : decode cX7_at 1 = .ok (.iload_n 1, 1) := by decide +kernel
theorem dX7_at_2 : decode cX7_at 2 = .ok (.iload_n 2, 1) := by decide +kernel
theorem dX7_at_3 : decode cX7_at 3 = .ok (.iload_n 3, 1) := by decide +kernel
theorem dX7_at_4 : decode cX7_at 4 = .ok (.invokevirtual 136, 3) := by decide +kernel
theorem dX7_at_7 : decode cX7_at 7 = .ok (.aload_n 0, 1) := by decide +kernel
theorem dX7_at_8 : decode cX7_at 8 = .ok (.getfield 12, 3) := by decide +kernel
theorem dX7_at_11 : decode cX7_at 11 = .ok (.getfield 140, 3) := by decide +kernel
theorem dX7_at_14 : decode cX7_at 14 = .ok (.iload_n 1, 1) := by decide +kernel
theorem dX7_at_15 : decode cX7_at 15 = .ok (.iload_n 2, 1) := by decide +kernel
theorem dX7_at_16 : decode cX7_at 16 = .ok (.iload_n 3, 1) := by decide +kernel
theorem dX7_at_17 : decode cX7_at 17 = .ok (.invokestatic 143, 3) := by decide +kernel
theorem dX7_at_20 : decode cX7_at 20 = .ok (.iaload, 1) := by decide +kernel
theorem dX7_at_21 : decode cX7_at 21 = .ok (.ireturn, 1) := by decide +kernel
theorem dX7_isHole_0 : decode cX7_isHole 0 = .ok (.aload_n 0, 1) := by decide +kernel
theorem dX7_isHole_1 : decode cX7_isHole 1 = .ok (.iload_n 1, 1) := by decide +kernel
theorem dX7_isHole_2 : decode cX7_isHole 2 = .ok (.iload_n 2, 1) := by decide +kernel
theorem dX7_isHole_3 : decode cX7_isHole 3 = .ok (.iconst 0, 1) := by decide +kernel
theorem dX7_isHole_4 : decode cX7_isHole 4 = .ok (.invokevirtual 136, 3) := by decide +kernel
theorem dX7_isHole_7 : decode cX7_isHole 7 = .ok (.aload_n 0, 1) := by decide +kernel
theorem dX7_isHole_8 : decode cX7_isHole 8 = .ok (.getfield 12, 3) := by decide +kernel
theorem dX7_isHole_11 : decode cX7_isHole 11 = .ok (.getfield 146, 3) := by decide +kernel
theorem dX7_isHole_14 : decode cX7_isHole 14 = .ok (.iload_n 1, 1) := by decide +kernel
theorem dX7_isHole_15 : decode cX7_isHole 15 = .ok (.iload_n 2, 1) := by decide +kernel
theorem dX7_isHole_16 : decode cX7_isHole 16 = .ok (.iconst 0, 1) := by decide +kernel
theorem dX7_isHole_17 : decode cX7_isHole 17 = .ok (.invokestatic 143, 3) := by decide +kernel
theorem dX7_isHole_20 : decode cX7_isHole 20 = .ok (.baload, 1) := by decide +kernel
theorem dX7_isHole_21 : decode cX7_isHole 21 = .ok (.ireturn, 1) := by decide +kernel
theorem dX7_price_0 : decode cX7_price 0 = .ok (.aload_n 0, 1) := by decide +kernel
theorem dX7_price_1 : decode cX7_price 1 = .ok (.iload_n 1, 1) := by decide +kernel
theorem dX7_price_2 : decode cX7_price 2 = .ok (.invokevirtual 94, 3) := by decide +kernel
theorem dX7_price_5 : decode cX7_price 5 = .ok (.aload_n 0, 1) := by decide +kernel
theorem dX7_price_6 : decode cX7_price 6 = .ok (.iload_n 2, 1) := by decide +kernel
theorem dX7_price_7 : decode cX7_price 7 = .ok (.iload_n 3, 1) := by decide +kernel
theorem dX7_price_8 : decode cX7_price 8 = .ok (.iload 4, 2) := by decide +kernel
theorem dX7_price_10 : decode cX7_price 10 = .ok (.invokevirtual 136, 3) := by decide +kernel
theorem dX7_price_13 : decode cX7_price 13 = .ok (.aload_n 0, 1) := by decide +kernel
theorem dX7_price_14 : decode cX7_price 14 = .ok (.getfield 12, 3) := by decide +kernel
theorem dX7_price_17 : decode cX7_price 17 = .ok (.iload_n 1, 1) := by decide +kernel
theorem dX7_price_18 : decode cX7_price 18 = .ok (.iload_n 2, 1) := by decide +kernel
theorem dX7_price_19 : decode cX7_price 19 = .ok (.iload_n 3, 1) := by decide +kernel
theorem dX7_price_20 : decode cX7_price 20 = .ok (.iload 4, 2) := by decide +kernel
theorem dX7_price_22 : decode cX7_price 22 = .ok (.invokestatic 143, 3) := by decide +kernel
theorem dX7_price_25 : decode cX7_price 25 = .ok (.invokevirtual 149, 3) := by decide +kernel
theorem dX7_price_28 : decode cX7_price 28 = .ok (.ireturn, 1) := by decide +kernel
theorem dX7_wouldCost_0 : decode cX7_wouldCost 0 = .ok (.aload_n 0, 1) := by decide +kernel
theorem dX7_wouldCost_1 : decode cX7_wouldCost 1 = .ok (.iload_n 1, 1) := by decide +kernel
theorem dX7_wouldCost_2 : decode cX7_wouldCost 2 = .ok (.invokevirtual 94, 3) := by decide +kernel
theorem dX7_wouldCost_5 : decode cX7_wouldCost 5 = .ok (.aload_n 0, 1) := by decide +kernel
theorem dX7_wouldCost_6 : decode cX7_wouldCost 6 = .ok (.getfield 21, 3) := by decide +kernel
theorem dX7_wouldCost_9 : decode cX7_wouldCost 9 = .ok (.iload_n 1, 1) := by decide +kernel
theorem dX7_wouldCost_10 : decode cX7_wouldCost 10 = .ok (.iconst 0, 1) := by decide +kernel
theorem dX7_wouldCost_11 : decode cX7_wouldCost 11 = .ok (.invokevirtual 152, 3) := by decide +kernel
theorem dX7_wouldCost_14 : decode cX7_wouldCost 14 = .ok (.ifCond .ne 13, 3) := by decide +kernel
theorem dX7_wouldCost_17 : decode cX7_wouldCost 17 = .ok (.new 156, 3) := by decide +kernel
theorem dX7_wouldCost_20 : decode cX7_wouldCost 20 = .ok (.dup, 1) := by decide +kernel
theorem dX7_wouldCost_21 : decode cX7_wouldCost 21 = .ok (.ldc 158, 2) := by decide +kernel
theorem dX7_wouldCost_23 : decode cX7_wouldCost 23 = .ok (.invokespecial 160, 3) := by decide +kernel
theorem dX7_wouldCost_26 : decode cX7_wouldCost 26 = .ok (.athrow, 1) := by decide +kernel
theorem dX7_wouldCost_27 : decode cX7_wouldCost 27 = .ok (.aload_n 0, 1) := by decide +kernel
theorem dX7_wouldCost_28 : decode cX7_wouldCost 28 = .ok (.getfield 21, 3) := by decide +kernel
theorem dX7_wouldCost_31 : decode cX7_wouldCost 31 = .ok (.getfield 161, 3) := by decide +kernel
theorem dX7_wouldCost_34 : decode cX7_wouldCost 34 = .ok (.ireturn, 1) := by decide +kernel
theorem dX7_wouldRip_0 : decode cX7_wouldRip 0 = .ok (.aload_n 0, 1) := by decide +kernel
theorem dX7_wouldRip_1 : decode cX7_wouldRip 1 = .ok (.iload_n 1, 1) := by decide +kernel
theorem dX7_wouldRip_2 : decode cX7_wouldRip 2 = .ok (.invokevirtual 94, 3) := by decide +kernel
theorem dX7_wouldRip_5 : decode cX7_wouldRip 5 = .ok (.aload_n 0, 1) := by decide +kernel
theorem dX7_wouldRip_6 : decode cX7_wouldRip 6 = .ok (.getfield 21, 3) := by decide +kernel
theorem dX7_wouldRip_9 : decode cX7_wouldRip 9 = .ok (.iload_n 1, 1) := by decide +kernel
theorem dX7_wouldRip_10 : decode cX7_wouldRip 10 = .ok (.iconst 1, 1) := by decide +kernel
theorem dX7_wouldRip_11 : decode cX7_wouldRip 11 = .ok (.invokevirtual 152, 3) := by decide +kernel
theorem dX7_wouldRip_14 : decode cX7_wouldRip 14 = .ok (.ifCond .ne 13, 3) := by decide +kernel
theorem dX7_wouldRip_17 : decode cX7_wouldRip 17 = .ok (.new 156, 3) := by decide +kernel
theorem dX7_wouldRip_20 : decode cX7_wouldRip 20 = .ok (.dup, 1) := by decide +kernel
theorem dX7_wouldRip_21 : decode cX7_wouldRip 21 = .ok (.ldc 163, 2) := by decide +kernel
theorem dX7_wouldRip_23 : decode cX7_wouldRip 23 = .ok (.invokespecial 160, 3) := by decide +kernel
theorem dX7_wouldRip_26 : decode cX7_wouldRip 26 = .ok (.athrow, 1) := by decide +kernel
theorem dX7_wouldRip_27 : decode cX7_wouldRip 27 = .ok (.aload_n 0, 1) := by decide +kernel
theorem dX7_wouldRip_28 : decode cX7_wouldRip 28 = .ok (.getfield 21, 3) := by decide +kernel
theorem dX7_wouldRip_31 : decode cX7_wouldRip 31 = .ok (.invokevirtual 165, 3) := by decide +kernel
theorem dX7_wouldRip_34 : decode cX7_wouldRip 34 = .ok (.ireturn, 1) := by decide +kernel
theorem dX7_reach_0 : decode cX7_reach 0 = .ok (.aload_n 0, 1) := by decide +kernel
theorem dX7_reach_1 : decode cX7_reach 1 = .ok (.iload_n 1, 1) := by decide +kernel
theorem dX7_reach_2 : decode cX7_reach 2 = .ok (.iload_n 2, 1) := by decide +kernel
theorem dX7_reach_3 : decode cX7_reach 3 = .ok (.invokevirtual 128, 3) := by decide +kernel
theorem dX7_reach_6 : decode cX7_reach 6 = .ok (.aload_n 0, 1) := by decide +kernel
theorem dX7_reach_7 : decode cX7_reach 7 = .ok (.getfield 21, 3) := by decide +kernel
theorem dX7_reach_10 : decode cX7_reach 10 = .ok (.iload_n 1, 1) := by decide +kernel
theorem dX7_reach_11 : decode cX7_reach 11 = .ok (.invokevirtual 169, 3) := by decide +kernel
theorem dX7_reach_14 : decode cX7_reach 14 = .ok (.aload_n 0, 1) := by decide +kernel
theorem dX7_reach_15 : decode cX7_reach 15 = .ok (.getfield 21, 3) := by decide +kernel
theorem dX7_reach_18 : decode cX7_reach 18 = .ok (.aload_n 0, 1) := by decide +kernel
theorem dX7_reach_19 : decode cX7_reach 19 = .ok (.getfield 12, 3) := by decide +kernel
theorem dX7_reach_22 : decode cX7_reach 22 = .ok (.iload_n 1, 1) := by decide +kernel
theorem dX7_reach_23 : decode cX7_reach 23 = .ok (.iload_n 2, 1) := by decide +kernel
theorem dX7_reach_24 : decode cX7_reach 24 = .ok (.invokevirtual 132, 3) := by decide +kernel
theorem dX7_reach_27 : decode cX7_reach 27 = .ok (.invokevirtual 172, 3) := by decide +kernel
theorem dX7_reach_30 : decode cX7_reach 30 = .ok (.ireturn, 1) := by decide +kernel
theorem dX7_cellsOf_0 : decode cX7_cellsOf 0 = .ok (.aload_n 0, 1) := by decide +kernel
theorem dX7_cellsOf_1 : decode cX7_cellsOf 1 = .ok (.iload_n 1, 1) := by decide +kernel
theorem dX7_cellsOf_2 : decode cX7_cellsOf 2 = .ok (.invokevirtual 94, 3) := by decide +kernel
theorem dX7_cellsOf_5 : decode cX7_cellsOf 5 = .ok (.aload_n 0, 1) := by decide +kernel
theorem dX7_cellsOf_6 : decode cX7_cellsOf 6 = .ok (.getfield 12, 3) := by decide +kernel
theorem dX7_cellsOf_9 : decode cX7_cellsOf 9 = .ok (.iload_n 1, 1) := by decide +kernel
theorem dX7_cellsOf_10 : decode cX7_cellsOf 10 = .ok (.invokevirtual 175, 3) := by decide +kernel
theorem dX7_cellsOf_13 : decode cX7_cellsOf 13 = .ok (.ireturn, 1) := by decide +kernel
theorem dX7_cellsAgain_0 : decode cX7_cellsAgain 0 = .ok (.aload_n 0, 1) := by decide +kernel
theorem dX7_cellsAgain_1 : decode cX7_cellsAgain 1 = .ok (.iload_n 1, 1) := by decide +kernel
theorem dX7_cellsAgain_2 : decode cX7_cellsAgain 2 = .ok (.invokevirtual 94, 3) := by decide +kernel
theorem dX7_cellsAgain_5 : decode cX7_cellsAgain 5 = .ok (.iconst 2, 1) := by decide +kernel
theorem dX7_cellsAgain_6 : decode cX7_cellsAgain 6 = .ok (.aload_n 0, 1) := by decide +kernel
theorem dX7_cellsAgain_7 : decode cX7_cellsAgain 7 = .ok (.getfield 12, 3) := by decide +kernel
theorem dX7_cellsAgain_10 : decode cX7_cellsAgain 10 = .ok (.getfield 102, 3) := by decide +kernel
theorem dX7_cellsAgain_13 : decode cX7_cellsAgain 13 = .ok (.iload_n 1, 1) := by decide +kernel
theorem dX7_cellsAgain_14 : decode cX7_cellsAgain 14 = .ok (.iaload, 1) := by decide +kernel
theorem dX7_cellsAgain_15 : decode cX7_cellsAgain 15 = .ok (.imul, 1) := by decide +kernel
theorem dX7_cellsAgain_16 : decode cX7_cellsAgain 16 = .ok (.aload_n 0, 1) := by decide +kernel
theorem dX7_cellsAgain_17 : decode cX7_cellsAgain 17 = .ok (.getfield 12, 3) := by decide +kernel
theorem dX7_cellsAgain_20 : decode cX7_cellsAgain 20 = .ok (.getfield 112, 3) := by decide +kernel
theorem dX7_cellsAgain_23 : decode cX7_cellsAgain 23 = .ok (.iload_n 1, 1) := by decide +kernel
theorem dX7_cellsAgain_24 : decode cX7_cellsAgain 24 = .ok (.iaload, 1) := by decide +kernel
theorem dX7_cellsAgain_25 : decode cX7_cellsAgain 25 = .ok (.iadd, 1) := by decide +kernel
theorem dX7_cellsAgain_26 : decode cX7_cellsAgain 26 = .ok (.ireturn, 1) := by decide +kernel
theorem dX7_holes_0 : decode cX7_holes 0 = .ok (.aload_n 0, 1) := by decide +kernel
theorem dX7_holes_1 : decode cX7_holes 1 = .ok (.getfield 12, 3) := by decide +kernel
theorem dX7_holes_4 : decode cX7_holes 4 = .ok (.invokevirtual 178, 3) := by decide +kernel
theorem dX7_holes_7 : decode cX7_holes 7 = .ok (.ireturn, 1) := by decide +kernel
theorem dX7_holesAgain_0 : decode cX7_holesAgain 0 = .ok (.aload_n 0, 1) := by decide +kernel
theorem dX7_holesAgain_1 : decode cX7_holesAgain 1 = .ok (.getfield 12, 3) := by decide +kernel
theorem dX7_holesAgain_4 : decode cX7_holesAgain 4 = .ok (.aload_n 0, 1) := by decide +kernel
theorem dX7_holesAgain_5 : decode cX7_holesAgain 5 = .ok (.getfield 12, 3) := by decide +kernel
theorem dX7_holesAgain_8 : decode cX7_holesAgain 8 = .ok (.getfield 115, 3) := by decide +kernel
theorem dX7_holesAgain_11 : decode cX7_holesAgain 11 = .ok (.invokevirtual 181, 3) := by decide +kernel
theorem dX7_holesAgain_14 : decode cX7_holesAgain 14 = .ok (.ireturn, 1) := by decide +kernel
theorem dX7_touches_0 : decode cX7_touches 0 = .ok (.aload_n 0, 1) := by decide +kernel
theorem dX7_touches_1 : decode cX7_touches 1 = .ok (.iload_n 1, 1) := by decide +kernel
theorem dX7_touches_2 : decode cX7_touches 2 = .ok (.invokevirtual 94, 3) := by decide +kernel
theorem dX7_touches_5 : decode cX7_touches 5 = .ok (.aload_n 0, 1) := by decide +kernel
theorem dX7_touches_6 : decode cX7_touches 6 = .ok (.getfield 12, 3) := by decide +kernel
theorem dX7_touches_9 : decode cX7_touches 9 = .ok (.iload_n 1, 1) := by decide +kernel
theorem dX7_touches_10 : decode cX7_touches 10 = .ok (.invokevirtual 185, 3) := by decide +kernel
theorem dX7_touches_13 : decode cX7_touches 13 = .ok (.ireturn, 1) := by decide +kernel
theorem dX7_ranked_0 : decode cX7_ranked 0 = .ok (.iload_n 1, 1) := by decide +kernel
theorem dX7_ranked_1 : decode cX7_ranked 1 = .ok (.ifCond .lt 14, 3) := by decide +kernel
theorem dX7_ranked_4 : decode cX7_ranked 4 = .ok (.iload_n 1, 1) := by decide +kernel
theorem dX7_ranked_5 : decode cX7_ranked 5 = .ok (.aload_n 0, 1) := by decide +kernel
theorem dX7_ranked_6 : decode cX7_ranked 6 = .ok (.getfield 12, 3) := by decide +kernel
theorem dX7_ranked_9 : decode cX7_ranked 9 = .ok (.getfield 188, 3) := by decide +kernel
theorem dX7_ranked_12 : decode cX7_ranked 12 = .ok (.if_icmp .lt 13, 3) := by decide +kernel
theorem dX7_ranked_15 : decode cX7_ranked 15 = .ok (.new 156, 3) := by decide +kernel
theorem dX7_ranked_18 : decode cX7_ranked 18 = .ok (.dup, 1) := by decide +kernel
theorem dX7_ranked_19 : decode cX7_ranked 19 = .ok (.ldc 191, 2) := by decide +kernel
theorem dX7_ranked_21 : decode cX7_ranked 21 = .ok (.invokespecial 160, 3) := by decide +kernel
theorem dX7_ranked_24 : decode cX7_ranked 24 = .ok (.athrow, 1) := by decide +kernel
theorem dX7_ranked_25 : decode cX7_ranked 25 = .ok (.iconst 0, 1) := by decide +kernel
theorem dX7_ranked_26 : decode cX7_ranked 26 = .ok (.istore_n 2, 1) := by decide +kernel
theorem dX7_ranked_27 : decode cX7_ranked 27 = .ok (.iconst 0, 1) := by decide +kernel
theorem dX7_ranked_28 : decode cX7_ranked 28 = .ok (.istore_n 3, 1) := by decide +kernel
theorem dX7_ranked_29 : decode cX7_ranked 29 = .ok (.iload_n 3, 1) := by decide +kernel
theorem dX7_ranked_30 : decode cX7_ranked 30 = .ok (.aload_n 0, 1) := by decide +kernel
theorem dX7_ranked_31 : decode cX7_ranked 31 = .ok (.getfield 12, 3) := by decide +kernel
theorem dX7_ranked_34 : decode cX7_ranked 34 = .ok (.getfield 188, 3) := by decide +kernel
theorem dX7_ranked_37 : decode cX7_ranked 37 = .ok (.if_icmp .ge 23, 3) := by decide +kernel
theorem dX7_ranked_40 : decode cX7_ranked 40 = .ok (.aload_n 0, 1) := by decide +kernel
theorem dX7_ranked_41 : decode cX7_ranked 41 = .ok (.getfield 12, 3) := by decide +kernel
theorem dX7_ranked_44 : decode cX7_ranked 44 = .ok (.iload_n 3, 1) := by decide +kernel
theorem dX7_ranked_45 : decode cX7_ranked 45 = .ok (.invokevirtual 193, 3) := by decide +kernel
theorem dX7_ranked_48 : decode cX7_ranked 48 = .ok (.iload_n 1, 1) := by decide +kernel
theorem dX7_ranked_49 : decode cX7_ranked 49 = .ok (.if_icmp .ne 5, 3) := by decide +kernel
theorem dX7_ranked_52 : decode cX7_ranked 52 = .ok (.iload_n 3, 1) := by decide +kernel
theorem dX7_ranked_53 : decode cX7_ranked 53 = .ok (.istore_n 2, 1) := by decide +kernel
theorem dX7_ranked_54 : decode cX7_ranked 54 = .ok (.iinc 3 1, 3) := by decide +kernel
theorem dX7_ranked_57 : decode cX7_ranked 57 = .ok (.goto (-28), 3) := by decide +kernel
theorem dX7_ranked_60 : decode cX7_ranked 60 = .ok (.iload_n 2, 1) := by decide +kernel
theorem dX7_ranked_61 : decode cX7_ranked 61 = .ok (.ireturn, 1) := by decide +kernel
theorem dX7_append_0 : decode cX7_append 0 = .ok (.aload_n 0, 1) := by decide +kernel
theorem dX7_append_1 : decode cX7_append 1 = .ok (.getfield 51, 3) := by decide +kernel
theorem dX7_append_4 : decode cX7_append 4 = .ok (.getfield 196, 3) := by decide +kernel
theorem dX7_append_7 : decode cX7_append 7 = .ok (.bipush 60, 2) := by decide +kernel
theorem dX7_append_9 : decode cX7_append 9 = .ok (.if_icmp .ne 13, 3) := by decide +kernel
theorem dX7_append_12 : decode cX7_append 12 = .ok (.new 199, 3) := by decide +kernel
theorem dX7_append_15 : decode cX7_append 15 = .ok (.dup, 1) := by decide +kernel
theorem dX7_append_16 : decode cX7_append 16 = .ok (.ldc 201, 2) := by decide +kernel
theorem dX7_append_18 : decode cX7_append 18 = .ok (.invokespecial 203, 3) := by decide +kernel
theorem dX7_append_21 : decode cX7_append 21 = .ok (.athrow, 1) := by decide +kernel
theorem dX7_append_22 : decode cX7_append 22 = .ok (.aload_n 0, 1) := by decide +kernel
theorem dX7_append_23 : decode cX7_append 23 = .ok (.getfield 51, 3) := by decide +kernel
theorem dX7_append_26 : decode cX7_append 26 = .ok (.iload_n 1, 1) := by decide +kernel
theorem dX7_append_27 : decode cX7_append 27 = .ok (.invokevirtual 204, 3) := by decide +kernel
theorem dX7_append_30 : decode cX7_append 30 = .ok (.aload_n 0, 1) := by decide +kernel
theorem dX7_append_31 : decode cX7_append 31 = .ok (.getfield 51, 3) := by decide +kernel
theorem dX7_append_34 : decode cX7_append 34 = .ok (.getfield 196, 3) := by decide +kernel
theorem dX7_append_37 : decode cX7_append 37 = .ok (.ireturn, 1) := by decide +kernel
theorem dX7_commands_0 : decode cX7_commands 0 = .ok (.aload_n 0, 1) := by decide +kernel
theorem dX7_commands_1 : decode cX7_commands 1 = .ok (.aload_n 0, 1) := by decide +kernel
theorem dX7_commands_2 : decode cX7_commands 2 = .ok (.getfield 51, 3) := by decide +kernel
theorem dX7_commands_5 : decode cX7_commands 5 = .ok (.invokevirtual 208, 3) := by decide +kernel
theorem dX7_commands_8 : decode cX7_commands 8 = .ok (.putfield 62, 3) := by decide +kernel
theorem dX7_commands_11 : decode cX7_commands 11 = .ok (.aload_n 0, 1) := by decide +kernel
theorem dX7_commands_12 : decode cX7_commands 12 = .ok (.getfield 62, 3) := by decide +kernel
theorem dX7_commands_15 : decode cX7_commands 15 = .ok (.ifCond .lt 21, 3) := by decide +kernel
theorem dX7_commands_18 : decode cX7_commands 18 = .ok (.aload_n 0, 1) := by decide +kernel
theorem dX7_commands_19 : decode cX7_commands 19 = .ok (.getfield 51, 3) := by decide +kernel
theorem dX7_commands_22 : decode cX7_commands 22 = .ok (.iconst 0, 1) := by decide +kernel
theorem dX7_commands_23 : decode cX7_commands 23 = .ok (.putfield 196, 3) := by decide +kernel
theorem dX7_commands_26 : decode cX7_commands 26 = .ok (.new 121, 3) := by decide +kernel
theorem dX7_commands_29 : decode cX7_commands 29 = .ok (.dup, 1) := by decide +kernel
theorem dX7_commands_30 : decode cX7_commands 30 = .ok (.ldc 211, 2) := by decide +kernel
theorem dX7_commands_32 : decode cX7_commands 32 = .ok (.invokespecial 125, 3) := by decide +kernel
theorem dX7_commands_35 : decode cX7_commands 35 = .ok (.athrow, 1) := by decide +kernel
theorem dX7_commands_36 : decode cX7_commands 36 = .ok (.aload_n 0, 1) := by decide +kernel
theorem dX7_commands_37 : decode cX7_commands 37 = .ok (.getfield 44, 3) := by decide +kernel
theorem dX7_commands_40 : decode cX7_commands 40 = .ok (.invokevirtual 66, 3) := by decide +kernel
theorem dX7_commands_43 : decode cX7_commands 43 = .ok (.iconst 0, 1) := by decide +kernel
theorem dX7_commands_44 : decode cX7_commands 44 = .ok (.istore_n 1, 1) := by decide +kernel
theorem dX7_commands_45 : decode cX7_commands 45 = .ok (.iconst 0, 1) := by decide +kernel
theorem dX7_commands_46 : decode cX7_commands 46 = .ok (.istore_n 2, 1) := by decide +kernel
theorem dX7_commands_47 : decode cX7_commands 47 = .ok (.iconst 0, 1) := by decide +kernel
theorem dX7_commands_48 : decode cX7_commands 48 = .ok (.istore_n 3, 1) := by decide +kernel
theorem dX7_commands_49 : decode cX7_commands 49 = .ok (.iload_n 2, 1) := by decide +kernel
theorem dX7_commands_50 : decode cX7_commands 50 = .ok (.bipush 60, 2) := by decide +kernel
theorem dX7_commands_52 : decode cX7_commands 52 = .ok (.if_icmp .ge 60, 3) := by decide +kernel
theorem dX7_commands_55 : decode cX7_commands 55 = .ok (.iload_n 1, 1) := by decide +kernel
theorem dX7_commands_56 : decode cX7_commands 56 = .ok (.aload_n 0, 1) := by decide +kernel
theorem dX7_commands_57 : decode cX7_commands 57 = .ok (.getfield 51, 3) := by decide +kernel
theorem dX7_commands_60 : decode cX7_commands 60 = .ok (.getfield 196, 3) := by decide +kernel
theorem dX7_commands_63 : decode cX7_commands 63 = .ok (.if_icmp .ge 49, 3) := by decide +kernel
theorem dX7_commands_66 : decode cX7_commands 66 = .ok (.iload_n 3, 1) := by decide +kernel
theorem dX7_commands_67 : decode cX7_commands 67 = .ok (.ifCond .ne 45, 3) := by decide +kernel
theorem dX7_commands_70 : decode cX7_commands 70 = .ok (.aload_n 0, 1) := by decide +kernel
theorem dX7_commands_71 : decode cX7_commands 71 = .ok (.getfield 28, 3) := by decide +kernel
theorem dX7_commands_74 : decode cX7_commands 74 = .ok (.iload_n 2, 1) := by decide +kernel
theorem dX7_commands_75 : decode cX7_commands 75 = .ok (.putfield 213, 3) := by decide +kernel
theorem dX7_commands_78 : decode cX7_commands 78 = .ok (.aload_n 0, 1) := by decide +kernel
theorem dX7_commands_79 : decode cX7_commands 79 = .ok (.iload_n 1, 1) := by decide +kernel
theorem dX7_commands_80 : decode cX7_commands 80 = .ok (.invokevirtual 216, 3) := by decide +kernel
theorem dX7_commands_83 : decode cX7_commands 83 = .ok (.iconst (-1), 1) := by decide +kernel
theorem dX7_commands_84 : decode cX7_commands 84 = .ok (.if_icmp .ne 7, 3) := by decide +kernel
theorem dX7_commands_87 : decode cX7_commands 87 = .ok (.iconst 1, 1) := by decide +kernel
theorem dX7_commands_88 : decode cX7_commands 88 = .ok (.goto 4, 3) := by decide +kernel
theorem dX7_commands_91 : decode cX7_commands 91 = .ok (.iconst 0, 1) := by decide +kernel
theorem dX7_commands_92 : decode cX7_commands 92 = .ok (.istore_n 3, 1) := by decide +kernel
theorem dX7_commands_93 : decode cX7_commands 93 = .ok (.iload_n 1, 1) := by decide +kernel
theorem dX7_commands_94 : decode cX7_commands 94 = .ok (.aload_n 0, 1) := by decide +kernel
theorem dX7_commands_95 : decode cX7_commands 95 = .ok (.getfield 51, 3) := by decide +kernel
theorem dX7_commands_98 : decode cX7_commands 98 = .ok (.iload_n 1, 1) := by decide +kernel
theorem dX7_commands_99 : decode cX7_commands 99 = .ok (.invokevirtual 219, 3) := by decide +kernel
theorem dX7_commands_102 : decode cX7_commands 102 = .ok (.iconst 1, 1) := by decide +kernel
theorem dX7_commands_103 : decode cX7_commands 103 = .ok (.iadd, 1) := by decide +kernel
theorem dX7_commands_104 : decode cX7_commands 104 = .ok (.iadd, 1) := by decide +kernel
theorem dX7_commands_105 : decode cX7_commands 105 = .ok (.istore_n 1, 1) := by decide +kernel
theorem dX7_commands_106 : decode cX7_commands 106 = .ok (.iinc 2 1, 3) := by decide +kernel
theorem dX7_commands_109 : decode cX7_commands 109 = .ok (.goto (-60), 3) := by decide +kernel
theorem dX7_commands_112 : decode cX7_commands 112 = .ok (.aload_n 0, 1) := by decide +kernel
theorem dX7_commands_113 : decode cX7_commands 113 = .ok (.getfield 28, 3) := by decide +kernel
theorem dX7_commands_116 : decode cX7_commands 116 = .ok (.iconst 0, 1) := by decide +kernel
theorem dX7_commands_117 : decode cX7_commands 117 = .ok (.putfield 213, 3) := by decide +kernel
theorem dX7_commands_120 : decode cX7_commands 120 = .ok (.aload_n 0, 1) := by decide +kernel
theorem dX7_commands_121 : decode cX7_commands 121 = .ok (.getfield 51, 3) := by decide +kernel
theorem dX7_commands_124 : decode cX7_commands 124 = .ok (.iconst 0, 1) := by decide +kernel
theorem dX7_commands_125 : decode cX7_commands 125 = .ok (.putfield 196, 3) := by decide +kernel
theorem dX7_commands_128 : decode cX7_commands 128 = .ok (.iload_n 3, 1) := by decide +kernel
theorem dX7_commands_129 : decode cX7_commands 129 = .ok (.ifCond .eq 20, 3) := by decide +kernel
theorem dX7_commands_132 : decode cX7_commands 132 = .ok (.aload_n 0, 1) := by decide +kernel
theorem dX7_commands_133 : decode cX7_commands 133 = .ok (.getfield 44, 3) := by decide +kernel
theorem dX7_commands_136 : decode cX7_commands 136 = .ok (.invokevirtual 222, 3) := by decide +kernel
theorem dX7_commands_139 : decode cX7_commands 139 = .ok (.new 225, 3) := by decide +kernel
theorem dX7_commands_142 : decode cX7_commands 142 = .ok (.dup, 1) := by decide +kernel
theorem dX7_commands_143 : decode cX7_commands 143 = .ok (.ldc 227, 2) := by decide +kernel
theorem dX7_commands_145 : decode cX7_commands 145 = .ok (.invokespecial 229, 3) := by decide +kernel
theorem dX7_commands_148 : decode cX7_commands 148 = .ok (.athrow, 1) := by decide +kernel
theorem dX7_commands_149 : decode cX7_commands 149 = .ok (.aload_n 0, 1) := by decide +kernel
theorem dX7_commands_150 : decode cX7_commands 150 = .ok (.getfield 44, 3) := by decide +kernel
theorem dX7_commands_153 : decode cX7_commands 153 = .ok (.invokevirtual 230, 3) := by decide +kernel
theorem dX7_commands_156 : decode cX7_commands 156 = .ok (.iload_n 2, 1) := by decide +kernel
theorem dX7_commands_157 : decode cX7_commands 157 = .ok (.ireturn, 1) := by decide +kernel
theorem dX7_faultPosition_0 : decode cX7_faultPosition 0 = .ok (.aload_n 0, 1) := by decide +kernel
theorem dX7_faultPosition_1 : decode cX7_faultPosition 1 = .ok (.getfield 62, 3) := by decide +kernel
theorem dX7_faultPosition_4 : decode cX7_faultPosition 4 = .ok (.ireturn, 1) := by decide +kernel
theorem dX7_reason_0 : decode cX7_reason 0 = .ok (.iload_n 1, 1) := by decide +kernel
theorem dX7_reason_1 : decode cX7_reason 1 = .ok (.ifCond .lt 8, 3) := by decide +kernel
theorem dX7_reason_4 : decode cX7_reason 4 = .ok (.iload_n 1, 1) := by decide +kernel
theorem dX7_reason_5 : decode cX7_reason 5 = .ok (.iconst 2, 1) := by decide +kernel
theorem dX7_reason_6 : decode cX7_reason 6 = .ok (.if_icmp .le 13, 3) := by decide +kernel
theorem dX7_reason_9 : decode cX7_reason 9 = .ok (.new 121, 3) := by decide +kernel
theorem dX7_reason_12 : decode cX7_reason 12 = .ok (.dup, 1) := by decide +kernel
theorem dX7_reason_13 : decode cX7_reason 13 = .ok (.ldc 233, 2) := by decide +kernel
theorem dX7_reason_15 : decode cX7_reason 15 = .ok (.invokespecial 125, 3) := by decide +kernel
theorem dX7_reason_18 : decode cX7_reason 18 = .ok (.athrow, 1) := by decide +kernel
theorem dX7_reason_19 : decode cX7_reason 19 = .ok (.aload_n 0, 1) := by decide +kernel
theorem dX7_reason_20 : decode cX7_reason 20 = .ok (.getfield 28, 3) := by decide +kernel
theorem dX7_reason_23 : decode cX7_reason 23 = .ok (.getfield 235, 3) := by decide +kernel
theorem dX7_reason_26 : decode cX7_reason 26 = .ok (.ifCond .ne 13, 3) := by decide +kernel
theorem dX7_reason_29 : decode cX7_reason 29 = .ok (.new 156, 3) := by decide +kernel
theorem dX7_reason_32 : decode cX7_reason 32 = .ok (.dup, 1) := by decide +kernel
theorem dX7_reason_33 : decode cX7_reason 33 = .ok (.ldc 238, 2) := by decide +kernel
theorem dX7_reason_35 : decode cX7_reason 35 = .ok (.invokespecial 160, 3) := by decide +kernel
theorem dX7_reason_38 : decode cX7_reason 38 = .ok (.athrow, 1) := by decide +kernel
theorem dX7_reason_39 : decode cX7_reason 39 = .ok (.iload_n 1, 1) := by decide +kernel
theorem dX7_reason_40 : decode cX7_reason 40 = .ok (.ifCond .ne 11, 3) := by decide +kernel
theorem dX7_reason_43 : decode cX7_reason 43 = .ok (.aload_n 0, 1) := by decide +kernel
theorem dX7_reason_44 : decode cX7_reason 44 = .ok (.getfield 28, 3) := by decide +kernel
theorem dX7_reason_47 : decode cX7_reason 47 = .ok (.getfield 235, 3) := by decide +kernel
theorem dX7_reason_50 : decode cX7_reason 50 = .ok (.ireturn, 1) := by decide +kernel
theorem dX7_reason_51 : decode cX7_reason 51 = .ok (.iload_n 1, 1) := by decide +kernel
theorem dX7_reason_52 : decode cX7_reason 52 = .ok (.iconst 1, 1) := by decide +kernel
theorem dX7_reason_53 : decode cX7_reason 53 = .ok (.if_icmp .ne 13, 3) := by decide +kernel
theorem dX7_reason_56 : decode cX7_reason 56 = .ok (.aload_n 0, 1) := by decide +kernel
theorem dX7_reason_57 : decode cX7_reason 57 = .ok (.getfield 28, 3) := by decide +kernel
theorem dX7_reason_60 : decode cX7_reason 60 = .ok (.getfield 240, 3) := by decide +kernel
theorem dX7_reason_63 : decode cX7_reason 63 = .ok (.goto 10, 3) := by decide +kernel
theorem dX7_reason_66 : decode cX7_reason 66 = .ok (.aload_n 0, 1) := by decide +kernel
theorem dX7_reason_67 : decode cX7_reason 67 = .ok (.getfield 28, 3) := by decide +kernel
theorem dX7_reason_70 : decode cX7_reason 70 = .ok (.getfield 243, 3) := by decide +kernel
theorem dX7_reason_73 : decode cX7_reason 73 = .ok (.ireturn, 1) := by decide +kernel
theorem dX7_line_0 : decode cX7_line 0 = .ok (.aload_n 0, 1) := by decide +kernel
theorem dX7_line_1 : decode cX7_line 1 = .ok (.iload_n 1, 1) := by decide +kernel
theorem dX7_line_2 : decode cX7_line 2 = .ok (.iconst 0, 1) := by decide +kernel
theorem dX7_line_3 : decode cX7_line 3 = .ok (.iload_n 2, 1) := by decide +kernel
theorem dX7_line_4 : decode cX7_line 4 = .ok (.invokevirtual 136, 3) := by decide +kernel
theorem dX7_line_7 : decode cX7_line 7 = .ok (.aload_n 0, 1) := by decide +kernel
theorem dX7_line_8 : decode cX7_line 8 = .ok (.getfield 58, 3) := by decide +kernel
theorem dX7_line_11 : decode cX7_line 11 = .ok (.aload_n 0, 1) := by decide +kernel
theorem dX7_line_12 : decode cX7_line 12 = .ok (.getfield 12, 3) := by decide +kernel
theorem dX7_line_15 : decode cX7_line 15 = .ok (.iload_n 1, 1) := by decide +kernel
theorem dX7_line_16 : decode cX7_line 16 = .ok (.iconst 0, 1) := by decide +kernel
theorem dX7_line_17 : decode cX7_line 17 = .ok (.iload_n 2, 1) := by decide +kernel
theorem dX7_line_18 : decode cX7_line 18 = .ok (.invokestatic 143, 3) := by decide +kernel
theorem dX7_line_21 : decode cX7_line 21 = .ok (.invokevirtual 246, 3) := by decide +kernel
theorem dX7_line_24 : decode cX7_line 24 = .ok (.aload_n 0, 1) := by decide +kernel
theorem dX7_line_25 : decode cX7_line 25 = .ok (.getfield 58, 3) := by decide +kernel
theorem dX7_line_28 : decode cX7_line 28 = .ok (.getfield 250, 3) := by decide +kernel
theorem dX7_line_31 : decode cX7_line 31 = .ok (.ireturn, 1) := by decide +kernel
theorem dX7_character_0 : decode cX7_character 0 = .ok (.iload_n 1, 1) := by decide +kernel
theorem dX7_character_1 : decode cX7_character 1 = .ok (.ifCond .lt 14, 3) := by decide +kernel
theorem dX7_character_4 : decode cX7_character 4 = .ok (.iload_n 1, 1) := by decide +kernel
theorem dX7_character_5 : decode cX7_character 5 = .ok (.aload_n 0, 1) := by decide +kernel
theorem dX7_character_6 : decode cX7_character 6 = .ok (.getfield 58, 3) := by decide +kernel
theorem dX7_character_9 : decode cX7_character 9 = .ok (.getfield 250, 3) := by decide +kernel
theorem dX7_character_12 : decode cX7_character 12 = .ok (.if_icmp .lt 13, 3) := by decide +kernel
theorem dX7_character_15 : decode cX7_character 15 = .ok (.new 251, 3) := by decide +kernel
theorem dX7_character_18 : decode cX7_character 18 = .ok (.dup, 1) := by decide +kernel
theorem dX7_character_19 : decode cX7_character 19 = .ok (.ldc 253, 2) := by decide +kernel
theorem dX7_character_21 : decode cX7_character 21 = .ok (.invokespecial 255, 3) := by decide +kernel
theorem dX7_character_24 : decode cX7_character 24 = .ok (.athrow, 1) := by decide +kernel
theorem dX7_character_25 : decode cX7_character 25 = .ok (.aload_n 0, 1) := by decide +kernel
theorem dX7_character_26 : decode cX7_character 26 = .ok (.getfield 58, 3) := by decide +kernel
theorem dX7_character_29 : decode cX7_character 29 = .ok (.getfield 256, 3) := by decide +kernel
theorem dX7_character_32 : decode cX7_character 32 = .ok (.iload_n 1, 1) := by decide +kernel
theorem dX7_character_33 : decode cX7_character 33 = .ok (.caload, 1) := by decide +kernel
theorem dX7_character_34 : decode cX7_character 34 = .ok (.ireturn, 1) := by decide +kernel
theorem dX7_meanCost_0 : decode cX7_meanCost 0 = .ok (.aload_n 0, 1) := by decide +kernel
theorem dX7_meanCost_1 : decode cX7_meanCost 1 = .ok (.getfield 12, 3) := by decide +kernel
theorem dX7_meanCost_4 : decode cX7_meanCost 4 = .ok (.invokevirtual 260, 3) := by decide +kernel
theorem dX7_meanCost_7 : decode cX7_meanCost 7 = .ok (.istore_n 1, 1) := by decide +kernel
theorem dX7_meanCost_8 : decode cX7_meanCost 8 = .ok (.iload_n 1, 1) := by decide +kernel
theorem dX7_meanCost_9 : decode cX7_meanCost 9 = .ok (.ifCond .ne 14, 3) := by decide +kernel
theorem dX7_meanCost_12 : decode cX7_meanCost 12 = .ok (.new 263, 3) := by decide +kernel
theorem dX7_meanCost_15 : decode cX7_meanCost 15 = .ok (.dup, 1) := by decide +kernel
theorem dX7_meanCost_16 : decode cX7_meanCost 16 = .ok (.ldc_w 265, 3) := by decide +kernel
theorem dX7_meanCost_19 : decode cX7_meanCost 19 = .ok (.invokespecial 267, 3) := by decide +kernel
theorem dX7_meanCost_22 : decode cX7_meanCost 22 = .ok (.athrow, 1) := by decide +kernel
theorem dX7_meanCost_23 : decode cX7_meanCost 23 = .ok (.aload_n 0, 1) := by decide +kernel
theorem dX7_meanCost_24 : decode cX7_meanCost 24 = .ok (.getfield 12, 3) := by decide +kernel
theorem dX7_meanCost_27 : decode cX7_meanCost 27 = .ok (.aload_n 0, 1) := by decide +kernel
theorem dX7_meanCost_28 : decode cX7_meanCost 28 = .ok (.getfield 12, 3) := by decide +kernel
theorem dX7_meanCost_31 : decode cX7_meanCost 31 = .ok (.getfield 109, 3) := by decide +kernel
theorem dX7_meanCost_34 : decode cX7_meanCost 34 = .ok (.invokevirtual 181, 3) := by decide +kernel
theorem dX7_meanCost_37 : decode cX7_meanCost 37 = .ok (.i2f, 1) := by decide +kernel
theorem dX7_meanCost_38 : decode cX7_meanCost 38 = .ok (.iload_n 1, 1) := by decide +kernel
theorem dX7_meanCost_39 : decode cX7_meanCost 39 = .ok (.i2f, 1) := by decide +kernel
theorem dX7_meanCost_40 : decode cX7_meanCost 40 = .ok (.fdiv, 1) := by decide +kernel
theorem dX7_meanCost_41 : decode cX7_meanCost 41 = .ok (.freturn, 1) := by decide +kernel
theorem dX7_filledShare_0 : decode cX7_filledShare 0 = .ok (.bipush 96, 2) := by decide +kernel
theorem dX7_filledShare_2 : decode cX7_filledShare 2 = .ok (.aload_n 0, 1) := by decide +kernel
theorem dX7_filledShare_3 : decode cX7_filledShare 3 = .ok (.getfield 12, 3) := by decide +kernel
theorem dX7_filledShare_6 : decode cX7_filledShare 6 = .ok (.iconst (-1), 1) := by decide +kernel
theorem dX7_filledShare_7 : decode cX7_filledShare 7 = .ok (.invokevirtual 175, 3) := by decide +kernel
theorem dX7_filledShare_10 : decode cX7_filledShare 10 = .ok (.isub, 1) := by decide +kernel
theorem dX7_filledShare_11 : decode cX7_filledShare 11 = .ok (.i2d, 1) := by decide +kernel
theorem dX7_filledShare_12 : decode cX7_filledShare 12 = .ok (.ldc2_w 268, 3) := by decide +kernel
theorem dX7_filledShare_15 : decode cX7_filledShare 15 = .ok (.ddiv, 1) := by decide +kernel
theorem dX7_filledShare_16 : decode cX7_filledShare 16 = .ok (.dreturn, 1) := by decide +kernel
theorem dX7_account_0 : decode cX7_account 0 = .ok (.iload_n 1, 1) := by decide +kernel
theorem dX7_account_1 : decode cX7_account 1 = .ok (.tableswitch 164 0 9 #[55, 63, 71, 86, 94, 103, 118, 133, 148, 156], 55) := by decide +kernel
theorem dX7_account_56 : decode cX7_account 56 = .ok (.aload_n 0, 1) := by decide +kernel
theorem dX7_account_57 : decode cX7_account 57 = .ok (.getfield 12, 3) := by decide +kernel
theorem dX7_account_60 : decode cX7_account 60 = .ok (.getfield 188, 3) := by decide +kernel
theorem dX7_account_63 : decode cX7_account 63 = .ok (.ireturn, 1) := by decide +kernel
theorem dX7_account_64 : decode cX7_account 64 = .ok (.aload_n 0, 1) := by decide +kernel
theorem dX7_account_65 : decode cX7_account 65 = .ok (.getfield 12, 3) := by decide +kernel
theorem dX7_account_68 : decode cX7_account 68 = .ok (.invokevirtual 260, 3) := by decide +kernel
theorem dX7_account_71 : decode cX7_account 71 = .ok (.ireturn, 1) := by decide +kernel
theorem dX7_account_72 : decode cX7_account 72 = .ok (.aload_n 0, 1) := by decide +kernel
theorem dX7_account_73 : decode cX7_account 73 = .ok (.getfield 12, 3) := by decide +kernel
theorem dX7_account_76 : decode cX7_account 76 = .ok (.aload_n 0, 1) := by decide +kernel
theorem dX7_account_77 : decode cX7_account 77 = .ok (.getfield 12, 3) := by decide +kernel
theorem dX7_account_80 : decode cX7_account 80 = .ok (.getfield 102, 3) := by decide +kernel
theorem dX7_account_83 : decode cX7_account 83 = .ok (.invokevirtual 181, 3) := by decide +kernel
theorem dX7_account_86 : decode cX7_account 86 = .ok (.ireturn, 1) := by decide +kernel
theorem dX7_account_87 : decode cX7_account 87 = .ok (.aload_n 0, 1) := by decide +kernel
theorem dX7_account_88 : decode cX7_account 88 = .ok (.getfield 12, 3) := by decide +kernel
theorem dX7_account_91 : decode cX7_account 91 = .ok (.getfield 270, 3) := by decide +kernel
theorem dX7_account_94 : decode cX7_account 94 = .ok (.ireturn, 1) := by decide +kernel
theorem dX7_account_95 : decode cX7_account 95 = .ok (.aload_n 0, 1) := by decide +kernel
theorem dX7_account_96 : decode cX7_account 96 = .ok (.getfield 12, 3) := by decide +kernel
theorem dX7_account_99 : decode cX7_account 99 = .ok (.iconst (-1), 1) := by decide +kernel
theorem dX7_account_100 : decode cX7_account 100 = .ok (.invokevirtual 175, 3) := by decide +kernel
theorem dX7_account_103 : decode cX7_account 103 = .ok (.ireturn, 1) := by decide +kernel
theorem dX7_account_104 : decode cX7_account 104 = .ok (.aload_n 0, 1) := by decide +kernel
theorem dX7_account_105 : decode cX7_account 105 = .ok (.getfield 12, 3) := by decide +kernel
theorem dX7_account_108 : decode cX7_account 108 = .ok (.aload_n 0, 1) := by decide +kernel
theorem dX7_account_109 : decode cX7_account 109 = .ok (.getfield 12, 3) := by decide +kernel
theorem dX7_account_112 : decode cX7_account 112 = .ok (.getfield 112, 3) := by decide +kernel
theorem dX7_account_115 : decode cX7_account 115 = .ok (.invokevirtual 181, 3) := by decide +kernel
theorem dX7_account_118 : decode cX7_account 118 = .ok (.ireturn, 1) := by decide +kernel
theorem dX7_account_119 : decode cX7_account 119 = .ok (.aload_n 0, 1) := by decide +kernel
theorem dX7_account_120 : decode cX7_account 120 = .ok (.getfield 12, 3) := by decide +kernel
theorem dX7_account_123 : decode cX7_account 123 = .ok (.aload_n 0, 1) := by decide +kernel
theorem dX7_account_124 : decode cX7_account 124 = .ok (.getfield 12, 3) := by decide +kernel
theorem dX7_account_127 : decode cX7_account 127 = .ok (.getfield 109, 3) := by decide +kernel
theorem dX7_account_130 : decode cX7_account 130 = .ok (.invokevirtual 181, 3) := by decide +kernel
theorem dX7_account_133 : decode cX7_account 133 = .ok (.ireturn, 1) := by decide +kernel
theorem dX7_account_134 : decode cX7_account 134 = .ok (.aload_n 0, 1) := by decide +kernel
theorem dX7_account_135 : decode cX7_account 135 = .ok (.getfield 12, 3) := by decide +kernel
theorem dX7_account_138 : decode cX7_account 138 = .ok (.aload_n 0, 1) := by decide +kernel
theorem dX7_account_139 : decode cX7_account 139 = .ok (.getfield 12, 3) := by decide +kernel
theorem dX7_account_142 : decode cX7_account 142 = .ok (.getfield 118, 3) := by decide +kernel
theorem dX7_account_145 : decode cX7_account 145 = .ok (.invokevirtual 181, 3) := by decide +kernel
theorem dX7_account_148 : decode cX7_account 148 = .ok (.ireturn, 1) := by decide +kernel
theorem dX7_account_149 : decode cX7_account 149 = .ok (.aload_n 0, 1) := by decide +kernel
theorem dX7_account_150 : decode cX7_account 150 = .ok (.getfield 44, 3) := by decide +kernel
theorem dX7_account_153 : decode cX7_account 153 = .ok (.getfield 273, 3) := by decide +kernel
theorem dX7_account_156 : decode cX7_account 156 = .ok (.ireturn, 1) := by decide +kernel
theorem dX7_account_157 : decode cX7_account 157 = .ok (.aload_n 0, 1) := by decide +kernel
theorem dX7_account_158 : decode cX7_account 158 = .ok (.getfield 51, 3) := by decide +kernel
theorem dX7_account_161 : decode cX7_account 161 = .ok (.getfield 196, 3) := by decide +kernel
theorem dX7_account_164 : decode cX7_account 164 = .ok (.ireturn, 1) := by decide +kernel
theorem dX7_account_165 : decode cX7_account 165 = .ok (.new 121, 3) := by decide +kernel
theorem dX7_account_168 : decode cX7_account 168 = .ok (.dup, 1) := by decide +kernel
theorem dX7_account_169 : decode cX7_account 169 = .ok (.ldc_w 276, 3) := by decide +kernel
theorem dX7_account_172 : decode cX7_account 172 = .ok (.invokespecial 125, 3) := by decide +kernel
theorem dX7_account_175 : decode cX7_account 175 = .ok (.athrow, 1) := by decide +kernel
theorem dX7_undo_0 : decode cX7_undo 0 = .ok (.aload_n 0, 1) := by decide +kernel
theorem dX7_undo_1 : decode cX7_undo 1 = .ok (.getfield 44, 3) := by decide +kernel
theorem dX7_undo_4 : decode cX7_undo 4 = .ok (.getfield 273, 3) := by decide +kernel
theorem dX7_undo_7 : decode cX7_undo 7 = .ok (.ifCond .ne 14, 3) := by decide +kernel
theorem dX7_undo_10 : decode cX7_undo 10 = .ok (.new 199, 3) := by decide +kernel
theorem dX7_undo_13 : decode cX7_undo 13 = .ok (.dup, 1) := by decide +kernel
theorem dX7_undo_14 : decode cX7_undo 14 = .ok (.ldc_w 278, 3) := by decide +kernel
theorem dX7_undo_17 : decode cX7_undo 17 = .ok (.invokespecial 203, 3) := by decide +kernel
theorem dX7_undo_20 : decode cX7_undo 20 = .ok (.athrow, 1) := by decide +kernel
theorem dX7_undo_21 : decode cX7_undo 21 = .ok (.aload_n 0, 1) := by decide +kernel
theorem dX7_undo_22 : decode cX7_undo 22 = .ok (.getfield 44, 3) := by decide +kernel
theorem dX7_undo_25 : decode cX7_undo 25 = .ok (.invokevirtual 280, 3) := by decide +kernel
theorem dX7_undo_28 : decode cX7_undo 28 = .ok (.aload_n 0, 1) := by decide +kernel
theorem dX7_undo_29 : decode cX7_undo 29 = .ok (.getfield 44, 3) := by decide +kernel
theorem dX7_undo_32 : decode cX7_undo 32 = .ok (.getfield 273, 3) := by decide +kernel
theorem dX7_undo_35 : decode cX7_undo 35 = .ok (.ireturn, 1) := by decide +kernel
theorem dX7_save_0 : decode cX7_save 0 = .ok (.aload_n 0, 1) := by decide +kernel
theorem dX7_save_1 : decode cX7_save 1 = .ok (.getfield 44, 3) := by decide +kernel
theorem dX7_save_4 : decode cX7_save 4 = .ok (.invokevirtual 283, 3) := by decide +kernel
theorem dX7_save_7 : decode cX7_save 7 = .ok (.aload_n 0, 1) := by decide +kernel
theorem dX7_save_8 : decode cX7_save 8 = .ok (.getfield 12, 3) := by decide +kernel
theorem dX7_save_11 : decode cX7_save 11 = .ok (.getfield 188, 3) := by decide +kernel
theorem dX7_save_14 : decode cX7_save 14 = .ok (.ireturn, 1) := by decide +kernel
theorem dX7_restore_0 : decode cX7_restore 0 = .ok (.aload_n 0, 1) := by decide +kernel
theorem dX7_restore_1 : decode cX7_restore 1 = .ok (.getfield 44, 3) := by decide +kernel
theorem dX7_restore_4 : decode cX7_restore 4 = .ok (.getfield 286, 3) := by decide +kernel
theorem dX7_restore_7 : decode cX7_restore 7 = .ok (.ifCond .ne 14, 3) := by decide +kernel
theorem dX7_restore_10 : decode cX7_restore 10 = .ok (.new 199, 3) := by decide +kernel
theorem dX7_restore_13 : decode cX7_restore 13 = .ok (.dup, 1) := by decide +kernel
theorem dX7_restore_14 : decode cX7_restore 14 = .ok (.ldc_w 290, 3) := by decide +kernel
theorem dX7_restore_17 : decode cX7_restore 17 = .ok (.invokespecial 203, 3) := by decide +kernel
theorem dX7_restore_20 : decode cX7_restore 20 = .ok (.athrow, 1) := by decide +kernel
theorem dX7_restore_21 : decode cX7_restore 21 = .ok (.aload_n 0, 1) := by decide +kernel
theorem dX7_restore_22 : decode cX7_restore 22 = .ok (.getfield 44, 3) := by decide +kernel
theorem dX7_restore_25 : decode cX7_restore 25 = .ok (.invokevirtual 292, 3) := by decide +kernel
theorem dX7_restore_28 : decode cX7_restore 28 = .ok (.aload_n 0, 1) := by decide +kernel
theorem dX7_restore_29 : decode cX7_restore 29 = .ok (.getfield 12, 3) := by decide +kernel
theorem dX7_restore_32 : decode cX7_restore 32 = .ok (.getfield 188, 3) := by decide +kernel
theorem dX7_restore_35 : decode cX7_restore 35 = .ok (.ireturn, 1) := by decide +kernel
theorem dX7_confirmed_0 : decode cX7_confirmed 0 = .ok (.iload_n 1, 1) := by decide +kernel
theorem dX7_confirmed_1 : decode cX7_confirmed 1 = .ok (.iconst (-1), 1) := by decide +kernel
theorem dX7_confirmed_2 : decode cX7_confirmed 2 = .ok (.if_icmp .ne 14, 3) := by decide +kernel
theorem dX7_confirmed_5 : decode cX7_confirmed 5 = .ok (.new 225, 3) := by decide +kernel
theorem dX7_confirmed_8 : decode cX7_confirmed 8 = .ok (.dup, 1) := by decide +kernel
theorem dX7_confirmed_9 : decode cX7_confirmed 9 = .ok (.ldc_w 295, 3) := by decide +kernel
theorem dX7_confirmed_12 : decode cX7_confirmed 12 = .ok (.invokespecial 229, 3) := by decide +kernel
theorem dX7_confirmed_15 : decode cX7_confirmed 15 = .ok (.athrow, 1) := by decide +kernel
theorem dX7_confirmed_16 : decode cX7_confirmed 16 = .ok (.aload_n 0, 1) := by decide +kernel
theorem dX7_confirmed_17 : decode cX7_confirmed 17 = .ok (.getfield 44, 3) := by decide +kernel
theorem dX7_confirmed_20 : decode cX7_confirmed 20 = .ok (.invokevirtual 230, 3) := by decide +kernel
theorem dX7_confirmed_23 : decode cX7_confirmed 23 = .ok (.iload_n 1, 1) := by decide +kernel
theorem dX7_confirmed_24 : decode cX7_confirmed 24 = .ok (.ireturn, 1) := by decide +kernel
theorem dX7_carryOut_0 : decode cX7_carryOut 0 = .ok (.aload_n 0, 1) := by decide +kernel
theorem dX7_carryOut_1 : decode cX7_carryOut 1 = .ok (.getfield 51, 3) := by decide +kernel
theorem dX7_carryOut_4 : decode cX7_carryOut 4 = .ok (.iload_n 1, 1) := by decide +kernel
theorem dX7_carryOut_5 : decode cX7_carryOut 5 = .ok (.invokevirtual 297, 3) := by decide +kernel
theorem dX7_carryOut_8 : decode cX7_carryOut 8 = .ok (.istore_n 2, 1) := by decide +kernel
theorem dX7_carryOut_9 : decode cX7_carryOut 9 = .ok (.aload_n 0, 1) := by decide +kernel
theorem dX7_carryOut_10 : decode cX7_carryOut 10 = .ok (.getfield 51, 3) := by decide +kernel
theorem dX7_carryOut_13 : decode cX7_carryOut 13 = .ok (.iload_n 1, 1) := by decide +kernel
theorem dX7_carryOut_14 : decode cX7_carryOut 14 = .ok (.iconst 1, 1) := by decide +kernel
theorem dX7_carryOut_15 : decode cX7_carryOut 15 = .ok (.iadd, 1) := by decide +kernel
theorem dX7_carryOut_16 : decode cX7_carryOut 16 = .ok (.invokevirtual 301, 3) := by decide +kernel
theorem dX7_carryOut_19 : decode cX7_carryOut 19 = .ok (.istore_n 3, 1) := by decide +kernel
theorem dX7_carryOut_20 : decode cX7_carryOut 20 = .ok (.iload_n 2, 1) := by decide +kernel
theorem dX7_carryOut_21 : decode cX7_carryOut 21 = .ok (.bipush 114, 2) := by decide +kernel
theorem dX7_carryOut_23 : decode cX7_carryOut 23 = .ok (.if_icmp .eq 9, 3) := by decide +kernel
theorem dX7_carryOut_26 : decode cX7_carryOut 26 = .ok (.iload_n 2, 1) := by decide +kernel
theorem dX7_carryOut_27 : decode cX7_carryOut 27 = .ok (.bipush 104, 2) := by decide +kernel
theorem dX7_carryOut_29 : decode cX7_carryOut 29 = .ok (.if_icmp .ne 23, 3) := by decide +kernel
theorem dX7_carryOut_32 : decode cX7_carryOut 32 = .ok (.aload_n 0, 1) := by decide +kernel
theorem dX7_carryOut_33 : decode cX7_carryOut 33 = .ok (.getfield 37, 3) := by decide +kernel
theorem dX7_carryOut_36 : decode cX7_carryOut 36 = .ok (.iload_n 3, 1) := by decide +kernel
theorem dX7_carryOut_37 : decode cX7_carryOut 37 = .ok (.iload_n 2, 1) := by decide +kernel
theorem dX7_carryOut_38 : decode cX7_carryOut 38 = .ok (.bipush 104, 2) := by decide +kernel
theorem dX7_carryOut_40 : decode cX7_carryOut 40 = .ok (.if_icmp .ne 7, 3) := by decide +kernel
theorem dX7_carryOut_43 : decode cX7_carryOut 43 = .ok (.iconst 1, 1) := by decide +kernel
theorem dX7_carryOut_44 : decode cX7_carryOut 44 = .ok (.goto 4, 3) := by decide +kernel
theorem dX7_carryOut_47 : decode cX7_carryOut 47 = .ok (.iconst 0, 1) := by decide +kernel
theorem dX7_carryOut_48 : decode cX7_carryOut 48 = .ok (.invokevirtual 87, 3) := by decide +kernel
theorem dX7_carryOut_51 : decode cX7_carryOut 51 = .ok (.ireturn, 1) := by decide +kernel
theorem dX7_carryOut_52 : decode cX7_carryOut 52 = .ok (.iload_n 2, 1) := by decide +kernel
theorem dX7_carryOut_53 : decode cX7_carryOut 53 = .ok (.bipush 120, 2) := by decide +kernel
theorem dX7_carryOut_55 : decode cX7_carryOut 55 = .ok (.if_icmp .ne 12, 3) := by decide +kernel
theorem dX7_carryOut_58 : decode cX7_carryOut 58 = .ok (.aload_n 0, 1) := by decide +kernel
theorem dX7_carryOut_59 : decode cX7_carryOut 59 = .ok (.getfield 37, 3) := by decide +kernel
theorem dX7_carryOut_62 : decode cX7_carryOut 62 = .ok (.iload_n 3, 1) := by decide +kernel
theorem dX7_carryOut_63 : decode cX7_carryOut 63 = .ok (.invokevirtual 91, 3) := by decide +kernel
theorem dX7_carryOut_66 : decode cX7_carryOut 66 = .ok (.ireturn, 1) := by decide +kernel
theorem dX7_carryOut_67 : decode cX7_carryOut 67 = .ok (.iload_n 2, 1) := by decide +kernel
theorem dX7_carryOut_68 : decode cX7_carryOut 68 = .ok (.bipush 112, 2) := by decide +kernel
theorem dX7_carryOut_70 : decode cX7_carryOut 70 = .ok (.if_icmp .ne 32, 3) := by decide +kernel
theorem dX7_carryOut_73 : decode cX7_carryOut 73 = .ok (.aload_n 0, 1) := by decide +kernel
theorem dX7_carryOut_74 : decode cX7_carryOut 74 = .ok (.getfield 37, 3) := by decide +kernel
theorem dX7_carryOut_77 : decode cX7_carryOut 77 = .ok (.iload_n 3, 1) := by decide +kernel
theorem dX7_carryOut_78 : decode cX7_carryOut 78 = .ok (.aload_n 0, 1) := by decide +kernel
theorem dX7_carryOut_79 : decode cX7_carryOut 79 = .ok (.getfield 51, 3) := by decide +kernel
theorem dX7_carryOut_82 : decode cX7_carryOut 82 = .ok (.iload_n 1, 1) := by decide +kernel
theorem dX7_carryOut_83 : decode cX7_carryOut 83 = .ok (.iconst 3, 1) := by decide +kernel
theorem dX7_carryOut_84 : decode cX7_carryOut 84 = .ok (.iadd, 1) := by decide +kernel
theorem dX7_carryOut_85 : decode cX7_carryOut 85 = .ok (.invokevirtual 301, 3) := by decide +kernel
theorem dX7_carryOut_88 : decode cX7_carryOut 88 = .ok (.aload_n 0, 1) := by decide +kernel
theorem dX7_carryOut_89 : decode cX7_carryOut 89 = .ok (.getfield 51, 3) := by decide +kernel
theorem dX7_carryOut_92 : decode cX7_carryOut 92 = .ok (.iload_n 1, 1) := by decide +kernel
theorem dX7_carryOut_93 : decode cX7_carryOut 93 = .ok (.iconst 4, 1) := by decide +kernel
theorem dX7_carryOut_94 : decode cX7_carryOut 94 = .ok (.iadd, 1) := by decide +kernel
theorem dX7_carryOut_95 : decode cX7_carryOut 95 = .ok (.invokevirtual 301, 3) := by decide +kernel
theorem dX7_carryOut_98 : decode cX7_carryOut 98 = .ok (.invokevirtual 77, 3) := by decide +kernel
theorem dX7_carryOut_101 : decode cX7_carryOut 101 = .ok (.ireturn, 1) := by decide +kernel
theorem dX7_carryOut_102 : decode cX7_carryOut 102 = .ok (.aload_n 0, 1) := by decide +kernel
theorem dX7_carryOut_103 : decode cX7_carryOut 103 = .ok (.getfield 37, 3) := by decide +kernel
theorem dX7_carryOut_106 : decode cX7_carryOut 106 = .ok (.iload_n 3, 1) := by decide +kernel
theorem dX7_carryOut_107 : decode cX7_carryOut 107 = .ok (.aload_n 0, 1) := by decide +kernel
theorem dX7_carryOut_108 : decode cX7_carryOut 108 = .ok (.getfield 51, 3) := by decide +kernel
theorem dX7_carryOut_111 : decode cX7_carryOut 111 = .ok (.iload_n 1, 1) := by decide +kernel
theorem dX7_carryOut_112 : decode cX7_carryOut 112 = .ok (.iconst 2, 1) := by decide +kernel
theorem dX7_carryOut_113 : decode cX7_carryOut 113 = .ok (.iadd, 1) := by decide +kernel
theorem dX7_carryOut_114 : decode cX7_carryOut 114 = .ok (.invokevirtual 301, 3) := by decide +kernel
theorem dX7_carryOut_117 : decode cX7_carryOut 117 = .ok (.aload_n 0, 1) := by decide +kernel
theorem dX7_carryOut_118 : decode cX7_carryOut 118 = .ok (.getfield 51, 3) := by decide +kernel
theorem dX7_carryOut_121 : decode cX7_carryOut 121 = .ok (.iload_n 1, 1) := by decide +kernel
theorem dX7_carryOut_122 : decode cX7_carryOut 122 = .ok (.iconst 3, 1) := by decide +kernel
theorem dX7_carryOut_123 : decode cX7_carryOut 123 = .ok (.iadd, 1) := by decide +kernel
theorem dX7_carryOut_124 : decode cX7_carryOut 124 = .ok (.invokevirtual 301, 3) := by decide +kernel
theorem dX7_carryOut_127 : decode cX7_carryOut 127 = .ok (.invokevirtual 81, 3) := by decide +kernel
theorem dX7_carryOut_130 : decode cX7_carryOut 130 = .ok (.ireturn, 1) := by decide +kernel
theorem dX7_checkNet_0 : decode cX7_checkNet 0 = .ok (.aload_n 0, 1) := by decide +kernel
theorem dX7_checkNet_1 : decode cX7_checkNet 1 = .ok (.getfield 12, 3) := by decide +kernel
theorem dX7_checkNet_4 : decode cX7_checkNet 4 = .ok (.iload_n 1, 1) := by decide +kernel
theorem dX7_checkNet_5 : decode cX7_checkNet 5 = .ok (.invokevirtual 304, 3) := by decide +kernel
theorem dX7_checkNet_8 : decode cX7_checkNet 8 = .ok (.ifCond .ne 14, 3) := by decide +kernel
theorem dX7_checkNet_11 : decode cX7_checkNet 11 = .ok (.new 251, 3) := by decide +kernel
theorem dX7_checkNet_14 : decode cX7_checkNet 14 = .ok (.dup, 1) := by decide +kernel
theorem dX7_checkNet_15 : decode cX7_checkNet 15 = .ok (.ldc_w 308, 3) := by decide +kernel
theorem dX7_checkNet_18 : decode cX7_checkNet 18 = .ok (.invokespecial 255, 3) := by decide +kernel
theorem dX7_checkNet_21 : decode cX7_checkNet 21 = .ok (.athrow, 1) := by decide +kernel
theorem dX7_checkNet_22 : decode cX7_checkNet 22 = .ok (.return_, 1) := by decide +kernel
theorem dX7_checkPin_0 : decode cX7_checkPin 0 = .ok (.aload_n 0, 1) := by decide +kernel
theorem dX7_checkPin_1 : decode cX7_checkPin 1 = .ok (.getfield 12, 3) := by decide +kernel
theorem dX7_checkPin_4 : decode cX7_checkPin 4 = .ok (.iload_n 1, 1) := by decide +kernel
theorem dX7_checkPin_5 : decode cX7_checkPin 5 = .ok (.invokevirtual 304, 3) := by decide +kernel
theorem dX7_checkPin_8 : decode cX7_checkPin 8 = .ok (.ifCond .eq 20, 3) := by decide +kernel
theorem dX7_checkPin_11 : decode cX7_checkPin 11 = .ok (.iload_n 2, 1) := by decide +kernel
theorem dX7_checkPin_12 : decode cX7_checkPin 12 = .ok (.ifCond .lt 16, 3) := by decide +kernel
theorem dX7_checkPin_15 : decode cX7_checkPin 15 = .ok (.iload_n 2, 1) := by decide +kernel
theorem dX7_checkPin_16 : decode cX7_checkPin 16 = .ok (.aload_n 0, 1) := by decide +kernel
theorem dX7_checkPin_17 : decode cX7_checkPin 17 = .ok (.getfield 12, 3) := by decide +kernel
theorem dX7_checkPin_20 : decode cX7_checkPin 20 = .ok (.getfield 102, 3) := by decide +kernel
theorem dX7_checkPin_23 : decode cX7_checkPin 23 = .ok (.iload_n 1, 1) := by decide +kernel
theorem dX7_checkPin_24 : decode cX7_checkPin 24 = .ok (.iaload, 1) := by decide +kernel
theorem dX7_checkPin_25 : decode cX7_checkPin 25 = .ok (.if_icmp .lt 14, 3) := by decide +kernel
theorem dX7_checkPin_28 : decode cX7_checkPin 28 = .ok (.new 251, 3) := by decide +kernel
theorem dX7_checkPin_31 : decode cX7_checkPin 31 = .ok (.dup, 1) := by decide +kernel
theorem dX7_checkPin_32 : decode cX7_checkPin 32 = .ok (.ldc_w 310, 3) := by decide +kernel
theorem dX7_checkPin_35 : decode cX7_checkPin 35 = .ok (.invokespecial 255, 3) := by decide +kernel
theorem dX7_checkPin_38 : decode cX7_checkPin 38 = .ok (.athrow, 1) := by decide +kernel
theorem dX7_checkPin_39 : decode cX7_checkPin 39 = .ok (.return_, 1) := by decide +kernel
theorem dX7_checkCell_0 : decode cX7_checkCell 0 = .ok (.iload_n 1, 1) := by decide +kernel
theorem dX7_checkCell_1 : decode cX7_checkCell 1 = .ok (.iload_n 2, 1) := by decide +kernel
theorem dX7_checkCell_2 : decode cX7_checkCell 2 = .ok (.iload_n 3, 1) := by decide +kernel
theorem dX7_checkCell_3 : decode cX7_checkCell 3 = .ok (.invokestatic 312, 3) := by decide +kernel
theorem dX7_checkCell_6 : decode cX7_checkCell 6 = .ok (.ifCond .ne 14, 3) := by decide +kernel
theorem dX7_checkCell_9 : decode cX7_checkCell 9 = .ok (.new 251, 3) := by decide +kernel
theorem dX7_checkCell_12 : decode cX7_checkCell 12 = .ok (.dup, 1) := by decide +kernel
theorem dX7_checkCell_13 : decode cX7_checkCell 13 = .ok (.ldc_w 316, 3) := by decide +kernel
theorem dX7_checkCell_16 : decode cX7_checkCell 16 = .ok (.invokespecial 255, 3) := by decide +kernel
theorem dX7_checkCell_19 : decode cX7_checkCell 19 = .ok (.athrow, 1) := by decide +kernel
theorem dX7_checkCell_20 : decode cX7_checkCell 20 = .ok (.return_, 1) := by decide +kernel
theorem dX7_isCell_0 : decode cX7_isCell 0 = .ok (.iload_n 0, 1) := by decide +kernel
theorem dX7_isCell_1 : decode cX7_isCell 1 = .ok (.ifCond .lt 32, 3) := by decide +kernel
theorem dX7_isCell_4 : decode cX7_isCell 4 = .ok (.iload_n 0, 1) := by decide +kernel
theorem dX7_isCell_5 : decode cX7_isCell 5 = .ok (.bipush 6, 2) := by decide +kernel
theorem dX7_isCell_7 : decode cX7_isCell 7 = .ok (.if_icmp .ge 26, 3) := by decide +kernel
theorem dX7_isCell_10 : decode cX7_isCell 10 = .ok (.iload_n 1, 1) := by decide +kernel
theorem dX7_isCell_11 : decode cX7_isCell 11 = .ok (.ifCond .lt 22, 3) := by decide +kernel
theorem dX7_isCell_14 : decode cX7_isCell 14 = .ok (.iload_n 1, 1) := by decide +kernel
theorem dX7_isCell_15 : decode cX7_isCell 15 = .ok (.bipush 8, 2) := by decide +kernel
theorem dX7_isCell_17 : decode cX7_isCell 17 = .ok (.if_icmp .ge 16, 3) := by decide +kernel
theorem dX7_isCell_20 : decode cX7_isCell 20 = .ok (.iload_n 2, 1) := by decide +kernel
theorem dX7_isCell_21 : decode cX7_isCell 21 = .ok (.ifCond .lt 12, 3) := by decide +kernel
theorem dX7_isCell_24 : decode cX7_isCell 24 = .ok (.iload_n 2, 1) := by decide +kernel
theorem dX7_isCell_25 : decode cX7_isCell 25 = .ok (.iconst 2, 1) := by decide +kernel
theorem dX7_isCell_26 : decode cX7_isCell 26 = .ok (.if_icmp .ge 7, 3) := by decide +kernel
theorem dX7_isCell_29 : decode cX7_isCell 29 = .ok (.iconst 1, 1) := by decide +kernel
theorem dX7_isCell_30 : decode cX7_isCell 30 = .ok (.goto 4, 3) := by decide +kernel
theorem dX7_isCell_33 : decode cX7_isCell 33 = .ok (.iconst 0, 1) := by decide +kernel
theorem dX7_isCell_34 : decode cX7_isCell 34 = .ok (.ireturn, 1) := by decide +kernel
theorem dX7_cellAt_0 : decode cX7_cellAt 0 = .ok (.iload_n 2, 1) := by decide +kernel
theorem dX7_cellAt_1 : decode cX7_cellAt 1 = .ok (.bipush 48, 2) := by decide +kernel
theorem dX7_cellAt_3 : decode cX7_cellAt 3 = .ok (.imul, 1) := by decide +kernel
theorem dX7_cellAt_4 : decode cX7_cellAt 4 = .ok (.iload_n 0, 1) := by decide +kernel
theorem dX7_cellAt_5 : decode cX7_cellAt 5 = .ok (.bipush 8, 2) := by decide +kernel
theorem dX7_cellAt_7 : decode cX7_cellAt 7 = .ok (.imul, 1) := by decide +kernel
theorem dX7_cellAt_8 : decode cX7_cellAt 8 = .ok (.iadd, 1) := by decide +kernel
theorem dX7_cellAt_9 : decode cX7_cellAt 9 = .ok (.iload_n 1, 1) := by decide +kernel
theorem dX7_cellAt_10 : decode cX7_cellAt 10 = .ok (.iadd, 1) := by decide +kernel
theorem dX7_cellAt_11 : decode cX7_cellAt 11 = .ok (.ireturn, 1) := by decide +kernel
theorem dX7_beside_0 : decode cX7_beside 0 = .ok (.iload_n 0, 1) := by decide +kernel
theorem dX7_beside_1 : decode cX7_beside 1 = .ok (.bipush 48, 2) := by decide +kernel
theorem dX7_beside_3 : decode cX7_beside 3 = .ok (.irem, 1) := by decide +kernel
theorem dX7_beside_4 : decode cX7_beside 4 = .ok (.istore_n 2, 1) := by decide +kernel
theorem dX7_beside_5 : decode cX7_beside 5 = .ok (.iload_n 1, 1) := by decide +kernel
theorem dX7_beside_6 : decode cX7_beside 6 = .ok (.tableswitch 92 0 3 #[30, 45, 60, 75], 30) := by decide +kernel
theorem dX7_beside_36 : decode cX7_beside 36 = .ok (.iload_n 2, 1) := by decide +kernel
theorem dX7_beside_37 : decode cX7_beside 37 = .ok (.bipush 8, 2) := by decide +kernel
theorem dX7_beside_39 : decode cX7_beside 39 = .ok (.if_icmp .ge 7, 3) := by decide +kernel
theorem dX7_beside_42 : decode cX7_beside 42 = .ok (.iconst (-1), 1) := by decide +kernel
theorem dX7_beside_43 : decode cX7_beside 43 = .ok (.goto 7, 3) := by decide +kernel
theorem dX7_beside_46 : decode cX7_beside 46 = .ok (.iload_n 0, 1) := by decide +kernel
theorem dX7_beside_47 : decode cX7_beside 47 = .ok (.bipush 8, 2) := by decide +kernel
theorem dX7_beside_49 : decode cX7_beside 49 = .ok (.isub, 1) := by decide +kernel
theorem dX7_beside_50 : decode cX7_beside 50 = .ok (.ireturn, 1) := by decide +kernel
theorem dX7_beside_51 : decode cX7_beside 51 = .ok (.iload_n 2, 1) := by decide +kernel
theorem dX7_beside_52 : decode cX7_beside 52 = .ok (.bipush 40, 2) := by decide +kernel
theorem dX7_beside_54 : decode cX7_beside 54 = .ok (.if_icmp .lt 7, 3) := by decide +kernel
theorem dX7_beside_57 : decode cX7_beside 57 = .ok (.iconst (-1), 1) := by decide +kernel
theorem dX7_beside_58 : decode cX7_beside 58 = .ok (.goto 7, 3) := by decide +kernel
theorem dX7_beside_61 : decode cX7_beside 61 = .ok (.iload_n 0, 1) := by decide +kernel
theorem dX7_beside_62 : decode cX7_beside 62 = .ok (.bipush 8, 2) := by decide +kernel
theorem dX7_beside_64 : decode cX7_beside 64 = .ok (.iadd, 1) := by decide +kernel
theorem dX7_beside_65 : decode cX7_beside 65 = .ok (.ireturn, 1) := by decide +kernel
theorem dX7_beside_66 : decode cX7_beside 66 = .ok (.iload_n 2, 1) := by decide +kernel
theorem dX7_beside_67 : decode cX7_beside 67 = .ok (.bipush 8, 2) := by decide +kernel
theorem dX7_beside_69 : decode cX7_beside 69 = .ok (.irem, 1) := by decide +kernel
theorem dX7_beside_70 : decode cX7_beside 70 = .ok (.ifCond .ne 7, 3) := by decide +kernel
theorem dX7_beside_73 : decode cX7_beside 73 = .ok (.iconst (-1), 1) := by decide +kernel
theorem dX7_beside_74 : decode cX7_beside 74 = .ok (.goto 6, 3) := by decide +kernel
theorem dX7_beside_77 : decode cX7_beside 77 = .ok (.iload_n 0, 1) := by decide +kernel
theorem dX7_beside_78 : decode cX7_beside 78 = .ok (.iconst 1, 1) := by decide +kernel
theorem dX7_beside_79 : decode cX7_beside 79 = .ok (.isub, 1) := by decide +kernel
theorem dX7_beside_80 : decode cX7_beside 80 = .ok (.ireturn, 1) := by decide +kernel
theorem dX7_beside_81 : decode cX7_beside 81 = .ok (.iload_n 2, 1) := by decide +kernel
theorem dX7_beside_82 : decode cX7_beside 82 = .ok (.bipush 8, 2) := by decide +kernel
theorem dX7_beside_84 : decode cX7_beside 84 = .ok (.irem, 1) := by decide +kernel
theorem dX7_beside_85 : decode cX7_beside 85 = .ok (.bipush 7, 2) := by decide +kernel
theorem dX7_beside_87 : decode cX7_beside 87 = .ok (.if_icmp .ne 7, 3) := by decide +kernel
theorem dX7_beside_90 : decode cX7_beside 90 = .ok (.iconst (-1), 1) := by decide +kernel
theorem dX7_beside_91 : decode cX7_beside 91 = .ok (.goto 6, 3) := by decide +kernel
theorem dX7_beside_94 : decode cX7_beside 94 = .ok (.iload_n 0, 1) := by decide +kernel
theorem dX7_beside_95 : decode cX7_beside 95 = .ok (.iconst 1, 1) := by decide +kernel
theorem dX7_beside_96 : decode cX7_beside 96 = .ok (.iadd, 1) := by decide +kernel
theorem dX7_beside_97 : decode cX7_beside 97 = .ok (.ireturn, 1) := by decide +kernel
theorem dX7_beside_98 : decode cX7_beside 98 = .ok (.iload_n 0, 1) := by decide +kernel
theorem dX7_beside_99 : decode cX7_beside 99 = .ok (.bipush 48, 2) := by decide +kernel
theorem dX7_beside_101 : decode cX7_beside 101 = .ok (.if_icmp .ge 10, 3) := by decide +kernel
theorem dX7_beside_104 : decode cX7_beside 104 = .ok (.iload_n 0, 1) := by decide +kernel
theorem dX7_beside_105 : decode cX7_beside 105 = .ok (.bipush 48, 2) := by decide +kernel
theorem dX7_beside_107 : decode cX7_beside 107 = .ok (.iadd, 1) := by decide +kernel
theorem dX7_beside_108 : decode cX7_beside 108 = .ok (.goto 7, 3) := by decide +kernel
theorem dX7_beside_111 : decode cX7_beside 111 = .ok (.iload_n 0, 1) := by decide +kernel
theorem dX7_beside_112 : decode cX7_beside 112 = .ok (.bipush 48, 2) := by decide +kernel
theorem dX7_beside_114 : decode cX7_beside 114 = .ok (.isub, 1) := by decide +kernel
theorem dX7_beside_115 : decode cX7_beside 115 = .ok (.ireturn, 1) := by decide +kernel
