theorem dX0_init_0 : decode cX0_init 0 = .ok (.aload_n 0, 1) := by decide +kernel
theorem dX0_init_1 : decode cX0_init 1 = .ok (.invokespecial 3, 3) := by decide +kernel
theorem dX0_init_4 : decode cX0_init 4 = .ok (.aload_n 0, 1) := by decide +kernel
theorem dX0_init_5 : decode cX0_init 5 = .ok (.iconst 0, 1) := by decide +kernel
theorem dX0_init_6 : decode cX0_init 6 = .ok (.putfield 9, 3) := by decide +kernel
theorem dX0_init_9 : decode cX0_init 9 = .ok (.aload_n 0, 1) := by decide +kernel
theorem dX0_init_10 : decode cX0_init 10 = .ok (.iconst 0, 1) := by decide +kernel
theorem dX0_init_11 : decode cX0_init 11 = .ok (.putfield 15, 3) := by decide +kernel
theorem dX0_init_14 : decode cX0_init 14 = .ok (.aload_n 0, 1) := by decide +kernel
theorem dX0_init_15 : decode cX0_init 15 = .ok (.bipush 6, 2) := by decide +kernel
theorem dX0_init_17 : decode cX0_init 17 = .ok (.newarray .boolean, 2) := by decide +kernel
theorem dX0_init_19 : decode cX0_init 19 = .ok (.putfield 18, 3) := by decide +kernel
theorem dX0_init_22 : decode cX0_init 22 = .ok (.aload_n 0, 1) := by decide +kernel
theorem dX0_init_23 : decode cX0_init 23 = .ok (.bipush 6, 2) := by decide +kernel
theorem dX0_init_25 : decode cX0_init 25 = .ok (.newarray .boolean, 2) := by decide +kernel
theorem dX0_init_27 : decode cX0_init 27 = .ok (.putfield 22, 3) := by decide +kernel
theorem dX0_init_30 : decode cX0_init 30 = .ok (.aload_n 0, 1) := by decide +kernel
theorem dX0_init_31 : decode cX0_init 31 = .ok (.bipush 6, 2) := by decide +kernel
theorem dX0_init_33 : decode cX0_init 33 = .ok (.newarray .int, 2) := by decide +kernel
theorem dX0_init_35 : decode cX0_init 35 = .ok (.putfield 25, 3) := by decide +kernel
theorem dX0_init_38 : decode cX0_init 38 = .ok (.aload_n 0, 1) := by decide +kernel
theorem dX0_init_39 : decode cX0_init 39 = .ok (.bipush 6, 2) := by decide +kernel
theorem dX0_init_41 : decode cX0_init 41 = .ok (.newarray .int, 2) := by decide +kernel
theorem dX0_init_43 : decode cX0_init 43 = .ok (.putfield 29, 3) := by decide +kernel
theorem dX0_init_46 : decode cX0_init 46 = .ok (.aload_n 0, 1) := by decide +kernel
theorem dX0_init_47 : decode cX0_init 47 = .ok (.bipush 6, 2) := by decide +kernel
theorem dX0_init_49 : decode cX0_init 49 = .ok (.newarray .int, 2) := by decide +kernel
theorem dX0_init_51 : decode cX0_init 51 = .ok (.putfield 32, 3) := by decide +kernel
theorem dX0_init_54 : decode cX0_init 54 = .ok (.aload_n 0, 1) := by decide +kernel
theorem dX0_init_55 : decode cX0_init 55 = .ok (.bipush 6, 2) := by decide +kernel
theorem dX0_init_57 : decode cX0_init 57 = .ok (.newarray .int, 2) := by decide +kernel
theorem dX0_init_59 : decode cX0_init 59 = .ok (.putfield 35, 3) := by decide +kernel
theorem dX0_init_62 : decode cX0_init 62 = .ok (.aload_n 0, 1) := by decide +kernel
theorem dX0_init_63 : decode cX0_init 63 = .ok (.bipush 6, 2) := by decide +kernel
theorem dX0_init_65 : decode cX0_init 65 = .ok (.newarray .int, 2) := by decide +kernel
theorem dX0_init_67 : decode cX0_init 67 = .ok (.putfield 38, 3) := by decide +kernel
theorem dX0_init_70 : decode cX0_init 70 = .ok (.aload_n 0, 1) := by decide +kernel
theorem dX0_init_71 : decode cX0_init 71 = .ok (.bipush 24, 2) := by decide +kernel
theorem dX0_init_73 : decode cX0_init 73 = .ok (.newarray .int, 2) := by decide +kernel
theorem dX0_init_75 : decode cX0_init 75 = .ok (.putfield 41, 3) := by decide +kernel
theorem dX0_init_78 : decode cX0_init 78 = .ok (.aload_n 0, 1) := by decide +kernel
theorem dX0_init_79 : decode cX0_init 79 = .ok (.bipush 96, 2) := by decide +kernel
theorem dX0_init_81 : decode cX0_init 81 = .ok (.newarray .int, 2) := by decide +kernel
theorem dX0_init_83 : decode cX0_init 83 = .ok (.putfield 44, 3) := by decide +kernel
theorem dX0_init_86 : decode cX0_init 86 = .ok (.aload_n 0, 1) := by decide +kernel
theorem dX0_init_87 : decode cX0_init 87 = .ok (.bipush 48, 2) := by decide +kernel
theorem dX0_init_89 : decode cX0_init 89 = .ok (.newarray .boolean, 2) := by decide +kernel
theorem dX0_init_91 : decode cX0_init 91 = .ok (.putfield 47, 3) := by decide +kernel
theorem dX0_init_94 : decode cX0_init 94 = .ok (.aload_n 0, 1) := by decide +kernel
theorem dX0_init_95 : decode cX0_init 95 = .ok (.bipush 48, 2) := by decide +kernel
theorem dX0_init_97 : decode cX0_init 97 = .ok (.newarray .boolean, 2) := by decide +kernel
theorem dX0_init_99 : decode cX0_init 99 = .ok (.putfield 50, 3) := by decide +kernel
theorem dX0_init_102 : decode cX0_init 102 = .ok (.iconst 0, 1) := by decide +kernel
theorem dX0_init_103 : decode cX0_init 103 = .ok (.istore_n 1, 1) := by decide +kernel
theorem dX0_init_104 : decode cX0_init 104 = .ok (.iload_n 1, 1) := by decide +kernel
theorem dX0_init_105 : decode cX0_init 105 = .ok (.bipush 96, 2) := by decide +kernel
theorem dX0_init_107 : decode cX0_init 107 = .ok (.if_icmp .ge 16, 3) := by decide +kernel
theorem dX0_init_110 : decode cX0_init 110 = .ok (.aload_n 0, 1) := by decide +kernel
theorem dX0_init_111 : decode cX0_init 111 = .ok (.getfield 44, 3) := by decide +kernel
theorem dX0_init_114 : decode cX0_init 114 = .ok (.iload_n 1, 1) := by decide +kernel
theorem dX0_init_115 : decode cX0_init 115 = .ok (.iconst (-1), 1) := by decide +kernel
theorem dX0_init_116 : decode cX0_init 116 = .ok (.iastore, 1) := by decide +kernel
theorem dX0_init_117 : decode cX0_init 117 = .ok (.iinc 1 1, 3) := by decide +kernel
theorem dX0_init_120 : decode cX0_init 120 = .ok (.goto (-16), 3) := by decide +kernel
theorem dX0_init_123 : decode cX0_init 123 = .ok (.return_, 1) := by decide +kernel
theorem dX0_copyFrom_0 : decode cX0_copyFrom 0 = .ok (.aload_n 0, 1) := by decide +kernel
theorem dX0_copyFrom_1 : decode cX0_copyFrom 1 = .ok (.aload_n 1, 1) := by decide +kernel
theorem dX0_copyFrom_2 : decode cX0_copyFrom 2 = .ok (.getfield 9, 3) := by decide +kernel
theorem dX0_copyFrom_5 : decode cX0_copyFrom 5 = .ok (.putfield 9, 3) := by decide +kernel
theorem dX0_copyFrom_8 : decode cX0_copyFrom 8 = .ok (.aload_n 0, 1) := by decide +kernel
theorem dX0_copyFrom_9 : decode cX0_copyFrom 9 = .ok (.aload_n 1, 1) := by decide +kernel
theorem dX0_copyFrom_10 : decode cX0_copyFrom 10 = .ok (.getfield 15, 3) := by decide +kernel
theorem dX0_copyFrom_13 : decode cX0_copyFrom 13 = .ok (.putfield 15, 3) := by decide +kernel
theorem dX0_copyFrom_16 : decode cX0_copyFrom 16 = .ok (.iconst 0, 1) := by decide +kernel
theorem dX0_copyFrom_17 : decode cX0_copyFrom 17 = .ok (.istore_n 2, 1) := by decide +kernel
theorem dX0_copyFrom_18 : decode cX0_copyFrom 18 = .ok (.iload_n 2, 1) := by decide +kernel
theorem dX0_copyFrom_19 : decode cX0_copyFrom 19 = .ok (.bipush 6, 2) := by decide +kernel
theorem dX0_copyFrom_21 : decode cX0_copyFrom 21 = .ok (.if_icmp .ge 33, 3) := by decide +kernel
theorem dX0_copyFrom_24 : decode cX0_copyFrom 24 = .ok (.aload_n 0, 1) := by decide +kernel
theorem dX0_copyFrom_25 : decode cX0_copyFrom 25 = .ok (.getfield 18, 3) := by decide +kernel
theorem dX0_copyFrom_28 : decode cX0_copyFrom 28 = .ok (.iload_n 2, 1) := by decide +kernel
theorem dX0_copyFrom_29 : decode cX0_copyFrom 29 = .ok (.aload_n 1, 1) := by decide +kernel
theorem dX0_copyFrom_30 : decode cX0_copyFrom 30 = .ok (.getfield 18, 3) := by decide +kernel
theorem dX0_copyFrom_33 : decode cX0_copyFrom 33 = .ok (.iload_n 2, 1) := by decide +kernel
theorem dX0_copyFrom_34 : decode cX0_copyFrom 34 = .ok (.baload, 1) := by decide +kernel
theorem dX0_copyFrom_35 : decode cX0_copyFrom 35 = .ok (.bastore, 1) := by decide +kernel
theorem dX0_copyFrom_36 : decode cX0_copyFrom 36 = .ok (.aload_n 0, 1) := by decide +kernel
theorem dX0_copyFrom_37 : decode cX0_copyFrom 37 = .ok (.getfield 22, 3) := by decide +kernel
theorem dX0_copyFrom_40 : decode cX0_copyFrom 40 = .ok (.iload_n 2, 1) := by decide +kernel
theorem dX0_copyFrom_41 : decode cX0_copyFrom 41 = .ok (.aload_n 1, 1) := by decide +kernel
theorem dX0_copyFrom_42 : decode cX0_copyFrom 42 = .ok (.getfield 22, 3) := by decide +kernel
theorem dX0_copyFrom_45 : decode cX0_copyFrom 45 = .ok (.iload_n 2, 1) := by decide +kernel
theorem dX0_copyFrom_46 : decode cX0_copyFrom 46 = .ok (.baload, 1) := by decide +kernel
theorem dX0_copyFrom_47 : decode cX0_copyFrom 47 = .ok (.bastore, 1) := by decide +kernel
theorem dX0_copyFrom_48 : decode cX0_copyFrom 48 = .ok (.iinc 2 1, 3) := by decide +kernel
theorem dX0_copyFrom_51 : decode cX0_copyFrom 51 = .ok (.goto (-33), 3) := by decide +kernel
theorem dX0_copyFrom_54 : decode cX0_copyFrom 54 = .ok (.iconst 0, 1) := by decide +kernel
theorem dX0_copyFrom_55 : decode cX0_copyFrom 55 = .ok (.istore_n 2, 1) := by decide +kernel
theorem dX0_copyFrom_56 : decode cX0_copyFrom 56 = .ok (.iload_n 2, 1) := by decide +kernel
theorem dX0_copyFrom_57 : decode cX0_copyFrom 57 = .ok (.bipush 48, 2) := by decide +kernel
theorem dX0_copyFrom_59 : decode cX0_copyFrom 59 = .ok (.if_icmp .ge 33, 3) := by decide +kernel
theorem dX0_copyFrom_62 : decode cX0_copyFrom 62 = .ok (.aload_n 0, 1) := by decide +kernel
theorem dX0_copyFrom_63 : decode cX0_copyFrom 63 = .ok (.getfield 47, 3) := by decide +kernel
theorem dX0_copyFrom_66 : decode cX0_copyFrom 66 = .ok (.iload_n 2, 1) := by decide +kernel
theorem dX0_copyFrom_67 : decode cX0_copyFrom 67 = .ok (.aload_n 1, 1) := by decide +kernel
theorem dX0_copyFrom_68 : decode cX0_copyFrom 68 = .ok (.getfield 47, 3) := by decide +kernel
theorem dX0_copyFrom_71 : decode cX0_copyFrom 71 = .ok (.iload_n 2, 1) := by decide +kernel
theorem dX0_copyFrom_72 : decode cX0_copyFrom 72 = .ok (.baload, 1) := by decide +kernel
theorem dX0_copyFrom_73 : decode cX0_copyFrom 73 = .ok (.bastore, 1) := by decide +kernel
theorem dX0_copyFrom_74 : decode cX0_copyFrom 74 = .ok (.aload_n 0, 1) := by decide +kernel
theorem dX0_copyFrom_75 : decode cX0_copyFrom 75 = .ok (.getfield 50, 3) := by decide +kernel
theorem dX0_copyFrom_78 : decode cX0_copyFrom 78 = .ok (.iload_n 2, 1) := by decide +kernel
theorem dX0_copyFrom_79 : decode cX0_copyFrom 79 = .ok (.aload_n 1, 1) := by decide +kernel
theorem dX0_copyFrom_80 : decode cX0_copyFrom 80 = .ok (.getfield 50, 3) := by decide +kernel
theorem dX0_copyFrom_83 : decode cX0_copyFrom 83 = .ok (.iload_n 2, 1) := by decide +kernel
theorem dX0_copyFrom_84 : decode cX0_copyFrom 84 = .ok (.baload, 1) := by decide +kernel
theorem dX0_copyFrom_85 : decode cX0_copyFrom 85 = .ok (.bastore, 1) := by decide +kernel
theorem dX0_copyFrom_86 : decode cX0_copyFrom 86 = .ok (.iinc 2 1, 3) := by decide +kernel
theorem dX0_copyFrom_89 : decode cX0_copyFrom 89 = .ok (.goto (-33), 3) := by decide +kernel
theorem dX0_copyFrom_92 : decode cX0_copyFrom 92 = .ok (.aload_n 1, 1) := by decide +kernel
theorem dX0_copyFrom_93 : decode cX0_copyFrom 93 = .ok (.getfield 25, 3) := by decide +kernel
theorem dX0_copyFrom_96 : decode cX0_copyFrom 96 = .ok (.iconst 0, 1) := by decide +kernel
theorem dX0_copyFrom_97 : decode cX0_copyFrom 97 = .ok (.aload_n 0, 1) := by decide +kernel
theorem dX0_copyFrom_98 : decode cX0_copyFrom 98 = .ok (.getfield 25, 3) := by decide +kernel
theorem dX0_copyFrom_101 : decode cX0_copyFrom 101 = .ok (.iconst 0, 1) := by decide +kernel
theorem dX0_copyFrom_102 : decode cX0_copyFrom 102 = .ok (.bipush 6, 2) := by decide +kernel
theorem dX0_copyFrom_104 : decode cX0_copyFrom 104 = .ok (.invokestatic 53, 3) := by decide +kernel
theorem dX0_copyFrom_107 : decode cX0_copyFrom 107 = .ok (.aload_n 1, 1) := by decide +kernel
theorem dX0_copyFrom_108 : decode cX0_copyFrom 108 = .ok (.getfield 29, 3) := by decide +kernel
theorem dX0_copyFrom_111 : decode cX0_copyFrom 111 = .ok (.iconst 0, 1) := by decide +kernel
theorem dX0_copyFrom_112 : decode cX0_copyFrom 112 = .ok (.aload_n 0, 1) := by decide +kernel
theorem dX0_copyFrom_113 : decode cX0_copyFrom 113 = .ok (.getfield 29, 3) := by decide +kernel
theorem dX0_copyFrom_116 : decode cX0_copyFrom 116 = .ok (.iconst 0, 1) := by decide +kernel
theorem dX0_copyFrom_117 : decode cX0_copyFrom 117 = .ok (.bipush 6, 2) := by decide +kernel
theorem dX0_copyFrom_119 : decode cX0_copyFrom 119 = .ok (.invokestatic 53, 3) := by decide +kernel
theorem dX0_copyFrom_122 : decode cX0_copyFrom 122 = .ok (.aload_n 1, 1) := by decide +kernel
theorem dX0_copyFrom_123 : decode cX0_copyFrom 123 = .ok (.getfield 32, 3) := by decide +kernel
theorem dX0_copyFrom_126 : decode cX0_copyFrom 126 = .ok (.iconst 0, 1) := by decide +kernel
theorem dX0_copyFrom_127 : decode cX0_copyFrom 127 = .ok (.aload_n 0, 1) := by decide +kernel
theorem dX0_copyFrom_128 : decode cX0_copyFrom 128 = .ok (.getfield 32, 3) := by decide +kernel
theorem dX0_copyFrom_131 : decode cX0_copyFrom 131 = .ok (.iconst 0, 1) := by decide +kernel
theorem dX0_copyFrom_132 : decode cX0_copyFrom 132 = .ok (.bipush 6, 2) := by decide +kernel
theorem dX0_copyFrom_134 : decode cX0_copyFrom 134 = .ok (.invokestatic 53, 3) := by decide +kernel
theorem dX0_copyFrom_137 : decode cX0_copyFrom 137 = .ok (.aload_n 1, 1) := by decide +kernel
theorem dX0_copyFrom_138 : decode cX0_copyFrom 138 = .ok (.getfield 35, 3) := by decide +kernel
theorem dX0_copyFrom_141 : decode cX0_copyFrom 141 = .ok (.iconst 0, 1) := by decide +kernel
theorem dX0_copyFrom_142 : decode cX0_copyFrom 142 = .ok (.aload_n 0, 1) := by decide +kernel
theorem dX0_copyFrom_143 : decode cX0_copyFrom 143 = .ok (.getfield 35, 3) := by decide +kernel
theorem dX0_copyFrom_146 : decode cX0_copyFrom 146 = .ok (.iconst 0, 1) := by decide +kernel
theorem dX0_copyFrom_147 : decode cX0_copyFrom 147 = .ok (.bipush 6, 2) := by decide +kernel
theorem dX0_copyFrom_149 : decode cX0_copyFrom 149 = .ok (.invokestatic 53, 3) := by decide +kernel
theorem dX0_copyFrom_152 : decode cX0_copyFrom 152 = .ok (.aload_n 1, 1) := by decide +kernel
theorem dX0_copyFrom_153 : decode cX0_copyFrom 153 = .ok (.getfield 38, 3) := by decide +kernel
theorem dX0_copyFrom_156 : decode cX0_copyFrom 156 = .ok (.iconst 0, 1) := by decide +kernel
theorem dX0_copyFrom_157 : decode cX0_copyFrom 157 = .ok (.aload_n 0, 1) := by decide +kernel
theorem dX0_copyFrom_158 : decode cX0_copyFrom 158 = .ok (.getfield 38, 3) := by decide +kernel
theorem dX0_copyFrom_161 : decode cX0_copyFrom 161 = .ok (.iconst 0, 1) := by decide +kernel
theorem dX0_copyFrom_162 : decode cX0_copyFrom 162 = .ok (.bipush 6, 2) := by decide +kernel
theorem dX0_copyFrom_164 : decode cX0_copyFrom 164 = .ok (.invokestatic 53, 3) := by decide +kernel
theorem dX0_copyFrom_167 : decode cX0_copyFrom 167 = .ok (.aload_n 1, 1) := by decide +kernel
theorem dX0_copyFrom_168 : decode cX0_copyFrom 168 = .ok (.getfield 41, 3) := by decide +kernel
theorem dX0_copyFrom_171 : decode cX0_copyFrom 171 = .ok (.iconst 0, 1) := by decide +kernel
theorem dX0_copyFrom_172 : decode cX0_copyFrom 172 = .ok (.aload_n 0, 1) := by decide +kernel
theorem dX0_copyFrom_173 : decode cX0_copyFrom 173 = .ok (.getfield 41, 3) := by decide +kernel
theorem dX0_copyFrom_176 : decode cX0_copyFrom 176 = .ok (.iconst 0, 1) := by decide +kernel
theorem dX0_copyFrom_177 : decode cX0_copyFrom 177 = .ok (.bipush 24, 2) := by decide +kernel
theorem dX0_copyFrom_179 : decode cX0_copyFrom 179 = .ok (.invokestatic 53, 3) := by decide +kernel
theorem dX0_copyFrom_182 : decode cX0_copyFrom 182 = .ok (.aload_n 1, 1) := by decide +kernel
theorem dX0_copyFrom_183 : decode cX0_copyFrom 183 = .ok (.getfield 44, 3) := by decide +kernel
theorem dX0_copyFrom_186 : decode cX0_copyFrom 186 = .ok (.iconst 0, 1) := by decide +kernel
theorem dX0_copyFrom_187 : decode cX0_copyFrom 187 = .ok (.aload_n 0, 1) := by decide +kernel
theorem dX0_copyFrom_188 : decode cX0_copyFrom 188 = .ok (.getfield 44, 3) := by decide +kernel
theorem dX0_copyFrom_191 : decode cX0_copyFrom 191 = .ok (.iconst 0, 1) := by decide +kernel
theorem dX0_copyFrom_192 : decode cX0_copyFrom 192 = .ok (.bipush 96, 2) := by decide +kernel
theorem dX0_copyFrom_194 : decode cX0_copyFrom 194 = .ok (.invokestatic 53, 3) := by decide +kernel
theorem dX0_copyFrom_197 : decode cX0_copyFrom 197 = .ok (.return_, 1) := by decide +kernel
theorem dX0_hasNet_0 : decode cX0_hasNet 0 = .ok (.iload_n 1, 1) := by decide +kernel
theorem dX0_hasNet_1 : decode cX0_hasNet 1 = .ok (.ifCond .lt 15, 3) := by decide +kernel
theorem dX0_hasNet_4 : decode cX0_hasNet 4 = .ok (.iload_n 1, 1) := by decide +kernel
theorem dX0_hasNet_5 : decode cX0_hasNet 5 = .ok (.aload_n 0, 1) := by decide +kernel
theorem dX0_hasNet_6 : decode cX0_hasNet 6 = .ok (.getfield 9, 3) := by decide +kernel
theorem dX0_hasNet_9 : decode cX0_hasNet 9 = .ok (.if_icmp .ge 7, 3) := by decide +kernel
theorem dX0_hasNet_12 : decode cX0_hasNet 12 = .ok (.iconst 1, 1) := by decide +kernel
theorem dX0_hasNet_13 : decode cX0_hasNet 13 = .ok (.goto 4, 3) := by decide +kernel
theorem dX0_hasNet_16 : decode cX0_hasNet 16 = .ok (.iconst 0, 1) := by decide +kernel
theorem dX0_hasNet_17 : decode cX0_hasNet 17 = .ok (.ireturn, 1) := by decide +kernel
theorem dX0_placeOfPin_0 : decode cX0_placeOfPin 0 = .ok (.aload_n 0, 1) := by decide +kernel
theorem dX0_placeOfPin_1 : decode cX0_placeOfPin 1 = .ok (.getfield 41, 3) := by decide +kernel
theorem dX0_placeOfPin_4 : decode cX0_placeOfPin 4 = .ok (.iload_n 1, 1) := by decide +kernel
theorem dX0_placeOfPin_5 : decode cX0_placeOfPin 5 = .ok (.iconst 4, 1) := by decide +kernel
theorem dX0_placeOfPin_6 : decode cX0_placeOfPin 6 = .ok (.imul, 1) := by decide +kernel
theorem dX0_placeOfPin_7 : decode cX0_placeOfPin 7 = .ok (.iload_n 2, 1) := by decide +kernel
theorem dX0_placeOfPin_8 : decode cX0_placeOfPin 8 = .ok (.iadd, 1) := by decide +kernel
theorem dX0_placeOfPin_9 : decode cX0_placeOfPin 9 = .ok (.iaload, 1) := by decide +kernel
theorem dX0_placeOfPin_10 : decode cX0_placeOfPin 10 = .ok (.ireturn, 1) := by decide +kernel
theorem dX0_netsNear_0 : decode cX0_netsNear 0 = .ok (.iconst 0, 1) := by decide +kernel
theorem dX0_netsNear_1 : decode cX0_netsNear 1 = .ok (.istore 5, 2) := by decide +kernel
theorem dX0_netsNear_3 : decode cX0_netsNear 3 = .ok (.iconst 0, 1) := by decide +kernel
theorem dX0_netsNear_4 : decode cX0_netsNear 4 = .ok (.istore 6, 2) := by decide +kernel
theorem dX0_netsNear_6 : decode cX0_netsNear 6 = .ok (.iload 6, 2) := by decide +kernel
theorem dX0_netsNear_8 : decode cX0_netsNear 8 = .ok (.iconst 4, 1) := by decide +kernel
theorem dX0_netsNear_9 : decode cX0_netsNear 9 = .ok (.if_icmp .ge 99, 3) := by decide +kernel
theorem dX0_netsNear_12 : decode cX0_netsNear 12 = .ok (.iload_n 2, 1) := by decide +kernel
theorem dX0_netsNear_13 : decode cX0_netsNear 13 = .ok (.iload 6, 2) := by decide +kernel
theorem dX0_netsNear_15 : decode cX0_netsNear 15 = .ok (.invokestatic 59, 3) := by decide +kernel
theorem dX0_netsNear_18 : decode cX0_netsNear 18 = .ok (.istore 7, 2) := by decide +kernel
theorem dX0_netsNear_20 : decode cX0_netsNear 20 = .ok (.iload 7, 2) := by decide +kernel
theorem dX0_netsNear_22 : decode cX0_netsNear 22 = .ok (.ifCond .ge 7, 3) := by decide +kernel
theorem dX0_netsNear_25 : decode cX0_netsNear 25 = .ok (.iconst (-1), 1) := by decide +kernel
theorem dX0_netsNear_26 : decode cX0_netsNear 26 = .ok (.goto 10, 3) := by decide +kernel
theorem dX0_netsNear_29 : decode cX0_netsNear 29 = .ok (.aload_n 0, 1) := by decide +kernel
theorem dX0_netsNear_30 : decode cX0_netsNear 30 = .ok (.getfield 44, 3) := by decide +kernel
theorem dX0_netsNear_33 : decode cX0_netsNear 33 = .ok (.iload 7, 2) := by decide +kernel
theorem dX0_netsNear_35 : decode cX0_netsNear 35 = .ok (.iaload, 1) := by decide +kernel
theorem dX0_netsNear_36 : decode cX0_netsNear 36 = .ok (.istore 8, 2) := by decide +kernel
theorem dX0_netsNear_38 : decode cX0_netsNear 38 = .ok (.iload 8, 2) := by decide +kernel
theorem dX0_netsNear_40 : decode cX0_netsNear 40 = .ok (.ifCond .lt 62, 3) := by decide +kernel
theorem dX0_netsNear_43 : decode cX0_netsNear 43 = .ok (.iload 8, 2) := by decide +kernel
theorem dX0_netsNear_45 : decode cX0_netsNear 45 = .ok (.iload_n 1, 1) := by decide +kernel
theorem dX0_netsNear_46 : decode cX0_netsNear 46 = .ok (.if_icmp .eq 56, 3) := by decide +kernel
theorem dX0_netsNear_49 : decode cX0_netsNear 49 = .ok (.aload_n 0, 1) := by decide +kernel
theorem dX0_netsNear_50 : decode cX0_netsNear 50 = .ok (.getfield 18, 3) := by decide +kernel
theorem dX0_netsNear_53 : decode cX0_netsNear 53 = .ok (.iload_n 1, 1) := by decide +kernel
theorem dX0_netsNear_54 : decode cX0_netsNear 54 = .ok (.baload, 1) := by decide +kernel
theorem dX0_netsNear_55 : decode cX0_netsNear 55 = .ok (.ifCond .ne 13, 3) := by decide +kernel
theorem dX0_netsNear_58 : decode cX0_netsNear 58 = .ok (.aload_n 0, 1) := by decide +kernel
theorem dX0_netsNear_59 : decode cX0_netsNear 59 = .ok (.getfield 18, 3) := by decide +kernel
theorem dX0_netsNear_62 : decode cX0_netsNear 62 = .ok (.iload 8, 2) := by decide +kernel
theorem dX0_netsNear_64 : decode cX0_netsNear 64 = .ok (.baload, 1) := by decide +kernel
theorem dX0_netsNear_65 : decode cX0_netsNear 65 = .ok (.ifCond .eq 37, 3) := by decide +kernel
theorem dX0_netsNear_68 : decode cX0_netsNear 68 = .ok (.aload_n 0, 1) := by decide +kernel
theorem dX0_netsNear_69 : decode cX0_netsNear 69 = .ok (.getfield 47, 3) := by decide +kernel
theorem dX0_netsNear_72 : decode cX0_netsNear 72 = .ok (.iload 7, 2) := by decide +kernel
theorem dX0_netsNear_74 : decode cX0_netsNear 74 = .ok (.bipush 48, 2) := by decide +kernel
theorem dX0_netsNear_76 : decode cX0_netsNear 76 = .ok (.irem, 1) := by decide +kernel
theorem dX0_netsNear_77 : decode cX0_netsNear 77 = .ok (.baload, 1) := by decide +kernel
theorem dX0_netsNear_78 : decode cX0_netsNear 78 = .ok (.ifCond .eq 10, 3) := by decide +kernel
theorem dX0_netsNear_81 : decode cX0_netsNear 81 = .ok (.iload_n 3, 1) := by decide +kernel
theorem dX0_netsNear_82 : decode cX0_netsNear 82 = .ok (.ifCond .eq 20, 3) := by decide +kernel
theorem dX0_netsNear_85 : decode cX0_netsNear 85 = .ok (.goto 8, 3) := by decide +kernel
theorem dX0_netsNear_88 : decode cX0_netsNear 88 = .ok (.iload 4, 2) := by decide +kernel
theorem dX0_netsNear_90 : decode cX0_netsNear 90 = .ok (.ifCond .eq 12, 3) := by decide +kernel
theorem dX0_netsNear_93 : decode cX0_netsNear 93 = .ok (.iload 5, 2) := by decide +kernel
theorem dX0_netsNear_95 : decode cX0_netsNear 95 = .ok (.iconst 1, 1) := by decide +kernel
theorem dX0_netsNear_96 : decode cX0_netsNear 96 = .ok (.iload 8, 2) := by decide +kernel
theorem dX0_netsNear_98 : decode cX0_netsNear 98 = .ok (.ishl, 1) := by decide +kernel
theorem dX0_netsNear_99 : decode cX0_netsNear 99 = .ok (.ior, 1) := by decide +kernel
theorem dX0_netsNear_100 : decode cX0_netsNear 100 = .ok (.istore 5, 2) := by decide +kernel
theorem dX0_netsNear_102 : decode cX0_netsNear 102 = .ok (.iinc 6 1, 3) := by decide +kernel
theorem dX0_netsNear_105 : decode cX0_netsNear 105 = .ok (.goto (-99), 3) := by decide +kernel
theorem dX0_netsNear_108 : decode cX0_netsNear 108 = .ok (.iload 5, 2) := by decide +kernel
theorem dX0_netsNear_110 : decode cX0_netsNear 110 = .ok (.ireturn, 1) := by decide +kernel
theorem dX0_wiresInTheWay_0 : decode cX0_wiresInTheWay 0 = .ok (.aload_n 0, 1) := by decide +kernel
theorem dX0_wiresInTheWay_1 : decode cX0_wiresInTheWay 1 = .ok (.iload_n 1, 1) := by decide +kernel
theorem dX0_wiresInTheWay_2 : decode cX0_wiresInTheWay 2 = .ok (.iload_n 2, 1) := by decide +kernel
theorem dX0_wiresInTheWay_3 : decode cX0_wiresInTheWay 3 = .ok (.iconst 0, 1) := by decide +kernel
theorem dX0_wiresInTheWay_4 : decode cX0_wiresInTheWay 4 = .ok (.iconst 1, 1) := by decide +kernel
theorem dX0_wiresInTheWay_5 : decode cX0_wiresInTheWay 5 = .ok (.invokevirtual 63, 3) := by decide +kernel
theorem dX0_wiresInTheWay_8 : decode cX0_wiresInTheWay 8 = .ok (.istore_n 3, 1) := by decide +kernel
theorem dX0_wiresInTheWay_9 : decode cX0_wiresInTheWay 9 = .ok (.aload_n 0, 1) := by decide +kernel
theorem dX0_wiresInTheWay_10 : decode cX0_wiresInTheWay 10 = .ok (.getfield 44, 3) := by decide +kernel
theorem dX0_wiresInTheWay_13 : decode cX0_wiresInTheWay 13 = .ok (.iload_n 2, 1) := by decide +kernel
theorem dX0_wiresInTheWay_14 : decode cX0_wiresInTheWay 14 = .ok (.iaload, 1) := by decide +kernel
theorem dX0_wiresInTheWay_15 : decode cX0_wiresInTheWay 15 = .ok (.istore 4, 2) := by decide +kernel
theorem dX0_wiresInTheWay_17 : decode cX0_wiresInTheWay 17 = .ok (.iload 4, 2) := by decide +kernel
theorem dX0_wiresInTheWay_19 : decode cX0_wiresInTheWay 19 = .ok (.ifCond .lt 28, 3) := by decide +kernel
theorem dX0_wiresInTheWay_22 : decode cX0_wiresInTheWay 22 = .ok (.iload 4, 2) := by decide +kernel
theorem dX0_wiresInTheWay_24 : decode cX0_wiresInTheWay 24 = .ok (.iload_n 1, 1) := by decide +kernel
theorem dX0_wiresInTheWay_25 : decode cX0_wiresInTheWay 25 = .ok (.if_icmp .eq 22, 3) := by decide +kernel
theorem dX0_wiresInTheWay_28 : decode cX0_wiresInTheWay 28 = .ok (.aload_n 0, 1) := by decide +kernel
theorem dX0_wiresInTheWay_29 : decode cX0_wiresInTheWay 29 = .ok (.getfield 47, 3) := by decide +kernel
theorem dX0_wiresInTheWay_32 : decode cX0_wiresInTheWay 32 = .ok (.iload_n 2, 1) := by decide +kernel
theorem dX0_wiresInTheWay_33 : decode cX0_wiresInTheWay 33 = .ok (.bipush 48, 2) := by decide +kernel
theorem dX0_wiresInTheWay_35 : decode cX0_wiresInTheWay 35 = .ok (.irem, 1) := by decide +kernel
theorem dX0_wiresInTheWay_36 : decode cX0_wiresInTheWay 36 = .ok (.baload, 1) := by decide +kernel
theorem dX0_wiresInTheWay_37 : decode cX0_wiresInTheWay 37 = .ok (.ifCond .ne 10, 3) := by decide +kernel
theorem dX0_wiresInTheWay_40 : decode cX0_wiresInTheWay 40 = .ok (.iload_n 3, 1) := by decide +kernel
theorem dX0_wiresInTheWay_41 : decode cX0_wiresInTheWay 41 = .ok (.iconst 1, 1) := by decide +kernel
theorem dX0_wiresInTheWay_42 : decode cX0_wiresInTheWay 42 = .ok (.iload 4, 2) := by decide +kernel
theorem dX0_wiresInTheWay_44 : decode cX0_wiresInTheWay 44 = .ok (.ishl, 1) := by decide +kernel
theorem dX0_wiresInTheWay_45 : decode cX0_wiresInTheWay 45 = .ok (.ior, 1) := by decide +kernel
theorem dX0_wiresInTheWay_46 : decode cX0_wiresInTheWay 46 = .ok (.istore_n 3, 1) := by decide +kernel
theorem dX0_wiresInTheWay_47 : decode cX0_wiresInTheWay 47 = .ok (.iload_n 3, 1) := by decide +kernel
theorem dX0_wiresInTheWay_48 : decode cX0_wiresInTheWay 48 = .ok (.ireturn, 1) := by decide +kernel
theorem dX0_priceFor_0 : decode cX0_priceFor 0 = .ok (.aload_n 0, 1) := by decide +kernel
theorem dX0_priceFor_1 : decode cX0_priceFor 1 = .ok (.getfield 44, 3) := by decide +kernel
theorem dX0_priceFor_4 : decode cX0_priceFor 4 = .ok (.iload_n 2, 1) := by decide +kernel
theorem dX0_priceFor_5 : decode cX0_priceFor 5 = .ok (.iaload, 1) := by decide +kernel
theorem dX0_priceFor_6 : decode cX0_priceFor 6 = .ok (.istore_n 3, 1) := by decide +kernel
theorem dX0_priceFor_7 : decode cX0_priceFor 7 = .ok (.iload_n 3, 1) := by decide +kernel
theorem dX0_priceFor_8 : decode cX0_priceFor 8 = .ok (.ifCond .lt 12, 3) := by decide +kernel
theorem dX0_priceFor_11 : decode cX0_priceFor 11 = .ok (.iload_n 3, 1) := by decide +kernel
theorem dX0_priceFor_12 : decode cX0_priceFor 12 = .ok (.iload_n 1, 1) := by decide +kernel
theorem dX0_priceFor_13 : decode cX0_priceFor 13 = .ok (.if_icmp .eq 7, 3) := by decide +kernel
theorem dX0_priceFor_16 : decode cX0_priceFor 16 = .ok (.iconst 1, 1) := by decide +kernel
theorem dX0_priceFor_17 : decode cX0_priceFor 17 = .ok (.goto 4, 3) := by decide +kernel
theorem dX0_priceFor_20 : decode cX0_priceFor 20 = .ok (.iconst 0, 1) := by decide +kernel
theorem dX0_priceFor_21 : decode cX0_priceFor 21 = .ok (.istore 4, 2) := by decide +kernel
theorem dX0_priceFor_23 : decode cX0_priceFor 23 = .ok (.iload 4, 2) := by decide +kernel
theorem dX0_priceFor_25 : decode cX0_priceFor 25 = .ok (.ifCond .eq 19, 3) := by decide +kernel
theorem dX0_priceFor_28 : decode cX0_priceFor 28 = .ok (.aload_n 0, 1) := by decide +kernel
theorem dX0_priceFor_29 : decode cX0_priceFor 29 = .ok (.getfield 47, 3) := by decide +kernel
theorem dX0_priceFor_32 : decode cX0_priceFor 32 = .ok (.iload_n 2, 1) := by decide +kernel
theorem dX0_priceFor_33 : decode cX0_priceFor 33 = .ok (.bipush 48, 2) := by decide +kernel
theorem dX0_priceFor_35 : decode cX0_priceFor 35 = .ok (.irem, 1) := by decide +kernel
theorem dX0_priceFor_36 : decode cX0_priceFor 36 = .ok (.baload, 1) := by decide +kernel
theorem dX0_priceFor_37 : decode cX0_priceFor 37 = .ok (.ifCond .eq 7, 3) := by decide +kernel
theorem dX0_priceFor_40 : decode cX0_priceFor 40 = .ok (.iconst 1, 1) := by decide +kernel
theorem dX0_priceFor_41 : decode cX0_priceFor 41 = .ok (.goto 4, 3) := by decide +kernel
theorem dX0_priceFor_44 : decode cX0_priceFor 44 = .ok (.iconst 0, 1) := by decide +kernel
theorem dX0_priceFor_45 : decode cX0_priceFor 45 = .ok (.istore 5, 2) := by decide +kernel
theorem dX0_priceFor_47 : decode cX0_priceFor 47 = .ok (.iload_n 3, 1) := by decide +kernel
theorem dX0_priceFor_48 : decode cX0_priceFor 48 = .ok (.bipush (-2), 2) := by decide +kernel
theorem dX0_priceFor_50 : decode cX0_priceFor 50 = .ok (.if_icmp .eq 19, 3) := by decide +kernel
theorem dX0_priceFor_53 : decode cX0_priceFor 53 = .ok (.iload 5, 2) := by decide +kernel
theorem dX0_priceFor_55 : decode cX0_priceFor 55 = .ok (.ifCond .ne 14, 3) := by decide +kernel
theorem dX0_priceFor_58 : decode cX0_priceFor 58 = .ok (.aload_n 0, 1) := by decide +kernel
theorem dX0_priceFor_59 : decode cX0_priceFor 59 = .ok (.iload_n 1, 1) := by decide +kernel
theorem dX0_priceFor_60 : decode cX0_priceFor 60 = .ok (.iload_n 2, 1) := by decide +kernel
theorem dX0_priceFor_61 : decode cX0_priceFor 61 = .ok (.iconst 1, 1) := by decide +kernel
theorem dX0_priceFor_62 : decode cX0_priceFor 62 = .ok (.iconst 0, 1) := by decide +kernel
theorem dX0_priceFor_63 : decode cX0_priceFor 63 = .ok (.invokevirtual 63, 3) := by decide +kernel
theorem dX0_priceFor_66 : decode cX0_priceFor 66 = .ok (.ifCond .eq 5, 3) := by decide +kernel
theorem dX0_priceFor_69 : decode cX0_priceFor 69 = .ok (.iconst (-1), 1) := by decide +kernel
theorem dX0_priceFor_70 : decode cX0_priceFor 70 = .ok (.ireturn, 1) := by decide +kernel
theorem dX0_priceFor_71 : decode cX0_priceFor 71 = .ok (.iload 4, 2) := by decide +kernel
theorem dX0_priceFor_73 : decode cX0_priceFor 73 = .ok (.ifCond .ne 14, 3) := by decide +kernel
theorem dX0_priceFor_76 : decode cX0_priceFor 76 = .ok (.aload_n 0, 1) := by decide +kernel
theorem dX0_priceFor_77 : decode cX0_priceFor 77 = .ok (.iload_n 1, 1) := by decide +kernel
theorem dX0_priceFor_78 : decode cX0_priceFor 78 = .ok (.iload_n 2, 1) := by decide +kernel
theorem dX0_priceFor_79 : decode cX0_priceFor 79 = .ok (.iconst 0, 1) := by decide +kernel
theorem dX0_priceFor_80 : decode cX0_priceFor 80 = .ok (.iconst 1, 1) := by decide +kernel
theorem dX0_priceFor_81 : decode cX0_priceFor 81 = .ok (.invokevirtual 63, 3) := by decide +kernel
theorem dX0_priceFor_84 : decode cX0_priceFor 84 = .ok (.ifCond .eq 8, 3) := by decide +kernel
theorem dX0_priceFor_87 : decode cX0_priceFor 87 = .ok (.bipush 8, 2) := by decide +kernel
theorem dX0_priceFor_89 : decode cX0_priceFor 89 = .ok (.goto 4, 3) := by decide +kernel
theorem dX0_priceFor_92 : decode cX0_priceFor 92 = .ok (.iconst 0, 1) := by decide +kernel
theorem dX0_priceFor_93 : decode cX0_priceFor 93 = .ok (.ireturn, 1) := by decide +kernel
theorem dX0_countHeld_0 : decode cX0_countHeld 0 = .ok (.iconst 0, 1) := by decide +kernel
theorem dX0_countHeld_1 : decode cX0_countHeld 1 = .ok (.istore_n 2, 1) := by decide +kernel
theorem dX0_countHeld_2 : decode cX0_countHeld 2 = .ok (.iconst 0, 1) := by decide +kernel
theorem dX0_countHeld_3 : decode cX0_countHeld 3 = .ok (.istore_n 3, 1) := by decide +kernel
theorem dX0_countHeld_4 : decode cX0_countHeld 4 = .ok (.iload_n 3, 1) := by decide +kernel
theorem dX0_countHeld_5 : decode cX0_countHeld 5 = .ok (.bipush 96, 2) := by decide +kernel
theorem dX0_countHeld_7 : decode cX0_countHeld 7 = .ok (.if_icmp .ge 22, 3) := by decide +kernel
theorem dX0_countHeld_10 : decode cX0_countHeld 10 = .ok (.aload_n 0, 1) := by decide +kernel
theorem dX0_countHeld_11 : decode cX0_countHeld 11 = .ok (.getfield 44, 3) := by decide +kernel
theorem dX0_countHeld_14 : decode cX0_countHeld 14 = .ok (.iload_n 3, 1) := by decide +kernel
theorem dX0_countHeld_15 : decode cX0_countHeld 15 = .ok (.iaload, 1) := by decide +kernel
theorem dX0_countHeld_16 : decode cX0_countHeld 16 = .ok (.iload_n 1, 1) := by decide +kernel
theorem dX0_countHeld_17 : decode cX0_countHeld 17 = .ok (.if_icmp .ne 6, 3) := by decide +kernel
theorem dX0_countHeld_20 : decode cX0_countHeld 20 = .ok (.iinc 2 1, 3) := by decide +kernel
theorem dX0_countHeld_23 : decode cX0_countHeld 23 = .ok (.iinc 3 1, 3) := by decide +kernel
theorem dX0_countHeld_26 : decode cX0_countHeld 26 = .ok (.goto (-22), 3) := by decide +kernel
theorem dX0_countHeld_29 : decode cX0_countHeld 29 = .ok (.iload_n 2, 1) := by decide +kernel
theorem dX0_countHeld_30 : decode cX0_countHeld 30 = .ok (.ireturn, 1) := by decide +kernel
theorem dX0_countHoles_0 : decode cX0_countHoles 0 = .ok (.iconst 0, 1) := by decide +kernel
theorem dX0_countHoles_1 : decode cX0_countHoles 1 = .ok (.istore_n 1, 1) := by decide +kernel
theorem dX0_countHoles_2 : decode cX0_countHoles 2 = .ok (.iconst 0, 1) := by decide +kernel
theorem dX0_countHoles_3 : decode cX0_countHoles 3 = .ok (.istore_n 2, 1) := by decide +kernel
theorem dX0_countHoles_4 : decode cX0_countHoles 4 = .ok (.iload_n 2, 1) := by decide +kernel
theorem dX0_countHoles_5 : decode cX0_countHoles 5 = .ok (.bipush 48, 2) := by decide +kernel
theorem dX0_countHoles_7 : decode cX0_countHoles 7 = .ok (.if_icmp .ge 21, 3) := by decide +kernel
theorem dX0_countHoles_10 : decode cX0_countHoles 10 = .ok (.aload_n 0, 1) := by decide +kernel
theorem dX0_countHoles_11 : decode cX0_countHoles 11 = .ok (.getfield 50, 3) := by decide +kernel
theorem dX0_countHoles_14 : decode cX0_countHoles 14 = .ok (.iload_n 2, 1) := by decide +kernel
theorem dX0_countHoles_15 : decode cX0_countHoles 15 = .ok (.baload, 1) := by decide +kernel
theorem dX0_countHoles_16 : decode cX0_countHoles 16 = .ok (.ifCond .eq 6, 3) := by decide +kernel
theorem dX0_countHoles_19 : decode cX0_countHoles 19 = .ok (.iinc 1 1, 3) := by decide +kernel
theorem dX0_countHoles_22 : decode cX0_countHoles 22 = .ok (.iinc 2 1, 3) := by decide +kernel
theorem dX0_countHoles_25 : decode cX0_countHoles 25 = .ok (.goto (-21), 3) := by decide +kernel
theorem dX0_countHoles_28 : decode cX0_countHoles 28 = .ok (.iload_n 1, 1) := by decide +kernel
theorem dX0_countHoles_29 : decode cX0_countHoles 29 = .ok (.ireturn, 1) := by decide +kernel
theorem dX0_countRouted_0 : decode cX0_countRouted 0 = .ok (.iconst 0, 1) := by decide +kernel
theorem dX0_countRouted_1 : decode cX0_countRouted 1 = .ok (.istore_n 1, 1) := by decide +kernel
theorem dX0_countRouted_2 : decode cX0_countRouted 2 = .ok (.iconst 0, 1) := by decide +kernel
theorem dX0_countRouted_3 : decode cX0_countRouted 3 = .ok (.istore_n 2, 1) := by decide +kernel
theorem dX0_countRouted_4 : decode cX0_countRouted 4 = .ok (.iload_n 2, 1) := by decide +kernel
theorem dX0_countRouted_5 : decode cX0_countRouted 5 = .ok (.aload_n 0, 1) := by decide +kernel
theorem dX0_countRouted_6 : decode cX0_countRouted 6 = .ok (.getfield 9, 3) := by decide +kernel
theorem dX0_countRouted_9 : decode cX0_countRouted 9 = .ok (.if_icmp .ge 21, 3) := by decide +kernel
theorem dX0_countRouted_12 : decode cX0_countRouted 12 = .ok (.aload_n 0, 1) := by decide +kernel
theorem dX0_countRouted_13 : decode cX0_countRouted 13 = .ok (.getfield 22, 3) := by decide +kernel
theorem dX0_countRouted_16 : decode cX0_countRouted 16 = .ok (.iload_n 2, 1) := by decide +kernel
theorem dX0_countRouted_17 : decode cX0_countRouted 17 = .ok (.baload, 1) := by decide +kernel
theorem dX0_countRouted_18 : decode cX0_countRouted 18 = .ok (.ifCond .eq 6, 3) := by decide +kernel
theorem dX0_countRouted_21 : decode cX0_countRouted 21 = .ok (.iinc 1 1, 3) := by decide +kernel
theorem dX0_countRouted_24 : decode cX0_countRouted 24 = .ok (.iinc 2 1, 3) := by decide +kernel
theorem dX0_countRouted_27 : decode cX0_countRouted 27 = .ok (.goto (-23), 3) := by decide +kernel
theorem dX0_countRouted_30 : decode cX0_countRouted 30 = .ok (.iload_n 1, 1) := by decide +kernel
theorem dX0_countRouted_31 : decode cX0_countRouted 31 = .ok (.ireturn, 1) := by decide +kernel
theorem dX0_countTouches_0 : decode cX0_countTouches 0 = .ok (.iconst 0, 1) := by decide +kernel
theorem dX0_countTouches_1 : decode cX0_countTouches 1 = .ok (.istore_n 2, 1) := by decide +kernel
theorem dX0_countTouches_2 : decode cX0_countTouches 2 = .ok (.iconst 0, 1) := by decide +kernel
theorem dX0_countTouches_3 : decode cX0_countTouches 3 = .ok (.istore_n 3, 1) := by decide +kernel
theorem dX0_countTouches_4 : decode cX0_countTouches 4 = .ok (.iload_n 3, 1) := by decide +kernel
theorem dX0_countTouches_5 : decode cX0_countTouches 5 = .ok (.bipush 96, 2) := by decide +kernel
theorem dX0_countTouches_7 : decode cX0_countTouches 7 = .ok (.if_icmp .ge 71, 3) := by decide +kernel
theorem dX0_countTouches_10 : decode cX0_countTouches 10 = .ok (.iconst 0, 1) := by decide +kernel
theorem dX0_countTouches_11 : decode cX0_countTouches 11 = .ok (.istore 4, 2) := by decide +kernel
theorem dX0_countTouches_13 : decode cX0_countTouches 13 = .ok (.iload 4, 2) := by decide +kernel
theorem dX0_countTouches_15 : decode cX0_countTouches 15 = .ok (.iconst 4, 1) := by decide +kernel
theorem dX0_countTouches_16 : decode cX0_countTouches 16 = .ok (.if_icmp .ge 56, 3) := by decide +kernel
theorem dX0_countTouches_19 : decode cX0_countTouches 19 = .ok (.aload_n 0, 1) := by decide +kernel
theorem dX0_countTouches_20 : decode cX0_countTouches 20 = .ok (.getfield 44, 3) := by decide +kernel
theorem dX0_countTouches_23 : decode cX0_countTouches 23 = .ok (.iload_n 3, 1) := by decide +kernel
theorem dX0_countTouches_24 : decode cX0_countTouches 24 = .ok (.iaload, 1) := by decide +kernel
theorem dX0_countTouches_25 : decode cX0_countTouches 25 = .ok (.iload_n 1, 1) := by decide +kernel
theorem dX0_countTouches_26 : decode cX0_countTouches 26 = .ok (.if_icmp .ne 46, 3) := by decide +kernel
theorem dX0_countTouches_29 : decode cX0_countTouches 29 = .ok (.iload_n 3, 1) := by decide +kernel
theorem dX0_countTouches_30 : decode cX0_countTouches 30 = .ok (.iload 4, 2) := by decide +kernel
theorem dX0_countTouches_32 : decode cX0_countTouches 32 = .ok (.invokestatic 59, 3) := by decide +kernel
theorem dX0_countTouches_35 : decode cX0_countTouches 35 = .ok (.istore 5, 2) := by decide +kernel
theorem dX0_countTouches_37 : decode cX0_countTouches 37 = .ok (.iload 5, 2) := by decide +kernel
theorem dX0_countTouches_39 : decode cX0_countTouches 39 = .ok (.ifCond .lt 27, 3) := by decide +kernel
theorem dX0_countTouches_42 : decode cX0_countTouches 42 = .ok (.aload_n 0, 1) := by decide +kernel
theorem dX0_countTouches_43 : decode cX0_countTouches 43 = .ok (.getfield 44, 3) := by decide +kernel
theorem dX0_countTouches_46 : decode cX0_countTouches 46 = .ok (.iload 5, 2) := by decide +kernel
theorem dX0_countTouches_48 : decode cX0_countTouches 48 = .ok (.iaload, 1) := by decide +kernel
theorem dX0_countTouches_49 : decode cX0_countTouches 49 = .ok (.ifCond .lt 17, 3) := by decide +kernel
theorem dX0_countTouches_52 : decode cX0_countTouches 52 = .ok (.aload_n 0, 1) := by decide +kernel
theorem dX0_countTouches_53 : decode cX0_countTouches 53 = .ok (.getfield 44, 3) := by decide +kernel
theorem dX0_countTouches_56 : decode cX0_countTouches 56 = .ok (.iload 5, 2) := by decide +kernel
theorem dX0_countTouches_58 : decode cX0_countTouches 58 = .ok (.iaload, 1) := by decide +kernel
theorem dX0_countTouches_59 : decode cX0_countTouches 59 = .ok (.iload_n 1, 1) := by decide +kernel
theorem dX0_countTouches_60 : decode cX0_countTouches 60 = .ok (.if_icmp .eq 6, 3) := by decide +kernel
theorem dX0_countTouches_63 : decode cX0_countTouches 63 = .ok (.iinc 2 1, 3) := by decide +kernel
theorem dX0_countTouches_66 : decode cX0_countTouches 66 = .ok (.iinc 4 1, 3) := by decide +kernel
theorem dX0_countTouches_69 : decode cX0_countTouches 69 = .ok (.goto (-56), 3) := by decide +kernel
theorem dX0_countTouches_72 : decode cX0_countTouches 72 = .ok (.iinc 3 1, 3) := by decide +kernel
theorem dX0_countTouches_75 : decode cX0_countTouches 75 = .ok (.goto (-71), 3) := by decide +kernel
theorem dX0_countTouches_78 : decode cX0_countTouches 78 = .ok (.iload_n 2, 1) := by decide +kernel
theorem dX0_countTouches_79 : decode cX0_countTouches 79 = .ok (.ireturn, 1) := by decide +kernel
theorem dX0_sumOver_0 : decode cX0_sumOver 0 = .ok (.iconst 0, 1) := by decide +kernel
theorem dX0_sumOver_1 : decode cX0_sumOver 1 = .ok (.istore_n 2, 1) := by decide +kernel
theorem dX0_sumOver_2 : decode cX0_sumOver 2 = .ok (.iconst 0, 1) := by decide +kernel
theorem dX0_sumOver_3 : decode cX0_sumOver 3 = .ok (.istore_n 3, 1) := by decide +kernel
theorem dX0_sumOver_4 : decode cX0_sumOver 4 = .ok (.iload_n 3, 1) := by decide +kernel
theorem dX0_sumOver_5 : decode cX0_sumOver 5 = .ok (.aload_n 0, 1) := by decide +kernel
theorem dX0_sumOver_6 : decode cX0_sumOver 6 = .ok (.getfield 9, 3) := by decide +kernel
theorem dX0_sumOver_9 : decode cX0_sumOver 9 = .ok (.if_icmp .ge 15, 3) := by decide +kernel
theorem dX0_sumOver_12 : decode cX0_sumOver 12 = .ok (.iload_n 2, 1) := by decide +kernel
theorem dX0_sumOver_13 : decode cX0_sumOver 13 = .ok (.aload_n 1, 1) := by decide +kernel
theorem dX0_sumOver_14 : decode cX0_sumOver 14 = .ok (.iload_n 3, 1) := by decide +kernel
theorem dX0_sumOver_15 : decode cX0_sumOver 15 = .ok (.iaload, 1) := by decide +kernel
theorem dX0_sumOver_16 : decode cX0_sumOver 16 = .ok (.iadd, 1) := by decide +kernel
theorem dX0_sumOver_17 : decode cX0_sumOver 17 = .ok (.istore_n 2, 1) := by decide +kernel
theorem dX0_sumOver_18 : decode cX0_sumOver 18 = .ok (.iinc 3 1, 3) := by decide +kernel
theorem dX0_sumOver_21 : decode cX0_sumOver 21 = .ok (.goto (-17), 3) := by decide +kernel
theorem dX0_sumOver_24 : decode cX0_sumOver 24 = .ok (.iload_n 2, 1) := by decide +kernel
theorem dX0_sumOver_25 : decode cX0_sumOver 25 = .ok (.ireturn, 1) := by decide +kernel
theorem dX0_countBefore_0 : decode cX0_countBefore 0 = .ok (.iconst 0, 1) := by decide +kernel
theorem dX0_countBefore_1 : decode cX0_countBefore 1 = .ok (.istore_n 2, 1) := by decide +kernel
theorem dX0_countBefore_2 : decode cX0_countBefore 2 = .ok (.iconst 0, 1) := by decide +kernel
theorem dX0_countBefore_3 : decode cX0_countBefore 3 = .ok (.istore_n 3, 1) := by decide +kernel
theorem dX0_countBefore_4 : decode cX0_countBefore 4 = .ok (.iload_n 3, 1) := by decide +kernel
theorem dX0_countBefore_5 : decode cX0_countBefore 5 = .ok (.aload_n 0, 1) := by decide +kernel
theorem dX0_countBefore_6 : decode cX0_countBefore 6 = .ok (.getfield 9, 3) := by decide +kernel
theorem dX0_countBefore_9 : decode cX0_countBefore 9 = .ok (.if_icmp .ge 104, 3) := by decide +kernel
theorem dX0_countBefore_12 : decode cX0_countBefore 12 = .ok (.aload_n 0, 1) := by decide +kernel
theorem dX0_countBefore_13 : decode cX0_countBefore 13 = .ok (.getfield 29, 3) := by decide +kernel
theorem dX0_countBefore_16 : decode cX0_countBefore 16 = .ok (.iload_n 3, 1) := by decide +kernel
theorem dX0_countBefore_17 : decode cX0_countBefore 17 = .ok (.iaload, 1) := by decide +kernel
theorem dX0_countBefore_18 : decode cX0_countBefore 18 = .ok (.aload_n 0, 1) := by decide +kernel
theorem dX0_countBefore_19 : decode cX0_countBefore 19 = .ok (.getfield 29, 3) := by decide +kernel
theorem dX0_countBefore_22 : decode cX0_countBefore 22 = .ok (.iload_n 1, 1) := by decide +kernel
theorem dX0_countBefore_23 : decode cX0_countBefore 23 = .ok (.iaload, 1) := by decide +kernel
theorem dX0_countBefore_24 : decode cX0_countBefore 24 = .ok (.if_icmp .eq 29, 3) := by decide +kernel
theorem dX0_countBefore_27 : decode cX0_countBefore 27 = .ok (.iload_n 2, 1) := by decide +kernel
theorem dX0_countBefore_28 : decode cX0_countBefore 28 = .ok (.aload_n 0, 1) := by decide +kernel
theorem dX0_countBefore_29 : decode cX0_countBefore 29 = .ok (.getfield 29, 3) := by decide +kernel
theorem dX0_countBefore_32 : decode cX0_countBefore 32 = .ok (.iload_n 3, 1) := by decide +kernel
theorem dX0_countBefore_33 : decode cX0_countBefore 33 = .ok (.iaload, 1) := by decide +kernel
theorem dX0_countBefore_34 : decode cX0_countBefore 34 = .ok (.aload_n 0, 1) := by decide +kernel
theorem dX0_countBefore_35 : decode cX0_countBefore 35 = .ok (.getfield 29, 3) := by decide +kernel
theorem dX0_countBefore_38 : decode cX0_countBefore 38 = .ok (.iload_n 1, 1) := by decide +kernel
theorem dX0_countBefore_39 : decode cX0_countBefore 39 = .ok (.iaload, 1) := by decide +kernel
theorem dX0_countBefore_40 : decode cX0_countBefore 40 = .ok (.if_icmp .le 7, 3) := by decide +kernel
theorem dX0_countBefore_43 : decode cX0_countBefore 43 = .ok (.iconst 1, 1) := by decide +kernel
theorem dX0_countBefore_44 : decode cX0_countBefore 44 = .ok (.goto 4, 3) := by decide +kernel
theorem dX0_countBefore_47 : decode cX0_countBefore 47 = .ok (.iconst 0, 1) := by decide +kernel
theorem dX0_countBefore_48 : decode cX0_countBefore 48 = .ok (.iadd, 1) := by decide +kernel
theorem dX0_countBefore_49 : decode cX0_countBefore 49 = .ok (.istore_n 2, 1) := by decide +kernel
theorem dX0_countBefore_50 : decode cX0_countBefore 50 = .ok (.goto 57, 3) := by decide +kernel
theorem dX0_countBefore_53 : decode cX0_countBefore 53 = .ok (.aload_n 0, 1) := by decide +kernel
theorem dX0_countBefore_54 : decode cX0_countBefore 54 = .ok (.getfield 38, 3) := by decide +kernel
theorem dX0_countBefore_57 : decode cX0_countBefore 57 = .ok (.iload_n 3, 1) := by decide +kernel
theorem dX0_countBefore_58 : decode cX0_countBefore 58 = .ok (.iaload, 1) := by decide +kernel
theorem dX0_countBefore_59 : decode cX0_countBefore 59 = .ok (.aload_n 0, 1) := by decide +kernel
theorem dX0_countBefore_60 : decode cX0_countBefore 60 = .ok (.getfield 38, 3) := by decide +kernel
theorem dX0_countBefore_63 : decode cX0_countBefore 63 = .ok (.iload_n 1, 1) := by decide +kernel
theorem dX0_countBefore_64 : decode cX0_countBefore 64 = .ok (.iaload, 1) := by decide +kernel
theorem dX0_countBefore_65 : decode cX0_countBefore 65 = .ok (.if_icmp .eq 29, 3) := by decide +kernel
theorem dX0_countBefore_68 : decode cX0_countBefore 68 = .ok (.iload_n 2, 1) := by decide +kernel
theorem dX0_countBefore_69 : decode cX0_countBefore 69 = .ok (.aload_n 0, 1) := by decide +kernel
theorem dX0_countBefore_70 : decode cX0_countBefore 70 = .ok (.getfield 38, 3) := by decide +kernel
theorem dX0_countBefore_73 : decode cX0_countBefore 73 = .ok (.iload_n 3, 1) := by decide +kernel
theorem dX0_countBefore_74 : decode cX0_countBefore 74 = .ok (.iaload, 1) := by decide +kernel
theorem dX0_countBefore_75 : decode cX0_countBefore 75 = .ok (.aload_n 0, 1) := by decide +kernel
theorem dX0_countBefore_76 : decode cX0_countBefore 76 = .ok (.getfield 38, 3) := by decide +kernel
theorem dX0_countBefore_79 : decode cX0_countBefore 79 = .ok (.iload_n 1, 1) := by decide +kernel
theorem dX0_countBefore_80 : decode cX0_countBefore 80 = .ok (.iaload, 1) := by decide +kernel
theorem dX0_countBefore_81 : decode cX0_countBefore 81 = .ok (.if_icmp .le 7, 3) := by decide +kernel
theorem dX0_countBefore_84 : decode cX0_countBefore 84 = .ok (.iconst 1, 1) := by decide +kernel
theorem dX0_countBefore_85 : decode cX0_countBefore 85 = .ok (.goto 4, 3) := by decide +kernel
theorem dX0_countBefore_88 : decode cX0_countBefore 88 = .ok (.iconst 0, 1) := by decide +kernel
theorem dX0_countBefore_89 : decode cX0_countBefore 89 = .ok (.iadd, 1) := by decide +kernel
theorem dX0_countBefore_90 : decode cX0_countBefore 90 = .ok (.istore_n 2, 1) := by decide +kernel
theorem dX0_countBefore_91 : decode cX0_countBefore 91 = .ok (.goto 16, 3) := by decide +kernel
theorem dX0_countBefore_94 : decode cX0_countBefore 94 = .ok (.iload_n 2, 1) := by decide +kernel
theorem dX0_countBefore_95 : decode cX0_countBefore 95 = .ok (.iload_n 3, 1) := by decide +kernel
theorem dX0_countBefore_96 : decode cX0_countBefore 96 = .ok (.iload_n 1, 1) := by decide +kernel
theorem dX0_countBefore_97 : decode cX0_countBefore 97 = .ok (.if_icmp .ge 7, 3) := by decide +kernel
theorem dX0_countBefore_100 : decode cX0_countBefore 100 = .ok (.iconst 1, 1) := by decide +kernel
theorem dX0_countBefore_101 : decode cX0_countBefore 101 = .ok (.goto 4, 3) := by decide +kernel
theorem dX0_countBefore_104 : decode cX0_countBefore 104 = .ok (.iconst 0, 1) := by decide +kernel
theorem dX0_countBefore_105 : decode cX0_countBefore 105 = .ok (.iadd, 1) := by decide +kernel
theorem dX0_countBefore_106 : decode cX0_countBefore 106 = .ok (.istore_n 2, 1) := by decide +kernel
theorem dX0_countBefore_107 : decode cX0_countBefore 107 = .ok (.iinc 3 1, 3) := by decide +kernel
theorem dX0_countBefore_110 : decode cX0_countBefore 110 = .ok (.goto (-106), 3) := by decide +kernel
theorem dX0_countBefore_113 : decode cX0_countBefore 113 = .ok (.iload_n 2, 1) := by decide +kernel
theorem dX0_countBefore_114 : decode cX0_countBefore 114 = .ok (.ireturn, 1) := by decide +kernel
theorem dX0_putNet_0 : decode cX0_putNet 0 = .ok (.aload_n 0, 1) := by decide +kernel
theorem dX0_putNet_1 : decode cX0_putNet 1 = .ok (.getfield 18, 3) := by decide +kernel
theorem dX0_putNet_4 : decode cX0_putNet 4 = .ok (.aload_n 0, 1) := by decide +kernel
theorem dX0_putNet_5 : decode cX0_putNet 5 = .ok (.getfield 9, 3) := by decide +kernel
theorem dX0_putNet_8 : decode cX0_putNet 8 = .ok (.iload_n 1, 1) := by decide +kernel
theorem dX0_putNet_9 : decode cX0_putNet 9 = .ok (.bastore, 1) := by decide +kernel
theorem dX0_putNet_10 : decode cX0_putNet 10 = .ok (.aload_n 0, 1) := by decide +kernel
theorem dX0_putNet_11 : decode cX0_putNet 11 = .ok (.dup, 1) := by decide +kernel
theorem dX0_putNet_12 : decode cX0_putNet 12 = .ok (.getfield 9, 3) := by decide +kernel
theorem dX0_putNet_15 : decode cX0_putNet 15 = .ok (.iconst 1, 1) := by decide +kernel
theorem dX0_putNet_16 : decode cX0_putNet 16 = .ok (.iadd, 1) := by decide +kernel
theorem dX0_putNet_17 : decode cX0_putNet 17 = .ok (.putfield 9, 3) := by decide +kernel
theorem dX0_putNet_20 : decode cX0_putNet 20 = .ok (.aload_n 0, 1) := by decide +kernel
theorem dX0_putNet_21 : decode cX0_putNet 21 = .ok (.getfield 9, 3) := by decide +kernel
theorem dX0_putNet_24 : decode cX0_putNet 24 = .ok (.iconst 1, 1) := by decide +kernel
theorem dX0_putNet_25 : decode cX0_putNet 25 = .ok (.isub, 1) := by decide +kernel
theorem dX0_putNet_26 : decode cX0_putNet 26 = .ok (.ireturn, 1) := by decide +kernel
theorem dX0_putPin_0 : decode cX0_putPin 0 = .ok (.aload_n 0, 1) := by decide +kernel
theorem dX0_putPin_1 : decode cX0_putPin 1 = .ok (.getfield 25, 3) := by decide +kernel
theorem dX0_putPin_4 : decode cX0_putPin 4 = .ok (.iload_n 1, 1) := by decide +kernel
theorem dX0_putPin_5 : decode cX0_putPin 5 = .ok (.iaload, 1) := by decide +kernel
theorem dX0_putPin_6 : decode cX0_putPin 6 = .ok (.istore_n 3, 1) := by decide +kernel
theorem dX0_putPin_7 : decode cX0_putPin 7 = .ok (.aload_n 0, 1) := by decide +kernel
theorem dX0_putPin_8 : decode cX0_putPin 8 = .ok (.getfield 41, 3) := by decide +kernel
theorem dX0_putPin_11 : decode cX0_putPin 11 = .ok (.iload_n 1, 1) := by decide +kernel
theorem dX0_putPin_12 : decode cX0_putPin 12 = .ok (.iconst 4, 1) := by decide +kernel
theorem dX0_putPin_13 : decode cX0_putPin 13 = .ok (.imul, 1) := by decide +kernel
theorem dX0_putPin_14 : decode cX0_putPin 14 = .ok (.iload_n 3, 1) := by decide +kernel
theorem dX0_putPin_15 : decode cX0_putPin 15 = .ok (.iadd, 1) := by decide +kernel
theorem dX0_putPin_16 : decode cX0_putPin 16 = .ok (.iload_n 2, 1) := by decide +kernel
theorem dX0_putPin_17 : decode cX0_putPin 17 = .ok (.iastore, 1) := by decide +kernel
theorem dX0_putPin_18 : decode cX0_putPin 18 = .ok (.aload_n 0, 1) := by decide +kernel
theorem dX0_putPin_19 : decode cX0_putPin 19 = .ok (.getfield 25, 3) := by decide +kernel
theorem dX0_putPin_22 : decode cX0_putPin 22 = .ok (.iload_n 1, 1) := by decide +kernel
theorem dX0_putPin_23 : decode cX0_putPin 23 = .ok (.iload_n 3, 1) := by decide +kernel
theorem dX0_putPin_24 : decode cX0_putPin 24 = .ok (.iconst 1, 1) := by decide +kernel
theorem dX0_putPin_25 : decode cX0_putPin 25 = .ok (.iadd, 1) := by decide +kernel
theorem dX0_putPin_26 : decode cX0_putPin 26 = .ok (.iastore, 1) := by decide +kernel
theorem dX0_putPin_27 : decode cX0_putPin 27 = .ok (.aload_n 0, 1) := by decide +kernel
theorem dX0_putPin_28 : decode cX0_putPin 28 = .ok (.getfield 47, 3) := by decide +kernel
theorem dX0_putPin_31 : decode cX0_putPin 31 = .ok (.iload_n 2, 1) := by decide +kernel
theorem dX0_putPin_32 : decode cX0_putPin 32 = .ok (.iconst 1, 1) := by decide +kernel
theorem dX0_putPin_33 : decode cX0_putPin 33 = .ok (.bastore, 1) := by decide +kernel
theorem dX0_putPin_34 : decode cX0_putPin 34 = .ok (.aload_n 0, 1) := by decide +kernel
theorem dX0_putPin_35 : decode cX0_putPin 35 = .ok (.getfield 44, 3) := by decide +kernel
theorem dX0_putPin_38 : decode cX0_putPin 38 = .ok (.iload_n 2, 1) := by decide +kernel
theorem dX0_putPin_39 : decode cX0_putPin 39 = .ok (.iload_n 1, 1) := by decide +kernel
theorem dX0_putPin_40 : decode cX0_putPin 40 = .ok (.iastore, 1) := by decide +kernel
theorem dX0_putPin_41 : decode cX0_putPin 41 = .ok (.aload_n 0, 1) := by decide +kernel
theorem dX0_putPin_42 : decode cX0_putPin 42 = .ok (.getfield 44, 3) := by decide +kernel
theorem dX0_putPin_45 : decode cX0_putPin 45 = .ok (.iload_n 2, 1) := by decide +kernel
theorem dX0_putPin_46 : decode cX0_putPin 46 = .ok (.bipush 48, 2) := by decide +kernel
theorem dX0_putPin_48 : decode cX0_putPin 48 = .ok (.iadd, 1) := by decide +kernel
theorem dX0_putPin_49 : decode cX0_putPin 49 = .ok (.iload_n 1, 1) := by decide +kernel
theorem dX0_putPin_50 : decode cX0_putPin 50 = .ok (.iastore, 1) := by decide +kernel
theorem dX0_putPin_51 : decode cX0_putPin 51 = .ok (.iload_n 3, 1) := by decide +kernel
theorem dX0_putPin_52 : decode cX0_putPin 52 = .ok (.ireturn, 1) := by decide +kernel
theorem dX0_putWire_0 : decode cX0_putWire 0 = .ok (.aload_n 0, 1) := by decide +kernel
theorem dX0_putWire_1 : decode cX0_putWire 1 = .ok (.getfield 22, 3) := by decide +kernel
theorem dX0_putWire_4 : decode cX0_putWire 4 = .ok (.iload_n 1, 1) := by decide +kernel
theorem dX0_putWire_5 : decode cX0_putWire 5 = .ok (.iconst 1, 1) := by decide +kernel
theorem dX0_putWire_6 : decode cX0_putWire 6 = .ok (.bastore, 1) := by decide +kernel
theorem dX0_putWire_7 : decode cX0_putWire 7 = .ok (.iconst 0, 1) := by decide +kernel
theorem dX0_putWire_8 : decode cX0_putWire 8 = .ok (.istore 4, 2) := by decide +kernel
theorem dX0_putWire_10 : decode cX0_putWire 10 = .ok (.iload 4, 2) := by decide +kernel
theorem dX0_putWire_12 : decode cX0_putWire 12 = .ok (.bipush 96, 2) := by decide +kernel
theorem dX0_putWire_14 : decode cX0_putWire 14 = .ok (.if_icmp .ge 47, 3) := by decide +kernel
theorem dX0_putWire_17 : decode cX0_putWire 17 = .ok (.aload_n 2, 1) := by decide +kernel
theorem dX0_putWire_18 : decode cX0_putWire 18 = .ok (.iload 4, 2) := by decide +kernel
theorem dX0_putWire_20 : decode cX0_putWire 20 = .ok (.baload, 1) := by decide +kernel
theorem dX0_putWire_21 : decode cX0_putWire 21 = .ok (.ifCond .eq 34, 3) := by decide +kernel
theorem dX0_putWire_24 : decode cX0_putWire 24 = .ok (.aload_n 0, 1) := by decide +kernel
theorem dX0_putWire_25 : decode cX0_putWire 25 = .ok (.getfield 47, 3) := by decide +kernel
theorem dX0_putWire_28 : decode cX0_putWire 28 = .ok (.iload 4, 2) := by decide +kernel
theorem dX0_putWire_30 : decode cX0_putWire 30 = .ok (.bipush 48, 2) := by decide +kernel
theorem dX0_putWire_32 : decode cX0_putWire 32 = .ok (.irem, 1) := by decide +kernel
theorem dX0_putWire_33 : decode cX0_putWire 33 = .ok (.baload, 1) := by decide +kernel
theorem dX0_putWire_34 : decode cX0_putWire 34 = .ok (.ifCond .ne 21, 3) := by decide +kernel
theorem dX0_putWire_37 : decode cX0_putWire 37 = .ok (.aload_n 0, 1) := by decide +kernel
theorem dX0_putWire_38 : decode cX0_putWire 38 = .ok (.getfield 44, 3) := by decide +kernel
theorem dX0_putWire_41 : decode cX0_putWire 41 = .ok (.iload 4, 2) := by decide +kernel
theorem dX0_putWire_43 : decode cX0_putWire 43 = .ok (.iload_n 1, 1) := by decide +kernel
theorem dX0_putWire_44 : decode cX0_putWire 44 = .ok (.iastore, 1) := by decide +kernel
theorem dX0_putWire_45 : decode cX0_putWire 45 = .ok (.aload_n 0, 1) := by decide +kernel
theorem dX0_putWire_46 : decode cX0_putWire 46 = .ok (.getfield 32, 3) := by decide +kernel
theorem dX0_putWire_49 : decode cX0_putWire 49 = .ok (.iload_n 1, 1) := by decide +kernel
theorem dX0_putWire_50 : decode cX0_putWire 50 = .ok (.dup2, 1) := by decide +kernel
theorem dX0_putWire_51 : decode cX0_putWire 51 = .ok (.iaload, 1) := by decide +kernel
theorem dX0_putWire_52 : decode cX0_putWire 52 = .ok (.iconst 1, 1) := by decide +kernel
theorem dX0_putWire_53 : decode cX0_putWire 53 = .ok (.iadd, 1) := by decide +kernel
theorem dX0_putWire_54 : decode cX0_putWire 54 = .ok (.iastore, 1) := by decide +kernel
theorem dX0_putWire_55 : decode cX0_putWire 55 = .ok (.iinc 4 1, 3) := by decide +kernel
theorem dX0_putWire_58 : decode cX0_putWire 58 = .ok (.goto (-48), 3) := by decide +kernel
theorem dX0_putWire_61 : decode cX0_putWire 61 = .ok (.iconst 0, 1) := by decide +kernel
theorem dX0_putWire_62 : decode cX0_putWire 62 = .ok (.istore 4, 2) := by decide +kernel
theorem dX0_putWire_64 : decode cX0_putWire 64 = .ok (.iload 4, 2) := by decide +kernel
theorem dX0_putWire_66 : decode cX0_putWire 66 = .ok (.bipush 48, 2) := by decide +kernel
theorem dX0_putWire_68 : decode cX0_putWire 68 = .ok (.if_icmp .ge 34, 3) := by decide +kernel
theorem dX0_putWire_71 : decode cX0_putWire 71 = .ok (.aload_n 3, 1) := by decide +kernel
theorem dX0_putWire_72 : decode cX0_putWire 72 = .ok (.iload 4, 2) := by decide +kernel
theorem dX0_putWire_74 : decode cX0_putWire 74 = .ok (.baload, 1) := by decide +kernel
theorem dX0_putWire_75 : decode cX0_putWire 75 = .ok (.ifCond .eq 21, 3) := by decide +kernel
theorem dX0_putWire_78 : decode cX0_putWire 78 = .ok (.aload_n 0, 1) := by decide +kernel
theorem dX0_putWire_79 : decode cX0_putWire 79 = .ok (.getfield 50, 3) := by decide +kernel
theorem dX0_putWire_82 : decode cX0_putWire 82 = .ok (.iload 4, 2) := by decide +kernel
theorem dX0_putWire_84 : decode cX0_putWire 84 = .ok (.iconst 1, 1) := by decide +kernel
theorem dX0_putWire_85 : decode cX0_putWire 85 = .ok (.bastore, 1) := by decide +kernel
theorem dX0_putWire_86 : decode cX0_putWire 86 = .ok (.aload_n 0, 1) := by decide +kernel
theorem dX0_putWire_87 : decode cX0_putWire 87 = .ok (.getfield 35, 3) := by decide +kernel
theorem dX0_putWire_90 : decode cX0_putWire 90 = .ok (.iload_n 1, 1) := by decide +kernel
theorem dX0_putWire_91 : decode cX0_putWire 91 = .ok (.dup2, 1) := by decide +kernel
theorem dX0_putWire_92 : decode cX0_putWire 92 = .ok (.iaload, 1) := by decide +kernel
theorem dX0_putWire_93 : decode cX0_putWire 93 = .ok (.iconst 1, 1) := by decide +kernel
theorem dX0_putWire_94 : decode cX0_putWire 94 = .ok (.iadd, 1) := by decide +kernel
theorem dX0_putWire_95 : decode cX0_putWire 95 = .ok (.iastore, 1) := by decide +kernel
theorem dX0_putWire_96 : decode cX0_putWire 96 = .ok (.iinc 4 1, 3) := by decide +kernel
theorem dX0_putWire_99 : decode cX0_putWire 99 = .ok (.goto (-35), 3) := by decide +kernel
theorem dX0_putWire_102 : decode cX0_putWire 102 = .ok (.return_, 1) := by decide +kernel
theorem dX0_removeWire_0 : decode cX0_removeWire 0 = .ok (.iconst 0, 1) := by decide +kernel
theorem dX0_removeWire_1 : decode cX0_removeWire 1 = .ok (.istore_n 2, 1) := by decide +kernel
theorem dX0_removeWire_2 : decode cX0_removeWire 2 = .ok (.iload_n 2, 1) := by decide +kernel
theorem dX0_removeWire_3 : decode cX0_removeWire 3 = .ok (.bipush 96, 2) := by decide +kernel
theorem dX0_removeWire_5 : decode cX0_removeWire 5 = .ok (.if_icmp .ge 47, 3) := by decide +kernel
theorem dX0_removeWire_8 : decode cX0_removeWire 8 = .ok (.iload_n 2, 1) := by decide +kernel
theorem dX0_removeWire_9 : decode cX0_removeWire 9 = .ok (.bipush 48, 2) := by decide +kernel
theorem dX0_removeWire_11 : decode cX0_removeWire 11 = .ok (.irem, 1) := by decide +kernel
theorem dX0_removeWire_12 : decode cX0_removeWire 12 = .ok (.istore_n 3, 1) := by decide +kernel
theorem dX0_removeWire_13 : decode cX0_removeWire 13 = .ok (.aload_n 0, 1) := by decide +kernel
theorem dX0_removeWire_14 : decode cX0_removeWire 14 = .ok (.getfield 44, 3) := by decide +kernel
theorem dX0_removeWire_17 : decode cX0_removeWire 17 = .ok (.iload_n 2, 1) := by decide +kernel
theorem dX0_removeWire_18 : decode cX0_removeWire 18 = .ok (.iaload, 1) := by decide +kernel
theorem dX0_removeWire_19 : decode cX0_removeWire 19 = .ok (.iload_n 1, 1) := by decide +kernel
theorem dX0_removeWire_20 : decode cX0_removeWire 20 = .ok (.if_icmp .ne 26, 3) := by decide +kernel
theorem dX0_removeWire_23 : decode cX0_removeWire 23 = .ok (.aload_n 0, 1) := by decide +kernel
theorem dX0_removeWire_24 : decode cX0_removeWire 24 = .ok (.getfield 47, 3) := by decide +kernel
theorem dX0_removeWire_27 : decode cX0_removeWire 27 = .ok (.iload_n 3, 1) := by decide +kernel
theorem dX0_removeWire_28 : decode cX0_removeWire 28 = .ok (.baload, 1) := by decide +kernel
theorem dX0_removeWire_29 : decode cX0_removeWire 29 = .ok (.ifCond .ne 17, 3) := by decide +kernel
theorem dX0_removeWire_32 : decode cX0_removeWire 32 = .ok (.aload_n 0, 1) := by decide +kernel
theorem dX0_removeWire_33 : decode cX0_removeWire 33 = .ok (.getfield 44, 3) := by decide +kernel
theorem dX0_removeWire_36 : decode cX0_removeWire 36 = .ok (.iload_n 2, 1) := by decide +kernel
theorem dX0_removeWire_37 : decode cX0_removeWire 37 = .ok (.iconst (-1), 1) := by decide +kernel
theorem dX0_removeWire_38 : decode cX0_removeWire 38 = .ok (.iastore, 1) := by decide +kernel
theorem dX0_removeWire_39 : decode cX0_removeWire 39 = .ok (.aload_n 0, 1) := by decide +kernel
theorem dX0_removeWire_40 : decode cX0_removeWire 40 = .ok (.getfield 50, 3) := by decide +kernel
theorem dX0_removeWire_43 : decode cX0_removeWire 43 = .ok (.iload_n 3, 1) := by decide +kernel
theorem dX0_removeWire_44 : decode cX0_removeWire 44 = .ok (.iconst 0, 1) := by decide +kernel
theorem dX0_removeWire_45 : decode cX0_removeWire 45 = .ok (.bastore, 1) := by decide +kernel
theorem dX0_removeWire_46 : decode cX0_removeWire 46 = .ok (.iinc 2 1, 3) := by decide +kernel
theorem dX0_removeWire_49 : decode cX0_removeWire 49 = .ok (.goto (-47), 3) := by decide +kernel
theorem dX0_removeWire_52 : decode cX0_removeWire 52 = .ok (.aload_n 0, 1) := by decide +kernel
theorem dX0_removeWire_53 : decode cX0_removeWire 53 = .ok (.getfield 22, 3) := by decide +kernel
theorem dX0_removeWire_56 : decode cX0_removeWire 56 = .ok (.iload_n 1, 1) := by decide +kernel
theorem dX0_removeWire_57 : decode cX0_removeWire 57 = .ok (.iconst 0, 1) := by decide +kernel
theorem dX0_removeWire_58 : decode cX0_removeWire 58 = .ok (.bastore, 1) := by decide +kernel
theorem dX0_removeWire_59 : decode cX0_removeWire 59 = .ok (.aload_n 0, 1) := by decide +kernel
theorem dX0_removeWire_60 : decode cX0_removeWire 60 = .ok (.getfield 29, 3) := by decide +kernel
theorem dX0_removeWire_63 : decode cX0_removeWire 63 = .ok (.iload_n 1, 1) := by decide +kernel
theorem dX0_removeWire_64 : decode cX0_removeWire 64 = .ok (.iconst 0, 1) := by decide +kernel
theorem dX0_removeWire_65 : decode cX0_removeWire 65 = .ok (.iastore, 1) := by decide +kernel
theorem dX0_removeWire_66 : decode cX0_removeWire 66 = .ok (.aload_n 0, 1) := by decide +kernel
theorem dX0_removeWire_67 : decode cX0_removeWire 67 = .ok (.getfield 32, 3) := by decide +kernel
theorem dX0_removeWire_70 : decode cX0_removeWire 70 = .ok (.iload_n 1, 1) := by decide +kernel
theorem dX0_removeWire_71 : decode cX0_removeWire 71 = .ok (.iconst 0, 1) := by decide +kernel
theorem dX0_removeWire_72 : decode cX0_removeWire 72 = .ok (.iastore, 1) := by decide +kernel
theorem dX0_removeWire_73 : decode cX0_removeWire 73 = .ok (.aload_n 0, 1) := by decide +kernel
theorem dX0_removeWire_74 : decode cX0_removeWire 74 = .ok (.getfield 35, 3) := by decide +kernel
theorem dX0_removeWire_77 : decode cX0_removeWire 77 = .ok (.iload_n 1, 1) := by decide +kernel
theorem dX0_removeWire_78 : decode cX0_removeWire 78 = .ok (.iconst 0, 1) := by decide +kernel
theorem dX0_removeWire_79 : decode cX0_removeWire 79 = .ok (.iastore, 1) := by decide +kernel
theorem dX0_removeWire_80 : decode cX0_removeWire 80 = .ok (.aload_n 0, 1) := by decide +kernel
theorem dX0_removeWire_81 : decode cX0_removeWire 81 = .ok (.getfield 38, 3) := by decide +kernel
theorem dX0_removeWire_84 : decode cX0_removeWire 84 = .ok (.iload_n 1, 1) := by decide +kernel
theorem dX0_removeWire_85 : decode cX0_removeWire 85 = .ok (.dup2, 1) := by decide +kernel
theorem dX0_removeWire_86 : decode cX0_removeWire 86 = .ok (.iaload, 1) := by decide +kernel
theorem dX0_removeWire_87 : decode cX0_removeWire 87 = .ok (.iconst 1, 1) := by decide +kernel
theorem dX0_removeWire_88 : decode cX0_removeWire 88 = .ok (.iadd, 1) := by decide +kernel
theorem dX0_removeWire_89 : decode cX0_removeWire 89 = .ok (.iastore, 1) := by decide +kernel
theorem dX0_removeWire_90 : decode cX0_removeWire 90 = .ok (.return_, 1) := by decide +kernel
theorem dX1_init_0 : decode cX1_init 0 = .ok (.aload_n 0, 1) := by decide +kernel
theorem dX1_init_1 : decode cX1_init 1 = .ok (.invokespecial 3, 3) := by decide +kernel
theorem dX1_init_4 : decode cX1_init 4 = .ok (.aload_n 0, 1) := by decide +kernel
theorem dX1_init_5 : decode cX1_init 5 = .ok (.aload_n 1, 1) := by decide +kernel
theorem dX1_init_6 : decode cX1_init 6 = .ok (.putfield 9, 3) := by decide +kernel
theorem dX1_init_9 : decode cX1_init 9 = .ok (.aload_n 0, 1) := by decide +kernel
theorem dX1_init_10 : decode cX1_init 10 = .ok (.aload_n 2, 1) := by decide +kernel
theorem dX1_init_11 : decode cX1_init 11 = .ok (.putfield 15, 3) := by decide +kernel
theorem dX1_init_14 : decode cX1_init 14 = .ok (.aload_n 0, 1) := by decide +kernel
theorem dX1_init_15 : decode cX1_init 15 = .ok (.aload_n 3, 1) := by decide +kernel
theorem dX1_init_16 : decode cX1_init 16 = .ok (.putfield 19, 3) := by decide +kernel
theorem dX1_init_19 : decode cX1_init 19 = .ok (.return_, 1) := by decide +kernel
theorem dX1_addNet_0 : decode cX1_addNet 0 = .ok (.aload_n 0, 1) := by decide +kernel
theorem dX1_addNet_1 : decode cX1_addNet 1 = .ok (.getfield 9, 3) := by decide +kernel
theorem dX1_addNet_4 : decode cX1_addNet 4 = .ok (.getfield 23, 3) := by decide +kernel
theorem dX1_addNet_7 : decode cX1_addNet 7 = .ok (.bipush 6, 2) := by decide +kernel
theorem dX1_addNet_9 : decode cX1_addNet 9 = .ok (.if_icmp .lt 14, 3) := by decide +kernel
theorem dX1_addNet_12 : decode cX1_addNet 12 = .ok (.aload_n 0, 1) := by decide +kernel
theorem dX1_addNet_13 : decode cX1_addNet 13 = .ok (.getfield 19, 3) := by decide +kernel
theorem dX1_addNet_16 : decode cX1_addNet 16 = .ok (.iconst 2, 1) := by decide +kernel
theorem dX1_addNet_17 : decode cX1_addNet 17 = .ok (.bipush 6, 2) := by decide +kernel
theorem dX1_addNet_19 : decode cX1_addNet 19 = .ok (.invokevirtual 29, 3) := by decide +kernel
theorem dX1_addNet_22 : decode cX1_addNet 22 = .ok (.ireturn, 1) := by decide +kernel
theorem dX1_addNet_23 : decode cX1_addNet 23 = .ok (.aload_n 0, 1) := by decide +kernel
theorem dX1_addNet_24 : decode cX1_addNet 24 = .ok (.getfield 9, 3) := by decide +kernel
theorem dX1_addNet_27 : decode cX1_addNet 27 = .ok (.iload_n 1, 1) := by decide +kernel
theorem dX1_addNet_28 : decode cX1_addNet 28 = .ok (.invokevirtual 35, 3) := by decide +kernel
theorem dX1_addNet_31 : decode cX1_addNet 31 = .ok (.ireturn, 1) := by decide +kernel
theorem dX1_addPin_0 : decode cX1_addPin 0 = .ok (.aload_n 0, 1) := by decide +kernel
theorem dX1_addPin_1 : decode cX1_addPin 1 = .ok (.getfield 9, 3) := by decide +kernel
theorem dX1_addPin_4 : decode cX1_addPin 4 = .ok (.iload_n 1, 1) := by decide +kernel
theorem dX1_addPin_5 : decode cX1_addPin 5 = .ok (.invokevirtual 39, 3) := by decide +kernel
theorem dX1_addPin_8 : decode cX1_addPin 8 = .ok (.ifCond .ne 13, 3) := by decide +kernel
theorem dX1_addPin_11 : decode cX1_addPin 11 = .ok (.aload_n 0, 1) := by decide +kernel
theorem dX1_addPin_12 : decode cX1_addPin 12 = .ok (.getfield 19, 3) := by decide +kernel
theorem dX1_addPin_15 : decode cX1_addPin 15 = .ok (.iconst 3, 1) := by decide +kernel
theorem dX1_addPin_16 : decode cX1_addPin 16 = .ok (.iload_n 1, 1) := by decide +kernel
theorem dX1_addPin_17 : decode cX1_addPin 17 = .ok (.invokevirtual 29, 3) := by decide +kernel
theorem dX1_addPin_20 : decode cX1_addPin 20 = .ok (.ireturn, 1) := by decide +kernel
theorem dX1_addPin_21 : decode cX1_addPin 21 = .ok (.iload_n 2, 1) := by decide +kernel
theorem dX1_addPin_22 : decode cX1_addPin 22 = .ok (.iload_n 3, 1) := by decide +kernel
theorem dX1_addPin_23 : decode cX1_addPin 23 = .ok (.iconst 0, 1) := by decide +kernel
theorem dX1_addPin_24 : decode cX1_addPin 24 = .ok (.invokestatic 43, 3) := by decide +kernel
theorem dX1_addPin_27 : decode cX1_addPin 27 = .ok (.ifCond .ne 13, 3) := by decide +kernel
theorem dX1_addPin_30 : decode cX1_addPin 30 = .ok (.aload_n 0, 1) := by decide +kernel
theorem dX1_addPin_31 : decode cX1_addPin 31 = .ok (.getfield 19, 3) := by decide +kernel
theorem dX1_addPin_34 : decode cX1_addPin 34 = .ok (.iconst 1, 1) := by decide +kernel
theorem dX1_addPin_35 : decode cX1_addPin 35 = .ok (.iconst 0, 1) := by decide +kernel
theorem dX1_addPin_36 : decode cX1_addPin 36 = .ok (.invokevirtual 29, 3) := by decide +kernel
theorem dX1_addPin_39 : decode cX1_addPin 39 = .ok (.ireturn, 1) := by decide +kernel
theorem dX1_addPin_40 : decode cX1_addPin 40 = .ok (.aload_n 0, 1) := by decide +kernel
theorem dX1_addPin_41 : decode cX1_addPin 41 = .ok (.getfield 9, 3) := by decide +kernel
theorem dX1_addPin_44 : decode cX1_addPin 44 = .ok (.getfield 47, 3) := by decide +kernel
theorem dX1_addPin_47 : decode cX1_addPin 47 = .ok (.iload_n 1, 1) := by decide +kernel
theorem dX1_addPin_48 : decode cX1_addPin 48 = .ok (.baload, 1) := by decide +kernel
theorem dX1_addPin_49 : decode cX1_addPin 49 = .ok (.ifCond .eq 13, 3) := by decide +kernel
theorem dX1_addPin_52 : decode cX1_addPin 52 = .ok (.aload_n 0, 1) := by decide +kernel
theorem dX1_addPin_53 : decode cX1_addPin 53 = .ok (.getfield 19, 3) := by decide +kernel
theorem dX1_addPin_56 : decode cX1_addPin 56 = .ok (.iconst 4, 1) := by decide +kernel
theorem dX1_addPin_57 : decode cX1_addPin 57 = .ok (.iload_n 1, 1) := by decide +kernel
theorem dX1_addPin_58 : decode cX1_addPin 58 = .ok (.invokevirtual 29, 3) := by decide +kernel
theorem dX1_addPin_61 : decode cX1_addPin 61 = .ok (.ireturn, 1) := by decide +kernel
theorem dX1_addPin_62 : decode cX1_addPin 62 = .ok (.aload_n 0, 1) := by decide +kernel
theorem dX1_addPin_63 : decode cX1_addPin 63 = .ok (.getfield 9, 3) := by decide +kernel
theorem dX1_addPin_66 : decode cX1_addPin 66 = .ok (.getfield 51, 3) := by decide +kernel
theorem dX1_addPin_69 : decode cX1_addPin 69 = .ok (.iload_n 1, 1) := by decide +kernel
theorem dX1_addPin_70 : decode cX1_addPin 70 = .ok (.iaload, 1) := by decide +kernel
theorem dX1_addPin_71 : decode cX1_addPin 71 = .ok (.iconst 4, 1) := by decide +kernel
theorem dX1_addPin_72 : decode cX1_addPin 72 = .ok (.if_icmp .lt 13, 3) := by decide +kernel
theorem dX1_addPin_75 : decode cX1_addPin 75 = .ok (.aload_n 0, 1) := by decide +kernel
theorem dX1_addPin_76 : decode cX1_addPin 76 = .ok (.getfield 19, 3) := by decide +kernel
theorem dX1_addPin_79 : decode cX1_addPin 79 = .ok (.iconst 2, 1) := by decide +kernel
theorem dX1_addPin_80 : decode cX1_addPin 80 = .ok (.iconst 4, 1) := by decide +kernel
theorem dX1_addPin_81 : decode cX1_addPin 81 = .ok (.invokevirtual 29, 3) := by decide +kernel
theorem dX1_addPin_84 : decode cX1_addPin 84 = .ok (.ireturn, 1) := by decide +kernel
theorem dX1_addPin_85 : decode cX1_addPin 85 = .ok (.iload_n 2, 1) := by decide +kernel
theorem dX1_addPin_86 : decode cX1_addPin 86 = .ok (.iload_n 3, 1) := by decide +kernel
theorem dX1_addPin_87 : decode cX1_addPin 87 = .ok (.iconst 0, 1) := by decide +kernel
theorem dX1_addPin_88 : decode cX1_addPin 88 = .ok (.invokestatic 55, 3) := by decide +kernel
theorem dX1_addPin_91 : decode cX1_addPin 91 = .ok (.istore 4, 2) := by decide +kernel
theorem dX1_addPin_93 : decode cX1_addPin 93 = .ok (.iload 4, 2) := by decide +kernel
theorem dX1_addPin_95 : decode cX1_addPin 95 = .ok (.istore 5, 2) := by decide +kernel
theorem dX1_addPin_97 : decode cX1_addPin 97 = .ok (.iload 5, 2) := by decide +kernel
theorem dX1_addPin_99 : decode cX1_addPin 99 = .ok (.bipush 96, 2) := by decide +kernel
theorem dX1_addPin_101 : decode cX1_addPin 101 = .ok (.if_icmp .ge 30, 3) := by decide +kernel
theorem dX1_addPin_104 : decode cX1_addPin 104 = .ok (.aload_n 0, 1) := by decide +kernel
theorem dX1_addPin_105 : decode cX1_addPin 105 = .ok (.getfield 9, 3) := by decide +kernel
theorem dX1_addPin_108 : decode cX1_addPin 108 = .ok (.getfield 59, 3) := by decide +kernel
theorem dX1_addPin_111 : decode cX1_addPin 111 = .ok (.iload 5, 2) := by decide +kernel
theorem dX1_addPin_113 : decode cX1_addPin 113 = .ok (.iaload, 1) := by decide +kernel
theorem dX1_addPin_114 : decode cX1_addPin 114 = .ok (.iconst (-1), 1) := by decide +kernel
theorem dX1_addPin_115 : decode cX1_addPin 115 = .ok (.if_icmp .eq 10, 3) := by decide +kernel
theorem dX1_addPin_118 : decode cX1_addPin 118 = .ok (.aload_n 0, 1) := by decide +kernel
theorem dX1_addPin_119 : decode cX1_addPin 119 = .ok (.iload 5, 2) := by decide +kernel
theorem dX1_addPin_121 : decode cX1_addPin 121 = .ok (.invokevirtual 62, 3) := by decide +kernel
theorem dX1_addPin_124 : decode cX1_addPin 124 = .ok (.ireturn, 1) := by decide +kernel
theorem dX1_addPin_125 : decode cX1_addPin 125 = .ok (.iinc 5 48, 3) := by decide +kernel
theorem dX1_addPin_128 : decode cX1_addPin 128 = .ok (.goto (-31), 3) := by decide +kernel
theorem dX1_addPin_131 : decode cX1_addPin 131 = .ok (.iload 4, 2) := by decide +kernel
theorem dX1_addPin_133 : decode cX1_addPin 133 = .ok (.istore 5, 2) := by decide +kernel
theorem dX1_addPin_135 : decode cX1_addPin 135 = .ok (.iload 5, 2) := by decide +kernel
theorem dX1_addPin_137 : decode cX1_addPin 137 = .ok (.bipush 96, 2) := by decide +kernel
theorem dX1_addPin_139 : decode cX1_addPin 139 = .ok (.if_icmp .ge 43, 3) := by decide +kernel
theorem dX1_addPin_142 : decode cX1_addPin 142 = .ok (.aload_n 0, 1) := by decide +kernel
theorem dX1_addPin_143 : decode cX1_addPin 143 = .ok (.getfield 9, 3) := by decide +kernel
theorem dX1_addPin_146 : decode cX1_addPin 146 = .ok (.iload_n 1, 1) := by decide +kernel
theorem dX1_addPin_147 : decode cX1_addPin 147 = .ok (.iload 5, 2) := by decide +kernel
theorem dX1_addPin_149 : decode cX1_addPin 149 = .ok (.iconst 1, 1) := by decide +kernel
theorem dX1_addPin_150 : decode cX1_addPin 150 = .ok (.iconst 1, 1) := by decide +kernel
theorem dX1_addPin_151 : decode cX1_addPin 151 = .ok (.invokevirtual 66, 3) := by decide +kernel
theorem dX1_addPin_154 : decode cX1_addPin 154 = .ok (.istore 6, 2) := by decide +kernel
theorem dX1_addPin_156 : decode cX1_addPin 156 = .ok (.iload 6, 2) := by decide +kernel
theorem dX1_addPin_158 : decode cX1_addPin 158 = .ok (.ifCond .eq 18, 3) := by decide +kernel
theorem dX1_addPin_161 : decode cX1_addPin 161 = .ok (.aload_n 0, 1) := by decide +kernel
theorem dX1_addPin_162 : decode cX1_addPin 162 = .ok (.getfield 19, 3) := by decide +kernel
theorem dX1_addPin_165 : decode cX1_addPin 165 = .ok (.bipush 6, 2) := by decide +kernel
theorem dX1_addPin_167 : decode cX1_addPin 167 = .ok (.iload 6, 2) := by decide +kernel
theorem dX1_addPin_169 : decode cX1_addPin 169 = .ok (.invokestatic 70, 3) := by decide +kernel
theorem dX1_addPin_172 : decode cX1_addPin 172 = .ok (.invokevirtual 29, 3) := by decide +kernel
theorem dX1_addPin_175 : decode cX1_addPin 175 = .ok (.ireturn, 1) := by decide +kernel
theorem dX1_addPin_176 : decode cX1_addPin 176 = .ok (.iinc 5 48, 3) := by decide +kernel
theorem dX1_addPin_179 : decode cX1_addPin 179 = .ok (.goto (-44), 3) := by decide +kernel
theorem dX1_addPin_182 : decode cX1_addPin 182 = .ok (.aload_n 0, 1) := by decide +kernel
theorem dX1_addPin_183 : decode cX1_addPin 183 = .ok (.getfield 9, 3) := by decide +kernel
theorem dX1_addPin_186 : decode cX1_addPin 186 = .ok (.iload_n 1, 1) := by decide +kernel
theorem dX1_addPin_187 : decode cX1_addPin 187 = .ok (.iload 4, 2) := by decide +kernel
theorem dX1_addPin_189 : decode cX1_addPin 189 = .ok (.invokevirtual 73, 3) := by decide +kernel
theorem dX1_addPin_192 : decode cX1_addPin 192 = .ok (.ireturn, 1) := by decide +kernel
theorem dX1_addWall_0 : decode cX1_addWall 0 = .ok (.iload_n 1, 1) := by decide +kernel
theorem dX1_addWall_1 : decode cX1_addWall 1 = .ok (.iload_n 2, 1) := by decide +kernel
theorem dX1_addWall_2 : decode cX1_addWall 2 = .ok (.iload_n 3, 1) := by decide +kernel
theorem dX1_addWall_3 : decode cX1_addWall 3 = .ok (.invokestatic 43, 3) := by decide +kernel
theorem dX1_addWall_6 : decode cX1_addWall 6 = .ok (.ifCond .ne 13, 3) := by decide +kernel
theorem dX1_addWall_9 : decode cX1_addWall 9 = .ok (.aload_n 0, 1) := by decide +kernel
theorem dX1_addWall_10 : decode cX1_addWall 10 = .ok (.getfield 19, 3) := by decide +kernel
theorem dX1_addWall_13 : decode cX1_addWall 13 = .ok (.iconst 1, 1) := by decide +kernel
theorem dX1_addWall_14 : decode cX1_addWall 14 = .ok (.iconst 0, 1) := by decide +kernel
theorem dX1_addWall_15 : decode cX1_addWall 15 = .ok (.invokevirtual 29, 3) := by decide +kernel
theorem dX1_addWall_18 : decode cX1_addWall 18 = .ok (.ireturn, 1) := by decide +kernel
theorem dX1_addWall_19 : decode cX1_addWall 19 = .ok (.iload_n 1, 1) := by decide +kernel
theorem dX1_addWall_20 : decode cX1_addWall 20 = .ok (.iload_n 2, 1) := by decide +kernel
theorem dX1_addWall_21 : decode cX1_addWall 21 = .ok (.iload_n 3, 1) := by decide +kernel
theorem dX1_addWall_22 : decode cX1_addWall 22 = .ok (.invokestatic 55, 3) := by decide +kernel
theorem dX1_addWall_25 : decode cX1_addWall 25 = .ok (.istore 4, 2) := by decide +kernel
theorem dX1_addWall_27 : decode cX1_addWall 27 = .ok (.aload_n 0, 1) := by decide +kernel
theorem dX1_addWall_28 : decode cX1_addWall 28 = .ok (.getfield 9, 3) := by decide +kernel
theorem dX1_addWall_31 : decode cX1_addWall 31 = .ok (.getfield 59, 3) := by decide +kernel
theorem dX1_addWall_34 : decode cX1_addWall 34 = .ok (.iload 4, 2) := by decide +kernel
theorem dX1_addWall_36 : decode cX1_addWall 36 = .ok (.iaload, 1) := by decide +kernel
theorem dX1_addWall_37 : decode cX1_addWall 37 = .ok (.iconst (-1), 1) := by decide +kernel
theorem dX1_addWall_38 : decode cX1_addWall 38 = .ok (.if_icmp .eq 10, 3) := by decide +kernel
theorem dX1_addWall_41 : decode cX1_addWall 41 = .ok (.aload_n 0, 1) := by decide +kernel
theorem dX1_addWall_42 : decode cX1_addWall 42 = .ok (.iload 4, 2) := by decide +kernel
theorem dX1_addWall_44 : decode cX1_addWall 44 = .ok (.invokevirtual 62, 3) := by decide +kernel
theorem dX1_addWall_47 : decode cX1_addWall 47 = .ok (.ireturn, 1) := by decide +kernel
theorem dX1_addWall_48 : decode cX1_addWall 48 = .ok (.aload_n 0, 1) := by decide +kernel
theorem dX1_addWall_49 : decode cX1_addWall 49 = .ok (.getfield 9, 3) := by decide +kernel
theorem dX1_addWall_52 : decode cX1_addWall 52 = .ok (.getfield 59, 3) := by decide +kernel
theorem dX1_addWall_55 : decode cX1_addWall 55 = .ok (.iload 4, 2) := by decide +kernel
theorem dX1_addWall_57 : decode cX1_addWall 57 = .ok (.bipush (-2), 2) := by decide +kernel
theorem dX1_addWall_59 : decode cX1_addWall 59 = .ok (.iastore, 1) := by decide +kernel
theorem dX1_addWall_60 : decode cX1_addWall 60 = .ok (.aload_n 0, 1) := by decide +kernel
theorem dX1_addWall_61 : decode cX1_addWall 61 = .ok (.getfield 9, 3) := by decide +kernel
theorem dX1_addWall_64 : decode cX1_addWall 64 = .ok (.dup, 1) := by decide +kernel
theorem dX1_addWall_65 : decode cX1_addWall 65 = .ok (.getfield 76, 3) := by decide +kernel
theorem dX1_addWall_68 : decode cX1_addWall 68 = .ok (.iconst 1, 1) := by decide +kernel
theorem dX1_addWall_69 : decode cX1_addWall 69 = .ok (.iadd, 1) := by decide +kernel
theorem dX1_addWall_70 : decode cX1_addWall 70 = .ok (.putfield 76, 3) := by decide +kernel
theorem dX1_addWall_73 : decode cX1_addWall 73 = .ok (.aload_n 0, 1) := by decide +kernel
theorem dX1_addWall_74 : decode cX1_addWall 74 = .ok (.getfield 9, 3) := by decide +kernel
theorem dX1_addWall_77 : decode cX1_addWall 77 = .ok (.getfield 76, 3) := by decide +kernel
theorem dX1_addWall_80 : decode cX1_addWall 80 = .ok (.ireturn, 1) := by decide +kernel
theorem dX1_removeWall_0 : decode cX1_removeWall 0 = .ok (.iload_n 1, 1) := by decide +kernel
theorem dX1_removeWall_1 : decode cX1_removeWall 1 = .ok (.iload_n 2, 1) := by decide +kernel
theorem dX1_removeWall_2 : decode cX1_removeWall 2 = .ok (.iload_n 3, 1) := by decide +kernel
theorem dX1_removeWall_3 : decode cX1_removeWall 3 = .ok (.invokestatic 43, 3) := by decide +kernel
theorem dX1_removeWall_6 : decode cX1_removeWall 6 = .ok (.ifCond .ne 13, 3) := by decide +kernel
theorem dX1_removeWall_9 : decode cX1_removeWall 9 = .ok (.aload_n 0, 1) := by decide +kernel
theorem dX1_removeWall_10 : decode cX1_removeWall 10 = .ok (.getfield 19, 3) := by decide +kernel
theorem dX1_removeWall_13 : decode cX1_removeWall 13 = .ok (.iconst 1, 1) := by decide +kernel
theorem dX1_removeWall_14 : decode cX1_removeWall 14 = .ok (.iconst 0, 1) := by decide +kernel
theorem dX1_removeWall_15 : decode cX1_removeWall 15 = .ok (.invokevirtual 29, 3) := by decide +kernel
theorem dX1_removeWall_18 : decode cX1_removeWall 18 = .ok (.ireturn, 1) := by decide +kernel
theorem dX1_removeWall_19 : decode cX1_removeWall 19 = .ok (.iload_n 1, 1) := by decide +kernel
theorem dX1_removeWall_20 : decode cX1_removeWall 20 = .ok (.iload_n 2, 1) := by decide +kernel
theorem dX1_removeWall_21 : decode cX1_removeWall 21 = .ok (.iload_n 3, 1) := by decide +kernel
theorem dX1_removeWall_22 : decode cX1_removeWall 22 = .ok (.invokestatic 55, 3) := by decide +kernel
theorem dX1_removeWall_25 : decode cX1_removeWall 25 = .ok (.istore 4, 2) := by decide +kernel
theorem dX1_removeWall_27 : decode cX1_removeWall 27 = .ok (.aload_n 0, 1) := by decide +kernel
theorem dX1_removeWall_28 : decode cX1_removeWall 28 = .ok (.getfield 9, 3) := by decide +kernel
theorem dX1_removeWall_31 : decode cX1_removeWall 31 = .ok (.getfield 59, 3) := by decide +kernel
theorem dX1_removeWall_34 : decode cX1_removeWall 34 = .ok (.iload 4, 2) := by decide +kernel
theorem dX1_removeWall_36 : decode cX1_removeWall 36 = .ok (.iaload, 1) := by decide +kernel
theorem dX1_removeWall_37 : decode cX1_removeWall 37 = .ok (.bipush (-2), 2) := by decide +kernel
theorem dX1_removeWall_39 : decode cX1_removeWall 39 = .ok (.if_icmp .eq 14, 3) := by decide +kernel
theorem dX1_removeWall_42 : decode cX1_removeWall 42 = .ok (.aload_n 0, 1) := by decide +kernel
theorem dX1_removeWall_43 : decode cX1_removeWall 43 = .ok (.getfield 19, 3) := by decide +kernel
theorem dX1_removeWall_46 : decode cX1_removeWall 46 = .ok (.bipush 7, 2) := by decide +kernel
theorem dX1_removeWall_48 : decode cX1_removeWall 48 = .ok (.iconst 0, 1) := by decide +kernel
theorem dX1_removeWall_49 : decode cX1_removeWall 49 = .ok (.invokevirtual 29, 3) := by decide +kernel
theorem dX1_removeWall_52 : decode cX1_removeWall 52 = .ok (.ireturn, 1) := by decide +kernel
theorem dX1_removeWall_53 : decode cX1_removeWall 53 = .ok (.aload_n 0, 1) := by decide +kernel
theorem dX1_removeWall_54 : decode cX1_removeWall 54 = .ok (.getfield 9, 3) := by decide +kernel
theorem dX1_removeWall_57 : decode cX1_removeWall 57 = .ok (.getfield 59, 3) := by decide +kernel
theorem dX1_removeWall_60 : decode cX1_removeWall 60 = .ok (.iload 4, 2) := by decide +kernel
theorem dX1_removeWall_62 : decode cX1_removeWall 62 = .ok (.iconst (-1), 1) := by decide +kernel
theorem dX1_removeWall_63 : decode cX1_removeWall 63 = .ok (.iastore, 1) := by decide +kernel
theorem dX1_removeWall_64 : decode cX1_removeWall 64 = .ok (.aload_n 0, 1) := by decide +kernel
theorem dX1_removeWall_65 : decode cX1_removeWall 65 = .ok (.getfield 9, 3) := by decide +kernel
theorem dX1_removeWall_68 : decode cX1_removeWall 68 = .ok (.dup, 1) := by decide +kernel
theorem dX1_removeWall_69 : decode cX1_removeWall 69 = .ok (.getfield 76, 3) := by decide +kernel
theorem dX1_removeWall_72 : decode cX1_removeWall 72 = .ok (.iconst 1, 1) := by decide +kernel
theorem dX1_removeWall_73 : decode cX1_removeWall 73 = .ok (.isub, 1) := by decide +kernel
theorem dX1_removeWall_74 : decode cX1_removeWall 74 = .ok (.putfield 76, 3) := by decide +kernel
theorem dX1_removeWall_77 : decode cX1_removeWall 77 = .ok (.aload_n 0, 1) := by decide +kernel
theorem dX1_removeWall_78 : decode cX1_removeWall 78 = .ok (.getfield 9, 3) := by decide +kernel
theorem dX1_removeWall_81 : decode cX1_removeWall 81 = .ok (.getfield 76, 3) := by decide +kernel
theorem dX1_removeWall_84 : decode cX1_removeWall 84 = .ok (.ireturn, 1) := by decide +kernel
theorem dX1_layWays_0 : decode cX1_layWays 0 = .ok (.aload_n 0, 1) := by decide +kernel
theorem dX1_layWays_1 : decode cX1_layWays 1 = .ok (.getfield 9, 3) := by decide +kernel
theorem dX1_layWays_4 : decode cX1_layWays 4 = .ok (.iload_n 1, 1) := by decide +kernel
theorem dX1_layWays_5 : decode cX1_layWays 5 = .ok (.invokevirtual 39, 3) := by decide +kernel
theorem dX1_layWays_8 : decode cX1_layWays 8 = .ok (.ifCond .ne 13, 3) := by decide +kernel
theorem dX1_layWays_11 : decode cX1_layWays 11 = .ok (.aload_n 0, 1) := by decide +kernel
theorem dX1_layWays_12 : decode cX1_layWays 12 = .ok (.getfield 19, 3) := by decide +kernel
theorem dX1_layWays_15 : decode cX1_layWays 15 = .ok (.iconst 3, 1) := by decide +kernel
theorem dX1_layWays_16 : decode cX1_layWays 16 = .ok (.iload_n 1, 1) := by decide +kernel
theorem dX1_layWays_17 : decode cX1_layWays 17 = .ok (.invokevirtual 29, 3) := by decide +kernel
theorem dX1_layWays_20 : decode cX1_layWays 20 = .ok (.ireturn, 1) := by decide +kernel
theorem dX1_layWays_21 : decode cX1_layWays 21 = .ok (.aload_n 0, 1) := by decide +kernel
theorem dX1_layWays_22 : decode cX1_layWays 22 = .ok (.getfield 9, 3) := by decide +kernel
theorem dX1_layWays_25 : decode cX1_layWays 25 = .ok (.getfield 47, 3) := by decide +kernel
theorem dX1_layWays_28 : decode cX1_layWays 28 = .ok (.iload_n 1, 1) := by decide +kernel
theorem dX1_layWays_29 : decode cX1_layWays 29 = .ok (.baload, 1) := by decide +kernel
theorem dX1_layWays_30 : decode cX1_layWays 30 = .ok (.ifCond .eq 13, 3) := by decide +kernel
theorem dX1_layWays_33 : decode cX1_layWays 33 = .ok (.aload_n 0, 1) := by decide +kernel
theorem dX1_layWays_34 : decode cX1_layWays 34 = .ok (.getfield 19, 3) := by decide +kernel
theorem dX1_layWays_37 : decode cX1_layWays 37 = .ok (.iconst 4, 1) := by decide +kernel
theorem dX1_layWays_38 : decode cX1_layWays 38 = .ok (.iload_n 1, 1) := by decide +kernel
theorem dX1_layWays_39 : decode cX1_layWays 39 = .ok (.invokevirtual 29, 3) := by decide +kernel
theorem dX1_layWays_42 : decode cX1_layWays 42 = .ok (.ireturn, 1) := by decide +kernel
theorem dX1_layWays_43 : decode cX1_layWays 43 = .ok (.aload_n 0, 1) := by decide +kernel
theorem dX1_layWays_44 : decode cX1_layWays 44 = .ok (.getfield 9, 3) := by decide +kernel
theorem dX1_layWays_47 : decode cX1_layWays 47 = .ok (.getfield 51, 3) := by decide +kernel
theorem dX1_layWays_50 : decode cX1_layWays 50 = .ok (.iload_n 1, 1) := by decide +kernel
theorem dX1_layWays_51 : decode cX1_layWays 51 = .ok (.iaload, 1) := by decide +kernel
theorem dX1_layWays_52 : decode cX1_layWays 52 = .ok (.iconst 2, 1) := by decide +kernel
theorem dX1_layWays_53 : decode cX1_layWays 53 = .ok (.if_icmp .ge 22, 3) := by decide +kernel
theorem dX1_layWays_56 : decode cX1_layWays 56 = .ok (.aload_n 0, 1) := by decide +kernel
theorem dX1_layWays_57 : decode cX1_layWays 57 = .ok (.getfield 19, 3) := by decide +kernel
theorem dX1_layWays_60 : decode cX1_layWays 60 = .ok (.bipush 8, 2) := by decide +kernel
theorem dX1_layWays_62 : decode cX1_layWays 62 = .ok (.aload_n 0, 1) := by decide +kernel
theorem dX1_layWays_63 : decode cX1_layWays 63 = .ok (.getfield 9, 3) := by decide +kernel
theorem dX1_layWays_66 : decode cX1_layWays 66 = .ok (.getfield 51, 3) := by decide +kernel
theorem dX1_layWays_69 : decode cX1_layWays 69 = .ok (.iload_n 1, 1) := by decide +kernel
theorem dX1_layWays_70 : decode cX1_layWays 70 = .ok (.iaload, 1) := by decide +kernel
theorem dX1_layWays_71 : decode cX1_layWays 71 = .ok (.invokevirtual 29, 3) := by decide +kernel
theorem dX1_layWays_74 : decode cX1_layWays 74 = .ok (.ireturn, 1) := by decide +kernel
theorem dX1_layWays_75 : decode cX1_layWays 75 = .ok (.aload_n 0, 1) := by decide +kernel
theorem dX1_layWays_76 : decode cX1_layWays 76 = .ok (.getfield 15, 3) := by decide +kernel
theorem dX1_layWays_79 : decode cX1_layWays 79 = .ok (.iload_n 1, 1) := by decide +kernel
theorem dX1_layWays_80 : decode cX1_layWays 80 = .ok (.invokevirtual 79, 3) := by decide +kernel
theorem dX1_layWays_83 : decode cX1_layWays 83 = .ok (.aload_n 0, 1) := by decide +kernel
theorem dX1_layWays_84 : decode cX1_layWays 84 = .ok (.getfield 15, 3) := by decide +kernel
theorem dX1_layWays_87 : decode cX1_layWays 87 = .ok (.iload_n 2, 1) := by decide +kernel
theorem dX1_layWays_88 : decode cX1_layWays 88 = .ok (.invokevirtual 85, 3) := by decide +kernel
theorem dX1_layWays_91 : decode cX1_layWays 91 = .ok (.ifCond .ne 20, 3) := by decide +kernel
theorem dX1_layWays_94 : decode cX1_layWays 94 = .ok (.aload_n 0, 1) := by decide +kernel
theorem dX1_layWays_95 : decode cX1_layWays 95 = .ok (.getfield 19, 3) := by decide +kernel
theorem dX1_layWays_98 : decode cX1_layWays 98 = .ok (.bipush 9, 2) := by decide +kernel
theorem dX1_layWays_100 : decode cX1_layWays 100 = .ok (.aload_n 0, 1) := by decide +kernel
theorem dX1_layWays_101 : decode cX1_layWays 101 = .ok (.getfield 15, 3) := by decide +kernel
theorem dX1_layWays_104 : decode cX1_layWays 104 = .ok (.getfield 89, 3) := by decide +kernel
theorem dX1_layWays_107 : decode cX1_layWays 107 = .ok (.invokevirtual 29, 3) := by decide +kernel
theorem dX1_layWays_110 : decode cX1_layWays 110 = .ok (.ireturn, 1) := by decide +kernel
theorem dX1_layWays_111 : decode cX1_layWays 111 = .ok (.iload_n 2, 1) := by decide +kernel
theorem dX1_layWays_112 : decode cX1_layWays 112 = .ok (.ifCond .eq 13, 3) := by decide +kernel
theorem dX1_layWays_115 : decode cX1_layWays 115 = .ok (.aload_n 0, 1) := by decide +kernel
theorem dX1_layWays_116 : decode cX1_layWays 116 = .ok (.getfield 15, 3) := by decide +kernel
theorem dX1_layWays_119 : decode cX1_layWays 119 = .ok (.invokevirtual 92, 3) := by decide +kernel
theorem dX1_layWays_122 : decode cX1_layWays 122 = .ok (.goto 4, 3) := by decide +kernel
theorem dX1_layWays_125 : decode cX1_layWays 125 = .ok (.iconst 0, 1) := by decide +kernel
theorem dX1_layWays_126 : decode cX1_layWays 126 = .ok (.istore_n 3, 1) := by decide +kernel
theorem dX1_layWays_127 : decode cX1_layWays 127 = .ok (.aload_n 0, 1) := by decide +kernel
theorem dX1_layWays_128 : decode cX1_layWays 128 = .ok (.getfield 9, 3) := by decide +kernel
theorem dX1_layWays_131 : decode cX1_layWays 131 = .ok (.invokevirtual 96, 3) := by decide +kernel
theorem dX1_layWays_134 : decode cX1_layWays 134 = .ok (.aload_n 0, 1) := by decide +kernel
theorem dX1_layWays_135 : decode cX1_layWays 135 = .ok (.getfield 15, 3) := by decide +kernel
theorem dX1_layWays_138 : decode cX1_layWays 138 = .ok (.getfield 99, 3) := by decide +kernel
theorem dX1_layWays_141 : decode cX1_layWays 141 = .ok (.iadd, 1) := by decide +kernel
theorem dX1_layWays_142 : decode cX1_layWays 142 = .ok (.aload_n 0, 1) := by decide +kernel
theorem dX1_layWays_143 : decode cX1_layWays 143 = .ok (.iload_n 3, 1) := by decide +kernel
theorem dX1_layWays_144 : decode cX1_layWays 144 = .ok (.invokevirtual 102, 3) := by decide +kernel
theorem dX1_layWays_147 : decode cX1_layWays 147 = .ok (.isub, 1) := by decide +kernel
theorem dX1_layWays_148 : decode cX1_layWays 148 = .ok (.istore 4, 2) := by decide +kernel
theorem dX1_layWays_150 : decode cX1_layWays 150 = .ok (.iload 4, 2) := by decide +kernel
theorem dX1_layWays_152 : decode cX1_layWays 152 = .ok (.bipush 12, 2) := by decide +kernel
theorem dX1_layWays_154 : decode cX1_layWays 154 = .ok (.if_icmp .le 15, 3) := by decide +kernel
theorem dX1_layWays_157 : decode cX1_layWays 157 = .ok (.aload_n 0, 1) := by decide +kernel
theorem dX1_layWays_158 : decode cX1_layWays 158 = .ok (.getfield 19, 3) := by decide +kernel
theorem dX1_layWays_161 : decode cX1_layWays 161 = .ok (.bipush 10, 2) := by decide +kernel
theorem dX1_layWays_163 : decode cX1_layWays 163 = .ok (.iload 4, 2) := by decide +kernel
theorem dX1_layWays_165 : decode cX1_layWays 165 = .ok (.invokevirtual 29, 3) := by decide +kernel
theorem dX1_layWays_168 : decode cX1_layWays 168 = .ok (.ireturn, 1) := by decide +kernel
theorem dX1_layWays_169 : decode cX1_layWays 169 = .ok (.aload_n 0, 1) := by decide +kernel
theorem dX1_layWays_170 : decode cX1_layWays 170 = .ok (.iload_n 3, 1) := by decide +kernel
theorem dX1_layWays_171 : decode cX1_layWays 171 = .ok (.invokevirtual 105, 3) := by decide +kernel
theorem dX1_layWays_174 : decode cX1_layWays 174 = .ok (.aload_n 0, 1) := by decide +kernel
theorem dX1_layWays_175 : decode cX1_layWays 175 = .ok (.getfield 9, 3) := by decide +kernel
theorem dX1_layWays_178 : decode cX1_layWays 178 = .ok (.iload_n 1, 1) := by decide +kernel
theorem dX1_layWays_179 : decode cX1_layWays 179 = .ok (.aload_n 0, 1) := by decide +kernel
theorem dX1_layWays_180 : decode cX1_layWays 180 = .ok (.getfield 15, 3) := by decide +kernel
theorem dX1_layWays_183 : decode cX1_layWays 183 = .ok (.getfield 108, 3) := by decide +kernel
theorem dX1_layWays_186 : decode cX1_layWays 186 = .ok (.aload_n 0, 1) := by decide +kernel
theorem dX1_layWays_187 : decode cX1_layWays 187 = .ok (.getfield 15, 3) := by decide +kernel
theorem dX1_layWays_190 : decode cX1_layWays 190 = .ok (.getfield 111, 3) := by decide +kernel
theorem dX1_layWays_193 : decode cX1_layWays 193 = .ok (.invokevirtual 114, 3) := by decide +kernel
theorem dX1_layWays_196 : decode cX1_layWays 196 = .ok (.aload_n 0, 1) := by decide +kernel
theorem dX1_layWays_197 : decode cX1_layWays 197 = .ok (.getfield 9, 3) := by decide +kernel
theorem dX1_layWays_200 : decode cX1_layWays 200 = .ok (.getfield 118, 3) := by decide +kernel
theorem dX1_layWays_203 : decode cX1_layWays 203 = .ok (.iload_n 1, 1) := by decide +kernel
theorem dX1_layWays_204 : decode cX1_layWays 204 = .ok (.aload_n 0, 1) := by decide +kernel
theorem dX1_layWays_205 : decode cX1_layWays 205 = .ok (.getfield 15, 3) := by decide +kernel
theorem dX1_layWays_208 : decode cX1_layWays 208 = .ok (.getfield 121, 3) := by decide +kernel
theorem dX1_layWays_211 : decode cX1_layWays 211 = .ok (.iastore, 1) := by decide +kernel
theorem dX1_layWays_212 : decode cX1_layWays 212 = .ok (.iload_n 2, 1) := by decide +kernel
theorem dX1_layWays_213 : decode cX1_layWays 213 = .ok (.ifCond .eq 7, 3) := by decide +kernel
theorem dX1_layWays_216 : decode cX1_layWays 216 = .ok (.iload_n 3, 1) := by decide +kernel
theorem dX1_layWays_217 : decode cX1_layWays 217 = .ok (.goto 10, 3) := by decide +kernel
theorem dX1_layWays_220 : decode cX1_layWays 220 = .ok (.aload_n 0, 1) := by decide +kernel
theorem dX1_layWays_221 : decode cX1_layWays 221 = .ok (.getfield 15, 3) := by decide +kernel
theorem dX1_layWays_224 : decode cX1_layWays 224 = .ok (.getfield 121, 3) := by decide +kernel
theorem dX1_layWays_227 : decode cX1_layWays 227 = .ok (.ireturn, 1) := by decide +kernel
theorem dX1_takeWire_0 : decode cX1_takeWire 0 = .ok (.aload_n 0, 1) := by decide +kernel
theorem dX1_takeWire_1 : decode cX1_takeWire 1 = .ok (.getfield 9, 3) := by decide +kernel
theorem dX1_takeWire_4 : decode cX1_takeWire 4 = .ok (.iload_n 1, 1) := by decide +kernel
theorem dX1_takeWire_5 : decode cX1_takeWire 5 = .ok (.invokevirtual 39, 3) := by decide +kernel
theorem dX1_takeWire_8 : decode cX1_takeWire 8 = .ok (.ifCond .ne 13, 3) := by decide +kernel
theorem dX1_takeWire_11 : decode cX1_takeWire 11 = .ok (.aload_n 0, 1) := by decide +kernel
theorem dX1_takeWire_12 : decode cX1_takeWire 12 = .ok (.getfield 19, 3) := by decide +kernel
theorem dX1_takeWire_15 : decode cX1_takeWire 15 = .ok (.iconst 3, 1) := by decide +kernel
theorem dX1_takeWire_16 : decode cX1_takeWire 16 = .ok (.iload_n 1, 1) := by decide +kernel
theorem dX1_takeWire_17 : decode cX1_takeWire 17 = .ok (.invokevirtual 29, 3) := by decide +kernel
theorem dX1_takeWire_20 : decode cX1_takeWire 20 = .ok (.ireturn, 1) := by decide +kernel
theorem dX1_takeWire_21 : decode cX1_takeWire 21 = .ok (.aload_n 0, 1) := by decide +kernel
theorem dX1_takeWire_22 : decode cX1_takeWire 22 = .ok (.getfield 9, 3) := by decide +kernel
theorem dX1_takeWire_25 : decode cX1_takeWire 25 = .ok (.getfield 47, 3) := by decide +kernel
theorem dX1_takeWire_28 : decode cX1_takeWire 28 = .ok (.iload_n 1, 1) := by decide +kernel
theorem dX1_takeWire_29 : decode cX1_takeWire 29 = .ok (.baload, 1) := by decide +kernel
theorem dX1_takeWire_30 : decode cX1_takeWire 30 = .ok (.ifCond .ne 14, 3) := by decide +kernel
theorem dX1_takeWire_33 : decode cX1_takeWire 33 = .ok (.aload_n 0, 1) := by decide +kernel
theorem dX1_takeWire_34 : decode cX1_takeWire 34 = .ok (.getfield 19, 3) := by decide +kernel
theorem dX1_takeWire_37 : decode cX1_takeWire 37 = .ok (.bipush 11, 2) := by decide +kernel
theorem dX1_takeWire_39 : decode cX1_takeWire 39 = .ok (.iload_n 1, 1) := by decide +kernel
theorem dX1_takeWire_40 : decode cX1_takeWire 40 = .ok (.invokevirtual 29, 3) := by decide +kernel
theorem dX1_takeWire_43 : decode cX1_takeWire 43 = .ok (.ireturn, 1) := by decide +kernel
theorem dX1_takeWire_44 : decode cX1_takeWire 44 = .ok (.aload_n 0, 1) := by decide +kernel
theorem dX1_takeWire_45 : decode cX1_takeWire 45 = .ok (.getfield 9, 3) := by decide +kernel
theorem dX1_takeWire_48 : decode cX1_takeWire 48 = .ok (.getfield 123, 3) := by decide +kernel
theorem dX1_takeWire_51 : decode cX1_takeWire 51 = .ok (.iload_n 1, 1) := by decide +kernel
theorem dX1_takeWire_52 : decode cX1_takeWire 52 = .ok (.iaload, 1) := by decide +kernel
theorem dX1_takeWire_53 : decode cX1_takeWire 53 = .ok (.istore_n 2, 1) := by decide +kernel
theorem dX1_takeWire_54 : decode cX1_takeWire 54 = .ok (.aload_n 0, 1) := by decide +kernel
theorem dX1_takeWire_55 : decode cX1_takeWire 55 = .ok (.getfield 9, 3) := by decide +kernel
theorem dX1_takeWire_58 : decode cX1_takeWire 58 = .ok (.iload_n 1, 1) := by decide +kernel
theorem dX1_takeWire_59 : decode cX1_takeWire 59 = .ok (.invokevirtual 126, 3) := by decide +kernel
theorem dX1_takeWire_62 : decode cX1_takeWire 62 = .ok (.iload_n 2, 1) := by decide +kernel
theorem dX1_takeWire_63 : decode cX1_takeWire 63 = .ok (.ireturn, 1) := by decide +kernel
theorem dX1_refuseNotFree_0 : decode cX1_refuseNotFree 0 = .ok (.aload_n 0, 1) := by decide +kernel
theorem dX1_refuseNotFree_1 : decode cX1_refuseNotFree 1 = .ok (.getfield 9, 3) := by decide +kernel
theorem dX1_refuseNotFree_4 : decode cX1_refuseNotFree 4 = .ok (.getfield 59, 3) := by decide +kernel
theorem dX1_refuseNotFree_7 : decode cX1_refuseNotFree 7 = .ok (.iload_n 1, 1) := by decide +kernel
theorem dX1_refuseNotFree_8 : decode cX1_refuseNotFree 8 = .ok (.iaload, 1) := by decide +kernel
theorem dX1_refuseNotFree_9 : decode cX1_refuseNotFree 9 = .ok (.istore_n 2, 1) := by decide +kernel
theorem dX1_refuseNotFree_10 : decode cX1_refuseNotFree 10 = .ok (.aload_n 0, 1) := by decide +kernel
theorem dX1_refuseNotFree_11 : decode cX1_refuseNotFree 11 = .ok (.getfield 19, 3) := by decide +kernel
theorem dX1_refuseNotFree_14 : decode cX1_refuseNotFree 14 = .ok (.iconst 5, 1) := by decide +kernel
theorem dX1_refuseNotFree_15 : decode cX1_refuseNotFree 15 = .ok (.iload_n 2, 1) := by decide +kernel
theorem dX1_refuseNotFree_16 : decode cX1_refuseNotFree 16 = .ok (.bipush (-2), 2) := by decide +kernel
theorem dX1_refuseNotFree_18 : decode cX1_refuseNotFree 18 = .ok (.if_icmp .ne 7, 3) := by decide +kernel
theorem dX1_refuseNotFree_21 : decode cX1_refuseNotFree 21 = .ok (.iconst (-1), 1) := by decide +kernel
theorem dX1_refuseNotFree_22 : decode cX1_refuseNotFree 22 = .ok (.goto 4, 3) := by decide +kernel
theorem dX1_refuseNotFree_25 : decode cX1_refuseNotFree 25 = .ok (.iload_n 2, 1) := by decide +kernel
theorem dX1_refuseNotFree_26 : decode cX1_refuseNotFree 26 = .ok (.invokevirtual 29, 3) := by decide +kernel
theorem dX1_refuseNotFree_29 : decode cX1_refuseNotFree 29 = .ok (.ireturn, 1) := by decide +kernel
theorem dX1_countHolesOf_0 : decode cX1_countHolesOf 0 = .ok (.iconst 0, 1) := by decide +kernel
theorem dX1_countHolesOf_1 : decode cX1_countHolesOf 1 = .ok (.istore_n 2, 1) := by decide +kernel
theorem dX1_countHolesOf_2 : decode cX1_countHolesOf 2 = .ok (.iconst 0, 1) := by decide +kernel
theorem dX1_countHolesOf_3 : decode cX1_countHolesOf 3 = .ok (.istore_n 3, 1) := by decide +kernel
theorem dX1_countHolesOf_4 : decode cX1_countHolesOf 4 = .ok (.iload_n 3, 1) := by decide +kernel
theorem dX1_countHolesOf_5 : decode cX1_countHolesOf 5 = .ok (.bipush 6, 2) := by decide +kernel
theorem dX1_countHolesOf_7 : decode cX1_countHolesOf 7 = .ok (.if_icmp .ge 29, 3) := by decide +kernel
theorem dX1_countHolesOf_10 : decode cX1_countHolesOf 10 = .ok (.iload_n 1, 1) := by decide +kernel
theorem dX1_countHolesOf_11 : decode cX1_countHolesOf 11 = .ok (.iconst 1, 1) := by decide +kernel
theorem dX1_countHolesOf_12 : decode cX1_countHolesOf 12 = .ok (.iload_n 3, 1) := by decide +kernel
theorem dX1_countHolesOf_13 : decode cX1_countHolesOf 13 = .ok (.ishl, 1) := by decide +kernel
theorem dX1_countHolesOf_14 : decode cX1_countHolesOf 14 = .ok (.iand, 1) := by decide +kernel
theorem dX1_countHolesOf_15 : decode cX1_countHolesOf 15 = .ok (.ifCond .eq 15, 3) := by decide +kernel
theorem dX1_countHolesOf_18 : decode cX1_countHolesOf 18 = .ok (.iload_n 2, 1) := by decide +kernel
theorem dX1_countHolesOf_19 : decode cX1_countHolesOf 19 = .ok (.aload_n 0, 1) := by decide +kernel
theorem dX1_countHolesOf_20 : decode cX1_countHolesOf 20 = .ok (.getfield 9, 3) := by decide +kernel
theorem dX1_countHolesOf_23 : decode cX1_countHolesOf 23 = .ok (.getfield 129, 3) := by decide +kernel
theorem dX1_countHolesOf_26 : decode cX1_countHolesOf 26 = .ok (.iload_n 3, 1) := by decide +kernel
theorem dX1_countHolesOf_27 : decode cX1_countHolesOf 27 = .ok (.iaload, 1) := by decide +kernel
theorem dX1_countHolesOf_28 : decode cX1_countHolesOf 28 = .ok (.iadd, 1) := by decide +kernel
theorem dX1_countHolesOf_29 : decode cX1_countHolesOf 29 = .ok (.istore_n 2, 1) := by decide +kernel
theorem dX1_countHolesOf_30 : decode cX1_countHolesOf 30 = .ok (.iinc 3 1, 3) := by decide +kernel
theorem dX1_countHolesOf_33 : decode cX1_countHolesOf 33 = .ok (.goto (-29), 3) := by decide +kernel
theorem dX1_countHolesOf_36 : decode cX1_countHolesOf 36 = .ok (.iload_n 2, 1) := by decide +kernel
theorem dX1_countHolesOf_37 : decode cX1_countHolesOf 37 = .ok (.ireturn, 1) := by decide +kernel
theorem dX1_ripAll_0 : decode cX1_ripAll 0 = .ok (.iconst 0, 1) := by decide +kernel
theorem dX1_ripAll_1 : decode cX1_ripAll 1 = .ok (.istore_n 2, 1) := by decide +kernel
theorem dX1_ripAll_2 : decode cX1_ripAll 2 = .ok (.iload_n 2, 1) := by decide +kernel
theorem dX1_ripAll_3 : decode cX1_ripAll 3 = .ok (.bipush 6, 2) := by decide +kernel
theorem dX1_ripAll_5 : decode cX1_ripAll 5 = .ok (.if_icmp .ge 25, 3) := by decide +kernel
theorem dX1_ripAll_8 : decode cX1_ripAll 8 = .ok (.iload_n 1, 1) := by decide +kernel
theorem dX1_ripAll_9 : decode cX1_ripAll 9 = .ok (.iconst 1, 1) := by decide +kernel
theorem dX1_ripAll_10 : decode cX1_ripAll 10 = .ok (.iload_n 2, 1) := by decide +kernel
theorem dX1_ripAll_11 : decode cX1_ripAll 11 = .ok (.ishl, 1) := by decide +kernel
theorem dX1_ripAll_12 : decode cX1_ripAll 12 = .ok (.iand, 1) := by decide +kernel
theorem dX1_ripAll_13 : decode cX1_ripAll 13 = .ok (.ifCond .eq 11, 3) := by decide +kernel
theorem dX1_ripAll_16 : decode cX1_ripAll 16 = .ok (.aload_n 0, 1) := by decide +kernel
theorem dX1_ripAll_17 : decode cX1_ripAll 17 = .ok (.getfield 9, 3) := by decide +kernel
theorem dX1_ripAll_20 : decode cX1_ripAll 20 = .ok (.iload_n 2, 1) := by decide +kernel
theorem dX1_ripAll_21 : decode cX1_ripAll 21 = .ok (.invokevirtual 126, 3) := by decide +kernel
theorem dX1_ripAll_24 : decode cX1_ripAll 24 = .ok (.iinc 2 1, 3) := by decide +kernel
theorem dX1_ripAll_27 : decode cX1_ripAll 27 = .ok (.goto (-25), 3) := by decide +kernel
theorem dX1_ripAll_30 : decode cX1_ripAll 30 = .ok (.return_, 1) := by decide +kernel
theorem dX1_lowestOf_0 : decode cX1_lowestOf 0 = .ok (.iconst 0, 1) := by decide +kernel
theorem dX1_lowestOf_1 : decode cX1_lowestOf 1 = .ok (.istore_n 1, 1) := by decide +kernel
theorem dX1_lowestOf_2 : decode cX1_lowestOf 2 = .ok (.iload_n 1, 1) := by decide +kernel
theorem dX1_lowestOf_3 : decode cX1_lowestOf 3 = .ok (.bipush 6, 2) := by decide +kernel
theorem dX1_lowestOf_5 : decode cX1_lowestOf 5 = .ok (.if_icmp .ge 17, 3) := by decide +kernel
theorem dX1_lowestOf_8 : decode cX1_lowestOf 8 = .ok (.iload_n 0, 1) := by decide +kernel
theorem dX1_lowestOf_9 : decode cX1_lowestOf 9 = .ok (.iconst 1, 1) := by decide +kernel
theorem dX1_lowestOf_10 : decode cX1_lowestOf 10 = .ok (.iload_n 1, 1) := by decide +kernel
theorem dX1_lowestOf_11 : decode cX1_lowestOf 11 = .ok (.ishl, 1) := by decide +kernel
theorem dX1_lowestOf_12 : decode cX1_lowestOf 12 = .ok (.iand, 1) := by decide +kernel
theorem dX1_lowestOf_13 : decode cX1_lowestOf 13 = .ok (.ifCond .ne 9, 3) := by decide +kernel
theorem dX1_lowestOf_16 : decode cX1_lowestOf 16 = .ok (.iinc 1 1, 3) := by decide +kernel
theorem dX1_lowestOf_19 : decode cX1_lowestOf 19 = .ok (.goto (-17), 3) := by decide +kernel
theorem dX1_lowestOf_22 : decode cX1_lowestOf 22 = .ok (.iload_n 1, 1) := by decide +kernel
theorem dX1_lowestOf_23 : decode cX1_lowestOf 23 = .ok (.ireturn, 1) := by decide +kernel
theorem dX2_init_0 : decode cX2_init 0 = .ok (.aload_n 0, 1) := by decide +kernel
theorem dX2_init_1 : decode cX2_init 1 = .ok (.invokespecial 3, 3) := by decide +kernel
theorem dX2_init_4 : decode cX2_init 4 = .ok (.aload_n 0, 1) := by decide +kernel
theorem dX2_init_5 : decode cX2_init 5 = .ok (.bipush 60, 2) := by decide +kernel
theorem dX2_init_7 : decode cX2_init 7 = .ok (.newarray .char, 2) := by decide +kernel
theorem dX2_init_9 : decode cX2_init 9 = .ok (.putfield 9, 3) := by decide +kernel
theorem dX2_init_12 : decode cX2_init 12 = .ok (.aload_n 0, 1) := by decide +kernel
theorem dX2_init_13 : decode cX2_init 13 = .ok (.iconst 0, 1) := by decide +kernel
theorem dX2_init_14 : decode cX2_init 14 = .ok (.putfield 15, 3) := by decide +kernel
theorem dX2_init_17 : decode cX2_init 17 = .ok (.return_, 1) := by decide +kernel
theorem dX2_add_0 : decode cX2_add 0 = .ok (.aload_n 0, 1) := by decide +kernel
theorem dX2_add_1 : decode cX2_add 1 = .ok (.getfield 15, 3) := by decide +kernel
theorem dX2_add_4 : decode cX2_add 4 = .ok (.bipush 60, 2) := by decide +kernel
theorem dX2_add_6 : decode cX2_add 6 = .ok (.if_icmp .ge 23, 3) := by decide +kernel
theorem dX2_add_9 : decode cX2_add 9 = .ok (.aload_n 0, 1) := by decide +kernel
theorem dX2_add_10 : decode cX2_add 10 = .ok (.getfield 9, 3) := by decide +kernel
theorem dX2_add_13 : decode cX2_add 13 = .ok (.aload_n 0, 1) := by decide +kernel
theorem dX2_add_14 : decode cX2_add 14 = .ok (.getfield 15, 3) := by decide +kernel
theorem dX2_add_17 : decode cX2_add 17 = .ok (.iload_n 1, 1) := by decide +kernel
theorem dX2_add_18 : decode cX2_add 18 = .ok (.castore, 1) := by decide +kernel
theorem dX2_add_19 : decode cX2_add 19 = .ok (.aload_n 0, 1) := by decide +kernel
theorem dX2_add_20 : decode cX2_add 20 = .ok (.dup, 1) := by decide +kernel
theorem dX2_add_21 : decode cX2_add 21 = .ok (.getfield 15, 3) := by decide +kernel
theorem dX2_add_24 : decode cX2_add 24 = .ok (.iconst 1, 1) := by decide +kernel
theorem dX2_add_25 : decode cX2_add 25 = .ok (.iadd, 1) := by decide +kernel
theorem dX2_add_26 : decode cX2_add 26 = .ok (.putfield 15, 3) := by decide +kernel
theorem dX2_add_29 : decode cX2_add 29 = .ok (.return_, 1) := by decide +kernel
theorem dX2_signAt_0 : decode cX2_signAt 0 = .ok (.iload_n 1, 1) := by decide +kernel
theorem dX2_signAt_1 : decode cX2_signAt 1 = .ok (.ifCond .lt 20, 3) := by decide +kernel
theorem dX2_signAt_4 : decode cX2_signAt 4 = .ok (.iload_n 1, 1) := by decide +kernel
theorem dX2_signAt_5 : decode cX2_signAt 5 = .ok (.aload_n 0, 1) := by decide +kernel
theorem dX2_signAt_6 : decode cX2_signAt 6 = .ok (.getfield 15, 3) := by decide +kernel
theorem dX2_signAt_9 : decode cX2_signAt 9 = .ok (.if_icmp .ge 12, 3) := by decide +kernel
theorem dX2_signAt_12 : decode cX2_signAt 12 = .ok (.aload_n 0, 1) := by decide +kernel
theorem dX2_signAt_13 : decode cX2_signAt 13 = .ok (.getfield 9, 3) := by decide +kernel
theorem dX2_signAt_16 : decode cX2_signAt 16 = .ok (.iload_n 1, 1) := by decide +kernel
theorem dX2_signAt_17 : decode cX2_signAt 17 = .ok (.caload, 1) := by decide +kernel
theorem dX2_signAt_18 : decode cX2_signAt 18 = .ok (.goto 4, 3) := by decide +kernel
theorem dX2_signAt_21 : decode cX2_signAt 21 = .ok (.iconst 0, 1) := by decide +kernel
theorem dX2_signAt_22 : decode cX2_signAt 22 = .ok (.ireturn, 1) := by decide +kernel
theorem dX2_digitAt_0 : decode cX2_digitAt 0 = .ok (.aload_n 0, 1) := by decide +kernel
theorem dX2_digitAt_1 : decode cX2_digitAt 1 = .ok (.iload_n 1, 1) := by decide +kernel
theorem dX2_digitAt_2 : decode cX2_digitAt 2 = .ok (.invokevirtual 19, 3) := by decide +kernel
theorem dX2_digitAt_5 : decode cX2_digitAt 5 = .ok (.bipush 48, 2) := by decide +kernel
theorem dX2_digitAt_7 : decode cX2_digitAt 7 = .ok (.isub, 1) := by decide +kernel
theorem dX2_digitAt_8 : decode cX2_digitAt 8 = .ok (.ireturn, 1) := by decide +kernel
theorem dX2_commandLength_0 : decode cX2_commandLength 0 = .ok (.iconst 1, 1) := by decide +kernel
theorem dX2_commandLength_1 : decode cX2_commandLength 1 = .ok (.aload_n 0, 1) := by decide +kernel
theorem dX2_commandLength_2 : decode cX2_commandLength 2 = .ok (.iload_n 1, 1) := by decide +kernel
theorem dX2_commandLength_3 : decode cX2_commandLength 3 = .ok (.invokevirtual 19, 3) := by decide +kernel
theorem dX2_commandLength_6 : decode cX2_commandLength 6 = .ok (.invokestatic 23, 3) := by decide +kernel
theorem dX2_commandLength_9 : decode cX2_commandLength 9 = .ok (.invokevirtual 27, 3) := by decide +kernel
theorem dX2_commandLength_12 : decode cX2_commandLength 12 = .ok (.iadd, 1) := by decide +kernel
theorem dX2_commandLength_13 : decode cX2_commandLength 13 = .ok (.ireturn, 1) := by decide +kernel
theorem dX2_findFault_0 : decode cX2_findFault 0 = .ok (.iconst 0, 1) := by decide +kernel
theorem dX2_findFault_1 : decode cX2_findFault 1 = .ok (.istore_n 1, 1) := by decide +kernel
theorem dX2_findFault_2 : decode cX2_findFault 2 = .ok (.iload_n 1, 1) := by decide +kernel
theorem dX2_findFault_3 : decode cX2_findFault 3 = .ok (.aload_n 0, 1) := by decide +kernel
theorem dX2_findFault_4 : decode cX2_findFault 4 = .ok (.getfield 15, 3) := by decide +kernel
theorem dX2_findFault_7 : decode cX2_findFault 7 = .ok (.if_icmp .ge 80, 3) := by decide +kernel
theorem dX2_findFault_10 : decode cX2_findFault 10 = .ok (.aload_n 0, 1) := by decide +kernel
theorem dX2_findFault_11 : decode cX2_findFault 11 = .ok (.getfield 9, 3) := by decide +kernel
theorem dX2_findFault_14 : decode cX2_findFault 14 = .ok (.iload_n 1, 1) := by decide +kernel
theorem dX2_findFault_15 : decode cX2_findFault 15 = .ok (.caload, 1) := by decide +kernel
theorem dX2_findFault_16 : decode cX2_findFault 16 = .ok (.invokestatic 23, 3) := by decide +kernel
theorem dX2_findFault_19 : decode cX2_findFault 19 = .ok (.astore_n 2, 1) := by decide +kernel
theorem dX2_findFault_20 : decode cX2_findFault 20 = .ok (.aload_n 2, 1) := by decide +kernel
theorem dX2_findFault_21 : decode cX2_findFault 21 = .ok (.invokevirtual 32, 3) := by decide +kernel
theorem dX2_findFault_24 : decode cX2_findFault 24 = .ok (.ifCond .eq 5, 3) := by decide +kernel
theorem dX2_findFault_27 : decode cX2_findFault 27 = .ok (.iload_n 1, 1) := by decide +kernel
theorem dX2_findFault_28 : decode cX2_findFault 28 = .ok (.ireturn, 1) := by decide +kernel
theorem dX2_findFault_29 : decode cX2_findFault 29 = .ok (.iload_n 1, 1) := by decide +kernel
theorem dX2_findFault_30 : decode cX2_findFault 30 = .ok (.iconst 1, 1) := by decide +kernel
theorem dX2_findFault_31 : decode cX2_findFault 31 = .ok (.iadd, 1) := by decide +kernel
theorem dX2_findFault_32 : decode cX2_findFault 32 = .ok (.aload_n 2, 1) := by decide +kernel
theorem dX2_findFault_33 : decode cX2_findFault 33 = .ok (.invokevirtual 27, 3) := by decide +kernel
theorem dX2_findFault_36 : decode cX2_findFault 36 = .ok (.iadd, 1) := by decide +kernel
theorem dX2_findFault_37 : decode cX2_findFault 37 = .ok (.istore_n 3, 1) := by decide +kernel
theorem dX2_findFault_38 : decode cX2_findFault 38 = .ok (.aload_n 0, 1) := by decide +kernel
theorem dX2_findFault_39 : decode cX2_findFault 39 = .ok (.iload_n 1, 1) := by decide +kernel
theorem dX2_findFault_40 : decode cX2_findFault 40 = .ok (.iconst 1, 1) := by decide +kernel
theorem dX2_findFault_41 : decode cX2_findFault 41 = .ok (.iadd, 1) := by decide +kernel
theorem dX2_findFault_42 : decode cX2_findFault 42 = .ok (.aload_n 2, 1) := by decide +kernel
theorem dX2_findFault_43 : decode cX2_findFault 43 = .ok (.invokevirtual 36, 3) := by decide +kernel
theorem dX2_findFault_46 : decode cX2_findFault 46 = .ok (.istore 4, 2) := by decide +kernel
theorem dX2_findFault_48 : decode cX2_findFault 48 = .ok (.iload 4, 2) := by decide +kernel
theorem dX2_findFault_50 : decode cX2_findFault 50 = .ok (.iload_n 3, 1) := by decide +kernel
theorem dX2_findFault_51 : decode cX2_findFault 51 = .ok (.if_icmp .ge 6, 3) := by decide +kernel
theorem dX2_findFault_54 : decode cX2_findFault 54 = .ok (.iload 4, 2) := by decide +kernel
theorem dX2_findFault_56 : decode cX2_findFault 56 = .ok (.ireturn, 1) := by decide +kernel
theorem dX2_findFault_57 : decode cX2_findFault 57 = .ok (.iload_n 3, 1) := by decide +kernel
theorem dX2_findFault_58 : decode cX2_findFault 58 = .ok (.aload_n 0, 1) := by decide +kernel
theorem dX2_findFault_59 : decode cX2_findFault 59 = .ok (.getfield 15, 3) := by decide +kernel
theorem dX2_findFault_62 : decode cX2_findFault 62 = .ok (.if_icmp .ne 5, 3) := by decide +kernel
theorem dX2_findFault_65 : decode cX2_findFault 65 = .ok (.iconst (-1), 1) := by decide +kernel
theorem dX2_findFault_66 : decode cX2_findFault 66 = .ok (.ireturn, 1) := by decide +kernel
theorem dX2_findFault_67 : decode cX2_findFault 67 = .ok (.aload_n 0, 1) := by decide +kernel
theorem dX2_findFault_68 : decode cX2_findFault 68 = .ok (.getfield 9, 3) := by decide +kernel
theorem dX2_findFault_71 : decode cX2_findFault 71 = .ok (.iload_n 3, 1) := by decide +kernel
theorem dX2_findFault_72 : decode cX2_findFault 72 = .ok (.caload, 1) := by decide +kernel
theorem dX2_findFault_73 : decode cX2_findFault 73 = .ok (.bipush 59, 2) := by decide +kernel
theorem dX2_findFault_75 : decode cX2_findFault 75 = .ok (.if_icmp .eq 5, 3) := by decide +kernel
theorem dX2_findFault_78 : decode cX2_findFault 78 = .ok (.iload_n 3, 1) := by decide +kernel
theorem dX2_findFault_79 : decode cX2_findFault 79 = .ok (.ireturn, 1) := by decide +kernel
theorem dX2_findFault_80 : decode cX2_findFault 80 = .ok (.iload_n 3, 1) := by decide +kernel
theorem dX2_findFault_81 : decode cX2_findFault 81 = .ok (.iconst 1, 1) := by decide +kernel
theorem dX2_findFault_82 : decode cX2_findFault 82 = .ok (.iadd, 1) := by decide +kernel
theorem dX2_findFault_83 : decode cX2_findFault 83 = .ok (.istore_n 1, 1) := by decide +kernel
theorem dX2_findFault_84 : decode cX2_findFault 84 = .ok (.goto (-82), 3) := by decide +kernel
theorem dX2_findFault_87 : decode cX2_findFault 87 = .ok (.aload_n 0, 1) := by decide +kernel
theorem dX2_findFault_88 : decode cX2_findFault 88 = .ok (.getfield 15, 3) := by decide +kernel
theorem dX2_findFault_91 : decode cX2_findFault 91 = .ok (.ireturn, 1) := by decide +kernel
theorem dX2_findMismatch_0 : decode cX2_findMismatch 0 = .ok (.iconst 0, 1) := by decide +kernel
theorem dX2_findMismatch_1 : decode cX2_findMismatch 1 = .ok (.istore_n 3, 1) := by decide +kernel
theorem dX2_findMismatch_2 : decode cX2_findMismatch 2 = .ok (.iload_n 3, 1) := by decide +kernel
theorem dX2_findMismatch_3 : decode cX2_findMismatch 3 = .ok (.aload_n 2, 1) := by decide +kernel
theorem dX2_findMismatch_4 : decode cX2_findMismatch 4 = .ok (.invokevirtual 27, 3) := by decide +kernel
theorem dX2_findMismatch_7 : decode cX2_findMismatch 7 = .ok (.if_icmp .ge 44, 3) := by decide +kernel
theorem dX2_findMismatch_10 : decode cX2_findMismatch 10 = .ok (.iload_n 1, 1) := by decide +kernel
theorem dX2_findMismatch_11 : decode cX2_findMismatch 11 = .ok (.iload_n 3, 1) := by decide +kernel
theorem dX2_findMismatch_12 : decode cX2_findMismatch 12 = .ok (.iadd, 1) := by decide +kernel
theorem dX2_findMismatch_13 : decode cX2_findMismatch 13 = .ok (.istore 4, 2) := by decide +kernel
theorem dX2_findMismatch_15 : decode cX2_findMismatch 15 = .ok (.iload 4, 2) := by decide +kernel
theorem dX2_findMismatch_17 : decode cX2_findMismatch 17 = .ok (.aload_n 0, 1) := by decide +kernel
theorem dX2_findMismatch_18 : decode cX2_findMismatch 18 = .ok (.getfield 15, 3) := by decide +kernel
theorem dX2_findMismatch_21 : decode cX2_findMismatch 21 = .ok (.if_icmp .ge 21, 3) := by decide +kernel
theorem dX2_findMismatch_24 : decode cX2_findMismatch 24 = .ok (.aload_n 0, 1) := by decide +kernel
theorem dX2_findMismatch_25 : decode cX2_findMismatch 25 = .ok (.getfield 9, 3) := by decide +kernel
theorem dX2_findMismatch_28 : decode cX2_findMismatch 28 = .ok (.iload 4, 2) := by decide +kernel
theorem dX2_findMismatch_30 : decode cX2_findMismatch 30 = .ok (.caload, 1) := by decide +kernel
theorem dX2_findMismatch_31 : decode cX2_findMismatch 31 = .ok (.aload_n 2, 1) := by decide +kernel
theorem dX2_findMismatch_32 : decode cX2_findMismatch 32 = .ok (.iload_n 3, 1) := by decide +kernel
theorem dX2_findMismatch_33 : decode cX2_findMismatch 33 = .ok (.invokevirtual 40, 3) := by decide +kernel
theorem dX2_findMismatch_36 : decode cX2_findMismatch 36 = .ok (.invokestatic 43, 3) := by decide +kernel
theorem dX2_findMismatch_39 : decode cX2_findMismatch 39 = .ok (.ifCond .ne 6, 3) := by decide +kernel
theorem dX2_findMismatch_42 : decode cX2_findMismatch 42 = .ok (.iload 4, 2) := by decide +kernel
theorem dX2_findMismatch_44 : decode cX2_findMismatch 44 = .ok (.ireturn, 1) := by decide +kernel
theorem dX2_findMismatch_45 : decode cX2_findMismatch 45 = .ok (.iinc 3 1, 3) := by decide +kernel
theorem dX2_findMismatch_48 : decode cX2_findMismatch 48 = .ok (.goto (-46), 3) := by decide +kernel
theorem dX2_findMismatch_51 : decode cX2_findMismatch 51 = .ok (.iload_n 1, 1) := by decide +kernel
theorem dX2_findMismatch_52 : decode cX2_findMismatch 52 = .ok (.aload_n 2, 1) := by decide +kernel
theorem dX2_findMismatch_53 : decode cX2_findMismatch 53 = .ok (.invokevirtual 27, 3) := by decide +kernel
theorem dX2_findMismatch_56 : decode cX2_findMismatch 56 = .ok (.iadd, 1) := by decide +kernel
theorem dX2_findMismatch_57 : decode cX2_findMismatch 57 = .ok (.ireturn, 1) := by decide +kernel
theorem dX2_fits_0 : decode cX2_fits 0 = .ok (.iload_n 1, 1) := by decide +kernel
theorem dX2_fits_1 : decode cX2_fits 1 = .ok (.bipush 57, 2) := by decide +kernel
theorem dX2_fits_3 : decode cX2_fits 3 = .ok (.if_icmp .ne 23, 3) := by decide +kernel
theorem dX2_fits_6 : decode cX2_fits 6 = .ok (.iload_n 0, 1) := by decide +kernel
theorem dX2_fits_7 : decode cX2_fits 7 = .ok (.bipush 48, 2) := by decide +kernel
theorem dX2_fits_9 : decode cX2_fits 9 = .ok (.if_icmp .lt 13, 3) := by decide +kernel
theorem dX2_fits_12 : decode cX2_fits 12 = .ok (.iload_n 0, 1) := by decide +kernel
theorem dX2_fits_13 : decode cX2_fits 13 = .ok (.bipush 57, 2) := by decide +kernel
theorem dX2_fits_15 : decode cX2_fits 15 = .ok (.if_icmp .gt 7, 3) := by decide +kernel
theorem dX2_fits_18 : decode cX2_fits 18 = .ok (.iconst 1, 1) := by decide +kernel
theorem dX2_fits_19 : decode cX2_fits 19 = .ok (.goto 17, 3) := by decide +kernel
theorem dX2_fits_22 : decode cX2_fits 22 = .ok (.iconst 0, 1) := by decide +kernel
theorem dX2_fits_23 : decode cX2_fits 23 = .ok (.goto 13, 3) := by decide +kernel
theorem dX2_fits_26 : decode cX2_fits 26 = .ok (.iload_n 0, 1) := by decide +kernel
theorem dX2_fits_27 : decode cX2_fits 27 = .ok (.iload_n 1, 1) := by decide +kernel
theorem dX2_fits_28 : decode cX2_fits 28 = .ok (.if_icmp .ne 7, 3) := by decide +kernel
theorem dX2_fits_31 : decode cX2_fits 31 = .ok (.iconst 1, 1) := by decide +kernel
theorem dX2_fits_32 : decode cX2_fits 32 = .ok (.goto 4, 3) := by decide +kernel
theorem dX2_fits_35 : decode cX2_fits 35 = .ok (.iconst 0, 1) := by decide +kernel
theorem dX2_fits_36 : decode cX2_fits 36 = .ok (.ireturn, 1) := by decide +kernel
theorem dX2_formOf_0 : decode cX2_formOf 0 = .ok (.iload_n 0, 1) := by decide +kernel
theorem dX2_formOf_1 : decode cX2_formOf 1 = .ok (.bipush 114, 2) := by decide +kernel
theorem dX2_formOf_3 : decode cX2_formOf 3 = .ok (.if_icmp .eq 15, 3) := by decide +kernel
theorem dX2_formOf_6 : decode cX2_formOf 6 = .ok (.iload_n 0, 1) := by decide +kernel
theorem dX2_formOf_7 : decode cX2_formOf 7 = .ok (.bipush 104, 2) := by decide +kernel
theorem dX2_formOf_9 : decode cX2_formOf 9 = .ok (.if_icmp .eq 9, 3) := by decide +kernel
theorem dX2_formOf_12 : decode cX2_formOf 12 = .ok (.iload_n 0, 1) := by decide +kernel
theorem dX2_formOf_13 : decode cX2_formOf 13 = .ok (.bipush 120, 2) := by decide +kernel
theorem dX2_formOf_15 : decode cX2_formOf 15 = .ok (.if_icmp .ne 6, 3) := by decide +kernel
theorem dX2_formOf_18 : decode cX2_formOf 18 = .ok (.ldc 47, 2) := by decide +kernel
theorem dX2_formOf_20 : decode cX2_formOf 20 = .ok (.areturn, 1) := by decide +kernel
theorem dX2_formOf_21 : decode cX2_formOf 21 = .ok (.iload_n 0, 1) := by decide +kernel
theorem dX2_formOf_22 : decode cX2_formOf 22 = .ok (.bipush 112, 2) := by decide +kernel
theorem dX2_formOf_24 : decode cX2_formOf 24 = .ok (.if_icmp .ne 6, 3) := by decide +kernel
theorem dX2_formOf_27 : decode cX2_formOf 27 = .ok (.ldc 49, 2) := by decide +kernel
theorem dX2_formOf_29 : decode cX2_formOf 29 = .ok (.areturn, 1) := by decide +kernel
theorem dX2_formOf_30 : decode cX2_formOf 30 = .ok (.iload_n 0, 1) := by decide +kernel
theorem dX2_formOf_31 : decode cX2_formOf 31 = .ok (.bipush 119, 2) := by decide +kernel
theorem dX2_formOf_33 : decode cX2_formOf 33 = .ok (.if_icmp .ne 8, 3) := by decide +kernel
theorem dX2_formOf_36 : decode cX2_formOf 36 = .ok (.ldc 51, 2) := by decide +kernel
theorem dX2_formOf_38 : decode cX2_formOf 38 = .ok (.goto 5, 3) := by decide +kernel
theorem dX2_formOf_41 : decode cX2_formOf 41 = .ok (.ldc 53, 2) := by decide +kernel
theorem dX2_formOf_43 : decode cX2_formOf 43 = .ok (.areturn, 1) := by decide +kernel
theorem dX3_init_0 : decode cX3_init 0 = .ok (.aload_n 0, 1) := by decide +kernel
theorem dX3_init_1 : decode cX3_init 1 = .ok (.invokespecial 3, 3) := by decide +kernel
theorem dX3_init_4 : decode cX3_init 4 = .ok (.aload_n 0, 1) := by decide +kernel
theorem dX3_init_5 : decode cX3_init 5 = .ok (.bipush 9, 2) := by decide +kernel
theorem dX3_init_7 : decode cX3_init 7 = .ok (.anewarray 11, 3) := by decide +kernel
theorem dX3_init_10 : decode cX3_init 10 = .ok (.putfield 13, 3) := by decide +kernel
theorem dX3_init_13 : decode cX3_init 13 = .ok (.aload_n 0, 1) := by decide +kernel
theorem dX3_init_14 : decode cX3_init 14 = .ok (.new 11, 3) := by decide +kernel
theorem dX3_init_17 : decode cX3_init 17 = .ok (.dup, 1) := by decide +kernel
theorem dX3_init_18 : decode cX3_init 18 = .ok (.invokespecial 17, 3) := by decide +kernel
theorem dX3_init_21 : decode cX3_init 21 = .ok (.putfield 18, 3) := by decide +kernel
theorem dX3_init_24 : decode cX3_init 24 = .ok (.aload_n 0, 1) := by decide +kernel
theorem dX3_init_25 : decode cX3_init 25 = .ok (.iconst 0, 1) := by decide +kernel
theorem dX3_init_26 : decode cX3_init 26 = .ok (.putfield 22, 3) := by decide +kernel
theorem dX3_init_29 : decode cX3_init 29 = .ok (.aload_n 0, 1) := by decide +kernel
theorem dX3_init_30 : decode cX3_init 30 = .ok (.iconst 0, 1) := by decide +kernel
theorem dX3_init_31 : decode cX3_init 31 = .ok (.putfield 26, 3) := by decide +kernel
theorem dX3_init_34 : decode cX3_init 34 = .ok (.aload_n 0, 1) := by decide +kernel
theorem dX3_init_35 : decode cX3_init 35 = .ok (.iconst 0, 1) := by decide +kernel
theorem dX3_init_36 : decode cX3_init 36 = .ok (.putfield 29, 3) := by decide +kernel
theorem dX3_init_39 : decode cX3_init 39 = .ok (.aload_n 0, 1) := by decide +kernel
theorem dX3_init_40 : decode cX3_init 40 = .ok (.aload_n 1, 1) := by decide +kernel
theorem dX3_init_41 : decode cX3_init 41 = .ok (.putfield 33, 3) := by decide +kernel
theorem dX3_init_44 : decode cX3_init 44 = .ok (.iconst 0, 1) := by decide +kernel
theorem dX3_init_45 : decode cX3_init 45 = .ok (.istore_n 2, 1) := by decide +kernel
theorem dX3_init_46 : decode cX3_init 46 = .ok (.iload_n 2, 1) := by decide +kernel
theorem dX3_init_47 : decode cX3_init 47 = .ok (.bipush 9, 2) := by decide +kernel
theorem dX3_init_49 : decode cX3_init 49 = .ok (.if_icmp .ge 22, 3) := by decide +kernel
theorem dX3_init_52 : decode cX3_init 52 = .ok (.aload_n 0, 1) := by decide +kernel
theorem dX3_init_53 : decode cX3_init 53 = .ok (.getfield 13, 3) := by decide +kernel
theorem dX3_init_56 : decode cX3_init 56 = .ok (.iload_n 2, 1) := by decide +kernel
theorem dX3_init_57 : decode cX3_init 57 = .ok (.new 11, 3) := by decide +kernel
theorem dX3_init_60 : decode cX3_init 60 = .ok (.dup, 1) := by decide +kernel
theorem dX3_init_61 : decode cX3_init 61 = .ok (.invokespecial 17, 3) := by decide +kernel
theorem dX3_init_64 : decode cX3_init 64 = .ok (.aastore, 1) := by decide +kernel
theorem dX3_init_65 : decode cX3_init 65 = .ok (.iinc 2 1, 3) := by decide +kernel
theorem dX3_init_68 : decode cX3_init 68 = .ok (.goto (-22), 3) := by decide +kernel
theorem dX3_init_71 : decode cX3_init 71 = .ok (.return_, 1) := by decide +kernel
theorem dX3_prepare_0 : decode cX3_prepare 0 = .ok (.aload_n 0, 1) := by decide +kernel
theorem dX3_prepare_1 : decode cX3_prepare 1 = .ok (.getfield 13, 3) := by decide +kernel
theorem dX3_prepare_4 : decode cX3_prepare 4 = .ok (.aload_n 0, 1) := by decide +kernel
theorem dX3_prepare_5 : decode cX3_prepare 5 = .ok (.getfield 22, 3) := by decide +kernel
theorem dX3_prepare_8 : decode cX3_prepare 8 = .ok (.aload_n 0, 1) := by decide +kernel
theorem dX3_prepare_9 : decode cX3_prepare 9 = .ok (.getfield 26, 3) := by decide +kernel
theorem dX3_prepare_12 : decode cX3_prepare 12 = .ok (.iadd, 1) := by decide +kernel
theorem dX3_prepare_13 : decode cX3_prepare 13 = .ok (.bipush 9, 2) := by decide +kernel
theorem dX3_prepare_15 : decode cX3_prepare 15 = .ok (.irem, 1) := by decide +kernel
theorem dX3_prepare_16 : decode cX3_prepare 16 = .ok (.aaload, 1) := by decide +kernel
theorem dX3_prepare_17 : decode cX3_prepare 17 = .ok (.aload_n 0, 1) := by decide +kernel
theorem dX3_prepare_18 : decode cX3_prepare 18 = .ok (.getfield 33, 3) := by decide +kernel
theorem dX3_prepare_21 : decode cX3_prepare 21 = .ok (.invokevirtual 36, 3) := by decide +kernel
theorem dX3_prepare_24 : decode cX3_prepare 24 = .ok (.return_, 1) := by decide +kernel
theorem dX3_confirm_0 : decode cX3_confirm 0 = .ok (.aload_n 0, 1) := by decide +kernel
theorem dX3_confirm_1 : decode cX3_confirm 1 = .ok (.getfield 26, 3) := by decide +kernel
theorem dX3_confirm_4 : decode cX3_confirm 4 = .ok (.bipush 8, 2) := by decide +kernel
theorem dX3_confirm_6 : decode cX3_confirm 6 = .ok (.if_icmp .ge 16, 3) := by decide +kernel
theorem dX3_confirm_9 : decode cX3_confirm 9 = .ok (.aload_n 0, 1) := by decide +kernel
theorem dX3_confirm_10 : decode cX3_confirm 10 = .ok (.dup, 1) := by decide +kernel
theorem dX3_confirm_11 : decode cX3_confirm 11 = .ok (.getfield 26, 3) := by decide +kernel
theorem dX3_confirm_14 : decode cX3_confirm 14 = .ok (.iconst 1, 1) := by decide +kernel
theorem dX3_confirm_15 : decode cX3_confirm 15 = .ok (.iadd, 1) := by decide +kernel
theorem dX3_confirm_16 : decode cX3_confirm 16 = .ok (.putfield 26, 3) := by decide +kernel
theorem dX3_confirm_19 : decode cX3_confirm 19 = .ok (.goto 16, 3) := by decide +kernel
theorem dX3_confirm_22 : decode cX3_confirm 22 = .ok (.aload_n 0, 1) := by decide +kernel
theorem dX3_confirm_23 : decode cX3_confirm 23 = .ok (.aload_n 0, 1) := by decide +kernel
theorem dX3_confirm_24 : decode cX3_confirm 24 = .ok (.getfield 22, 3) := by decide +kernel
theorem dX3_confirm_27 : decode cX3_confirm 27 = .ok (.iconst 1, 1) := by decide +kernel
theorem dX3_confirm_28 : decode cX3_confirm 28 = .ok (.iadd, 1) := by decide +kernel
theorem dX3_confirm_29 : decode cX3_confirm 29 = .ok (.bipush 9, 2) := by decide +kernel
theorem dX3_confirm_31 : decode cX3_confirm 31 = .ok (.irem, 1) := by decide +kernel
theorem dX3_confirm_32 : decode cX3_confirm 32 = .ok (.putfield 22, 3) := by decide +kernel
theorem dX3_confirm_35 : decode cX3_confirm 35 = .ok (.return_, 1) := by decide +kernel
theorem dX3_takeBack_0 : decode cX3_takeBack 0 = .ok (.aload_n 0, 1) := by decide +kernel
theorem dX3_takeBack_1 : decode cX3_takeBack 1 = .ok (.getfield 33, 3) := by decide +kernel
theorem dX3_takeBack_4 : decode cX3_takeBack 4 = .ok (.aload_n 0, 1) := by decide +kernel
theorem dX3_takeBack_5 : decode cX3_takeBack 5 = .ok (.getfield 13, 3) := by decide +kernel
theorem dX3_takeBack_8 : decode cX3_takeBack 8 = .ok (.aload_n 0, 1) := by decide +kernel
theorem dX3_takeBack_9 : decode cX3_takeBack 9 = .ok (.getfield 22, 3) := by decide +kernel
theorem dX3_takeBack_12 : decode cX3_takeBack 12 = .ok (.aload_n 0, 1) := by decide +kernel
theorem dX3_takeBack_13 : decode cX3_takeBack 13 = .ok (.getfield 26, 3) := by decide +kernel
theorem dX3_takeBack_16 : decode cX3_takeBack 16 = .ok (.iadd, 1) := by decide +kernel
theorem dX3_takeBack_17 : decode cX3_takeBack 17 = .ok (.bipush 9, 2) := by decide +kernel
theorem dX3_takeBack_19 : decode cX3_takeBack 19 = .ok (.irem, 1) := by decide +kernel
theorem dX3_takeBack_20 : decode cX3_takeBack 20 = .ok (.aaload, 1) := by decide +kernel
theorem dX3_takeBack_21 : decode cX3_takeBack 21 = .ok (.invokevirtual 36, 3) := by decide +kernel
theorem dX3_takeBack_24 : decode cX3_takeBack 24 = .ok (.return_, 1) := by decide +kernel
theorem dX3_goBack_0 : decode cX3_goBack 0 = .ok (.aload_n 0, 1) := by decide +kernel
theorem dX3_goBack_1 : decode cX3_goBack 1 = .ok (.getfield 26, 3) := by decide +kernel
theorem dX3_goBack_4 : decode cX3_goBack 4 = .ok (.ifCond .le 17, 3) := by decide +kernel
theorem dX3_goBack_7 : decode cX3_goBack 7 = .ok (.aload_n 0, 1) := by decide +kernel
theorem dX3_goBack_8 : decode cX3_goBack 8 = .ok (.dup, 1) := by decide +kernel
theorem dX3_goBack_9 : decode cX3_goBack 9 = .ok (.getfield 26, 3) := by decide +kernel
theorem dX3_goBack_12 : decode cX3_goBack 12 = .ok (.iconst 1, 1) := by decide +kernel
theorem dX3_goBack_13 : decode cX3_goBack 13 = .ok (.isub, 1) := by decide +kernel
theorem dX3_goBack_14 : decode cX3_goBack 14 = .ok (.putfield 26, 3) := by decide +kernel
theorem dX3_goBack_17 : decode cX3_goBack 17 = .ok (.aload_n 0, 1) := by decide +kernel
theorem dX3_goBack_18 : decode cX3_goBack 18 = .ok (.invokevirtual 40, 3) := by decide +kernel
theorem dX3_goBack_21 : decode cX3_goBack 21 = .ok (.return_, 1) := by decide +kernel
theorem dX3_keepSnapshot_0 : decode cX3_keepSnapshot 0 = .ok (.aload_n 0, 1) := by decide +kernel
theorem dX3_keepSnapshot_1 : decode cX3_keepSnapshot 1 = .ok (.getfield 18, 3) := by decide +kernel
theorem dX3_keepSnapshot_4 : decode cX3_keepSnapshot 4 = .ok (.aload_n 0, 1) := by decide +kernel
theorem dX3_keepSnapshot_5 : decode cX3_keepSnapshot 5 = .ok (.getfield 33, 3) := by decide +kernel
theorem dX3_keepSnapshot_8 : decode cX3_keepSnapshot 8 = .ok (.invokevirtual 36, 3) := by decide +kernel
theorem dX3_keepSnapshot_11 : decode cX3_keepSnapshot 11 = .ok (.aload_n 0, 1) := by decide +kernel
theorem dX3_keepSnapshot_12 : decode cX3_keepSnapshot 12 = .ok (.iconst 1, 1) := by decide +kernel
theorem dX3_keepSnapshot_13 : decode cX3_keepSnapshot 13 = .ok (.putfield 29, 3) := by decide +kernel
theorem dX3_keepSnapshot_16 : decode cX3_keepSnapshot 16 = .ok (.return_, 1) := by decide +kernel
theorem dX3_takeSnapshot_0 : decode cX3_takeSnapshot 0 = .ok (.aload_n 0, 1) := by decide +kernel
theorem dX3_takeSnapshot_1 : decode cX3_takeSnapshot 1 = .ok (.getfield 33, 3) := by decide +kernel
theorem dX3_takeSnapshot_4 : decode cX3_takeSnapshot 4 = .ok (.aload_n 0, 1) := by decide +kernel
theorem dX3_takeSnapshot_5 : decode cX3_takeSnapshot 5 = .ok (.getfield 18, 3) := by decide +kernel
theorem dX3_takeSnapshot_8 : decode cX3_takeSnapshot 8 = .ok (.invokevirtual 36, 3) := by decide +kernel
theorem dX3_takeSnapshot_11 : decode cX3_takeSnapshot 11 = .ok (.aload_n 0, 1) := by decide +kernel
theorem dX3_takeSnapshot_12 : decode cX3_takeSnapshot 12 = .ok (.iconst 0, 1) := by decide +kernel
theorem dX3_takeSnapshot_13 : decode cX3_takeSnapshot 13 = .ok (.putfield 26, 3) := by decide +kernel
theorem dX3_takeSnapshot_16 : decode cX3_takeSnapshot 16 = .ok (.return_, 1) := by decide +kernel
theorem dJx00060_init_a7421_0 : decode cJx00060_init_a7421 0 = .ok (.aload_n 0, 1) := by decide +kernel
theorem dJx00060_init_a7421_1 : decode cJx00060_init_a7421 1 = .ok (.aload_n 1, 1) := by decide +kernel
theorem dJx00060_init_a7421_2 : decode cJx00060_init_a7421 2 = .ok (.invokespecial 7, 3) := by decide +kernel
theorem dJx00060_init_a7421_5 : decode cJx00060_init_a7421 5 = .ok (.return_, 1) := by decide +kernel
theorem dJ0_length_8abf5_0 : decode cJ0_length_8abf5 0 = .ok (.aload_n 0, 1) := by decide +kernel
theorem dJ0_length_8abf5_1 : decode cJ0_length_8abf5 1 = .ok (.getfield 9, 3) := by decide +kernel
theorem dJ0_length_8abf5_4 : decode cJ0_length_8abf5 4 = .ok (.arraylength, 1) := by decide +kernel
theorem dJ0_length_8abf5_5 : decode cJ0_length_8abf5 5 = .ok (.aload_n 0, 1) := by decide +kernel
theorem dJ0_length_8abf5_6 : decode cJ0_length_8abf5 6 = .ok (.invokevirtual 335, 3) := by decide +kernel
theorem dJ0_length_8abf5_9 : decode cJ0_length_8abf5 9 = .ok (.ishr, 1) := by decide +kernel
theorem dJ0_length_8abf5_10 : decode cJ0_length_8abf5 10 = .ok (.ireturn, 1) := by decide +kernel
theorem dJ0_isEmpty_aae02_0 : decode cJ0_isEmpty_aae02 0 = .ok (.aload_n 0, 1) := by decide +kernel
theorem dJ0_isEmpty_aae02_1 : decode cJ0_isEmpty_aae02 1 = .ok (.getfield 9, 3) := by decide +kernel
theorem dJ0_isEmpty_aae02_4 : decode cJ0_isEmpty_aae02 4 = .ok (.arraylength, 1) := by decide +kernel
theorem dJ0_isEmpty_aae02_5 : decode cJ0_isEmpty_aae02 5 = .ok (.ifCond .ne 7, 3) := by decide +kernel
theorem dJ0_isEmpty_aae02_8 : decode cJ0_isEmpty_aae02 8 = .ok (.iconst 1, 1) := by decide +kernel
theorem dJ0_isEmpty_aae02_9 : decode cJ0_isEmpty_aae02 9 = .ok (.goto 4, 3) := by decide +kernel
theorem dJ0_isEmpty_aae02_12 : decode cJ0_isEmpty_aae02 12 = .ok (.iconst 0, 1) := by decide +kernel
theorem dJ0_isEmpty_aae02_13 : decode cJ0_isEmpty_aae02 13 = .ok (.ireturn, 1) := by decide +kernel
theorem dJ0_charAt_5068e_0 : decode cJ0_charAt_5068e 0 = .ok (.aload_n 0, 1) := by decide +kernel
theorem dJ0_charAt_5068e_1 : decode cJ0_charAt_5068e 1 = .ok (.invokevirtual 492, 3) := by decide +kernel
theorem dJ0_charAt_5068e_4 : decode cJ0_charAt_5068e 4 = .ok (.ifCond .eq 12, 3) := by decide +kernel
theorem dJ0_charAt_5068e_7 : decode cJ0_charAt_5068e 7 = .ok (.aload_n 0, 1) := by decide +kernel
theorem dJ0_charAt_5068e_8 : decode cJ0_charAt_5068e 8 = .ok (.getfield 9, 3) := by decide +kernel
theorem dJ0_charAt_5068e_11 : decode cJ0_charAt_5068e 11 = .ok (.iload_n 1, 1) := by decide +kernel
theorem dJ0_charAt_5068e_12 : decode cJ0_charAt_5068e 12 = .ok (.invokestatic 495, 3) := by decide +kernel
theorem dJ0_charAt_5068e_15 : decode cJ0_charAt_5068e 15 = .ok (.ireturn, 1) := by decide +kernel
theorem dJ0_charAt_5068e_16 : decode cJ0_charAt_5068e 16 = .ok (.aload_n 0, 1) := by decide +kernel
theorem dJ0_charAt_5068e_17 : decode cJ0_charAt_5068e 17 = .ok (.getfield 9, 3) := by decide +kernel
theorem dJ0_charAt_5068e_20 : decode cJ0_charAt_5068e 20 = .ok (.iload_n 1, 1) := by decide +kernel
theorem dJ0_charAt_5068e_21 : decode cJ0_charAt_5068e 21 = .ok (.invokestatic 498, 3) := by decide +kernel
theorem dJ0_charAt_5068e_24 : decode cJ0_charAt_5068e 24 = .ok (.ireturn, 1) := by decide +kernel
theorem dJ0_coder_7d493_0 : decode cJ0_coder_7d493 0 = .ok (.getstatic 38, 3) := by decide +kernel
theorem dJ0_coder_7d493_3 : decode cJ0_coder_7d493 3 = .ok (.ifCond .eq 10, 3) := by decide +kernel
theorem dJ0_coder_7d493_6 : decode cJ0_coder_7d493 6 = .ok (.aload_n 0, 1) := by decide +kernel
theorem dJ0_coder_7d493_7 : decode cJ0_coder_7d493 7 = .ok (.getfield 15, 3) := by decide +kernel
theorem dJ0_coder_7d493_10 : decode cJ0_coder_7d493 10 = .ok (.goto 4, 3) := by decide +kernel
theorem dJ0_coder_7d493_13 : decode cJ0_coder_7d493 13 = .ok (.iconst 1, 1) := by decide +kernel
theorem dJ0_coder_7d493_14 : decode cJ0_coder_7d493 14 = .ok (.ireturn, 1) := by decide +kernel
theorem dJ0_isLatin1_aae02_0 : decode cJ0_isLatin1_aae02 0 = .ok (.getstatic 38, 3) := by decide +kernel
theorem dJ0_isLatin1_aae02_3 : decode cJ0_isLatin1_aae02 3 = .ok (.ifCond .eq 14, 3) := by decide +kernel
theorem dJ0_isLatin1_aae02_6 : decode cJ0_isLatin1_aae02 6 = .ok (.aload_n 0, 1) := by decide +kernel
theorem dJ0_isLatin1_aae02_7 : decode cJ0_isLatin1_aae02 7 = .ok (.getfield 15, 3) := by decide +kernel
theorem dJ0_isLatin1_aae02_10 : decode cJ0_isLatin1_aae02 10 = .ok (.ifCond .ne 7, 3) := by decide +kernel
theorem dJ0_isLatin1_aae02_13 : decode cJ0_isLatin1_aae02 13 = .ok (.iconst 1, 1) := by decide +kernel
theorem dJ0_isLatin1_aae02_14 : decode cJ0_isLatin1_aae02 14 = .ok (.goto 4, 3) := by decide +kernel
theorem dJ0_isLatin1_aae02_17 : decode cJ0_isLatin1_aae02 17 = .ok (.iconst 0, 1) := by decide +kernel
theorem dJ0_isLatin1_aae02_18 : decode cJ0_isLatin1_aae02 18 = .ok (.ireturn, 1) := by decide +kernel
theorem dJ0_checkIndex_df160_0 : decode cJ0_checkIndex_df160 0 = .ok (.iload_n 0, 1) := by decide +kernel
theorem dJ0_checkIndex_df160_1 : decode cJ0_checkIndex_df160 1 = .ok (.iload_n 1, 1) := by decide +kernel
theorem dJ0_checkIndex_df160_2 : decode cJ0_checkIndex_df160 2 = .ok (.getstatic 1053, 3) := by decide +kernel
theorem dJ0_checkIndex_df160_5 : decode cJ0_checkIndex_df160 5 = .ok (.invokestatic 1059, 3) := by decide +kernel
theorem dJ0_checkIndex_df160_8 : decode cJ0_checkIndex_df160 8 = .ok (.pop, 1) := by decide +kernel
theorem dJ0_checkIndex_df160_9 : decode cJ0_checkIndex_df160 9 = .ok (.return_, 1) := by decide +kernel
theorem dJ1_charAt_3b067_0 : decode cJ1_charAt_3b067 0 = .ok (.iload_n 1, 1) := by decide +kernel
theorem dJ1_charAt_3b067_1 : decode cJ1_charAt_3b067 1 = .ok (.aload_n 0, 1) := by decide +kernel
theorem dJ1_charAt_3b067_2 : decode cJ1_charAt_3b067 2 = .ok (.arraylength, 1) := by decide +kernel
theorem dJ1_charAt_3b067_3 : decode cJ1_charAt_3b067 3 = .ok (.invokestatic 9, 3) := by decide +kernel
theorem dJ1_charAt_3b067_6 : decode cJ1_charAt_3b067 6 = .ok (.aload_n 0, 1) := by decide +kernel
theorem dJ1_charAt_3b067_7 : decode cJ1_charAt_3b067 7 = .ok (.iload_n 1, 1) := by decide +kernel
theorem dJ1_charAt_3b067_8 : decode cJ1_charAt_3b067 8 = .ok (.baload, 1) := by decide +kernel
theorem dJ1_charAt_3b067_9 : decode cJ1_charAt_3b067 9 = .ok (.sipush 255, 3) := by decide +kernel
theorem dJ1_charAt_3b067_12 : decode cJ1_charAt_3b067 12 = .ok (.iand, 1) := by decide +kernel
theorem dJ1_charAt_3b067_13 : decode cJ1_charAt_3b067 13 = .ok (.i2c, 1) := by decide +kernel
theorem dJ1_charAt_3b067_14 : decode cJ1_charAt_3b067 14 = .ok (.ireturn, 1) := by decide +kernel
theorem dJ2_getChar_3b067_0 : decode cJ2_getChar_3b067 0 = .ok (.getstatic 44, 3) := by decide +kernel
theorem dJ2_getChar_3b067_3 : decode cJ2_getChar_3b067 3 = .ok (.ifCond .ne 25, 3) := by decide +kernel
theorem dJ2_getChar_3b067_6 : decode cJ2_getChar_3b067 6 = .ok (.iload_n 1, 1) := by decide +kernel
theorem dJ2_getChar_3b067_7 : decode cJ2_getChar_3b067 7 = .ok (.ifCond .lt 11, 3) := by decide +kernel
theorem dJ2_getChar_3b067_10 : decode cJ2_getChar_3b067 10 = .ok (.iload_n 1, 1) := by decide +kernel
theorem dJ2_getChar_3b067_11 : decode cJ2_getChar_3b067 11 = .ok (.aload_n 0, 1) := by decide +kernel
theorem dJ2_getChar_3b067_12 : decode cJ2_getChar_3b067 12 = .ok (.invokestatic 48, 3) := by decide +kernel
theorem dJ2_getChar_3b067_15 : decode cJ2_getChar_3b067 15 = .ok (.if_icmp .lt 13, 3) := by decide +kernel
theorem dJ2_getChar_3b067_18 : decode cJ2_getChar_3b067 18 = .ok (.new 52, 3) := by decide +kernel
theorem dJ2_getChar_3b067_21 : decode cJ2_getChar_3b067 21 = .ok (.dup, 1) := by decide +kernel
theorem dJ2_getChar_3b067_22 : decode cJ2_getChar_3b067 22 = .ok (.ldc 54, 2) := by decide +kernel
theorem dJ2_getChar_3b067_24 : decode cJ2_getChar_3b067 24 = .ok (.invokespecial 56, 3) := by decide +kernel
theorem dJ2_getChar_3b067_27 : decode cJ2_getChar_3b067 27 = .ok (.athrow, 1) := by decide +kernel
theorem dJ2_getChar_3b067_28 : decode cJ2_getChar_3b067 28 = .ok (.iload_n 1, 1) := by decide +kernel
theorem dJ2_getChar_3b067_29 : decode cJ2_getChar_3b067 29 = .ok (.iconst 1, 1) := by decide +kernel
theorem dJ2_getChar_3b067_30 : decode cJ2_getChar_3b067 30 = .ok (.ishl, 1) := by decide +kernel
theorem dJ2_getChar_3b067_31 : decode cJ2_getChar_3b067 31 = .ok (.istore_n 1, 1) := by decide +kernel
theorem dJ2_getChar_3b067_32 : decode cJ2_getChar_3b067 32 = .ok (.aload_n 0, 1) := by decide +kernel
theorem dJ2_getChar_3b067_33 : decode cJ2_getChar_3b067 33 = .ok (.iload_n 1, 1) := by decide +kernel
theorem dJ2_getChar_3b067_34 : decode cJ2_getChar_3b067 34 = .ok (.iinc 1 1, 3) := by decide +kernel
theorem dJ2_getChar_3b067_37 : decode cJ2_getChar_3b067 37 = .ok (.baload, 1) := by decide +kernel
theorem dJ2_getChar_3b067_38 : decode cJ2_getChar_3b067 38 = .ok (.sipush 255, 3) := by decide +kernel
theorem dJ2_getChar_3b067_41 : decode cJ2_getChar_3b067 41 = .ok (.iand, 1) := by decide +kernel
theorem dJ2_getChar_3b067_42 : decode cJ2_getChar_3b067 42 = .ok (.getstatic 59, 3) := by decide +kernel
theorem dJ2_getChar_3b067_45 : decode cJ2_getChar_3b067 45 = .ok (.ishl, 1) := by decide +kernel
theorem dJ2_getChar_3b067_46 : decode cJ2_getChar_3b067 46 = .ok (.aload_n 0, 1) := by decide +kernel
theorem dJ2_getChar_3b067_47 : decode cJ2_getChar_3b067 47 = .ok (.iload_n 1, 1) := by decide +kernel
theorem dJ2_getChar_3b067_48 : decode cJ2_getChar_3b067 48 = .ok (.baload, 1) := by decide +kernel
theorem dJ2_getChar_3b067_49 : decode cJ2_getChar_3b067 49 = .ok (.sipush 255, 3) := by decide +kernel
theorem dJ2_getChar_3b067_52 : decode cJ2_getChar_3b067 52 = .ok (.iand, 1) := by decide +kernel
theorem dJ2_getChar_3b067_53 : decode cJ2_getChar_3b067 53 = .ok (.getstatic 63, 3) := by decide +kernel
theorem dJ2_getChar_3b067_56 : decode cJ2_getChar_3b067 56 = .ok (.ishl, 1) := by decide +kernel
theorem dJ2_getChar_3b067_57 : decode cJ2_getChar_3b067 57 = .ok (.ior, 1) := by decide +kernel
theorem dJ2_getChar_3b067_58 : decode cJ2_getChar_3b067 58 = .ok (.i2c, 1) := by decide +kernel
theorem dJ2_getChar_3b067_59 : decode cJ2_getChar_3b067 59 = .ok (.ireturn, 1) := by decide +kernel
theorem dJ2_length_9d52b_0 : decode cJ2_length_9d52b 0 = .ok (.aload_n 0, 1) := by decide +kernel
theorem dJ2_length_9d52b_1 : decode cJ2_length_9d52b 1 = .ok (.arraylength, 1) := by decide +kernel
theorem dJ2_length_9d52b_2 : decode cJ2_length_9d52b 2 = .ok (.iconst 1, 1) := by decide +kernel
theorem dJ2_length_9d52b_3 : decode cJ2_length_9d52b 3 = .ok (.ishr, 1) := by decide +kernel
theorem dJ2_length_9d52b_4 : decode cJ2_length_9d52b 4 = .ok (.ireturn, 1) := by decide +kernel
theorem dJ2_charAt_3b067_0 : decode cJ2_charAt_3b067 0 = .ok (.iload_n 1, 1) := by decide +kernel
theorem dJ2_charAt_3b067_1 : decode cJ2_charAt_3b067 1 = .ok (.aload_n 0, 1) := by decide +kernel
theorem dJ2_charAt_3b067_2 : decode cJ2_charAt_3b067 2 = .ok (.invokestatic 67, 3) := by decide +kernel
theorem dJ2_charAt_3b067_5 : decode cJ2_charAt_3b067 5 = .ok (.aload_n 0, 1) := by decide +kernel
theorem dJ2_charAt_3b067_6 : decode cJ2_charAt_3b067 6 = .ok (.iload_n 1, 1) := by decide +kernel
theorem dJ2_charAt_3b067_7 : decode cJ2_charAt_3b067 7 = .ok (.invokestatic 71, 3) := by decide +kernel
theorem dJ2_charAt_3b067_10 : decode cJ2_charAt_3b067 10 = .ok (.ireturn, 1) := by decide +kernel
theorem dJ2_checkIndex_2214a_0 : decode cJ2_checkIndex_2214a 0 = .ok (.iload_n 0, 1) := by decide +kernel
theorem dJ2_checkIndex_2214a_1 : decode cJ2_checkIndex_2214a 1 = .ok (.aload_n 1, 1) := by decide +kernel
theorem dJ2_checkIndex_2214a_2 : decode cJ2_checkIndex_2214a 2 = .ok (.invokestatic 48, 3) := by decide +kernel
theorem dJ2_checkIndex_2214a_5 : decode cJ2_checkIndex_2214a 5 = .ok (.invokestatic 414, 3) := by decide +kernel
theorem dJ2_checkIndex_2214a_8 : decode cJ2_checkIndex_2214a 8 = .ok (.return_, 1) := by decide +kernel
theorem dJ3_checkIndex_8e157_0 : decode cJ3_checkIndex_8e157 0 = .ok (.iload_n 0, 1) := by decide +kernel
theorem dJ3_checkIndex_8e157_1 : decode cJ3_checkIndex_8e157 1 = .ok (.ifCond .lt 8, 3) := by decide +kernel
theorem dJ3_checkIndex_8e157_4 : decode cJ3_checkIndex_8e157 4 = .ok (.iload_n 0, 1) := by decide +kernel
theorem dJ3_checkIndex_8e157_5 : decode cJ3_checkIndex_8e157 5 = .ok (.iload_n 1, 1) := by decide +kernel
theorem dJ3_checkIndex_8e157_6 : decode cJ3_checkIndex_8e157 6 = .ok (.if_icmp .lt 10, 3) := by decide +kernel
theorem dJ3_checkIndex_8e157_9 : decode cJ3_checkIndex_8e157 9 = .ok (.aload_n 2, 1) := by decide +kernel
theorem dJ3_checkIndex_8e157_10 : decode cJ3_checkIndex_8e157 10 = .ok (.iload_n 0, 1) := by decide +kernel
theorem dJ3_checkIndex_8e157_11 : decode cJ3_checkIndex_8e157 11 = .ok (.iload_n 1, 1) := by decide +kernel
theorem dJ3_checkIndex_8e157_12 : decode cJ3_checkIndex_8e157 12 = .ok (.invokestatic 95, 3) := by decide +kernel
theorem dJ3_checkIndex_8e157_15 : decode cJ3_checkIndex_8e157 15 = .ok (.athrow, 1) := by decide +kernel
theorem dJ3_checkIndex_8e157_16 : decode cJ3_checkIndex_8e157 16 = .ok (.iload_n 0, 1) := by decide +kernel
theorem dJ3_checkIndex_8e157_17 : decode cJ3_checkIndex_8e157 17 = .ok (.ireturn, 1) := by decide +kernel
