theorem dX5_sells_79 : decode cX5_sells 79 = .ok (.invokevirtual 72, 3) := by decide +kernel
theorem dX5_sells_82 : decode cX5_sells 82 = .ok (.imul, 1) := by decide +kernel
theorem dX5_sells_83 : decode cX5_sells 83 = .ok (.iadd, 1) := by decide +kernel
theorem dX5_sells_84 : decode cX5_sells 84 = .ok (.istore 6, 2) := by decide +kernel
theorem dX5_sells_86 : decode cX5_sells 86 = .ok (.aload_n 0, 1) := by decide +kernel
theorem dX5_sells_87 : decode cX5_sells 87 = .ok (.getfield 9, 3) := by decide +kernel
theorem dX5_sells_90 : decode cX5_sells 90 = .ok (.iload 7, 2) := by decide +kernel
theorem dX5_sells_92 : decode cX5_sells 92 = .ok (.sipush 9999, 3) := by decide +kernel
theorem dX5_sells_95 : decode cX5_sells 95 = .ok (.aload_n 0, 1) := by decide +kernel
theorem dX5_sells_96 : decode cX5_sells 96 = .ok (.getfield 9, 3) := by decide +kernel
theorem dX5_sells_99 : decode cX5_sells 99 = .ok (.iload 7, 2) := by decide +kernel
theorem dX5_sells_101 : decode cX5_sells 101 = .ok (.iaload, 1) := by decide +kernel
theorem dX5_sells_102 : decode cX5_sells 102 = .ok (.iload 8, 2) := by decide +kernel
theorem dX5_sells_104 : decode cX5_sells 104 = .ok (.iadd, 1) := by decide +kernel
theorem dX5_sells_105 : decode cX5_sells 105 = .ok (.invokestatic 82, 3) := by decide +kernel
theorem dX5_sells_108 : decode cX5_sells 108 = .ok (.iastore, 1) := by decide +kernel
theorem dX5_sells_109 : decode cX5_sells 109 = .ok (.iinc 7 1, 3) := by decide +kernel
theorem dX5_sells_112 : decode cX5_sells 112 = .ok (.goto (-90), 3) := by decide +kernel
theorem dX5_sells_115 : decode cX5_sells 115 = .ok (.aload_n 0, 1) := by decide +kernel
theorem dX5_sells_116 : decode cX5_sells 116 = .ok (.iload 4, 2) := by decide +kernel
theorem dX5_sells_118 : decode cX5_sells 118 = .ok (.iload 5, 2) := by decide +kernel
theorem dX5_sells_120 : decode cX5_sells 120 = .ok (.isub, 1) := by decide +kernel
theorem dX5_sells_121 : decode cX5_sells 121 = .ok (.putfield 99, 3) := by decide +kernel
theorem dX5_sells_124 : decode cX5_sells 124 = .ok (.aload_n 0, 1) := by decide +kernel
theorem dX5_sells_125 : decode cX5_sells 125 = .ok (.iload 5, 2) := by decide +kernel
theorem dX5_sells_127 : decode cX5_sells 127 = .ok (.putfield 102, 3) := by decide +kernel
theorem dX5_sells_130 : decode cX5_sells 130 = .ok (.aload_n 0, 1) := by decide +kernel
theorem dX5_sells_131 : decode cX5_sells 131 = .ok (.iload_n 1, 1) := by decide +kernel
theorem dX5_sells_132 : decode cX5_sells 132 = .ok (.aload_n 0, 1) := by decide +kernel
theorem dX5_sells_133 : decode cX5_sells 133 = .ok (.getfield 35, 3) := by decide +kernel
theorem dX5_sells_136 : decode cX5_sells 136 = .ok (.isub, 1) := by decide +kernel
theorem dX5_sells_137 : decode cX5_sells 137 = .ok (.putfield 105, 3) := by decide +kernel
theorem dX5_sells_140 : decode cX5_sells 140 = .ok (.aload_n 0, 1) := by decide +kernel
theorem dX5_sells_141 : decode cX5_sells 141 = .ok (.aload_n 0, 1) := by decide +kernel
theorem dX5_sells_142 : decode cX5_sells 142 = .ok (.getfield 41, 3) := by decide +kernel
theorem dX5_sells_145 : decode cX5_sells 145 = .ok (.iload 6, 2) := by decide +kernel
theorem dX5_sells_147 : decode cX5_sells 147 = .ok (.iadd, 1) := by decide +kernel
theorem dX5_sells_148 : decode cX5_sells 148 = .ok (.aload_n 0, 1) := by decide +kernel
theorem dX5_sells_149 : decode cX5_sells 149 = .ok (.getfield 44, 3) := by decide +kernel
theorem dX5_sells_152 : decode cX5_sells 152 = .ok (.aload_n 0, 1) := by decide +kernel
theorem dX5_sells_153 : decode cX5_sells 153 = .ok (.getfield 22, 3) := by decide +kernel
theorem dX5_sells_156 : decode cX5_sells 156 = .ok (.imul, 1) := by decide +kernel
theorem dX5_sells_157 : decode cX5_sells 157 = .ok (.isub, 1) := by decide +kernel
theorem dX5_sells_158 : decode cX5_sells 158 = .ok (.ldc 108, 2) := by decide +kernel
theorem dX5_sells_160 : decode cX5_sells 160 = .ok (.ldc 109, 2) := by decide +kernel
theorem dX5_sells_162 : decode cX5_sells 162 = .ok (.invokestatic 110, 3) := by decide +kernel
theorem dX5_sells_165 : decode cX5_sells 165 = .ok (.putfield 41, 3) := by decide +kernel
theorem dX5_sells_168 : decode cX5_sells 168 = .ok (.aload_n 0, 1) := by decide +kernel
theorem dX5_sells_169 : decode cX5_sells 169 = .ok (.bipush 60, 2) := by decide +kernel
theorem dX5_sells_171 : decode cX5_sells 171 = .ok (.aload_n 0, 1) := by decide +kernel
theorem dX5_sells_172 : decode cX5_sells 172 = .ok (.invokevirtual 92, 3) := by decide +kernel
theorem dX5_sells_175 : decode cX5_sells 175 = .ok (.aload_n 0, 1) := by decide +kernel
theorem dX5_sells_176 : decode cX5_sells 176 = .ok (.getfield 99, 3) := by decide +kernel
theorem dX5_sells_179 : decode cX5_sells 179 = .ok (.isub, 1) := by decide +kernel
theorem dX5_sells_180 : decode cX5_sells 180 = .ok (.invokestatic 82, 3) := by decide +kernel
theorem dX5_sells_183 : decode cX5_sells 183 = .ok (.putfield 38, 3) := by decide +kernel
theorem dX5_sells_186 : decode cX5_sells 186 = .ok (.aload_n 0, 1) := by decide +kernel
theorem dX5_sells_187 : decode cX5_sells 187 = .ok (.iload_n 1, 1) := by decide +kernel
theorem dX5_sells_188 : decode cX5_sells 188 = .ok (.putfield 35, 3) := by decide +kernel
theorem dX5_sells_191 : decode cX5_sells 191 = .ok (.return_, 1) := by decide +kernel
theorem dX5_settles_0 : decode cX5_settles 0 = .ok (.aload_n 0, 1) := by decide +kernel
theorem dX5_settles_1 : decode cX5_settles 1 = .ok (.aload_n 0, 1) := by decide +kernel
theorem dX5_settles_2 : decode cX5_settles 2 = .ok (.getfield 18, 3) := by decide +kernel
theorem dX5_settles_5 : decode cX5_settles 5 = .ok (.aload_n 0, 1) := by decide +kernel
theorem dX5_settles_6 : decode cX5_settles 6 = .ok (.getfield 25, 3) := by decide +kernel
theorem dX5_settles_9 : decode cX5_settles 9 = .ok (.aload_n 0, 1) := by decide +kernel
theorem dX5_settles_10 : decode cX5_settles 10 = .ok (.getfield 99, 3) := by decide +kernel
theorem dX5_settles_13 : decode cX5_settles 13 = .ok (.aload_n 0, 1) := by decide +kernel
theorem dX5_settles_14 : decode cX5_settles 14 = .ok (.getfield 102, 3) := by decide +kernel
theorem dX5_settles_17 : decode cX5_settles 17 = .ok (.aload_n 0, 1) := by decide +kernel
theorem dX5_settles_18 : decode cX5_settles 18 = .ok (.getfield 18, 3) := by decide +kernel
theorem dX5_settles_21 : decode cX5_settles 21 = .ok (.aload_n 0, 1) := by decide +kernel
theorem dX5_settles_22 : decode cX5_settles 22 = .ok (.getfield 105, 3) := by decide +kernel
theorem dX5_settles_25 : decode cX5_settles 25 = .ok (.invokevirtual 113, 3) := by decide +kernel
theorem dX5_settles_28 : decode cX5_settles 28 = .ok (.iadd, 1) := by decide +kernel
theorem dX5_settles_29 : decode cX5_settles 29 = .ok (.iconst 0, 1) := by decide +kernel
theorem dX5_settles_30 : decode cX5_settles 30 = .ok (.bipush 12, 2) := by decide +kernel
theorem dX5_settles_32 : decode cX5_settles 32 = .ok (.invokestatic 110, 3) := by decide +kernel
theorem dX5_settles_35 : decode cX5_settles 35 = .ok (.putfield 18, 3) := by decide +kernel
theorem dX5_settles_38 : decode cX5_settles 38 = .ok (.return_, 1) := by decide +kernel
theorem dX5_goes_0 : decode cX5_goes 0 = .ok (.aload_n 0, 1) := by decide +kernel
theorem dX5_goes_1 : decode cX5_goes 1 = .ok (.invokevirtual 116, 3) := by decide +kernel
theorem dX5_goes_4 : decode cX5_goes 4 = .ok (.aload_n 0, 1) := by decide +kernel
theorem dX5_goes_5 : decode cX5_goes 5 = .ok (.iload_n 1, 1) := by decide +kernel
theorem dX5_goes_6 : decode cX5_goes 6 = .ok (.iload_n 2, 1) := by decide +kernel
theorem dX5_goes_7 : decode cX5_goes 7 = .ok (.iload_n 3, 1) := by decide +kernel
theorem dX5_goes_8 : decode cX5_goes 8 = .ok (.invokevirtual 119, 3) := by decide +kernel
theorem dX5_goes_11 : decode cX5_goes 11 = .ok (.aload_n 0, 1) := by decide +kernel
theorem dX5_goes_12 : decode cX5_goes 12 = .ok (.invokevirtual 123, 3) := by decide +kernel
theorem dX5_goes_15 : decode cX5_goes 15 = .ok (.return_, 1) := by decide +kernel
theorem dX5_goesYears_0 : decode cX5_goesYears 0 = .ok (.iconst 0, 1) := by decide +kernel
theorem dX5_goesYears_1 : decode cX5_goesYears 1 = .ok (.istore_n 3, 1) := by decide +kernel
theorem dX5_goesYears_2 : decode cX5_goesYears 2 = .ok (.iload_n 3, 1) := by decide +kernel
theorem dX5_goesYears_3 : decode cX5_goesYears 3 = .ok (.iload_n 1, 1) := by decide +kernel
theorem dX5_goesYears_4 : decode cX5_goesYears 4 = .ok (.if_icmp .ge 18, 3) := by decide +kernel
theorem dX5_goesYears_7 : decode cX5_goesYears 7 = .ok (.aload_n 0, 1) := by decide +kernel
theorem dX5_goesYears_8 : decode cX5_goesYears 8 = .ok (.iload_n 2, 1) := by decide +kernel
theorem dX5_goesYears_9 : decode cX5_goesYears 9 = .ok (.iconst 0, 1) := by decide +kernel
theorem dX5_goesYears_10 : decode cX5_goesYears 10 = .ok (.sipush 255, 3) := by decide +kernel
theorem dX5_goesYears_13 : decode cX5_goesYears 13 = .ok (.invokevirtual 126, 3) := by decide +kernel
theorem dX5_goesYears_16 : decode cX5_goesYears 16 = .ok (.iinc 3 1, 3) := by decide +kernel
theorem dX5_goesYears_19 : decode cX5_goesYears 19 = .ok (.goto (-17), 3) := by decide +kernel
theorem dX5_goesYears_22 : decode cX5_goesYears 22 = .ok (.return_, 1) := by decide +kernel
theorem dX5_gives_0 : decode cX5_gives 0 = .ok (.aload_n 0, 1) := by decide +kernel
theorem dX5_gives_1 : decode cX5_gives 1 = .ok (.dup, 1) := by decide +kernel
theorem dX5_gives_2 : decode cX5_gives 2 = .ok (.getfield 38, 3) := by decide +kernel
theorem dX5_gives_5 : decode cX5_gives 5 = .ok (.iconst 1, 1) := by decide +kernel
theorem dX5_gives_6 : decode cX5_gives 6 = .ok (.isub, 1) := by decide +kernel
theorem dX5_gives_7 : decode cX5_gives 7 = .ok (.putfield 38, 3) := by decide +kernel
theorem dX5_gives_10 : decode cX5_gives 10 = .ok (.aload_n 0, 1) := by decide +kernel
theorem dX5_gives_11 : decode cX5_gives 11 = .ok (.getfield 9, 3) := by decide +kernel
theorem dX5_gives_14 : decode cX5_gives 14 = .ok (.iload_n 1, 1) := by decide +kernel
theorem dX5_gives_15 : decode cX5_gives 15 = .ok (.sipush 9999, 3) := by decide +kernel
theorem dX5_gives_18 : decode cX5_gives 18 = .ok (.aload_n 0, 1) := by decide +kernel
theorem dX5_gives_19 : decode cX5_gives 19 = .ok (.getfield 9, 3) := by decide +kernel
theorem dX5_gives_22 : decode cX5_gives 22 = .ok (.iload_n 1, 1) := by decide +kernel
theorem dX5_gives_23 : decode cX5_gives 23 = .ok (.iaload, 1) := by decide +kernel
theorem dX5_gives_24 : decode cX5_gives 24 = .ok (.iconst 1, 1) := by decide +kernel
theorem dX5_gives_25 : decode cX5_gives 25 = .ok (.iadd, 1) := by decide +kernel
theorem dX5_gives_26 : decode cX5_gives 26 = .ok (.invokestatic 82, 3) := by decide +kernel
theorem dX5_gives_29 : decode cX5_gives 29 = .ok (.iastore, 1) := by decide +kernel
theorem dX5_gives_30 : decode cX5_gives 30 = .ok (.aload_n 0, 1) := by decide +kernel
theorem dX5_gives_31 : decode cX5_gives 31 = .ok (.getfield 25, 3) := by decide +kernel
theorem dX5_gives_34 : decode cX5_gives 34 = .ok (.getfield 69, 3) := by decide +kernel
theorem dX5_gives_37 : decode cX5_gives 37 = .ok (.iload_n 1, 1) := by decide +kernel
theorem dX5_gives_38 : decode cX5_gives 38 = .ok (.iaload, 1) := by decide +kernel
theorem dX5_gives_39 : decode cX5_gives 39 = .ok (.iconst 3, 1) := by decide +kernel
theorem dX5_gives_40 : decode cX5_gives 40 = .ok (.invokestatic 129, 3) := by decide +kernel
theorem dX5_gives_43 : decode cX5_gives 43 = .ok (.ifCond .eq 18, 3) := by decide +kernel
theorem dX5_gives_46 : decode cX5_gives 46 = .ok (.aload_n 0, 1) := by decide +kernel
theorem dX5_gives_47 : decode cX5_gives 47 = .ok (.bipush 12, 2) := by decide +kernel
theorem dX5_gives_49 : decode cX5_gives 49 = .ok (.aload_n 0, 1) := by decide +kernel
theorem dX5_gives_50 : decode cX5_gives 50 = .ok (.getfield 18, 3) := by decide +kernel
theorem dX5_gives_53 : decode cX5_gives 53 = .ok (.iconst 1, 1) := by decide +kernel
theorem dX5_gives_54 : decode cX5_gives 54 = .ok (.iadd, 1) := by decide +kernel
theorem dX5_gives_55 : decode cX5_gives 55 = .ok (.invokestatic 82, 3) := by decide +kernel
theorem dX5_gives_58 : decode cX5_gives 58 = .ok (.putfield 18, 3) := by decide +kernel
theorem dX5_gives_61 : decode cX5_gives 61 = .ok (.return_, 1) := by decide +kernel
theorem dX6_init_0 : decode cX6_init 0 = .ok (.aload_n 0, 1) := by decide +kernel
theorem dX6_init_1 : decode cX6_init 1 = .ok (.invokespecial 3, 3) := by decide +kernel
theorem dX6_init_4 : decode cX6_init 4 = .ok (.aload_n 0, 1) := by decide +kernel
theorem dX6_init_5 : decode cX6_init 5 = .ok (.bipush 40, 2) := by decide +kernel
theorem dX6_init_7 : decode cX6_init 7 = .ok (.newarray .int, 2) := by decide +kernel
theorem dX6_init_9 : decode cX6_init 9 = .ok (.putfield 9, 3) := by decide +kernel
theorem dX6_init_12 : decode cX6_init 12 = .ok (.return_, 1) := by decide +kernel
theorem dX6_speaks_0 : decode cX6_speaks 0 = .ok (.aload_n 0, 1) := by decide +kernel
theorem dX6_speaks_1 : decode cX6_speaks 1 = .ok (.aload_n 1, 1) := by decide +kernel
theorem dX6_speaks_2 : decode cX6_speaks 2 = .ok (.getfield 15, 3) := by decide +kernel
theorem dX6_speaks_5 : decode cX6_speaks 5 = .ok (.iload_n 2, 1) := by decide +kernel
theorem dX6_speaks_6 : decode cX6_speaks 6 = .ok (.iaload, 1) := by decide +kernel
theorem dX6_speaks_7 : decode cX6_speaks 7 = .ok (.putfield 20, 3) := by decide +kernel
theorem dX6_speaks_10 : decode cX6_speaks 10 = .ok (.aload_n 0, 1) := by decide +kernel
theorem dX6_speaks_11 : decode cX6_speaks 11 = .ok (.iload_n 2, 1) := by decide +kernel
theorem dX6_speaks_12 : decode cX6_speaks 12 = .ok (.putfield 24, 3) := by decide +kernel
theorem dX6_speaks_15 : decode cX6_speaks 15 = .ok (.aload_n 0, 1) := by decide +kernel
theorem dX6_speaks_16 : decode cX6_speaks 16 = .ok (.aload_n 1, 1) := by decide +kernel
theorem dX6_speaks_17 : decode cX6_speaks 17 = .ok (.getfield 27, 3) := by decide +kernel
theorem dX6_speaks_20 : decode cX6_speaks 20 = .ok (.iload_n 2, 1) := by decide +kernel
theorem dX6_speaks_21 : decode cX6_speaks 21 = .ok (.iaload, 1) := by decide +kernel
theorem dX6_speaks_22 : decode cX6_speaks 22 = .ok (.putfield 30, 3) := by decide +kernel
theorem dX6_speaks_25 : decode cX6_speaks 25 = .ok (.aload_n 0, 1) := by decide +kernel
theorem dX6_speaks_26 : decode cX6_speaks 26 = .ok (.iconst 0, 1) := by decide +kernel
theorem dX6_speaks_27 : decode cX6_speaks 27 = .ok (.putfield 33, 3) := by decide +kernel
theorem dX6_speaks_30 : decode cX6_speaks 30 = .ok (.aload_n 0, 1) := by decide +kernel
theorem dX6_speaks_31 : decode cX6_speaks 31 = .ok (.iload_n 3, 1) := by decide +kernel
theorem dX6_speaks_32 : decode cX6_speaks 32 = .ok (.iload 4, 2) := by decide +kernel
theorem dX6_speaks_34 : decode cX6_speaks 34 = .ok (.iconst 0, 1) := by decide +kernel
theorem dX6_speaks_35 : decode cX6_speaks 35 = .ok (.invokevirtual 36, 3) := by decide +kernel
theorem dX6_speaks_38 : decode cX6_speaks 38 = .ok (.ireturn, 1) := by decide +kernel
theorem dX6_own_0 : decode cX6_own 0 = .ok (.aload_n 0, 1) := by decide +kernel
theorem dX6_own_1 : decode cX6_own 1 = .ok (.aload_n 0, 1) := by decide +kernel
theorem dX6_own_2 : decode cX6_own 2 = .ok (.getfield 20, 3) := by decide +kernel
theorem dX6_own_5 : decode cX6_own 5 = .ok (.iload_n 1, 1) := by decide +kernel
theorem dX6_own_6 : decode cX6_own 6 = .ok (.invokestatic 40, 3) := by decide +kernel
theorem dX6_own_9 : decode cX6_own 9 = .ok (.iload_n 2, 1) := by decide +kernel
theorem dX6_own_10 : decode cX6_own 10 = .ok (.iload_n 3, 1) := by decide +kernel
theorem dX6_own_11 : decode cX6_own 11 = .ok (.iconst 1, 1) := by decide +kernel
theorem dX6_own_12 : decode cX6_own 12 = .ok (.iadd, 1) := by decide +kernel
theorem dX6_own_13 : decode cX6_own 13 = .ok (.invokevirtual 44, 3) := by decide +kernel
theorem dX6_own_16 : decode cX6_own 16 = .ok (.ireturn, 1) := by decide +kernel
theorem dX6_above_0 : decode cX6_above 0 = .ok (.aload_n 0, 1) := by decide +kernel
theorem dX6_above_1 : decode cX6_above 1 = .ok (.getstatic 47, 3) := by decide +kernel
theorem dX6_above_4 : decode cX6_above 4 = .ok (.iload_n 1, 1) := by decide +kernel
theorem dX6_above_5 : decode cX6_above 5 = .ok (.iaload, 1) := by decide +kernel
theorem dX6_above_6 : decode cX6_above 6 = .ok (.iload_n 2, 1) := by decide +kernel
theorem dX6_above_7 : decode cX6_above 7 = .ok (.invokestatic 40, 3) := by decide +kernel
theorem dX6_above_10 : decode cX6_above 10 = .ok (.iload_n 3, 1) := by decide +kernel
theorem dX6_above_11 : decode cX6_above 11 = .ok (.iload 4, 2) := by decide +kernel
theorem dX6_above_13 : decode cX6_above 13 = .ok (.iconst 1, 1) := by decide +kernel
theorem dX6_above_14 : decode cX6_above 14 = .ok (.iadd, 1) := by decide +kernel
theorem dX6_above_15 : decode cX6_above 15 = .ok (.invokevirtual 44, 3) := by decide +kernel
theorem dX6_above_18 : decode cX6_above 18 = .ok (.ireturn, 1) := by decide +kernel
theorem dX6_bodyFrom_0 : decode cX6_bodyFrom 0 = .ok (.iload_n 0, 1) := by decide +kernel
theorem dX6_bodyFrom_1 : decode cX6_bodyFrom 1 = .ok (.istore_n 2, 1) := by decide +kernel
theorem dX6_bodyFrom_2 : decode cX6_bodyFrom 2 = .ok (.iconst 0, 1) := by decide +kernel
theorem dX6_bodyFrom_3 : decode cX6_bodyFrom 3 = .ok (.istore_n 3, 1) := by decide +kernel
theorem dX6_bodyFrom_4 : decode cX6_bodyFrom 4 = .ok (.iload_n 3, 1) := by decide +kernel
theorem dX6_bodyFrom_5 : decode cX6_bodyFrom 5 = .ok (.bipush 7, 2) := by decide +kernel
theorem dX6_bodyFrom_7 : decode cX6_bodyFrom 7 = .ok (.if_icmp .ge 44, 3) := by decide +kernel
theorem dX6_bodyFrom_10 : decode cX6_bodyFrom 10 = .ok (.iload_n 2, 1) := by decide +kernel
theorem dX6_bodyFrom_11 : decode cX6_bodyFrom 11 = .ok (.iconst 0, 1) := by decide +kernel
theorem dX6_bodyFrom_12 : decode cX6_bodyFrom 12 = .ok (.bipush 6, 2) := by decide +kernel
theorem dX6_bodyFrom_14 : decode cX6_bodyFrom 14 = .ok (.invokestatic 50, 3) := by decide +kernel
theorem dX6_bodyFrom_17 : decode cX6_bodyFrom 17 = .ok (.ifCond .eq 34, 3) := by decide +kernel
theorem dX6_bodyFrom_20 : decode cX6_bodyFrom 20 = .ok (.getstatic 54, 3) := by decide +kernel
theorem dX6_bodyFrom_23 : decode cX6_bodyFrom 23 = .ok (.iconst 4, 1) := by decide +kernel
theorem dX6_bodyFrom_24 : decode cX6_bodyFrom 24 = .ok (.iload_n 2, 1) := by decide +kernel
theorem dX6_bodyFrom_25 : decode cX6_bodyFrom 25 = .ok (.imul, 1) := by decide +kernel
theorem dX6_bodyFrom_26 : decode cX6_bodyFrom 26 = .ok (.iload_n 1, 1) := by decide +kernel
theorem dX6_bodyFrom_27 : decode cX6_bodyFrom 27 = .ok (.iadd, 1) := by decide +kernel
theorem dX6_bodyFrom_28 : decode cX6_bodyFrom 28 = .ok (.iaload, 1) := by decide +kernel
theorem dX6_bodyFrom_29 : decode cX6_bodyFrom 29 = .ok (.istore 4, 2) := by decide +kernel
theorem dX6_bodyFrom_31 : decode cX6_bodyFrom 31 = .ok (.iload 4, 2) := by decide +kernel
theorem dX6_bodyFrom_33 : decode cX6_bodyFrom 33 = .ok (.ifCond .eq 6, 3) := by decide +kernel
theorem dX6_bodyFrom_36 : decode cX6_bodyFrom 36 = .ok (.iload 4, 2) := by decide +kernel
theorem dX6_bodyFrom_38 : decode cX6_bodyFrom 38 = .ok (.ireturn, 1) := by decide +kernel
theorem dX6_bodyFrom_39 : decode cX6_bodyFrom 39 = .ok (.getstatic 47, 3) := by decide +kernel
theorem dX6_bodyFrom_42 : decode cX6_bodyFrom 42 = .ok (.iload_n 2, 1) := by decide +kernel
theorem dX6_bodyFrom_43 : decode cX6_bodyFrom 43 = .ok (.iaload, 1) := by decide +kernel
theorem dX6_bodyFrom_44 : decode cX6_bodyFrom 44 = .ok (.istore_n 2, 1) := by decide +kernel
theorem dX6_bodyFrom_45 : decode cX6_bodyFrom 45 = .ok (.iinc 3 1, 3) := by decide +kernel
theorem dX6_bodyFrom_48 : decode cX6_bodyFrom 48 = .ok (.goto (-44), 3) := by decide +kernel
theorem dX6_bodyFrom_51 : decode cX6_bodyFrom 51 = .ok (.iconst 0, 1) := by decide +kernel
theorem dX6_bodyFrom_52 : decode cX6_bodyFrom 52 = .ok (.ireturn, 1) := by decide +kernel
theorem dX6_body_0 : decode cX6_body 0 = .ok (.iload_n 3, 1) := by decide +kernel
theorem dX6_body_1 : decode cX6_body 1 = .ok (.bipush 20, 2) := by decide +kernel
theorem dX6_body_3 : decode cX6_body 3 = .ok (.if_icmp .le 5, 3) := by decide +kernel
theorem dX6_body_6 : decode cX6_body 6 = .ok (.iconst 0, 1) := by decide +kernel
theorem dX6_body_7 : decode cX6_body 7 = .ok (.ireturn, 1) := by decide +kernel
theorem dX6_body_8 : decode cX6_body 8 = .ok (.aload_n 0, 1) := by decide +kernel
theorem dX6_body_9 : decode cX6_body 9 = .ok (.iload_n 1, 1) := by decide +kernel
theorem dX6_body_10 : decode cX6_body 10 = .ok (.invokevirtual 57, 3) := by decide +kernel
theorem dX6_body_13 : decode cX6_body 13 = .ok (.iload_n 1, 1) := by decide +kernel
theorem dX6_body_14 : decode cX6_body 14 = .ok (.lookupswitch 259 #[(10, 106), (11, 113), (12, 123), (13, 130), (20, 146), (30, 163), (40, 174), (50, 184), (51, 195), (60, 212), (70, 226), (71, 241)], 106) := by decide +kernel
theorem dX6_body_120 : decode cX6_body 120 = .ok (.iload_n 2, 1) := by decide +kernel
theorem dX6_body_121 : decode cX6_body 121 = .ok (.aload_n 0, 1) := by decide +kernel
theorem dX6_body_122 : decode cX6_body 122 = .ok (.getfield 24, 3) := by decide +kernel
theorem dX6_body_125 : decode cX6_body 125 = .ok (.iadd, 1) := by decide +kernel
theorem dX6_body_126 : decode cX6_body 126 = .ok (.ireturn, 1) := by decide +kernel
theorem dX6_body_127 : decode cX6_body 127 = .ok (.aload_n 0, 1) := by decide +kernel
theorem dX6_body_128 : decode cX6_body 128 = .ok (.iconst 0, 1) := by decide +kernel
theorem dX6_body_129 : decode cX6_body 129 = .ok (.iload_n 2, 1) := by decide +kernel
theorem dX6_body_130 : decode cX6_body 130 = .ok (.iload_n 3, 1) := by decide +kernel
theorem dX6_body_131 : decode cX6_body 131 = .ok (.invokevirtual 36, 3) := by decide +kernel
theorem dX6_body_134 : decode cX6_body 134 = .ok (.iconst 2, 1) := by decide +kernel
theorem dX6_body_135 : decode cX6_body 135 = .ok (.imul, 1) := by decide +kernel
theorem dX6_body_136 : decode cX6_body 136 = .ok (.ireturn, 1) := by decide +kernel
theorem dX6_body_137 : decode cX6_body 137 = .ok (.iload_n 2, 1) := by decide +kernel
theorem dX6_body_138 : decode cX6_body 138 = .ok (.aload_n 0, 1) := by decide +kernel
theorem dX6_body_139 : decode cX6_body 139 = .ok (.getfield 30, 3) := by decide +kernel
theorem dX6_body_142 : decode cX6_body 142 = .ok (.isub, 1) := by decide +kernel
theorem dX6_body_143 : decode cX6_body 143 = .ok (.ireturn, 1) := by decide +kernel
theorem dX6_body_144 : decode cX6_body 144 = .ok (.aload_n 0, 1) := by decide +kernel
theorem dX6_body_145 : decode cX6_body 145 = .ok (.iconst 1, 1) := by decide +kernel
theorem dX6_body_146 : decode cX6_body 146 = .ok (.iload_n 2, 1) := by decide +kernel
theorem dX6_body_147 : decode cX6_body 147 = .ok (.iload_n 3, 1) := by decide +kernel
theorem dX6_body_148 : decode cX6_body 148 = .ok (.invokevirtual 36, 3) := by decide +kernel
theorem dX6_body_151 : decode cX6_body 151 = .ok (.aload_n 0, 1) := by decide +kernel
theorem dX6_body_152 : decode cX6_body 152 = .ok (.iconst 2, 1) := by decide +kernel
theorem dX6_body_153 : decode cX6_body 153 = .ok (.iload_n 2, 1) := by decide +kernel
theorem dX6_body_154 : decode cX6_body 154 = .ok (.iload_n 3, 1) := by decide +kernel
theorem dX6_body_155 : decode cX6_body 155 = .ok (.invokevirtual 36, 3) := by decide +kernel
theorem dX6_body_158 : decode cX6_body 158 = .ok (.ixor, 1) := by decide +kernel
theorem dX6_body_159 : decode cX6_body 159 = .ok (.ireturn, 1) := by decide +kernel
theorem dX6_body_160 : decode cX6_body 160 = .ok (.aload_n 0, 1) := by decide +kernel
theorem dX6_body_161 : decode cX6_body 161 = .ok (.iconst 1, 1) := by decide +kernel
theorem dX6_body_162 : decode cX6_body 162 = .ok (.iconst 1, 1) := by decide +kernel
theorem dX6_body_163 : decode cX6_body 163 = .ok (.iload_n 2, 1) := by decide +kernel
theorem dX6_body_164 : decode cX6_body 164 = .ok (.iload_n 3, 1) := by decide +kernel
theorem dX6_body_165 : decode cX6_body 165 = .ok (.invokevirtual 61, 3) := by decide +kernel
theorem dX6_body_168 : decode cX6_body 168 = .ok (.aload_n 0, 1) := by decide +kernel
theorem dX6_body_169 : decode cX6_body 169 = .ok (.iconst 2, 1) := by decide +kernel
theorem dX6_body_170 : decode cX6_body 170 = .ok (.iconst 1, 1) := by decide +kernel
theorem dX6_body_171 : decode cX6_body 171 = .ok (.iload_n 3, 1) := by decide +kernel
theorem dX6_body_172 : decode cX6_body 172 = .ok (.invokevirtual 36, 3) := by decide +kernel
theorem dX6_body_175 : decode cX6_body 175 = .ok (.isub, 1) := by decide +kernel
theorem dX6_body_176 : decode cX6_body 176 = .ok (.ireturn, 1) := by decide +kernel
theorem dX6_body_177 : decode cX6_body 177 = .ok (.aload_n 0, 1) := by decide +kernel
theorem dX6_body_178 : decode cX6_body 178 = .ok (.iconst 2, 1) := by decide +kernel
theorem dX6_body_179 : decode cX6_body 179 = .ok (.iconst 0, 1) := by decide +kernel
theorem dX6_body_180 : decode cX6_body 180 = .ok (.iload_n 2, 1) := by decide +kernel
theorem dX6_body_181 : decode cX6_body 181 = .ok (.iload_n 3, 1) := by decide +kernel
theorem dX6_body_182 : decode cX6_body 182 = .ok (.invokevirtual 61, 3) := by decide +kernel
theorem dX6_body_185 : decode cX6_body 185 = .ok (.iconst 3, 1) := by decide +kernel
theorem dX6_body_186 : decode cX6_body 186 = .ok (.imul, 1) := by decide +kernel
theorem dX6_body_187 : decode cX6_body 187 = .ok (.ireturn, 1) := by decide +kernel
theorem dX6_body_188 : decode cX6_body 188 = .ok (.aload_n 0, 1) := by decide +kernel
theorem dX6_body_189 : decode cX6_body 189 = .ok (.iconst 3, 1) := by decide +kernel
theorem dX6_body_190 : decode cX6_body 190 = .ok (.iconst 2, 1) := by decide +kernel
theorem dX6_body_191 : decode cX6_body 191 = .ok (.iload_n 2, 1) := by decide +kernel
theorem dX6_body_192 : decode cX6_body 192 = .ok (.iload_n 3, 1) := by decide +kernel
theorem dX6_body_193 : decode cX6_body 193 = .ok (.invokevirtual 61, 3) := by decide +kernel
theorem dX6_body_196 : decode cX6_body 196 = .ok (.ineg, 1) := by decide +kernel
theorem dX6_body_197 : decode cX6_body 197 = .ok (.ireturn, 1) := by decide +kernel
theorem dX6_body_198 : decode cX6_body 198 = .ok (.aload_n 0, 1) := by decide +kernel
theorem dX6_body_199 : decode cX6_body 199 = .ok (.iconst 4, 1) := by decide +kernel
theorem dX6_body_200 : decode cX6_body 200 = .ok (.iconst 0, 1) := by decide +kernel
theorem dX6_body_201 : decode cX6_body 201 = .ok (.iload_n 2, 1) := by decide +kernel
theorem dX6_body_202 : decode cX6_body 202 = .ok (.iconst 1, 1) := by decide +kernel
theorem dX6_body_203 : decode cX6_body 203 = .ok (.iadd, 1) := by decide +kernel
theorem dX6_body_204 : decode cX6_body 204 = .ok (.iload_n 3, 1) := by decide +kernel
theorem dX6_body_205 : decode cX6_body 205 = .ok (.invokevirtual 61, 3) := by decide +kernel
theorem dX6_body_208 : decode cX6_body 208 = .ok (.ireturn, 1) := by decide +kernel
theorem dX6_body_209 : decode cX6_body 209 = .ok (.aload_n 0, 1) := by decide +kernel
theorem dX6_body_210 : decode cX6_body 210 = .ok (.iconst 4, 1) := by decide +kernel
theorem dX6_body_211 : decode cX6_body 211 = .ok (.iconst 3, 1) := by decide +kernel
theorem dX6_body_212 : decode cX6_body 212 = .ok (.iload_n 2, 1) := by decide +kernel
theorem dX6_body_213 : decode cX6_body 213 = .ok (.iload_n 3, 1) := by decide +kernel
theorem dX6_body_214 : decode cX6_body 214 = .ok (.invokevirtual 61, 3) := by decide +kernel
theorem dX6_body_217 : decode cX6_body 217 = .ok (.aload_n 0, 1) := by decide +kernel
theorem dX6_body_218 : decode cX6_body 218 = .ok (.iconst 0, 1) := by decide +kernel
theorem dX6_body_219 : decode cX6_body 219 = .ok (.iconst 2, 1) := by decide +kernel
theorem dX6_body_220 : decode cX6_body 220 = .ok (.iload_n 3, 1) := by decide +kernel
theorem dX6_body_221 : decode cX6_body 221 = .ok (.invokevirtual 36, 3) := by decide +kernel
theorem dX6_body_224 : decode cX6_body 224 = .ok (.isub, 1) := by decide +kernel
theorem dX6_body_225 : decode cX6_body 225 = .ok (.ireturn, 1) := by decide +kernel
theorem dX6_body_226 : decode cX6_body 226 = .ok (.aload_n 0, 1) := by decide +kernel
theorem dX6_body_227 : decode cX6_body 227 = .ok (.iconst 5, 1) := by decide +kernel
theorem dX6_body_228 : decode cX6_body 228 = .ok (.iconst 1, 1) := by decide +kernel
theorem dX6_body_229 : decode cX6_body 229 = .ok (.iload_n 2, 1) := by decide +kernel
theorem dX6_body_230 : decode cX6_body 230 = .ok (.iload_n 3, 1) := by decide +kernel
theorem dX6_body_231 : decode cX6_body 231 = .ok (.invokevirtual 61, 3) := by decide +kernel
theorem dX6_body_234 : decode cX6_body 234 = .ok (.aload_n 0, 1) := by decide +kernel
theorem dX6_body_235 : decode cX6_body 235 = .ok (.getfield 24, 3) := by decide +kernel
theorem dX6_body_238 : decode cX6_body 238 = .ok (.ixor, 1) := by decide +kernel
theorem dX6_body_239 : decode cX6_body 239 = .ok (.ireturn, 1) := by decide +kernel
theorem dX6_body_240 : decode cX6_body 240 = .ok (.aload_n 0, 1) := by decide +kernel
theorem dX6_body_241 : decode cX6_body 241 = .ok (.bipush 6, 2) := by decide +kernel
theorem dX6_body_243 : decode cX6_body 243 = .ok (.iconst 2, 1) := by decide +kernel
theorem dX6_body_244 : decode cX6_body 244 = .ok (.iload_n 2, 1) := by decide +kernel
theorem dX6_body_245 : decode cX6_body 245 = .ok (.iload_n 3, 1) := by decide +kernel
theorem dX6_body_246 : decode cX6_body 246 = .ok (.invokevirtual 61, 3) := by decide +kernel
theorem dX6_body_249 : decode cX6_body 249 = .ok (.aload_n 0, 1) := by decide +kernel
theorem dX6_body_250 : decode cX6_body 250 = .ok (.getfield 30, 3) := by decide +kernel
theorem dX6_body_253 : decode cX6_body 253 = .ok (.iadd, 1) := by decide +kernel
theorem dX6_body_254 : decode cX6_body 254 = .ok (.ireturn, 1) := by decide +kernel
theorem dX6_body_255 : decode cX6_body 255 = .ok (.aload_n 0, 1) := by decide +kernel
theorem dX6_body_256 : decode cX6_body 256 = .ok (.iconst 1, 1) := by decide +kernel
theorem dX6_body_257 : decode cX6_body 257 = .ok (.iload_n 2, 1) := by decide +kernel
theorem dX6_body_258 : decode cX6_body 258 = .ok (.iload_n 3, 1) := by decide +kernel
theorem dX6_body_259 : decode cX6_body 259 = .ok (.invokevirtual 36, 3) := by decide +kernel
theorem dX6_body_262 : decode cX6_body 262 = .ok (.aload_n 0, 1) := by decide +kernel
theorem dX6_body_263 : decode cX6_body 263 = .ok (.bipush 6, 2) := by decide +kernel
theorem dX6_body_265 : decode cX6_body 265 = .ok (.iconst 3, 1) := by decide +kernel
theorem dX6_body_266 : decode cX6_body 266 = .ok (.iload_n 2, 1) := by decide +kernel
theorem dX6_body_267 : decode cX6_body 267 = .ok (.iload_n 3, 1) := by decide +kernel
theorem dX6_body_268 : decode cX6_body 268 = .ok (.invokevirtual 61, 3) := by decide +kernel
theorem dX6_body_271 : decode cX6_body 271 = .ok (.isub, 1) := by decide +kernel
theorem dX6_body_272 : decode cX6_body 272 = .ok (.ireturn, 1) := by decide +kernel
theorem dX6_body_273 : decode cX6_body 273 = .ok (.iconst 0, 1) := by decide +kernel
theorem dX6_body_274 : decode cX6_body 274 = .ok (.ireturn, 1) := by decide +kernel
theorem dX6_begins_0 : decode cX6_begins 0 = .ok (.aload_n 0, 1) := by decide +kernel
theorem dX6_begins_1 : decode cX6_begins 1 = .ok (.getfield 33, 3) := by decide +kernel
theorem dX6_begins_4 : decode cX6_begins 4 = .ok (.aload_n 0, 1) := by decide +kernel
theorem dX6_begins_5 : decode cX6_begins 5 = .ok (.getfield 9, 3) := by decide +kernel
theorem dX6_begins_8 : decode cX6_begins 8 = .ok (.arraylength, 1) := by decide +kernel
theorem dX6_begins_9 : decode cX6_begins 9 = .ok (.if_icmp .ge 23, 3) := by decide +kernel
theorem dX6_begins_12 : decode cX6_begins 12 = .ok (.aload_n 0, 1) := by decide +kernel
theorem dX6_begins_13 : decode cX6_begins 13 = .ok (.getfield 9, 3) := by decide +kernel
theorem dX6_begins_16 : decode cX6_begins 16 = .ok (.aload_n 0, 1) := by decide +kernel
theorem dX6_begins_17 : decode cX6_begins 17 = .ok (.getfield 33, 3) := by decide +kernel
theorem dX6_begins_20 : decode cX6_begins 20 = .ok (.iload_n 1, 1) := by decide +kernel
theorem dX6_begins_21 : decode cX6_begins 21 = .ok (.iastore, 1) := by decide +kernel
theorem dX6_begins_22 : decode cX6_begins 22 = .ok (.aload_n 0, 1) := by decide +kernel
theorem dX6_begins_23 : decode cX6_begins 23 = .ok (.dup, 1) := by decide +kernel
theorem dX6_begins_24 : decode cX6_begins 24 = .ok (.getfield 33, 3) := by decide +kernel
theorem dX6_begins_27 : decode cX6_begins 27 = .ok (.iconst 1, 1) := by decide +kernel
theorem dX6_begins_28 : decode cX6_begins 28 = .ok (.iadd, 1) := by decide +kernel
theorem dX6_begins_29 : decode cX6_begins 29 = .ok (.putfield 33, 3) := by decide +kernel
theorem dX6_begins_32 : decode cX6_begins 32 = .ok (.return_, 1) := by decide +kernel
theorem dX7_init_0 : decode cX7_init 0 = .ok (.aload_n 0, 1) := by decide +kernel
theorem dX7_init_1 : decode cX7_init 1 = .ok (.invokespecial 3, 3) := by decide +kernel
theorem dX7_init_4 : decode cX7_init 4 = .ok (.aload_n 0, 1) := by decide +kernel
theorem dX7_init_5 : decode cX7_init 5 = .ok (.new 9, 3) := by decide +kernel
theorem dX7_init_8 : decode cX7_init 8 = .ok (.dup, 1) := by decide +kernel
theorem dX7_init_9 : decode cX7_init 9 = .ok (.invokespecial 11, 3) := by decide +kernel
theorem dX7_init_12 : decode cX7_init 12 = .ok (.putfield 12, 3) := by decide +kernel
theorem dX7_init_15 : decode cX7_init 15 = .ok (.aload_n 0, 1) := by decide +kernel
theorem dX7_init_16 : decode cX7_init 16 = .ok (.new 18, 3) := by decide +kernel
theorem dX7_init_19 : decode cX7_init 19 = .ok (.dup, 1) := by decide +kernel
theorem dX7_init_20 : decode cX7_init 20 = .ok (.aload_n 0, 1) := by decide +kernel
theorem dX7_init_21 : decode cX7_init 21 = .ok (.getfield 12, 3) := by decide +kernel
theorem dX7_init_24 : decode cX7_init 24 = .ok (.invokespecial 20, 3) := by decide +kernel
theorem dX7_init_27 : decode cX7_init 27 = .ok (.putfield 23, 3) := by decide +kernel
theorem dX7_init_30 : decode cX7_init 30 = .ok (.aload_n 0, 1) := by decide +kernel
theorem dX7_init_31 : decode cX7_init 31 = .ok (.bipush 50, 2) := by decide +kernel
theorem dX7_init_33 : decode cX7_init 33 = .ok (.newarray .int, 2) := by decide +kernel
theorem dX7_init_35 : decode cX7_init 35 = .ok (.putfield 27, 3) := by decide +kernel
theorem dX7_init_38 : decode cX7_init 38 = .ok (.aload_n 0, 1) := by decide +kernel
theorem dX7_init_39 : decode cX7_init 39 = .ok (.bipush 20, 2) := by decide +kernel
theorem dX7_init_41 : decode cX7_init 41 = .ok (.newarray .int, 2) := by decide +kernel
theorem dX7_init_43 : decode cX7_init 43 = .ok (.putfield 31, 3) := by decide +kernel
theorem dX7_init_46 : decode cX7_init 46 = .ok (.aload_n 0, 1) := by decide +kernel
theorem dX7_init_47 : decode cX7_init 47 = .ok (.iconst 1, 1) := by decide +kernel
theorem dX7_init_48 : decode cX7_init 48 = .ok (.putfield 34, 3) := by decide +kernel
theorem dX7_init_51 : decode cX7_init 51 = .ok (.return_, 1) := by decide +kernel
theorem dX7_take_0 : decode cX7_take 0 = .ok (.aload_n 0, 1) := by decide +kernel
theorem dX7_take_1 : decode cX7_take 1 = .ok (.getfield 12, 3) := by decide +kernel
theorem dX7_take_4 : decode cX7_take 4 = .ok (.aload_n 1, 1) := by decide +kernel
theorem dX7_take_5 : decode cX7_take 5 = .ok (.getfield 12, 3) := by decide +kernel
theorem dX7_take_8 : decode cX7_take 8 = .ok (.invokevirtual 38, 3) := by decide +kernel
theorem dX7_take_11 : decode cX7_take 11 = .ok (.aload_n 0, 1) := by decide +kernel
theorem dX7_take_12 : decode cX7_take 12 = .ok (.getfield 23, 3) := by decide +kernel
theorem dX7_take_15 : decode cX7_take 15 = .ok (.aload_n 1, 1) := by decide +kernel
theorem dX7_take_16 : decode cX7_take 16 = .ok (.getfield 23, 3) := by decide +kernel
theorem dX7_take_19 : decode cX7_take 19 = .ok (.invokevirtual 41, 3) := by decide +kernel
theorem dX7_take_22 : decode cX7_take 22 = .ok (.aload_n 1, 1) := by decide +kernel
theorem dX7_take_23 : decode cX7_take 23 = .ok (.getfield 27, 3) := by decide +kernel
theorem dX7_take_26 : decode cX7_take 26 = .ok (.iconst 0, 1) := by decide +kernel
theorem dX7_take_27 : decode cX7_take 27 = .ok (.aload_n 0, 1) := by decide +kernel
theorem dX7_take_28 : decode cX7_take 28 = .ok (.getfield 27, 3) := by decide +kernel
theorem dX7_take_31 : decode cX7_take 31 = .ok (.iconst 0, 1) := by decide +kernel
theorem dX7_take_32 : decode cX7_take 32 = .ok (.bipush 50, 2) := by decide +kernel
theorem dX7_take_34 : decode cX7_take 34 = .ok (.invokestatic 44, 3) := by decide +kernel
theorem dX7_take_37 : decode cX7_take 37 = .ok (.aload_n 1, 1) := by decide +kernel
theorem dX7_take_38 : decode cX7_take 38 = .ok (.getfield 31, 3) := by decide +kernel
theorem dX7_take_41 : decode cX7_take 41 = .ok (.iconst 0, 1) := by decide +kernel
theorem dX7_take_42 : decode cX7_take 42 = .ok (.aload_n 0, 1) := by decide +kernel
theorem dX7_take_43 : decode cX7_take 43 = .ok (.getfield 31, 3) := by decide +kernel
theorem dX7_take_46 : decode cX7_take 46 = .ok (.iconst 0, 1) := by decide +kernel
theorem dX7_take_47 : decode cX7_take 47 = .ok (.bipush 20, 2) := by decide +kernel
theorem dX7_take_49 : decode cX7_take 49 = .ok (.invokestatic 44, 3) := by decide +kernel
theorem dX7_take_52 : decode cX7_take 52 = .ok (.aload_n 0, 1) := by decide +kernel
theorem dX7_take_53 : decode cX7_take 53 = .ok (.aload_n 1, 1) := by decide +kernel
theorem dX7_take_54 : decode cX7_take 54 = .ok (.getfield 50, 3) := by decide +kernel
theorem dX7_take_57 : decode cX7_take 57 = .ok (.putfield 50, 3) := by decide +kernel
theorem dX7_take_60 : decode cX7_take 60 = .ok (.aload_n 0, 1) := by decide +kernel
theorem dX7_take_61 : decode cX7_take 61 = .ok (.aload_n 1, 1) := by decide +kernel
theorem dX7_take_62 : decode cX7_take 62 = .ok (.getfield 53, 3) := by decide +kernel
theorem dX7_take_65 : decode cX7_take 65 = .ok (.putfield 53, 3) := by decide +kernel
theorem dX7_take_68 : decode cX7_take 68 = .ok (.aload_n 0, 1) := by decide +kernel
theorem dX7_take_69 : decode cX7_take 69 = .ok (.aload_n 1, 1) := by decide +kernel
theorem dX7_take_70 : decode cX7_take 70 = .ok (.getfield 56, 3) := by decide +kernel
theorem dX7_take_73 : decode cX7_take 73 = .ok (.putfield 56, 3) := by decide +kernel
theorem dX7_take_76 : decode cX7_take 76 = .ok (.aload_n 0, 1) := by decide +kernel
theorem dX7_take_77 : decode cX7_take 77 = .ok (.aload_n 1, 1) := by decide +kernel
theorem dX7_take_78 : decode cX7_take 78 = .ok (.getfield 34, 3) := by decide +kernel
theorem dX7_take_81 : decode cX7_take 81 = .ok (.putfield 34, 3) := by decide +kernel
theorem dX7_take_84 : decode cX7_take 84 = .ok (.return_, 1) := by decide +kernel
theorem dX7_comes_0 : decode cX7_comes 0 = .ok (.aload_n 0, 1) := by decide +kernel
theorem dX7_comes_1 : decode cX7_comes 1 = .ok (.getfield 12, 3) := by decide +kernel
theorem dX7_comes_4 : decode cX7_comes 4 = .ok (.getfield 59, 3) := by decide +kernel
theorem dX7_comes_7 : decode cX7_comes 7 = .ok (.istore 4, 2) := by decide +kernel
theorem dX7_comes_9 : decode cX7_comes 9 = .ok (.iload 4, 2) := by decide +kernel
theorem dX7_comes_11 : decode cX7_comes 11 = .ok (.bipush 8, 2) := by decide +kernel
theorem dX7_comes_13 : decode cX7_comes 13 = .ok (.if_icmp .lt 5, 3) := by decide +kernel
theorem dX7_comes_16 : decode cX7_comes 16 = .ok (.iconst (-1), 1) := by decide +kernel
theorem dX7_comes_17 : decode cX7_comes 17 = .ok (.ireturn, 1) := by decide +kernel
theorem dX7_comes_18 : decode cX7_comes 18 = .ok (.aload_n 0, 1) := by decide +kernel
theorem dX7_comes_19 : decode cX7_comes 19 = .ok (.getfield 12, 3) := by decide +kernel
theorem dX7_comes_22 : decode cX7_comes 22 = .ok (.getfield 62, 3) := by decide +kernel
theorem dX7_comes_25 : decode cX7_comes 25 = .ok (.iload 4, 2) := by decide +kernel
theorem dX7_comes_27 : decode cX7_comes 27 = .ok (.iload_n 1, 1) := by decide +kernel
theorem dX7_comes_28 : decode cX7_comes 28 = .ok (.iastore, 1) := by decide +kernel
theorem dX7_comes_29 : decode cX7_comes 29 = .ok (.aload_n 0, 1) := by decide +kernel
theorem dX7_comes_30 : decode cX7_comes 30 = .ok (.getfield 12, 3) := by decide +kernel
theorem dX7_comes_33 : decode cX7_comes 33 = .ok (.getfield 65, 3) := by decide +kernel
theorem dX7_comes_36 : decode cX7_comes 36 = .ok (.iload 4, 2) := by decide +kernel
theorem dX7_comes_38 : decode cX7_comes 38 = .ok (.iload_n 2, 1) := by decide +kernel
theorem dX7_comes_39 : decode cX7_comes 39 = .ok (.iastore, 1) := by decide +kernel
theorem dX7_comes_40 : decode cX7_comes 40 = .ok (.aload_n 0, 1) := by decide +kernel
theorem dX7_comes_41 : decode cX7_comes 41 = .ok (.getfield 12, 3) := by decide +kernel
theorem dX7_comes_44 : decode cX7_comes 44 = .ok (.getfield 68, 3) := by decide +kernel
theorem dX7_comes_47 : decode cX7_comes 47 = .ok (.iload 4, 2) := by decide +kernel
theorem dX7_comes_49 : decode cX7_comes 49 = .ok (.iload_n 3, 1) := by decide +kernel
theorem dX7_comes_50 : decode cX7_comes 50 = .ok (.iastore, 1) := by decide +kernel
theorem dX7_comes_51 : decode cX7_comes 51 = .ok (.aload_n 0, 1) := by decide +kernel
theorem dX7_comes_52 : decode cX7_comes 52 = .ok (.getfield 23, 3) := by decide +kernel
theorem dX7_comes_55 : decode cX7_comes 55 = .ok (.getfield 71, 3) := by decide +kernel
theorem dX7_comes_58 : decode cX7_comes 58 = .ok (.iload 4, 2) := by decide +kernel
theorem dX7_comes_60 : decode cX7_comes 60 = .ok (.iconst 0, 1) := by decide +kernel
theorem dX7_comes_61 : decode cX7_comes 61 = .ok (.iastore, 1) := by decide +kernel
theorem dX7_comes_62 : decode cX7_comes 62 = .ok (.aload_n 0, 1) := by decide +kernel
theorem dX7_comes_63 : decode cX7_comes 63 = .ok (.getfield 12, 3) := by decide +kernel
theorem dX7_comes_66 : decode cX7_comes 66 = .ok (.iload 4, 2) := by decide +kernel
theorem dX7_comes_68 : decode cX7_comes 68 = .ok (.iconst 1, 1) := by decide +kernel
theorem dX7_comes_69 : decode cX7_comes 69 = .ok (.iadd, 1) := by decide +kernel
theorem dX7_comes_70 : decode cX7_comes 70 = .ok (.putfield 59, 3) := by decide +kernel
theorem dX7_comes_73 : decode cX7_comes 73 = .ok (.iload 4, 2) := by decide +kernel
theorem dX7_comes_75 : decode cX7_comes 75 = .ok (.ireturn, 1) := by decide +kernel
theorem dX7_drawn_0 : decode cX7_drawn 0 = .ok (.iconst 0, 1) := by decide +kernel
theorem dX7_drawn_1 : decode cX7_drawn 1 = .ok (.istore_n 1, 1) := by decide +kernel
theorem dX7_drawn_2 : decode cX7_drawn 2 = .ok (.iconst 0, 1) := by decide +kernel
theorem dX7_drawn_3 : decode cX7_drawn 3 = .ok (.istore_n 2, 1) := by decide +kernel
theorem dX7_drawn_4 : decode cX7_drawn 4 = .ok (.iload_n 2, 1) := by decide +kernel
theorem dX7_drawn_5 : decode cX7_drawn 5 = .ok (.aload_n 0, 1) := by decide +kernel
theorem dX7_drawn_6 : decode cX7_drawn 6 = .ok (.getfield 12, 3) := by decide +kernel
theorem dX7_drawn_9 : decode cX7_drawn 9 = .ok (.getfield 59, 3) := by decide +kernel
theorem dX7_drawn_12 : decode cX7_drawn 12 = .ok (.if_icmp .ge 52, 3) := by decide +kernel
theorem dX7_drawn_15 : decode cX7_drawn 15 = .ok (.aload_n 0, 1) := by decide +kernel
theorem dX7_drawn_16 : decode cX7_drawn 16 = .ok (.aload_n 0, 1) := by decide +kernel
theorem dX7_drawn_17 : decode cX7_drawn 17 = .ok (.getfield 34, 3) := by decide +kernel
theorem dX7_drawn_20 : decode cX7_drawn 20 = .ok (.ldc 74, 2) := by decide +kernel
theorem dX7_drawn_22 : decode cX7_drawn 22 = .ok (.imul, 1) := by decide +kernel
theorem dX7_drawn_23 : decode cX7_drawn 23 = .ok (.sipush 12345, 3) := by decide +kernel
theorem dX7_drawn_26 : decode cX7_drawn 26 = .ok (.iadd, 1) := by decide +kernel
theorem dX7_drawn_27 : decode cX7_drawn 27 = .ok (.putfield 34, 3) := by decide +kernel
theorem dX7_drawn_30 : decode cX7_drawn 30 = .ok (.aload_n 0, 1) := by decide +kernel
theorem dX7_drawn_31 : decode cX7_drawn 31 = .ok (.getfield 34, 3) := by decide +kernel
theorem dX7_drawn_34 : decode cX7_drawn 34 = .ok (.bipush 8, 2) := by decide +kernel
theorem dX7_drawn_36 : decode cX7_drawn 36 = .ok (.iushr, 1) := by decide +kernel
theorem dX7_drawn_37 : decode cX7_drawn 37 = .ok (.bipush 13, 2) := by decide +kernel
theorem dX7_drawn_39 : decode cX7_drawn 39 = .ok (.irem, 1) := by decide +kernel
theorem dX7_drawn_40 : decode cX7_drawn 40 = .ok (.aload_n 0, 1) := by decide +kernel
theorem dX7_drawn_41 : decode cX7_drawn 41 = .ok (.getfield 23, 3) := by decide +kernel
theorem dX7_drawn_44 : decode cX7_drawn 44 = .ok (.getfield 75, 3) := by decide +kernel
theorem dX7_drawn_47 : decode cX7_drawn 47 = .ok (.iconst 1, 1) := by decide +kernel
theorem dX7_drawn_48 : decode cX7_drawn 48 = .ok (.iadd, 1) := by decide +kernel
theorem dX7_drawn_49 : decode cX7_drawn 49 = .ok (.if_icmp .ge 9, 3) := by decide +kernel
theorem dX7_drawn_52 : decode cX7_drawn 52 = .ok (.iload_n 1, 1) := by decide +kernel
theorem dX7_drawn_53 : decode cX7_drawn 53 = .ok (.iconst 1, 1) := by decide +kernel
theorem dX7_drawn_54 : decode cX7_drawn 54 = .ok (.iload_n 2, 1) := by decide +kernel
theorem dX7_drawn_55 : decode cX7_drawn 55 = .ok (.ishl, 1) := by decide +kernel
theorem dX7_drawn_56 : decode cX7_drawn 56 = .ok (.ior, 1) := by decide +kernel
theorem dX7_drawn_57 : decode cX7_drawn 57 = .ok (.istore_n 1, 1) := by decide +kernel
theorem dX7_drawn_58 : decode cX7_drawn 58 = .ok (.iinc 2 1, 3) := by decide +kernel
theorem dX7_drawn_61 : decode cX7_drawn 61 = .ok (.goto (-57), 3) := by decide +kernel
theorem dX7_drawn_64 : decode cX7_drawn 64 = .ok (.iload_n 1, 1) := by decide +kernel
theorem dX7_drawn_65 : decode cX7_drawn 65 = .ok (.ireturn, 1) := by decide +kernel
theorem dX8_init_0 : decode cX8_init 0 = .ok (.aload_n 0, 1) := by decide +kernel
theorem dX8_init_1 : decode cX8_init 1 = .ok (.invokespecial 3, 3) := by decide +kernel
theorem dX8_init_4 : decode cX8_init 4 = .ok (.aload_n 0, 1) := by decide +kernel
theorem dX8_init_5 : decode cX8_init 5 = .ok (.new 9, 3) := by decide +kernel
theorem dX8_init_8 : decode cX8_init 8 = .ok (.dup, 1) := by decide +kernel
theorem dX8_init_9 : decode cX8_init 9 = .ok (.invokespecial 11, 3) := by decide +kernel
theorem dX8_init_12 : decode cX8_init 12 = .ok (.putfield 12, 3) := by decide +kernel
theorem dX8_init_15 : decode cX8_init 15 = .ok (.aload_n 0, 1) := by decide +kernel
theorem dX8_init_16 : decode cX8_init 16 = .ok (.new 9, 3) := by decide +kernel
theorem dX8_init_19 : decode cX8_init 19 = .ok (.dup, 1) := by decide +kernel
theorem dX8_init_20 : decode cX8_init 20 = .ok (.invokespecial 11, 3) := by decide +kernel
theorem dX8_init_23 : decode cX8_init 23 = .ok (.putfield 16, 3) := by decide +kernel
theorem dX8_init_26 : decode cX8_init 26 = .ok (.aload_n 0, 1) := by decide +kernel
theorem dX8_init_27 : decode cX8_init 27 = .ok (.new 19, 3) := by decide +kernel
theorem dX8_init_30 : decode cX8_init 30 = .ok (.dup, 1) := by decide +kernel
theorem dX8_init_31 : decode cX8_init 31 = .ok (.aload_n 0, 1) := by decide +kernel
theorem dX8_init_32 : decode cX8_init 32 = .ok (.getfield 12, 3) := by decide +kernel
theorem dX8_init_35 : decode cX8_init 35 = .ok (.getfield 21, 3) := by decide +kernel
theorem dX8_init_38 : decode cX8_init 38 = .ok (.invokespecial 25, 3) := by decide +kernel
theorem dX8_init_41 : decode cX8_init 41 = .ok (.putfield 28, 3) := by decide +kernel
theorem dX8_init_44 : decode cX8_init 44 = .ok (.aload_n 0, 1) := by decide +kernel
theorem dX8_init_45 : decode cX8_init 45 = .ok (.new 32, 3) := by decide +kernel
theorem dX8_init_48 : decode cX8_init 48 = .ok (.dup, 1) := by decide +kernel
theorem dX8_init_49 : decode cX8_init 49 = .ok (.invokespecial 34, 3) := by decide +kernel
theorem dX8_init_52 : decode cX8_init 52 = .ok (.putfield 35, 3) := by decide +kernel
theorem dX8_init_55 : decode cX8_init 55 = .ok (.aload_n 0, 1) := by decide +kernel
theorem dX8_init_56 : decode cX8_init 56 = .ok (.new 39, 3) := by decide +kernel
theorem dX8_init_59 : decode cX8_init 59 = .ok (.dup, 1) := by decide +kernel
theorem dX8_init_60 : decode cX8_init 60 = .ok (.invokespecial 41, 3) := by decide +kernel
theorem dX8_init_63 : decode cX8_init 63 = .ok (.putfield 42, 3) := by decide +kernel
theorem dX8_init_66 : decode cX8_init 66 = .ok (.aload_n 0, 1) := by decide +kernel
theorem dX8_init_67 : decode cX8_init 67 = .ok (.iconst 4, 1) := by decide +kernel
theorem dX8_init_68 : decode cX8_init 68 = .ok (.anewarray 46, 3) := by decide +kernel
theorem dX8_init_71 : decode cX8_init 71 = .ok (.putfield 48, 3) := by decide +kernel
theorem dX8_init_74 : decode cX8_init 74 = .ok (.aload_n 0, 1) := by decide +kernel
theorem dX8_init_75 : decode cX8_init 75 = .ok (.bipush 6, 2) := by decide +kernel
theorem dX8_init_77 : decode cX8_init 77 = .ok (.newarray .int, 2) := by decide +kernel
theorem dX8_init_79 : decode cX8_init 79 = .ok (.putfield 52, 3) := by decide +kernel
theorem dX8_init_82 : decode cX8_init 82 = .ok (.iconst 0, 1) := by decide +kernel
theorem dX8_init_83 : decode cX8_init 83 = .ok (.istore_n 1, 1) := by decide +kernel
theorem dX8_init_84 : decode cX8_init 84 = .ok (.iload_n 1, 1) := by decide +kernel
theorem dX8_init_85 : decode cX8_init 85 = .ok (.iconst 4, 1) := by decide +kernel
theorem dX8_init_86 : decode cX8_init 86 = .ok (.if_icmp .ge 22, 3) := by decide +kernel
theorem dX8_init_89 : decode cX8_init 89 = .ok (.aload_n 0, 1) := by decide +kernel
theorem dX8_init_90 : decode cX8_init 90 = .ok (.getfield 48, 3) := by decide +kernel
theorem dX8_init_93 : decode cX8_init 93 = .ok (.iload_n 1, 1) := by decide +kernel
theorem dX8_init_94 : decode cX8_init 94 = .ok (.new 46, 3) := by decide +kernel
theorem dX8_init_97 : decode cX8_init 97 = .ok (.dup, 1) := by decide +kernel
theorem dX8_init_98 : decode cX8_init 98 = .ok (.invokespecial 56, 3) := by decide +kernel
theorem dX8_init_101 : decode cX8_init 101 = .ok (.aastore, 1) := by decide +kernel
theorem dX8_init_102 : decode cX8_init 102 = .ok (.iinc 1 1, 3) := by decide +kernel
theorem dX8_init_105 : decode cX8_init 105 = .ok (.goto (-21), 3) := by decide +kernel
theorem dX8_init_108 : decode cX8_init 108 = .ok (.return_, 1) := by decide +kernel
theorem dX8_coins_0 : decode cX8_coins 0 = .ok (.iload_n 1, 1) := by decide +kernel
theorem dX8_coins_1 : decode cX8_coins 1 = .ok (.invokestatic 57, 3) := by decide +kernel
theorem dX8_coins_4 : decode cX8_coins 4 = .ok (.ifCond .eq 14, 3) := by decide +kernel
theorem dX8_coins_7 : decode cX8_coins 7 = .ok (.iload_n 2, 1) := by decide +kernel
theorem dX8_coins_8 : decode cX8_coins 8 = .ok (.iconst 1, 1) := by decide +kernel
theorem dX8_coins_9 : decode cX8_coins 9 = .ok (.sipush 9999, 3) := by decide +kernel
theorem dX8_coins_12 : decode cX8_coins 12 = .ok (.invokestatic 61, 3) := by decide +kernel
theorem dX8_coins_15 : decode cX8_coins 15 = .ok (.ifCond .ne 10, 3) := by decide +kernel
theorem dX8_coins_18 : decode cX8_coins 18 = .ok (.aload_n 0, 1) := by decide +kernel
theorem dX8_coins_19 : decode cX8_coins 19 = .ok (.ldc 65, 2) := by decide +kernel
theorem dX8_coins_21 : decode cX8_coins 21 = .ok (.invokevirtual 66, 3) := by decide +kernel
theorem dX8_coins_24 : decode cX8_coins 24 = .ok (.ireturn, 1) := by decide +kernel
theorem dX8_coins_25 : decode cX8_coins 25 = .ok (.aload_n 0, 1) := by decide +kernel
theorem dX8_coins_26 : decode cX8_coins 26 = .ok (.getfield 12, 3) := by decide +kernel
theorem dX8_coins_29 : decode cX8_coins 29 = .ok (.getfield 21, 3) := by decide +kernel
theorem dX8_coins_32 : decode cX8_coins 32 = .ok (.getfield 70, 3) := by decide +kernel
theorem dX8_coins_35 : decode cX8_coins 35 = .ok (.iload_n 1, 1) := by decide +kernel
theorem dX8_coins_36 : decode cX8_coins 36 = .ok (.iaload, 1) := by decide +kernel
theorem dX8_coins_37 : decode cX8_coins 37 = .ok (.istore_n 3, 1) := by decide +kernel
theorem dX8_coins_38 : decode cX8_coins 38 = .ok (.aload_n 0, 1) := by decide +kernel
theorem dX8_coins_39 : decode cX8_coins 39 = .ok (.getfield 12, 3) := by decide +kernel
theorem dX8_coins_42 : decode cX8_coins 42 = .ok (.getfield 21, 3) := by decide +kernel
theorem dX8_coins_45 : decode cX8_coins 45 = .ok (.getfield 70, 3) := by decide +kernel
theorem dX8_coins_48 : decode cX8_coins 48 = .ok (.iload_n 1, 1) := by decide +kernel
theorem dX8_coins_49 : decode cX8_coins 49 = .ok (.iload_n 2, 1) := by decide +kernel
theorem dX8_coins_50 : decode cX8_coins 50 = .ok (.iastore, 1) := by decide +kernel
theorem dX8_coins_51 : decode cX8_coins 51 = .ok (.iload_n 3, 1) := by decide +kernel
theorem dX8_coins_52 : decode cX8_coins 52 = .ok (.ireturn, 1) := by decide +kernel
theorem dX8_set_0 : decode cX8_set 0 = .ok (.iload_n 1, 1) := by decide +kernel
theorem dX8_set_1 : decode cX8_set 1 = .ok (.iconst 0, 1) := by decide +kernel
theorem dX8_set_2 : decode cX8_set 2 = .ok (.getstatic 75, 3) := by decide +kernel
theorem dX8_set_5 : decode cX8_set 5 = .ok (.arraylength, 1) := by decide +kernel
theorem dX8_set_6 : decode cX8_set 6 = .ok (.iconst 1, 1) := by decide +kernel
theorem dX8_set_7 : decode cX8_set 7 = .ok (.isub, 1) := by decide +kernel
theorem dX8_set_8 : decode cX8_set 8 = .ok (.invokestatic 61, 3) := by decide +kernel
theorem dX8_set_11 : decode cX8_set 11 = .ok (.ifCond .eq 20, 3) := by decide +kernel
theorem dX8_set_14 : decode cX8_set 14 = .ok (.iload_n 2, 1) := by decide +kernel
theorem dX8_set_15 : decode cX8_set 15 = .ok (.getstatic 75, 3) := by decide +kernel
theorem dX8_set_18 : decode cX8_set 18 = .ok (.iload_n 1, 1) := by decide +kernel
theorem dX8_set_19 : decode cX8_set 19 = .ok (.iaload, 1) := by decide +kernel
theorem dX8_set_20 : decode cX8_set 20 = .ok (.getstatic 78, 3) := by decide +kernel
theorem dX8_set_23 : decode cX8_set 23 = .ok (.iload_n 1, 1) := by decide +kernel
theorem dX8_set_24 : decode cX8_set 24 = .ok (.iaload, 1) := by decide +kernel
theorem dX8_set_25 : decode cX8_set 25 = .ok (.invokestatic 61, 3) := by decide +kernel
theorem dX8_set_28 : decode cX8_set 28 = .ok (.ifCond .ne 10, 3) := by decide +kernel
theorem dX8_set_31 : decode cX8_set 31 = .ok (.aload_n 0, 1) := by decide +kernel
theorem dX8_set_32 : decode cX8_set 32 = .ok (.ldc 65, 2) := by decide +kernel
theorem dX8_set_34 : decode cX8_set 34 = .ok (.invokevirtual 66, 3) := by decide +kernel
theorem dX8_set_37 : decode cX8_set 37 = .ok (.ireturn, 1) := by decide +kernel
theorem dX8_set_38 : decode cX8_set 38 = .ok (.aload_n 0, 1) := by decide +kernel
theorem dX8_set_39 : decode cX8_set 39 = .ok (.getfield 12, 3) := by decide +kernel
theorem dX8_set_42 : decode cX8_set 42 = .ok (.getfield 81, 3) := by decide +kernel
theorem dX8_set_45 : decode cX8_set 45 = .ok (.iload_n 1, 1) := by decide +kernel
theorem dX8_set_46 : decode cX8_set 46 = .ok (.invokevirtual 85, 3) := by decide +kernel
theorem dX8_set_49 : decode cX8_set 49 = .ok (.istore_n 3, 1) := by decide +kernel
theorem dX8_set_50 : decode cX8_set 50 = .ok (.aload_n 0, 1) := by decide +kernel
theorem dX8_set_51 : decode cX8_set 51 = .ok (.getfield 12, 3) := by decide +kernel
theorem dX8_set_54 : decode cX8_set 54 = .ok (.getfield 81, 3) := by decide +kernel
theorem dX8_set_57 : decode cX8_set 57 = .ok (.iload_n 1, 1) := by decide +kernel
theorem dX8_set_58 : decode cX8_set 58 = .ok (.iload_n 2, 1) := by decide +kernel
theorem dX8_set_59 : decode cX8_set 59 = .ok (.invokevirtual 90, 3) := by decide +kernel
theorem dX8_set_62 : decode cX8_set 62 = .ok (.iload_n 3, 1) := by decide +kernel
theorem dX8_set_63 : decode cX8_set 63 = .ok (.ireturn, 1) := by decide +kernel
theorem dX8_buyer_0 : decode cX8_buyer 0 = .ok (.iload_n 1, 1) := by decide +kernel
theorem dX8_buyer_1 : decode cX8_buyer 1 = .ok (.iload_n 2, 1) := by decide +kernel
theorem dX8_buyer_2 : decode cX8_buyer 2 = .ok (.iload_n 3, 1) := by decide +kernel
theorem dX8_buyer_3 : decode cX8_buyer 3 = .ok (.invokestatic 94, 3) := by decide +kernel
theorem dX8_buyer_6 : decode cX8_buyer 6 = .ok (.ifCond .ne 10, 3) := by decide +kernel
theorem dX8_buyer_9 : decode cX8_buyer 9 = .ok (.aload_n 0, 1) := by decide +kernel
theorem dX8_buyer_10 : decode cX8_buyer 10 = .ok (.ldc 65, 2) := by decide +kernel
theorem dX8_buyer_12 : decode cX8_buyer 12 = .ok (.invokevirtual 66, 3) := by decide +kernel
theorem dX8_buyer_15 : decode cX8_buyer 15 = .ok (.ireturn, 1) := by decide +kernel
theorem dX8_buyer_16 : decode cX8_buyer 16 = .ok (.aload_n 0, 1) := by decide +kernel
theorem dX8_buyer_17 : decode cX8_buyer 17 = .ok (.getfield 12, 3) := by decide +kernel
theorem dX8_buyer_20 : decode cX8_buyer 20 = .ok (.iload_n 1, 1) := by decide +kernel
theorem dX8_buyer_21 : decode cX8_buyer 21 = .ok (.iload_n 2, 1) := by decide +kernel
theorem dX8_buyer_22 : decode cX8_buyer 22 = .ok (.iload_n 3, 1) := by decide +kernel
theorem dX8_buyer_23 : decode cX8_buyer 23 = .ok (.invokevirtual 97, 3) := by decide +kernel
theorem dX8_buyer_26 : decode cX8_buyer 26 = .ok (.istore 4, 2) := by decide +kernel
theorem dX8_buyer_28 : decode cX8_buyer 28 = .ok (.iload 4, 2) := by decide +kernel
theorem dX8_buyer_30 : decode cX8_buyer 30 = .ok (.ifCond .ge 12, 3) := by decide +kernel
theorem dX8_buyer_33 : decode cX8_buyer 33 = .ok (.aload_n 0, 1) := by decide +kernel
theorem dX8_buyer_34 : decode cX8_buyer 34 = .ok (.ldc 101, 2) := by decide +kernel
theorem dX8_buyer_36 : decode cX8_buyer 36 = .ok (.invokevirtual 66, 3) := by decide +kernel
theorem dX8_buyer_39 : decode cX8_buyer 39 = .ok (.goto 5, 3) := by decide +kernel
theorem dX8_buyer_42 : decode cX8_buyer 42 = .ok (.iload 4, 2) := by decide +kernel
theorem dX8_buyer_44 : decode cX8_buyer 44 = .ok (.ireturn, 1) := by decide +kernel
theorem dX8_ofBuyer_0 : decode cX8_ofBuyer 0 = .ok (.aload_n 0, 1) := by decide +kernel
theorem dX8_ofBuyer_1 : decode cX8_ofBuyer 1 = .ok (.getfield 12, 3) := by decide +kernel
theorem dX8_ofBuyer_4 : decode cX8_ofBuyer 4 = .ok (.getfield 21, 3) := by decide +kernel
theorem dX8_ofBuyer_7 : decode cX8_ofBuyer 7 = .ok (.iload_n 1, 1) := by decide +kernel
theorem dX8_ofBuyer_8 : decode cX8_ofBuyer 8 = .ok (.invokevirtual 102, 3) := by decide +kernel
theorem dX8_ofBuyer_11 : decode cX8_ofBuyer 11 = .ok (.ifCond .eq 12, 3) := by decide +kernel
theorem dX8_ofBuyer_14 : decode cX8_ofBuyer 14 = .ok (.iload_n 2, 1) := by decide +kernel
theorem dX8_ofBuyer_15 : decode cX8_ofBuyer 15 = .ok (.iconst 0, 1) := by decide +kernel
theorem dX8_ofBuyer_16 : decode cX8_ofBuyer 16 = .ok (.iconst 3, 1) := by decide +kernel
theorem dX8_ofBuyer_17 : decode cX8_ofBuyer 17 = .ok (.invokestatic 61, 3) := by decide +kernel
theorem dX8_ofBuyer_20 : decode cX8_ofBuyer 20 = .ok (.ifCond .ne 10, 3) := by decide +kernel
theorem dX8_ofBuyer_23 : decode cX8_ofBuyer 23 = .ok (.aload_n 0, 1) := by decide +kernel
theorem dX8_ofBuyer_24 : decode cX8_ofBuyer 24 = .ok (.ldc 65, 2) := by decide +kernel
theorem dX8_ofBuyer_26 : decode cX8_ofBuyer 26 = .ok (.invokevirtual 66, 3) := by decide +kernel
theorem dX8_ofBuyer_29 : decode cX8_ofBuyer 29 = .ok (.ireturn, 1) := by decide +kernel
theorem dX8_ofBuyer_30 : decode cX8_ofBuyer 30 = .ok (.iload_n 2, 1) := by decide +kernel
theorem dX8_ofBuyer_31 : decode cX8_ofBuyer 31 = .ok (.tableswitch 64 0 2 #[25, 38, 51], 25) := by decide +kernel
theorem dX8_ofBuyer_56 : decode cX8_ofBuyer 56 = .ok (.aload_n 0, 1) := by decide +kernel
theorem dX8_ofBuyer_57 : decode cX8_ofBuyer 57 = .ok (.getfield 12, 3) := by decide +kernel
theorem dX8_ofBuyer_60 : decode cX8_ofBuyer 60 = .ok (.getfield 21, 3) := by decide +kernel
theorem dX8_ofBuyer_63 : decode cX8_ofBuyer 63 = .ok (.getfield 105, 3) := by decide +kernel
theorem dX8_ofBuyer_66 : decode cX8_ofBuyer 66 = .ok (.iload_n 1, 1) := by decide +kernel
theorem dX8_ofBuyer_67 : decode cX8_ofBuyer 67 = .ok (.iaload, 1) := by decide +kernel
theorem dX8_ofBuyer_68 : decode cX8_ofBuyer 68 = .ok (.ireturn, 1) := by decide +kernel
theorem dX8_ofBuyer_69 : decode cX8_ofBuyer 69 = .ok (.aload_n 0, 1) := by decide +kernel
theorem dX8_ofBuyer_70 : decode cX8_ofBuyer 70 = .ok (.getfield 12, 3) := by decide +kernel
theorem dX8_ofBuyer_73 : decode cX8_ofBuyer 73 = .ok (.getfield 21, 3) := by decide +kernel
theorem dX8_ofBuyer_76 : decode cX8_ofBuyer 76 = .ok (.getfield 108, 3) := by decide +kernel
theorem dX8_ofBuyer_79 : decode cX8_ofBuyer 79 = .ok (.iload_n 1, 1) := by decide +kernel
theorem dX8_ofBuyer_80 : decode cX8_ofBuyer 80 = .ok (.iaload, 1) := by decide +kernel
theorem dX8_ofBuyer_81 : decode cX8_ofBuyer 81 = .ok (.ireturn, 1) := by decide +kernel
theorem dX8_ofBuyer_82 : decode cX8_ofBuyer 82 = .ok (.aload_n 0, 1) := by decide +kernel
theorem dX8_ofBuyer_83 : decode cX8_ofBuyer 83 = .ok (.getfield 12, 3) := by decide +kernel
theorem dX8_ofBuyer_86 : decode cX8_ofBuyer 86 = .ok (.getfield 21, 3) := by decide +kernel
theorem dX8_ofBuyer_89 : decode cX8_ofBuyer 89 = .ok (.getfield 111, 3) := by decide +kernel
theorem dX8_ofBuyer_92 : decode cX8_ofBuyer 92 = .ok (.iload_n 1, 1) := by decide +kernel
theorem dX8_ofBuyer_93 : decode cX8_ofBuyer 93 = .ok (.iaload, 1) := by decide +kernel
theorem dX8_ofBuyer_94 : decode cX8_ofBuyer 94 = .ok (.ireturn, 1) := by decide +kernel
theorem dX8_ofBuyer_95 : decode cX8_ofBuyer 95 = .ok (.aload_n 0, 1) := by decide +kernel
theorem dX8_ofBuyer_96 : decode cX8_ofBuyer 96 = .ok (.getfield 12, 3) := by decide +kernel
theorem dX8_ofBuyer_99 : decode cX8_ofBuyer 99 = .ok (.getfield 81, 3) := by decide +kernel
theorem dX8_ofBuyer_102 : decode cX8_ofBuyer 102 = .ok (.getfield 114, 3) := by decide +kernel
theorem dX8_ofBuyer_105 : decode cX8_ofBuyer 105 = .ok (.iload_n 1, 1) := by decide +kernel
theorem dX8_ofBuyer_106 : decode cX8_ofBuyer 106 = .ok (.iaload, 1) := by decide +kernel
theorem dX8_ofBuyer_107 : decode cX8_ofBuyer 107 = .ok (.ireturn, 1) := by decide +kernel
theorem dX8_as_0 : decode cX8_as 0 = .ok (.aload_n 0, 1) := by decide +kernel
theorem dX8_as_1 : decode cX8_as 1 = .ok (.getfield 12, 3) := by decide +kernel
theorem dX8_as_4 : decode cX8_as 4 = .ok (.getfield 21, 3) := by decide +kernel
theorem dX8_as_7 : decode cX8_as 7 = .ok (.iload_n 1, 1) := by decide +kernel
theorem dX8_as_8 : decode cX8_as 8 = .ok (.invokevirtual 102, 3) := by decide +kernel
theorem dX8_as_11 : decode cX8_as 11 = .ok (.ifCond .eq 13, 3) := by decide +kernel
theorem dX8_as_14 : decode cX8_as 14 = .ok (.iload_n 2, 1) := by decide +kernel
theorem dX8_as_15 : decode cX8_as 15 = .ok (.iconst 0, 1) := by decide +kernel
theorem dX8_as_16 : decode cX8_as 16 = .ok (.bipush 6, 2) := by decide +kernel
theorem dX8_as_18 : decode cX8_as 18 = .ok (.invokestatic 61, 3) := by decide +kernel
theorem dX8_as_21 : decode cX8_as 21 = .ok (.ifCond .ne 10, 3) := by decide +kernel
theorem dX8_as_24 : decode cX8_as 24 = .ok (.aload_n 0, 1) := by decide +kernel
theorem dX8_as_25 : decode cX8_as 25 = .ok (.ldc 65, 2) := by decide +kernel
theorem dX8_as_27 : decode cX8_as 27 = .ok (.invokevirtual 66, 3) := by decide +kernel
theorem dX8_as_30 : decode cX8_as 30 = .ok (.ireturn, 1) := by decide +kernel
theorem dX8_as_31 : decode cX8_as 31 = .ok (.aload_n 0, 1) := by decide +kernel
theorem dX8_as_32 : decode cX8_as 32 = .ok (.getfield 12, 3) := by decide +kernel
theorem dX8_as_35 : decode cX8_as 35 = .ok (.getfield 21, 3) := by decide +kernel
theorem dX8_as_38 : decode cX8_as 38 = .ok (.getfield 105, 3) := by decide +kernel
theorem dX8_as_41 : decode cX8_as 41 = .ok (.iload_n 1, 1) := by decide +kernel
theorem dX8_as_42 : decode cX8_as 42 = .ok (.iaload, 1) := by decide +kernel
theorem dX8_as_43 : decode cX8_as 43 = .ok (.iload_n 2, 1) := by decide +kernel
theorem dX8_as_44 : decode cX8_as 44 = .ok (.invokestatic 117, 3) := by decide +kernel
theorem dX8_as_47 : decode cX8_as 47 = .ok (.ifCond .eq 18, 3) := by decide +kernel
theorem dX8_as_50 : decode cX8_as 50 = .ok (.aload_n 0, 1) := by decide +kernel
theorem dX8_as_51 : decode cX8_as 51 = .ok (.getfield 12, 3) := by decide +kernel
theorem dX8_as_54 : decode cX8_as 54 = .ok (.getfield 21, 3) := by decide +kernel
theorem dX8_as_57 : decode cX8_as 57 = .ok (.getfield 111, 3) := by decide +kernel
theorem dX8_as_60 : decode cX8_as 60 = .ok (.iload_n 1, 1) := by decide +kernel
theorem dX8_as_61 : decode cX8_as 61 = .ok (.iaload, 1) := by decide +kernel
theorem dX8_as_62 : decode cX8_as 62 = .ok (.goto 9, 3) := by decide +kernel
theorem dX8_as_65 : decode cX8_as 65 = .ok (.aload_n 0, 1) := by decide +kernel
theorem dX8_as_66 : decode cX8_as 66 = .ok (.ldc 121, 2) := by decide +kernel
theorem dX8_as_68 : decode cX8_as 68 = .ok (.invokevirtual 66, 3) := by decide +kernel
theorem dX8_as_71 : decode cX8_as 71 = .ok (.ireturn, 1) := by decide +kernel
theorem dX8_has_0 : decode cX8_has 0 = .ok (.aload_n 0, 1) := by decide +kernel
theorem dX8_has_1 : decode cX8_has 1 = .ok (.getfield 12, 3) := by decide +kernel
theorem dX8_has_4 : decode cX8_has 4 = .ok (.getfield 21, 3) := by decide +kernel
theorem dX8_has_7 : decode cX8_has 7 = .ok (.iload_n 1, 1) := by decide +kernel
theorem dX8_has_8 : decode cX8_has 8 = .ok (.invokevirtual 102, 3) := by decide +kernel
theorem dX8_has_11 : decode cX8_has 11 = .ok (.ifCond .eq 14, 3) := by decide +kernel
theorem dX8_has_14 : decode cX8_has 14 = .ok (.iload_n 2, 1) := by decide +kernel
theorem dX8_has_15 : decode cX8_has 15 = .ok (.iconst 0, 1) := by decide +kernel
theorem dX8_has_16 : decode cX8_has 16 = .ok (.sipush 9999, 3) := by decide +kernel
theorem dX8_has_19 : decode cX8_has 19 = .ok (.invokestatic 61, 3) := by decide +kernel
theorem dX8_has_22 : decode cX8_has 22 = .ok (.ifCond .ne 10, 3) := by decide +kernel
theorem dX8_has_25 : decode cX8_has 25 = .ok (.aload_n 0, 1) := by decide +kernel
theorem dX8_has_26 : decode cX8_has 26 = .ok (.ldc 65, 2) := by decide +kernel
theorem dX8_has_28 : decode cX8_has 28 = .ok (.invokevirtual 66, 3) := by decide +kernel
theorem dX8_has_31 : decode cX8_has 31 = .ok (.ireturn, 1) := by decide +kernel
theorem dX8_has_32 : decode cX8_has 32 = .ok (.aload_n 0, 1) := by decide +kernel
theorem dX8_has_33 : decode cX8_has 33 = .ok (.getfield 12, 3) := by decide +kernel
theorem dX8_has_36 : decode cX8_has 36 = .ok (.getfield 81, 3) := by decide +kernel
theorem dX8_has_39 : decode cX8_has 39 = .ok (.getfield 114, 3) := by decide +kernel
theorem dX8_has_42 : decode cX8_has 42 = .ok (.iload_n 1, 1) := by decide +kernel
theorem dX8_has_43 : decode cX8_has 43 = .ok (.iaload, 1) := by decide +kernel
theorem dX8_has_44 : decode cX8_has 44 = .ok (.istore_n 3, 1) := by decide +kernel
theorem dX8_has_45 : decode cX8_has 45 = .ok (.aload_n 0, 1) := by decide +kernel
theorem dX8_has_46 : decode cX8_has 46 = .ok (.getfield 12, 3) := by decide +kernel
theorem dX8_has_49 : decode cX8_has 49 = .ok (.getfield 81, 3) := by decide +kernel
theorem dX8_has_52 : decode cX8_has 52 = .ok (.getfield 114, 3) := by decide +kernel
theorem dX8_has_55 : decode cX8_has 55 = .ok (.iload_n 1, 1) := by decide +kernel
theorem dX8_has_56 : decode cX8_has 56 = .ok (.iload_n 2, 1) := by decide +kernel
theorem dX8_has_57 : decode cX8_has 57 = .ok (.iastore, 1) := by decide +kernel
theorem dX8_has_58 : decode cX8_has 58 = .ok (.iload_n 3, 1) := by decide +kernel
theorem dX8_has_59 : decode cX8_has 59 = .ok (.ireturn, 1) := by decide +kernel
theorem dX8_buyers_0 : decode cX8_buyers 0 = .ok (.aload_n 0, 1) := by decide +kernel
theorem dX8_buyers_1 : decode cX8_buyers 1 = .ok (.iload_n 1, 1) := by decide +kernel
theorem dX8_buyers_2 : decode cX8_buyers 2 = .ok (.invokevirtual 122, 3) := by decide +kernel
theorem dX8_buyers_5 : decode cX8_buyers 5 = .ok (.astore_n 2, 1) := by decide +kernel
theorem dX8_buyers_6 : decode cX8_buyers 6 = .ok (.aload_n 2, 1) := by decide +kernel
theorem dX8_buyers_7 : decode cX8_buyers 7 = .ok (.ifnonnull 10, 3) := by decide +kernel
theorem dX8_buyers_10 : decode cX8_buyers 10 = .ok (.aload_n 0, 1) := by decide +kernel
theorem dX8_buyers_11 : decode cX8_buyers 11 = .ok (.ldc 65, 2) := by decide +kernel
theorem dX8_buyers_13 : decode cX8_buyers 13 = .ok (.invokevirtual 66, 3) := by decide +kernel
theorem dX8_buyers_16 : decode cX8_buyers 16 = .ok (.ireturn, 1) := by decide +kernel
theorem dX8_buyers_17 : decode cX8_buyers 17 = .ok (.aload_n 2, 1) := by decide +kernel
theorem dX8_buyers_18 : decode cX8_buyers 18 = .ok (.invokevirtual 126, 3) := by decide +kernel
theorem dX8_buyers_21 : decode cX8_buyers 21 = .ok (.ifCond .eq 12, 3) := by decide +kernel
theorem dX8_buyers_24 : decode cX8_buyers 24 = .ok (.aload_n 0, 1) := by decide +kernel
theorem dX8_buyers_25 : decode cX8_buyers 25 = .ok (.ldc 130, 2) := by decide +kernel
theorem dX8_buyers_27 : decode cX8_buyers 27 = .ok (.invokevirtual 66, 3) := by decide +kernel
theorem dX8_buyers_30 : decode cX8_buyers 30 = .ok (.goto 8, 3) := by decide +kernel
theorem dX8_buyers_33 : decode cX8_buyers 33 = .ok (.aload_n 0, 1) := by decide +kernel
theorem dX8_buyers_34 : decode cX8_buyers 34 = .ok (.aload_n 2, 1) := by decide +kernel
theorem dX8_buyers_35 : decode cX8_buyers 35 = .ok (.invokevirtual 131, 3) := by decide +kernel
theorem dX8_buyers_38 : decode cX8_buyers 38 = .ok (.ireturn, 1) := by decide +kernel
theorem dX8_bringBuyers_0 : decode cX8_bringBuyers 0 = .ok (.iconst 0, 1) := by decide +kernel
theorem dX8_bringBuyers_1 : decode cX8_bringBuyers 1 = .ok (.istore_n 2, 1) := by decide +kernel
theorem dX8_bringBuyers_2 : decode cX8_bringBuyers 2 = .ok (.iconst 0, 1) := by decide +kernel
theorem dX8_bringBuyers_3 : decode cX8_bringBuyers 3 = .ok (.istore_n 3, 1) := by decide +kernel
theorem dX8_bringBuyers_4 : decode cX8_bringBuyers 4 = .ok (.iload_n 3, 1) := by decide +kernel
theorem dX8_bringBuyers_5 : decode cX8_bringBuyers 5 = .ok (.iconst 2, 1) := by decide +kernel
theorem dX8_bringBuyers_6 : decode cX8_bringBuyers 6 = .ok (.iadd, 1) := by decide +kernel
theorem dX8_bringBuyers_7 : decode cX8_bringBuyers 7 = .ok (.aload_n 1, 1) := by decide +kernel
theorem dX8_bringBuyers_8 : decode cX8_bringBuyers 8 = .ok (.getfield 135, 3) := by decide +kernel
theorem dX8_bringBuyers_11 : decode cX8_bringBuyers 11 = .ok (.if_icmp .ge 67, 3) := by decide +kernel
theorem dX8_bringBuyers_14 : decode cX8_bringBuyers 14 = .ok (.aload_n 1, 1) := by decide +kernel
theorem dX8_bringBuyers_15 : decode cX8_bringBuyers 15 = .ok (.iload_n 3, 1) := by decide +kernel
theorem dX8_bringBuyers_16 : decode cX8_bringBuyers 16 = .ok (.invokevirtual 139, 3) := by decide +kernel
theorem dX8_bringBuyers_19 : decode cX8_bringBuyers 19 = .ok (.istore 4, 2) := by decide +kernel
theorem dX8_bringBuyers_21 : decode cX8_bringBuyers 21 = .ok (.aload_n 1, 1) := by decide +kernel
theorem dX8_bringBuyers_22 : decode cX8_bringBuyers 22 = .ok (.iload_n 3, 1) := by decide +kernel
theorem dX8_bringBuyers_23 : decode cX8_bringBuyers 23 = .ok (.iconst 1, 1) := by decide +kernel
theorem dX8_bringBuyers_24 : decode cX8_bringBuyers 24 = .ok (.iadd, 1) := by decide +kernel
theorem dX8_bringBuyers_25 : decode cX8_bringBuyers 25 = .ok (.invokevirtual 139, 3) := by decide +kernel
theorem dX8_bringBuyers_28 : decode cX8_bringBuyers 28 = .ok (.istore 5, 2) := by decide +kernel
theorem dX8_bringBuyers_30 : decode cX8_bringBuyers 30 = .ok (.aload_n 1, 1) := by decide +kernel
theorem dX8_bringBuyers_31 : decode cX8_bringBuyers 31 = .ok (.iload_n 3, 1) := by decide +kernel
theorem dX8_bringBuyers_32 : decode cX8_bringBuyers 32 = .ok (.iconst 2, 1) := by decide +kernel
theorem dX8_bringBuyers_33 : decode cX8_bringBuyers 33 = .ok (.iadd, 1) := by decide +kernel
theorem dX8_bringBuyers_34 : decode cX8_bringBuyers 34 = .ok (.invokevirtual 139, 3) := by decide +kernel
theorem dX8_bringBuyers_37 : decode cX8_bringBuyers 37 = .ok (.istore 6, 2) := by decide +kernel
theorem dX8_bringBuyers_39 : decode cX8_bringBuyers 39 = .ok (.iload 4, 2) := by decide +kernel
theorem dX8_bringBuyers_41 : decode cX8_bringBuyers 41 = .ok (.iload 5, 2) := by decide +kernel
theorem dX8_bringBuyers_43 : decode cX8_bringBuyers 43 = .ok (.iload 6, 2) := by decide +kernel
theorem dX8_bringBuyers_45 : decode cX8_bringBuyers 45 = .ok (.invokestatic 94, 3) := by decide +kernel
theorem dX8_bringBuyers_48 : decode cX8_bringBuyers 48 = .ok (.ifCond .eq 19, 3) := by decide +kernel
theorem dX8_bringBuyers_51 : decode cX8_bringBuyers 51 = .ok (.aload_n 0, 1) := by decide +kernel
theorem dX8_bringBuyers_52 : decode cX8_bringBuyers 52 = .ok (.getfield 12, 3) := by decide +kernel
theorem dX8_bringBuyers_55 : decode cX8_bringBuyers 55 = .ok (.iload 4, 2) := by decide +kernel
theorem dX8_bringBuyers_57 : decode cX8_bringBuyers 57 = .ok (.iload 5, 2) := by decide +kernel
theorem dX8_bringBuyers_59 : decode cX8_bringBuyers 59 = .ok (.iload 6, 2) := by decide +kernel
theorem dX8_bringBuyers_61 : decode cX8_bringBuyers 61 = .ok (.invokevirtual 97, 3) := by decide +kernel
theorem dX8_bringBuyers_64 : decode cX8_bringBuyers 64 = .ok (.ifCond .ge 5, 3) := by decide +kernel
theorem dX8_bringBuyers_67 : decode cX8_bringBuyers 67 = .ok (.iload_n 2, 1) := by decide +kernel
theorem dX8_bringBuyers_68 : decode cX8_bringBuyers 68 = .ok (.ireturn, 1) := by decide +kernel
theorem dX8_bringBuyers_69 : decode cX8_bringBuyers 69 = .ok (.iinc 2 1, 3) := by decide +kernel
theorem dX8_bringBuyers_72 : decode cX8_bringBuyers 72 = .ok (.iinc 3 3, 3) := by decide +kernel
theorem dX8_bringBuyers_75 : decode cX8_bringBuyers 75 = .ok (.goto (-71), 3) := by decide +kernel
theorem dX8_bringBuyers_78 : decode cX8_bringBuyers 78 = .ok (.iload_n 2, 1) := by decide +kernel
theorem dX8_bringBuyers_79 : decode cX8_bringBuyers 79 = .ok (.ireturn, 1) := by decide +kernel
theorem dX8_at_0 : decode cX8_at 0 = .ok (.aload_n 0, 1) := by decide +kernel
theorem dX8_at_1 : decode cX8_at 1 = .ok (.getfield 12, 3) := by decide +kernel
theorem dX8_at_4 : decode cX8_at 4 = .ok (.getfield 21, 3) := by decide +kernel
theorem dX8_at_7 : decode cX8_at 7 = .ok (.iload_n 1, 1) := by decide +kernel
theorem dX8_at_8 : decode cX8_at 8 = .ok (.invokevirtual 102, 3) := by decide +kernel
theorem dX8_at_11 : decode cX8_at 11 = .ok (.ifCond .eq 30, 3) := by decide +kernel
theorem dX8_at_14 : decode cX8_at 14 = .ok (.iload_n 2, 1) := by decide +kernel
theorem dX8_at_15 : decode cX8_at 15 = .ok (.invokestatic 57, 3) := by decide +kernel
theorem dX8_at_18 : decode cX8_at 18 = .ok (.ifCond .eq 23, 3) := by decide +kernel
theorem dX8_at_21 : decode cX8_at 21 = .ok (.iload_n 3, 1) := by decide +kernel
theorem dX8_at_22 : decode cX8_at 22 = .ok (.iconst 0, 1) := by decide +kernel
theorem dX8_at_23 : decode cX8_at 23 = .ok (.iconst 2, 1) := by decide +kernel
theorem dX8_at_24 : decode cX8_at 24 = .ok (.invokestatic 61, 3) := by decide +kernel
theorem dX8_at_27 : decode cX8_at 27 = .ok (.ifCond .eq 14, 3) := by decide +kernel
theorem dX8_at_30 : decode cX8_at 30 = .ok (.iload 4, 2) := by decide +kernel
theorem dX8_at_32 : decode cX8_at 32 = .ok (.iconst 0, 1) := by decide +kernel
theorem dX8_at_33 : decode cX8_at 33 = .ok (.bipush 99, 2) := by decide +kernel
theorem dX8_at_35 : decode cX8_at 35 = .ok (.invokestatic 61, 3) := by decide +kernel
theorem dX8_at_38 : decode cX8_at 38 = .ok (.ifCond .ne 10, 3) := by decide +kernel
theorem dX8_at_41 : decode cX8_at 41 = .ok (.aload_n 0, 1) := by decide +kernel
theorem dX8_at_42 : decode cX8_at 42 = .ok (.ldc 65, 2) := by decide +kernel
theorem dX8_at_44 : decode cX8_at 44 = .ok (.invokevirtual 66, 3) := by decide +kernel
theorem dX8_at_47 : decode cX8_at 47 = .ok (.ireturn, 1) := by decide +kernel
theorem dX8_at_48 : decode cX8_at 48 = .ok (.aload_n 0, 1) := by decide +kernel
theorem dX8_at_49 : decode cX8_at 49 = .ok (.getfield 12, 3) := by decide +kernel
theorem dX8_at_52 : decode cX8_at 52 = .ok (.getfield 81, 3) := by decide +kernel
theorem dX8_at_55 : decode cX8_at 55 = .ok (.astore 5, 2) := by decide +kernel
theorem dX8_at_57 : decode cX8_at 57 = .ok (.aload 5, 2) := by decide +kernel
theorem dX8_at_59 : decode cX8_at 59 = .ok (.invokevirtual 142, 3) := by decide +kernel
theorem dX8_at_62 : decode cX8_at 62 = .ok (.iload_n 3, 1) := by decide +kernel
theorem dX8_at_63 : decode cX8_at 63 = .ok (.lookupswitch 41 #[(0, 25), (1, 33)], 25) := by decide +kernel
theorem dX8_at_88 : decode cX8_at 88 = .ok (.aload 5, 2) := by decide +kernel
theorem dX8_at_90 : decode cX8_at 90 = .ok (.iload_n 1, 1) := by decide +kernel
theorem dX8_at_91 : decode cX8_at 91 = .ok (.iload_n 2, 1) := by decide +kernel
theorem dX8_at_92 : decode cX8_at 92 = .ok (.invokevirtual 145, 3) := by decide +kernel
theorem dX8_at_95 : decode cX8_at 95 = .ok (.ireturn, 1) := by decide +kernel
theorem dX8_at_96 : decode cX8_at 96 = .ok (.aload 5, 2) := by decide +kernel
theorem dX8_at_98 : decode cX8_at 98 = .ok (.iload_n 1, 1) := by decide +kernel
theorem dX8_at_99 : decode cX8_at 99 = .ok (.iload_n 2, 1) := by decide +kernel
theorem dX8_at_100 : decode cX8_at 100 = .ok (.invokevirtual 149, 3) := by decide +kernel
theorem dX8_at_103 : decode cX8_at 103 = .ok (.ireturn, 1) := by decide +kernel
theorem dX8_at_104 : decode cX8_at 104 = .ok (.aload 5, 2) := by decide +kernel
theorem dX8_at_106 : decode cX8_at 106 = .ok (.iload_n 1, 1) := by decide +kernel
theorem dX8_at_107 : decode cX8_at 107 = .ok (.iload_n 2, 1) := by decide +kernel
theorem dX8_at_108 : decode cX8_at 108 = .ok (.iload 4, 2) := by decide +kernel
theorem dX8_at_110 : decode cX8_at 110 = .ok (.invokevirtual 152, 3) := by decide +kernel
theorem dX8_at_113 : decode cX8_at 113 = .ok (.ireturn, 1) := by decide +kernel
theorem dX8_feed_0 : decode cX8_feed 0 = .ok (.iload_n 3, 1) := by decide +kernel
theorem dX8_feed_1 : decode cX8_feed 1 = .ok (.iconst 1, 1) := by decide +kernel
theorem dX8_feed_2 : decode cX8_feed 2 = .ok (.bipush 8, 2) := by decide +kernel
theorem dX8_feed_4 : decode cX8_feed 4 = .ok (.invokestatic 61, 3) := by decide +kernel
theorem dX8_feed_7 : decode cX8_feed 7 = .ok (.ifCond .ne 10, 3) := by decide +kernel
theorem dX8_feed_10 : decode cX8_feed 10 = .ok (.aload_n 0, 1) := by decide +kernel
theorem dX8_feed_11 : decode cX8_feed 11 = .ok (.ldc 65, 2) := by decide +kernel
theorem dX8_feed_13 : decode cX8_feed 13 = .ok (.invokevirtual 66, 3) := by decide +kernel
theorem dX8_feed_16 : decode cX8_feed 16 = .ok (.ireturn, 1) := by decide +kernel
theorem dX8_feed_17 : decode cX8_feed 17 = .ok (.aload_n 0, 1) := by decide +kernel
theorem dX8_feed_18 : decode cX8_feed 18 = .ok (.getfield 12, 3) := by decide +kernel
theorem dX8_feed_21 : decode cX8_feed 21 = .ok (.getfield 155, 3) := by decide +kernel
theorem dX8_feed_24 : decode cX8_feed 24 = .ok (.iload_n 3, 1) := by decide +kernel
theorem dX8_feed_25 : decode cX8_feed 25 = .ok (.iadd, 1) := by decide +kernel
theorem dX8_feed_26 : decode cX8_feed 26 = .ok (.bipush 50, 2) := by decide +kernel
theorem dX8_feed_28 : decode cX8_feed 28 = .ok (.if_icmp .le 10, 3) := by decide +kernel
theorem dX8_feed_31 : decode cX8_feed 31 = .ok (.aload_n 0, 1) := by decide +kernel
theorem dX8_feed_32 : decode cX8_feed 32 = .ok (.ldc 101, 2) := by decide +kernel
theorem dX8_feed_34 : decode cX8_feed 34 = .ok (.invokevirtual 66, 3) := by decide +kernel
theorem dX8_feed_37 : decode cX8_feed 37 = .ok (.ireturn, 1) := by decide +kernel
theorem dX8_feed_38 : decode cX8_feed 38 = .ok (.iconst 0, 1) := by decide +kernel
theorem dX8_feed_39 : decode cX8_feed 39 = .ok (.istore 4, 2) := by decide +kernel
theorem dX8_feed_41 : decode cX8_feed 41 = .ok (.iload 4, 2) := by decide +kernel
theorem dX8_feed_43 : decode cX8_feed 43 = .ok (.iload_n 3, 1) := by decide +kernel
theorem dX8_feed_44 : decode cX8_feed 44 = .ok (.if_icmp .ge 39, 3) := by decide +kernel
theorem dX8_feed_47 : decode cX8_feed 47 = .ok (.aload_n 0, 1) := by decide +kernel
theorem dX8_feed_48 : decode cX8_feed 48 = .ok (.getfield 12, 3) := by decide +kernel
theorem dX8_feed_51 : decode cX8_feed 51 = .ok (.getfield 158, 3) := by decide +kernel
theorem dX8_feed_54 : decode cX8_feed 54 = .ok (.aload_n 0, 1) := by decide +kernel
theorem dX8_feed_55 : decode cX8_feed 55 = .ok (.getfield 12, 3) := by decide +kernel
theorem dX8_feed_58 : decode cX8_feed 58 = .ok (.getfield 155, 3) := by decide +kernel
theorem dX8_feed_61 : decode cX8_feed 61 = .ok (.iload 4, 2) := by decide +kernel
theorem dX8_feed_63 : decode cX8_feed 63 = .ok (.iadd, 1) := by decide +kernel
theorem dX8_feed_64 : decode cX8_feed 64 = .ok (.lload_n 1, 1) := by decide +kernel
theorem dX8_feed_65 : decode cX8_feed 65 = .ok (.bipush 8, 2) := by decide +kernel
theorem dX8_feed_67 : decode cX8_feed 67 = .ok (.iload 4, 2) := by decide +kernel
theorem dX8_feed_69 : decode cX8_feed 69 = .ok (.imul, 1) := by decide +kernel
theorem dX8_feed_70 : decode cX8_feed 70 = .ok (.lushr, 1) := by decide +kernel
theorem dX8_feed_71 : decode cX8_feed 71 = .ok (.l2i, 1) := by decide +kernel
theorem dX8_feed_72 : decode cX8_feed 72 = .ok (.sipush 255, 3) := by decide +kernel
theorem dX8_feed_75 : decode cX8_feed 75 = .ok (.iand, 1) := by decide +kernel
theorem dX8_feed_76 : decode cX8_feed 76 = .ok (.iastore, 1) := by decide +kernel
theorem dX8_feed_77 : decode cX8_feed 77 = .ok (.iinc 4 1, 3) := by decide +kernel
theorem dX8_feed_80 : decode cX8_feed 80 = .ok (.goto (-39), 3) := by decide +kernel
theorem dX8_feed_83 : decode cX8_feed 83 = .ok (.aload_n 0, 1) := by decide +kernel
theorem dX8_feed_84 : decode cX8_feed 84 = .ok (.getfield 12, 3) := by decide +kernel
theorem dX8_feed_87 : decode cX8_feed 87 = .ok (.dup, 1) := by decide +kernel
theorem dX8_feed_88 : decode cX8_feed 88 = .ok (.getfield 155, 3) := by decide +kernel
theorem dX8_feed_91 : decode cX8_feed 91 = .ok (.iload_n 3, 1) := by decide +kernel
theorem dX8_feed_92 : decode cX8_feed 92 = .ok (.iadd, 1) := by decide +kernel
theorem dX8_feed_93 : decode cX8_feed 93 = .ok (.putfield 155, 3) := by decide +kernel
theorem dX8_feed_96 : decode cX8_feed 96 = .ok (.aload_n 0, 1) := by decide +kernel
theorem dX8_feed_97 : decode cX8_feed 97 = .ok (.getfield 12, 3) := by decide +kernel
theorem dX8_feed_100 : decode cX8_feed 100 = .ok (.getfield 155, 3) := by decide +kernel
theorem dX8_feed_103 : decode cX8_feed 103 = .ok (.ireturn, 1) := by decide +kernel
theorem dX8_text_0 : decode cX8_text 0 = .ok (.iload_n 1, 1) := by decide +kernel
theorem dX8_text_1 : decode cX8_text 1 = .ok (.iconst 0, 1) := by decide +kernel
theorem dX8_text_2 : decode cX8_text 2 = .ok (.iconst 1, 1) := by decide +kernel
theorem dX8_text_3 : decode cX8_text 3 = .ok (.invokestatic 61, 3) := by decide +kernel
theorem dX8_text_6 : decode cX8_text 6 = .ok (.ifCond .ne 10, 3) := by decide +kernel
theorem dX8_text_9 : decode cX8_text 9 = .ok (.aload_n 0, 1) := by decide +kernel
theorem dX8_text_10 : decode cX8_text 10 = .ok (.ldc 65, 2) := by decide +kernel
theorem dX8_text_12 : decode cX8_text 12 = .ok (.invokevirtual 66, 3) := by decide +kernel
theorem dX8_text_15 : decode cX8_text 15 = .ok (.ireturn, 1) := by decide +kernel
theorem dX8_text_16 : decode cX8_text 16 = .ok (.aload_n 0, 1) := by decide +kernel
theorem dX8_text_17 : decode cX8_text 17 = .ok (.getfield 42, 3) := by decide +kernel
theorem dX8_text_20 : decode cX8_text 20 = .ok (.aload_n 0, 1) := by decide +kernel
theorem dX8_text_21 : decode cX8_text 21 = .ok (.getfield 12, 3) := by decide +kernel
theorem dX8_text_24 : decode cX8_text 24 = .ok (.getfield 158, 3) := by decide +kernel
theorem dX8_text_27 : decode cX8_text 27 = .ok (.aload_n 0, 1) := by decide +kernel
theorem dX8_text_28 : decode cX8_text 28 = .ok (.getfield 12, 3) := by decide +kernel
theorem dX8_text_31 : decode cX8_text 31 = .ok (.getfield 155, 3) := by decide +kernel
theorem dX8_text_34 : decode cX8_text 34 = .ok (.iload_n 1, 1) := by decide +kernel
theorem dX8_text_35 : decode cX8_text 35 = .ok (.invokevirtual 161, 3) := by decide +kernel
theorem dX8_text_38 : decode cX8_text 38 = .ok (.istore_n 2, 1) := by decide +kernel
theorem dX8_text_39 : decode cX8_text 39 = .ok (.aload_n 0, 1) := by decide +kernel
theorem dX8_text_40 : decode cX8_text 40 = .ok (.getfield 12, 3) := by decide +kernel
theorem dX8_text_43 : decode cX8_text 43 = .ok (.iconst 0, 1) := by decide +kernel
theorem dX8_text_44 : decode cX8_text 44 = .ok (.putfield 155, 3) := by decide +kernel
theorem dX8_text_47 : decode cX8_text 47 = .ok (.iload_n 2, 1) := by decide +kernel
theorem dX8_text_48 : decode cX8_text 48 = .ok (.ifCond .lt 8, 3) := by decide +kernel
theorem dX8_text_51 : decode cX8_text 51 = .ok (.bipush (-10), 2) := by decide +kernel
theorem dX8_text_53 : decode cX8_text 53 = .ok (.iload_n 2, 1) := by decide +kernel
theorem dX8_text_54 : decode cX8_text 54 = .ok (.isub, 1) := by decide +kernel
theorem dX8_text_55 : decode cX8_text 55 = .ok (.ireturn, 1) := by decide +kernel
theorem dX8_text_56 : decode cX8_text 56 = .ok (.aload_n 0, 1) := by decide +kernel
theorem dX8_text_57 : decode cX8_text 57 = .ok (.getfield 12, 3) := by decide +kernel
theorem dX8_text_60 : decode cX8_text 60 = .ok (.getfield 21, 3) := by decide +kernel
theorem dX8_text_63 : decode cX8_text 63 = .ok (.iload_n 1, 1) := by decide +kernel
theorem dX8_text_64 : decode cX8_text 64 = .ok (.invokevirtual 165, 3) := by decide +kernel
theorem dX8_text_67 : decode cX8_text 67 = .ok (.aload_n 0, 1) := by decide +kernel
theorem dX8_text_68 : decode cX8_text 68 = .ok (.getfield 42, 3) := by decide +kernel
theorem dX8_text_71 : decode cX8_text 71 = .ok (.getfield 169, 3) := by decide +kernel
theorem dX8_text_74 : decode cX8_text 74 = .ok (.aload_n 0, 1) := by decide +kernel
theorem dX8_text_75 : decode cX8_text 75 = .ok (.getfield 42, 3) := by decide +kernel
theorem dX8_text_78 : decode cX8_text 78 = .ok (.getfield 172, 3) := by decide +kernel
theorem dX8_text_81 : decode cX8_text 81 = .ok (.invokevirtual 175, 3) := by decide +kernel
theorem dX8_text_84 : decode cX8_text 84 = .ok (.iconst 1, 1) := by decide +kernel
theorem dX8_text_85 : decode cX8_text 85 = .ok (.ireturn, 1) := by decide +kernel
theorem dX8_law_0 : decode cX8_law 0 = .ok (.iload_n 1, 1) := by decide +kernel
theorem dX8_law_1 : decode cX8_law 1 = .ok (.iconst 0, 1) := by decide +kernel
theorem dX8_law_2 : decode cX8_law 2 = .ok (.iconst 1, 1) := by decide +kernel
theorem dX8_law_3 : decode cX8_law 3 = .ok (.invokestatic 61, 3) := by decide +kernel
theorem dX8_law_6 : decode cX8_law 6 = .ok (.ifCond .ne 10, 3) := by decide +kernel
theorem dX8_law_9 : decode cX8_law 9 = .ok (.aload_n 0, 1) := by decide +kernel
theorem dX8_law_10 : decode cX8_law 10 = .ok (.ldc 65, 2) := by decide +kernel
theorem dX8_law_12 : decode cX8_law 12 = .ok (.invokevirtual 66, 3) := by decide +kernel
theorem dX8_law_15 : decode cX8_law 15 = .ok (.ireturn, 1) := by decide +kernel
theorem dX8_law_16 : decode cX8_law 16 = .ok (.iload_n 1, 1) := by decide +kernel
theorem dX8_law_17 : decode cX8_law 17 = .ok (.ifCond .ne 22, 3) := by decide +kernel
theorem dX8_law_20 : decode cX8_law 20 = .ok (.aload_n 0, 1) := by decide +kernel
theorem dX8_law_21 : decode cX8_law 21 = .ok (.getfield 12, 3) := by decide +kernel
theorem dX8_law_24 : decode cX8_law 24 = .ok (.getfield 21, 3) := by decide +kernel
theorem dX8_law_27 : decode cX8_law 27 = .ok (.iload_n 2, 1) := by decide +kernel
theorem dX8_law_28 : decode cX8_law 28 = .ok (.iload_n 3, 1) := by decide +kernel
theorem dX8_law_29 : decode cX8_law 29 = .ok (.iload 4, 2) := by decide +kernel
theorem dX8_law_31 : decode cX8_law 31 = .ok (.iload 5, 2) := by decide +kernel
theorem dX8_law_33 : decode cX8_law 33 = .ok (.invokevirtual 181, 3) := by decide +kernel
theorem dX8_law_36 : decode cX8_law 36 = .ok (.goto 19, 3) := by decide +kernel
theorem dX8_law_39 : decode cX8_law 39 = .ok (.aload_n 0, 1) := by decide +kernel
theorem dX8_law_40 : decode cX8_law 40 = .ok (.getfield 12, 3) := by decide +kernel
theorem dX8_law_43 : decode cX8_law 43 = .ok (.getfield 21, 3) := by decide +kernel
theorem dX8_law_46 : decode cX8_law 46 = .ok (.iload_n 2, 1) := by decide +kernel
theorem dX8_law_47 : decode cX8_law 47 = .ok (.iload_n 3, 1) := by decide +kernel
theorem dX8_law_48 : decode cX8_law 48 = .ok (.iload 4, 2) := by decide +kernel
theorem dX8_law_50 : decode cX8_law 50 = .ok (.iload 5, 2) := by decide +kernel
theorem dX8_law_52 : decode cX8_law 52 = .ok (.invokevirtual 185, 3) := by decide +kernel
theorem dX8_law_55 : decode cX8_law 55 = .ok (.ireturn, 1) := by decide +kernel
theorem dX8_year_0 : decode cX8_year 0 = .ok (.iload_n 1, 1) := by decide +kernel
theorem dX8_year_1 : decode cX8_year 1 = .ok (.invokestatic 57, 3) := by decide +kernel
theorem dX8_year_4 : decode cX8_year 4 = .ok (.ifCond .eq 13, 3) := by decide +kernel
theorem dX8_year_7 : decode cX8_year 7 = .ok (.iload_n 2, 1) := by decide +kernel
theorem dX8_year_8 : decode cX8_year 8 = .ok (.iconst 0, 1) := by decide +kernel
theorem dX8_year_9 : decode cX8_year 9 = .ok (.bipush 99, 2) := by decide +kernel
theorem dX8_year_11 : decode cX8_year 11 = .ok (.invokestatic 61, 3) := by decide +kernel
theorem dX8_year_14 : decode cX8_year 14 = .ok (.ifCond .ne 10, 3) := by decide +kernel
theorem dX8_year_17 : decode cX8_year 17 = .ok (.aload_n 0, 1) := by decide +kernel
theorem dX8_year_18 : decode cX8_year 18 = .ok (.ldc 65, 2) := by decide +kernel
theorem dX8_year_20 : decode cX8_year 20 = .ok (.invokevirtual 66, 3) := by decide +kernel
theorem dX8_year_23 : decode cX8_year 23 = .ok (.ireturn, 1) := by decide +kernel
theorem dX8_year_24 : decode cX8_year 24 = .ok (.aload_n 0, 1) := by decide +kernel
theorem dX8_year_25 : decode cX8_year 25 = .ok (.getfield 12, 3) := by decide +kernel
theorem dX8_year_28 : decode cX8_year 28 = .ok (.getfield 188, 3) := by decide +kernel
theorem dX8_year_31 : decode cX8_year 31 = .ok (.iconst 1, 1) := by decide +kernel
theorem dX8_year_32 : decode cX8_year 32 = .ok (.iadd, 1) := by decide +kernel
theorem dX8_year_33 : decode cX8_year 33 = .ok (.sipush 199, 3) := by decide +kernel
theorem dX8_year_36 : decode cX8_year 36 = .ok (.if_icmp .le 10, 3) := by decide +kernel
theorem dX8_year_39 : decode cX8_year 39 = .ok (.aload_n 0, 1) := by decide +kernel
theorem dX8_year_40 : decode cX8_year 40 = .ok (.ldc 191, 2) := by decide +kernel
theorem dX8_year_42 : decode cX8_year 42 = .ok (.invokevirtual 66, 3) := by decide +kernel
theorem dX8_year_45 : decode cX8_year 45 = .ok (.ireturn, 1) := by decide +kernel
theorem dX8_year_46 : decode cX8_year 46 = .ok (.aload_n 0, 1) := by decide +kernel
theorem dX8_year_47 : decode cX8_year 47 = .ok (.getfield 12, 3) := by decide +kernel
theorem dX8_year_50 : decode cX8_year 50 = .ok (.dup, 1) := by decide +kernel
theorem dX8_year_51 : decode cX8_year 51 = .ok (.getfield 188, 3) := by decide +kernel
theorem dX8_year_54 : decode cX8_year 54 = .ok (.iconst 1, 1) := by decide +kernel
theorem dX8_year_55 : decode cX8_year 55 = .ok (.iadd, 1) := by decide +kernel
theorem dX8_year_56 : decode cX8_year 56 = .ok (.putfield 188, 3) := by decide +kernel
theorem dX8_year_59 : decode cX8_year 59 = .ok (.aload_n 0, 1) := by decide +kernel
theorem dX8_year_60 : decode cX8_year 60 = .ok (.getfield 12, 3) := by decide +kernel
theorem dX8_year_63 : decode cX8_year 63 = .ok (.getfield 81, 3) := by decide +kernel
theorem dX8_year_66 : decode cX8_year 66 = .ok (.iload_n 1, 1) := by decide +kernel
theorem dX8_year_67 : decode cX8_year 67 = .ok (.iload_n 2, 1) := by decide +kernel
theorem dX8_year_68 : decode cX8_year 68 = .ok (.sipush 255, 3) := by decide +kernel
theorem dX8_year_71 : decode cX8_year 71 = .ok (.invokevirtual 192, 3) := by decide +kernel
theorem dX8_year_74 : decode cX8_year 74 = .ok (.aload_n 0, 1) := by decide +kernel
theorem dX8_year_75 : decode cX8_year 75 = .ok (.getfield 12, 3) := by decide +kernel
theorem dX8_year_78 : decode cX8_year 78 = .ok (.getfield 81, 3) := by decide +kernel
theorem dX8_year_81 : decode cX8_year 81 = .ok (.getfield 196, 3) := by decide +kernel
theorem dX8_year_84 : decode cX8_year 84 = .ok (.ireturn, 1) := by decide +kernel
theorem dX8_give_0 : decode cX8_give 0 = .ok (.aload_n 0, 1) := by decide +kernel
theorem dX8_give_1 : decode cX8_give 1 = .ok (.getfield 12, 3) := by decide +kernel
theorem dX8_give_4 : decode cX8_give 4 = .ok (.getfield 21, 3) := by decide +kernel
theorem dX8_give_7 : decode cX8_give 7 = .ok (.iload_n 1, 1) := by decide +kernel
theorem dX8_give_8 : decode cX8_give 8 = .ok (.invokevirtual 102, 3) := by decide +kernel
theorem dX8_give_11 : decode cX8_give 11 = .ok (.ifCond .ne 10, 3) := by decide +kernel
theorem dX8_give_14 : decode cX8_give 14 = .ok (.aload_n 0, 1) := by decide +kernel
theorem dX8_give_15 : decode cX8_give 15 = .ok (.ldc 65, 2) := by decide +kernel
theorem dX8_give_17 : decode cX8_give 17 = .ok (.invokevirtual 66, 3) := by decide +kernel
theorem dX8_give_20 : decode cX8_give 20 = .ok (.ireturn, 1) := by decide +kernel
theorem dX8_give_21 : decode cX8_give 21 = .ok (.aload_n 0, 1) := by decide +kernel
theorem dX8_give_22 : decode cX8_give 22 = .ok (.getfield 12, 3) := by decide +kernel
theorem dX8_give_25 : decode cX8_give 25 = .ok (.getfield 81, 3) := by decide +kernel
theorem dX8_give_28 : decode cX8_give 28 = .ok (.getfield 199, 3) := by decide +kernel
theorem dX8_give_31 : decode cX8_give 31 = .ok (.ifCond .ne 10, 3) := by decide +kernel
theorem dX8_give_34 : decode cX8_give 34 = .ok (.aload_n 0, 1) := by decide +kernel
theorem dX8_give_35 : decode cX8_give 35 = .ok (.ldc 191, 2) := by decide +kernel
theorem dX8_give_37 : decode cX8_give 37 = .ok (.invokevirtual 66, 3) := by decide +kernel
theorem dX8_give_40 : decode cX8_give 40 = .ok (.ireturn, 1) := by decide +kernel
theorem dX8_give_41 : decode cX8_give 41 = .ok (.aload_n 0, 1) := by decide +kernel
theorem dX8_give_42 : decode cX8_give 42 = .ok (.getfield 12, 3) := by decide +kernel
theorem dX8_give_45 : decode cX8_give 45 = .ok (.getfield 81, 3) := by decide +kernel
theorem dX8_give_48 : decode cX8_give 48 = .ok (.iload_n 1, 1) := by decide +kernel
theorem dX8_give_49 : decode cX8_give 49 = .ok (.invokevirtual 202, 3) := by decide +kernel
theorem dX8_give_52 : decode cX8_give 52 = .ok (.aload_n 0, 1) := by decide +kernel
theorem dX8_give_53 : decode cX8_give 53 = .ok (.getfield 12, 3) := by decide +kernel
theorem dX8_give_56 : decode cX8_give 56 = .ok (.getfield 81, 3) := by decide +kernel
theorem dX8_give_59 : decode cX8_give 59 = .ok (.getfield 114, 3) := by decide +kernel
theorem dX8_give_62 : decode cX8_give 62 = .ok (.iload_n 1, 1) := by decide +kernel
theorem dX8_give_63 : decode cX8_give 63 = .ok (.iaload, 1) := by decide +kernel
theorem dX8_give_64 : decode cX8_give 64 = .ok (.ireturn, 1) := by decide +kernel
theorem dX8_life_0 : decode cX8_life 0 = .ok (.iload_n 1, 1) := by decide +kernel
theorem dX8_life_1 : decode cX8_life 1 = .ok (.iconst 1, 1) := by decide +kernel
theorem dX8_life_2 : decode cX8_life 2 = .ok (.bipush 30, 2) := by decide +kernel
theorem dX8_life_4 : decode cX8_life 4 = .ok (.invokestatic 61, 3) := by decide +kernel
theorem dX8_life_7 : decode cX8_life 7 = .ok (.ifCond .eq 10, 3) := by decide +kernel
theorem dX8_life_10 : decode cX8_life 10 = .ok (.iload_n 2, 1) := by decide +kernel
theorem dX8_life_11 : decode cX8_life 11 = .ok (.invokestatic 57, 3) := by decide +kernel
theorem dX8_life_14 : decode cX8_life 14 = .ok (.ifCond .ne 10, 3) := by decide +kernel
theorem dX8_life_17 : decode cX8_life 17 = .ok (.aload_n 0, 1) := by decide +kernel
theorem dX8_life_18 : decode cX8_life 18 = .ok (.ldc 65, 2) := by decide +kernel
theorem dX8_life_20 : decode cX8_life 20 = .ok (.invokevirtual 66, 3) := by decide +kernel
theorem dX8_life_23 : decode cX8_life 23 = .ok (.ireturn, 1) := by decide +kernel
theorem dX8_life_24 : decode cX8_life 24 = .ok (.aload_n 0, 1) := by decide +kernel
theorem dX8_life_25 : decode cX8_life 25 = .ok (.getfield 12, 3) := by decide +kernel
theorem dX8_life_28 : decode cX8_life 28 = .ok (.getfield 188, 3) := by decide +kernel
theorem dX8_life_31 : decode cX8_life 31 = .ok (.iload_n 1, 1) := by decide +kernel
theorem dX8_life_32 : decode cX8_life 32 = .ok (.iadd, 1) := by decide +kernel
theorem dX8_life_33 : decode cX8_life 33 = .ok (.sipush 199, 3) := by decide +kernel
theorem dX8_life_36 : decode cX8_life 36 = .ok (.if_icmp .le 10, 3) := by decide +kernel
theorem dX8_life_39 : decode cX8_life 39 = .ok (.aload_n 0, 1) := by decide +kernel
theorem dX8_life_40 : decode cX8_life 40 = .ok (.ldc 191, 2) := by decide +kernel
theorem dX8_life_42 : decode cX8_life 42 = .ok (.invokevirtual 66, 3) := by decide +kernel
theorem dX8_life_45 : decode cX8_life 45 = .ok (.ireturn, 1) := by decide +kernel
theorem dX8_life_46 : decode cX8_life 46 = .ok (.iconst 0, 1) := by decide +kernel
theorem dX8_life_47 : decode cX8_life 47 = .ok (.istore_n 3, 1) := by decide +kernel
theorem dX8_life_48 : decode cX8_life 48 = .ok (.iconst 0, 1) := by decide +kernel
theorem dX8_life_49 : decode cX8_life 49 = .ok (.istore 4, 2) := by decide +kernel
theorem dX8_life_51 : decode cX8_life 51 = .ok (.iload 4, 2) := by decide +kernel
theorem dX8_life_53 : decode cX8_life 53 = .ok (.iload_n 1, 1) := by decide +kernel
theorem dX8_life_54 : decode cX8_life 54 = .ok (.if_icmp .ge 54, 3) := by decide +kernel
theorem dX8_life_57 : decode cX8_life 57 = .ok (.aload_n 0, 1) := by decide +kernel
theorem dX8_life_58 : decode cX8_life 58 = .ok (.getfield 12, 3) := by decide +kernel
theorem dX8_life_61 : decode cX8_life 61 = .ok (.dup, 1) := by decide +kernel
theorem dX8_life_62 : decode cX8_life 62 = .ok (.getfield 188, 3) := by decide +kernel
theorem dX8_life_65 : decode cX8_life 65 = .ok (.iconst 1, 1) := by decide +kernel
theorem dX8_life_66 : decode cX8_life 66 = .ok (.iadd, 1) := by decide +kernel
theorem dX8_life_67 : decode cX8_life 67 = .ok (.putfield 188, 3) := by decide +kernel
theorem dX8_life_70 : decode cX8_life 70 = .ok (.aload_n 0, 1) := by decide +kernel
theorem dX8_life_71 : decode cX8_life 71 = .ok (.getfield 12, 3) := by decide +kernel
theorem dX8_life_74 : decode cX8_life 74 = .ok (.getfield 81, 3) := by decide +kernel
theorem dX8_life_77 : decode cX8_life 77 = .ok (.iload_n 2, 1) := by decide +kernel
theorem dX8_life_78 : decode cX8_life 78 = .ok (.iconst 0, 1) := by decide +kernel
theorem dX8_life_79 : decode cX8_life 79 = .ok (.aload_n 0, 1) := by decide +kernel
theorem dX8_life_80 : decode cX8_life 80 = .ok (.getfield 12, 3) := by decide +kernel
theorem dX8_life_83 : decode cX8_life 83 = .ok (.invokevirtual 206, 3) := by decide +kernel
theorem dX8_life_86 : decode cX8_life 86 = .ok (.invokevirtual 192, 3) := by decide +kernel
theorem dX8_life_89 : decode cX8_life 89 = .ok (.iload_n 3, 1) := by decide +kernel
theorem dX8_life_90 : decode cX8_life 90 = .ok (.aload_n 0, 1) := by decide +kernel
theorem dX8_life_91 : decode cX8_life 91 = .ok (.getfield 12, 3) := by decide +kernel
theorem dX8_life_94 : decode cX8_life 94 = .ok (.getfield 81, 3) := by decide +kernel
theorem dX8_life_97 : decode cX8_life 97 = .ok (.getfield 196, 3) := by decide +kernel
theorem dX8_life_100 : decode cX8_life 100 = .ok (.iadd, 1) := by decide +kernel
theorem dX8_life_101 : decode cX8_life 101 = .ok (.istore_n 3, 1) := by decide +kernel
theorem dX8_life_102 : decode cX8_life 102 = .ok (.iinc 4 1, 3) := by decide +kernel
theorem dX8_life_105 : decode cX8_life 105 = .ok (.goto (-54), 3) := by decide +kernel
theorem dX8_life_108 : decode cX8_life 108 = .ok (.iload_n 3, 1) := by decide +kernel
theorem dX8_life_109 : decode cX8_life 109 = .ok (.ireturn, 1) := by decide +kernel
theorem dX8_then_0 : decode cX8_then 0 = .ok (.iload_n 1, 1) := by decide +kernel
theorem dX8_then_1 : decode cX8_then 1 = .ok (.iconst 0, 1) := by decide +kernel
theorem dX8_then_2 : decode cX8_then 2 = .ok (.bipush 40, 2) := by decide +kernel
theorem dX8_then_4 : decode cX8_then 4 = .ok (.invokestatic 61, 3) := by decide +kernel
theorem dX8_then_7 : decode cX8_then 7 = .ok (.ifCond .eq 19, 3) := by decide +kernel
theorem dX8_then_10 : decode cX8_then 10 = .ok (.iload_n 2, 1) := by decide +kernel
theorem dX8_then_11 : decode cX8_then 11 = .ok (.invokestatic 57, 3) := by decide +kernel
theorem dX8_then_14 : decode cX8_then 14 = .ok (.ifCond .eq 12, 3) := by decide +kernel
theorem dX8_then_17 : decode cX8_then 17 = .ok (.iload_n 3, 1) := by decide +kernel
theorem dX8_then_18 : decode cX8_then 18 = .ok (.iconst 0, 1) := by decide +kernel
theorem dX8_then_19 : decode cX8_then 19 = .ok (.iconst 4, 1) := by decide +kernel
theorem dX8_then_20 : decode cX8_then 20 = .ok (.invokestatic 61, 3) := by decide +kernel
theorem dX8_then_23 : decode cX8_then 23 = .ok (.ifCond .ne 10, 3) := by decide +kernel
theorem dX8_then_26 : decode cX8_then 26 = .ok (.aload_n 0, 1) := by decide +kernel
theorem dX8_then_27 : decode cX8_then 27 = .ok (.ldc 65, 2) := by decide +kernel
theorem dX8_then_29 : decode cX8_then 29 = .ok (.invokevirtual 66, 3) := by decide +kernel
theorem dX8_then_32 : decode cX8_then 32 = .ok (.ireturn, 1) := by decide +kernel
theorem dX8_then_33 : decode cX8_then 33 = .ok (.aload_n 0, 1) := by decide +kernel
theorem dX8_then_34 : decode cX8_then 34 = .ok (.getfield 28, 3) := by decide +kernel
theorem dX8_then_37 : decode cX8_then 37 = .ok (.aload_n 0, 1) := by decide +kernel
theorem dX8_then_38 : decode cX8_then 38 = .ok (.getfield 12, 3) := by decide +kernel
theorem dX8_then_41 : decode cX8_then 41 = .ok (.getfield 81, 3) := by decide +kernel
theorem dX8_then_44 : decode cX8_then 44 = .ok (.invokevirtual 210, 3) := by decide +kernel
theorem dX8_then_47 : decode cX8_then 47 = .ok (.astore 4, 2) := by decide +kernel
theorem dX8_then_49 : decode cX8_then 49 = .ok (.aload 4, 2) := by decide +kernel
theorem dX8_then_51 : decode cX8_then 51 = .ok (.iload_n 1, 1) := by decide +kernel
theorem dX8_then_52 : decode cX8_then 52 = .ok (.iload_n 2, 1) := by decide +kernel
theorem dX8_then_53 : decode cX8_then 53 = .ok (.invokevirtual 214, 3) := by decide +kernel
theorem dX8_then_56 : decode cX8_then 56 = .ok (.aload 4, 2) := by decide +kernel
theorem dX8_then_58 : decode cX8_then 58 = .ok (.iload_n 3, 1) := by decide +kernel
theorem dX8_then_59 : decode cX8_then 59 = .ok (.invokevirtual 217, 3) := by decide +kernel
theorem dX8_then_62 : decode cX8_then 62 = .ok (.ireturn, 1) := by decide +kernel
theorem dX8_by_0 : decode cX8_by 0 = .ok (.aload_n 0, 1) := by decide +kernel
theorem dX8_by_1 : decode cX8_by 1 = .ok (.iload_n 1, 1) := by decide +kernel
theorem dX8_by_2 : decode cX8_by 2 = .ok (.invokevirtual 122, 3) := by decide +kernel
theorem dX8_by_5 : decode cX8_by 5 = .ok (.astore_n 3, 1) := by decide +kernel
theorem dX8_by_6 : decode cX8_by 6 = .ok (.aload_n 3, 1) := by decide +kernel
theorem dX8_by_7 : decode cX8_by 7 = .ok (.ifnull 12, 3) := by decide +kernel
theorem dX8_by_10 : decode cX8_by 10 = .ok (.iload_n 2, 1) := by decide +kernel
theorem dX8_by_11 : decode cX8_by 11 = .ok (.iconst 0, 1) := by decide +kernel
theorem dX8_by_12 : decode cX8_by 12 = .ok (.iconst 4, 1) := by decide +kernel
theorem dX8_by_13 : decode cX8_by 13 = .ok (.invokestatic 61, 3) := by decide +kernel
theorem dX8_by_16 : decode cX8_by 16 = .ok (.ifCond .ne 10, 3) := by decide +kernel
theorem dX8_by_19 : decode cX8_by 19 = .ok (.aload_n 0, 1) := by decide +kernel
theorem dX8_by_20 : decode cX8_by 20 = .ok (.ldc 65, 2) := by decide +kernel
theorem dX8_by_22 : decode cX8_by 22 = .ok (.invokevirtual 66, 3) := by decide +kernel
theorem dX8_by_25 : decode cX8_by 25 = .ok (.ireturn, 1) := by decide +kernel
theorem dX8_by_26 : decode cX8_by 26 = .ok (.aload_n 3, 1) := by decide +kernel
theorem dX8_by_27 : decode cX8_by 27 = .ok (.invokevirtual 126, 3) := by decide +kernel
theorem dX8_by_30 : decode cX8_by 30 = .ok (.ifCond .eq 10, 3) := by decide +kernel
theorem dX8_by_33 : decode cX8_by 33 = .ok (.aload_n 0, 1) := by decide +kernel
theorem dX8_by_34 : decode cX8_by 34 = .ok (.ldc 130, 2) := by decide +kernel
theorem dX8_by_36 : decode cX8_by 36 = .ok (.invokevirtual 66, 3) := by decide +kernel
theorem dX8_by_39 : decode cX8_by 39 = .ok (.ireturn, 1) := by decide +kernel
theorem dX8_by_40 : decode cX8_by 40 = .ok (.aload_n 0, 1) := by decide +kernel
theorem dX8_by_41 : decode cX8_by 41 = .ok (.getfield 28, 3) := by decide +kernel
theorem dX8_by_44 : decode cX8_by 44 = .ok (.aload_n 0, 1) := by decide +kernel
theorem dX8_by_45 : decode cX8_by 45 = .ok (.getfield 12, 3) := by decide +kernel
theorem dX8_by_48 : decode cX8_by 48 = .ok (.getfield 81, 3) := by decide +kernel
theorem dX8_by_51 : decode cX8_by 51 = .ok (.invokevirtual 210, 3) := by decide +kernel
theorem dX8_by_54 : decode cX8_by 54 = .ok (.astore 4, 2) := by decide +kernel
theorem dX8_by_56 : decode cX8_by 56 = .ok (.iconst 0, 1) := by decide +kernel
theorem dX8_by_57 : decode cX8_by 57 = .ok (.istore 5, 2) := by decide +kernel
theorem dX8_by_59 : decode cX8_by 59 = .ok (.iload 5, 2) := by decide +kernel
theorem dX8_by_61 : decode cX8_by 61 = .ok (.aload_n 3, 1) := by decide +kernel
theorem dX8_by_62 : decode cX8_by 62 = .ok (.getfield 135, 3) := by decide +kernel
theorem dX8_by_65 : decode cX8_by 65 = .ok (.if_icmp .ge 36, 3) := by decide +kernel
theorem dX8_by_68 : decode cX8_by 68 = .ok (.aload_n 3, 1) := by decide +kernel
theorem dX8_by_69 : decode cX8_by 69 = .ok (.iload 5, 2) := by decide +kernel
theorem dX8_by_71 : decode cX8_by 71 = .ok (.invokevirtual 139, 3) := by decide +kernel
theorem dX8_by_74 : decode cX8_by 74 = .ok (.invokestatic 57, 3) := by decide +kernel
theorem dX8_by_77 : decode cX8_by 77 = .ok (.ifCond .eq 24, 3) := by decide +kernel
theorem dX8_by_80 : decode cX8_by 80 = .ok (.aload 4, 2) := by decide +kernel
theorem dX8_by_82 : decode cX8_by 82 = .ok (.aload_n 3, 1) := by decide +kernel
theorem dX8_by_83 : decode cX8_by 83 = .ok (.iload 5, 2) := by decide +kernel
theorem dX8_by_85 : decode cX8_by 85 = .ok (.invokevirtual 139, 3) := by decide +kernel
theorem dX8_by_88 : decode cX8_by 88 = .ok (.iconst 0, 1) := by decide +kernel
theorem dX8_by_89 : decode cX8_by 89 = .ok (.sipush 255, 3) := by decide +kernel
theorem dX8_by_92 : decode cX8_by 92 = .ok (.invokevirtual 192, 3) := by decide +kernel
theorem dX8_by_95 : decode cX8_by 95 = .ok (.iinc 5 1, 3) := by decide +kernel
theorem dX8_by_98 : decode cX8_by 98 = .ok (.goto (-39), 3) := by decide +kernel
theorem dX8_by_101 : decode cX8_by 101 = .ok (.aload 4, 2) := by decide +kernel
theorem dX8_by_103 : decode cX8_by 103 = .ok (.iload_n 2, 1) := by decide +kernel
theorem dX8_by_104 : decode cX8_by 104 = .ok (.invokevirtual 217, 3) := by decide +kernel
theorem dX8_by_107 : decode cX8_by 107 = .ok (.ireturn, 1) := by decide +kernel
theorem dX8_best_0 : decode cX8_best 0 = .ok (.aload_n 0, 1) := by decide +kernel
theorem dX8_best_1 : decode cX8_best 1 = .ok (.iload_n 1, 1) := by decide +kernel
theorem dX8_best_2 : decode cX8_best 2 = .ok (.iload_n 2, 1) := by decide +kernel
theorem dX8_best_3 : decode cX8_best 3 = .ok (.iconst 0, 1) := by decide +kernel
theorem dX8_best_4 : decode cX8_best 4 = .ok (.invokevirtual 220, 3) := by decide +kernel
theorem dX8_best_7 : decode cX8_best 7 = .ok (.ireturn, 1) := by decide +kernel
theorem dX8_never_0 : decode cX8_never 0 = .ok (.aload_n 0, 1) := by decide +kernel
theorem dX8_never_1 : decode cX8_never 1 = .ok (.iload_n 1, 1) := by decide +kernel
theorem dX8_never_2 : decode cX8_never 2 = .ok (.iload_n 2, 1) := by decide +kernel
theorem dX8_never_3 : decode cX8_never 3 = .ok (.iconst 1, 1) := by decide +kernel
theorem dX8_never_4 : decode cX8_never 4 = .ok (.invokevirtual 220, 3) := by decide +kernel
theorem dX8_never_7 : decode cX8_never 7 = .ok (.ireturn, 1) := by decide +kernel
theorem dX8_ofBestRow_0 : decode cX8_ofBestRow 0 = .ok (.iload_n 1, 1) := by decide +kernel
theorem dX8_ofBestRow_1 : decode cX8_ofBestRow 1 = .ok (.iconst 1, 1) := by decide +kernel
theorem dX8_ofBestRow_2 : decode cX8_ofBestRow 2 = .ok (.iconst 3, 1) := by decide +kernel
theorem dX8_ofBestRow_3 : decode cX8_ofBestRow 3 = .ok (.invokestatic 61, 3) := by decide +kernel
theorem dX8_ofBestRow_6 : decode cX8_ofBestRow 6 = .ok (.ifCond .eq 14, 3) := by decide +kernel
theorem dX8_ofBestRow_9 : decode cX8_ofBestRow 9 = .ok (.iload_n 2, 1) := by decide +kernel
theorem dX8_ofBestRow_10 : decode cX8_ofBestRow 10 = .ok (.iconst (-1), 1) := by decide +kernel
theorem dX8_ofBestRow_11 : decode cX8_ofBestRow 11 = .ok (.iload_n 1, 1) := by decide +kernel
theorem dX8_ofBestRow_12 : decode cX8_ofBestRow 12 = .ok (.iconst 1, 1) := by decide +kernel
theorem dX8_ofBestRow_13 : decode cX8_ofBestRow 13 = .ok (.isub, 1) := by decide +kernel
theorem dX8_ofBestRow_14 : decode cX8_ofBestRow 14 = .ok (.invokestatic 61, 3) := by decide +kernel
theorem dX8_ofBestRow_17 : decode cX8_ofBestRow 17 = .ok (.ifCond .ne 10, 3) := by decide +kernel
theorem dX8_ofBestRow_20 : decode cX8_ofBestRow 20 = .ok (.aload_n 0, 1) := by decide +kernel
theorem dX8_ofBestRow_21 : decode cX8_ofBestRow 21 = .ok (.ldc 65, 2) := by decide +kernel
theorem dX8_ofBestRow_23 : decode cX8_ofBestRow 23 = .ok (.invokevirtual 66, 3) := by decide +kernel
theorem dX8_ofBestRow_26 : decode cX8_ofBestRow 26 = .ok (.ireturn, 1) := by decide +kernel
theorem dX8_ofBestRow_27 : decode cX8_ofBestRow 27 = .ok (.aload_n 0, 1) := by decide +kernel
theorem dX8_ofBestRow_28 : decode cX8_ofBestRow 28 = .ok (.getfield 28, 3) := by decide +kernel
theorem dX8_ofBestRow_31 : decode cX8_ofBestRow 31 = .ok (.aload_n 0, 1) := by decide +kernel
theorem dX8_ofBestRow_32 : decode cX8_ofBestRow 32 = .ok (.getfield 12, 3) := by decide +kernel
theorem dX8_ofBestRow_35 : decode cX8_ofBestRow 35 = .ok (.getfield 81, 3) := by decide +kernel
theorem dX8_ofBestRow_38 : decode cX8_ofBestRow 38 = .ok (.aload_n 0, 1) := by decide +kernel
theorem dX8_ofBestRow_39 : decode cX8_ofBestRow 39 = .ok (.getfield 12, 3) := by decide +kernel
theorem dX8_ofBestRow_42 : decode cX8_ofBestRow 42 = .ok (.getfield 81, 3) := by decide +kernel
theorem dX8_ofBestRow_45 : decode cX8_ofBestRow 45 = .ok (.getfield 199, 3) := by decide +kernel
theorem dX8_ofBestRow_48 : decode cX8_ofBestRow 48 = .ok (.iload_n 1, 1) := by decide +kernel
theorem dX8_ofBestRow_49 : decode cX8_ofBestRow 49 = .ok (.iload_n 3, 1) := by decide +kernel
theorem dX8_ofBestRow_50 : decode cX8_ofBestRow 50 = .ok (.invokevirtual 224, 3) := by decide +kernel
theorem dX8_ofBestRow_53 : decode cX8_ofBestRow 53 = .ok (.istore 4, 2) := by decide +kernel
theorem dX8_ofBestRow_55 : decode cX8_ofBestRow 55 = .ok (.iload_n 2, 1) := by decide +kernel
theorem dX8_ofBestRow_56 : decode cX8_ofBestRow 56 = .ok (.ifCond .ge 8, 3) := by decide +kernel
theorem dX8_ofBestRow_59 : decode cX8_ofBestRow 59 = .ok (.iload 4, 2) := by decide +kernel
theorem dX8_ofBestRow_61 : decode cX8_ofBestRow 61 = .ok (.goto 11, 3) := by decide +kernel
theorem dX8_ofBestRow_64 : decode cX8_ofBestRow 64 = .ok (.aload_n 0, 1) := by decide +kernel
theorem dX8_ofBestRow_65 : decode cX8_ofBestRow 65 = .ok (.getfield 28, 3) := by decide +kernel
theorem dX8_ofBestRow_68 : decode cX8_ofBestRow 68 = .ok (.iload_n 2, 1) := by decide +kernel
theorem dX8_ofBestRow_69 : decode cX8_ofBestRow 69 = .ok (.invokevirtual 228, 3) := by decide +kernel
theorem dX8_ofBestRow_72 : decode cX8_ofBestRow 72 = .ok (.ireturn, 1) := by decide +kernel
theorem dX8_costs_0 : decode cX8_costs 0 = .ok (.iload_n 1, 1) := by decide +kernel
theorem dX8_costs_1 : decode cX8_costs 1 = .ok (.iconst 1, 1) := by decide +kernel
theorem dX8_costs_2 : decode cX8_costs 2 = .ok (.iconst 3, 1) := by decide +kernel
theorem dX8_costs_3 : decode cX8_costs 3 = .ok (.invokestatic 61, 3) := by decide +kernel
theorem dX8_costs_6 : decode cX8_costs 6 = .ok (.ifCond .ne 10, 3) := by decide +kernel
theorem dX8_costs_9 : decode cX8_costs 9 = .ok (.aload_n 0, 1) := by decide +kernel
theorem dX8_costs_10 : decode cX8_costs 10 = .ok (.ldc 65, 2) := by decide +kernel
theorem dX8_costs_12 : decode cX8_costs 12 = .ok (.invokevirtual 66, 3) := by decide +kernel
theorem dX8_costs_15 : decode cX8_costs 15 = .ok (.ireturn, 1) := by decide +kernel
theorem dX8_costs_16 : decode cX8_costs 16 = .ok (.aload_n 0, 1) := by decide +kernel
theorem dX8_costs_17 : decode cX8_costs 17 = .ok (.getfield 12, 3) := by decide +kernel
theorem dX8_costs_20 : decode cX8_costs 20 = .ok (.getfield 81, 3) := by decide +kernel
theorem dX8_costs_23 : decode cX8_costs 23 = .ok (.getfield 199, 3) := by decide +kernel
theorem dX8_costs_26 : decode cX8_costs 26 = .ok (.istore_n 2, 1) := by decide +kernel
theorem dX8_costs_27 : decode cX8_costs 27 = .ok (.aload_n 0, 1) := by decide +kernel
theorem dX8_costs_28 : decode cX8_costs 28 = .ok (.getfield 28, 3) := by decide +kernel
theorem dX8_costs_31 : decode cX8_costs 31 = .ok (.aload_n 0, 1) := by decide +kernel
theorem dX8_costs_32 : decode cX8_costs 32 = .ok (.getfield 12, 3) := by decide +kernel
theorem dX8_costs_35 : decode cX8_costs 35 = .ok (.getfield 81, 3) := by decide +kernel
theorem dX8_costs_38 : decode cX8_costs 38 = .ok (.iload_n 2, 1) := by decide +kernel
theorem dX8_costs_39 : decode cX8_costs 39 = .ok (.iload_n 1, 1) := by decide +kernel
theorem dX8_costs_40 : decode cX8_costs 40 = .ok (.iconst 0, 1) := by decide +kernel
theorem dX8_costs_41 : decode cX8_costs 41 = .ok (.invokevirtual 224, 3) := by decide +kernel
theorem dX8_costs_44 : decode cX8_costs 44 = .ok (.aload_n 0, 1) := by decide +kernel
theorem dX8_costs_45 : decode cX8_costs 45 = .ok (.getfield 28, 3) := by decide +kernel
theorem dX8_costs_48 : decode cX8_costs 48 = .ok (.aload_n 0, 1) := by decide +kernel
theorem dX8_costs_49 : decode cX8_costs 49 = .ok (.getfield 12, 3) := by decide +kernel
theorem dX8_costs_52 : decode cX8_costs 52 = .ok (.getfield 81, 3) := by decide +kernel
theorem dX8_costs_55 : decode cX8_costs 55 = .ok (.iload_n 2, 1) := by decide +kernel
theorem dX8_costs_56 : decode cX8_costs 56 = .ok (.iload_n 1, 1) := by decide +kernel
theorem dX8_costs_57 : decode cX8_costs 57 = .ok (.iconst 1, 1) := by decide +kernel
theorem dX8_costs_58 : decode cX8_costs 58 = .ok (.invokevirtual 224, 3) := by decide +kernel
theorem dX8_costs_61 : decode cX8_costs 61 = .ok (.isub, 1) := by decide +kernel
theorem dX8_costs_62 : decode cX8_costs 62 = .ok (.ireturn, 1) := by decide +kernel
theorem dX8_raise_0 : decode cX8_raise 0 = .ok (.iload_n 1, 1) := by decide +kernel
theorem dX8_raise_1 : decode cX8_raise 1 = .ok (.iconst 1, 1) := by decide +kernel
theorem dX8_raise_2 : decode cX8_raise 2 = .ok (.iconst 2, 1) := by decide +kernel
theorem dX8_raise_3 : decode cX8_raise 3 = .ok (.invokestatic 61, 3) := by decide +kernel
theorem dX8_raise_6 : decode cX8_raise 6 = .ok (.ifCond .ne 10, 3) := by decide +kernel
theorem dX8_raise_9 : decode cX8_raise 9 = .ok (.aload_n 0, 1) := by decide +kernel
theorem dX8_raise_10 : decode cX8_raise 10 = .ok (.ldc 65, 2) := by decide +kernel
theorem dX8_raise_12 : decode cX8_raise 12 = .ok (.invokevirtual 66, 3) := by decide +kernel
theorem dX8_raise_15 : decode cX8_raise 15 = .ok (.ireturn, 1) := by decide +kernel
theorem dX8_raise_16 : decode cX8_raise 16 = .ok (.aload_n 0, 1) := by decide +kernel
theorem dX8_raise_17 : decode cX8_raise 17 = .ok (.getfield 28, 3) := by decide +kernel
theorem dX8_raise_20 : decode cX8_raise 20 = .ok (.aload_n 0, 1) := by decide +kernel
theorem dX8_raise_21 : decode cX8_raise 21 = .ok (.getfield 12, 3) := by decide +kernel
theorem dX8_raise_24 : decode cX8_raise 24 = .ok (.getfield 81, 3) := by decide +kernel
theorem dX8_raise_27 : decode cX8_raise 27 = .ok (.iload_n 1, 1) := by decide +kernel
theorem dX8_raise_28 : decode cX8_raise 28 = .ok (.invokevirtual 231, 3) := by decide +kernel
theorem dX8_raise_31 : decode cX8_raise 31 = .ok (.istore_n 2, 1) := by decide +kernel
theorem dX8_raise_32 : decode cX8_raise 32 = .ok (.iload_n 2, 1) := by decide +kernel
theorem dX8_raise_33 : decode cX8_raise 33 = .ok (.ifCond .ge 12, 3) := by decide +kernel
theorem dX8_raise_36 : decode cX8_raise 36 = .ok (.aload_n 0, 1) := by decide +kernel
theorem dX8_raise_37 : decode cX8_raise 37 = .ok (.ldc 130, 2) := by decide +kernel
theorem dX8_raise_39 : decode cX8_raise 39 = .ok (.invokevirtual 66, 3) := by decide +kernel
theorem dX8_raise_42 : decode cX8_raise 42 = .ok (.goto 4, 3) := by decide +kernel
theorem dX8_raise_45 : decode cX8_raise 45 = .ok (.iload_n 2, 1) := by decide +kernel
theorem dX8_raise_46 : decode cX8_raise 46 = .ok (.ireturn, 1) := by decide +kernel
theorem dX8_back_0 : decode cX8_back 0 = .ok (.iload_n 1, 1) := by decide +kernel
theorem dX8_back_1 : decode cX8_back 1 = .ok (.iconst 0, 1) := by decide +kernel
theorem dX8_back_2 : decode cX8_back 2 = .ok (.bipush 20, 2) := by decide +kernel
theorem dX8_back_4 : decode cX8_back 4 = .ok (.invokestatic 61, 3) := by decide +kernel
theorem dX8_back_7 : decode cX8_back 7 = .ok (.ifCond .eq 10, 3) := by decide +kernel
theorem dX8_back_10 : decode cX8_back 10 = .ok (.iload_n 2, 1) := by decide +kernel
theorem dX8_back_11 : decode cX8_back 11 = .ok (.invokestatic 57, 3) := by decide +kernel
theorem dX8_back_14 : decode cX8_back 14 = .ok (.ifCond .ne 10, 3) := by decide +kernel
theorem dX8_back_17 : decode cX8_back 17 = .ok (.aload_n 0, 1) := by decide +kernel
theorem dX8_back_18 : decode cX8_back 18 = .ok (.ldc 65, 2) := by decide +kernel
theorem dX8_back_20 : decode cX8_back 20 = .ok (.invokevirtual 66, 3) := by decide +kernel
theorem dX8_back_23 : decode cX8_back 23 = .ok (.ireturn, 1) := by decide +kernel
theorem dX8_back_24 : decode cX8_back 24 = .ok (.aload_n 0, 1) := by decide +kernel
theorem dX8_back_25 : decode cX8_back 25 = .ok (.getfield 28, 3) := by decide +kernel
theorem dX8_back_28 : decode cX8_back 28 = .ok (.aload_n 0, 1) := by decide +kernel
theorem dX8_back_29 : decode cX8_back 29 = .ok (.getfield 12, 3) := by decide +kernel
theorem dX8_back_32 : decode cX8_back 32 = .ok (.getfield 81, 3) := by decide +kernel
theorem dX8_back_35 : decode cX8_back 35 = .ok (.iload_n 1, 1) := by decide +kernel
theorem dX8_back_36 : decode cX8_back 36 = .ok (.iload_n 2, 1) := by decide +kernel
theorem dX8_back_37 : decode cX8_back 37 = .ok (.invokevirtual 235, 3) := by decide +kernel
theorem dX8_back_40 : decode cX8_back 40 = .ok (.ireturn, 1) := by decide +kernel
theorem dX8_whom_0 : decode cX8_whom 0 = .ok (.iload_n 1, 1) := by decide +kernel
theorem dX8_whom_1 : decode cX8_whom 1 = .ok (.iconst 0, 1) := by decide +kernel
theorem dX8_whom_2 : decode cX8_whom 2 = .ok (.bipush 40, 2) := by decide +kernel
theorem dX8_whom_4 : decode cX8_whom 4 = .ok (.invokestatic 61, 3) := by decide +kernel
theorem dX8_whom_7 : decode cX8_whom 7 = .ok (.ifCond .eq 10, 3) := by decide +kernel
theorem dX8_whom_10 : decode cX8_whom 10 = .ok (.iload_n 2, 1) := by decide +kernel
theorem dX8_whom_11 : decode cX8_whom 11 = .ok (.invokestatic 57, 3) := by decide +kernel
theorem dX8_whom_14 : decode cX8_whom 14 = .ok (.ifCond .ne 10, 3) := by decide +kernel
theorem dX8_whom_17 : decode cX8_whom 17 = .ok (.aload_n 0, 1) := by decide +kernel
theorem dX8_whom_18 : decode cX8_whom 18 = .ok (.ldc 65, 2) := by decide +kernel
theorem dX8_whom_20 : decode cX8_whom 20 = .ok (.invokevirtual 66, 3) := by decide +kernel
theorem dX8_whom_23 : decode cX8_whom 23 = .ok (.ireturn, 1) := by decide +kernel
theorem dX8_whom_24 : decode cX8_whom 24 = .ok (.aload_n 0, 1) := by decide +kernel
theorem dX8_whom_25 : decode cX8_whom 25 = .ok (.getfield 12, 3) := by decide +kernel
theorem dX8_whom_28 : decode cX8_whom 28 = .ok (.getfield 81, 3) := by decide +kernel
theorem dX8_whom_31 : decode cX8_whom 31 = .ok (.getfield 199, 3) := by decide +kernel
theorem dX8_whom_34 : decode cX8_whom 34 = .ok (.ifCond .ne 10, 3) := by decide +kernel
theorem dX8_whom_37 : decode cX8_whom 37 = .ok (.aload_n 0, 1) := by decide +kernel
theorem dX8_whom_38 : decode cX8_whom 38 = .ok (.ldc 191, 2) := by decide +kernel
theorem dX8_whom_40 : decode cX8_whom 40 = .ok (.invokevirtual 66, 3) := by decide +kernel
theorem dX8_whom_43 : decode cX8_whom 43 = .ok (.ireturn, 1) := by decide +kernel
theorem dX8_whom_44 : decode cX8_whom 44 = .ok (.aload_n 0, 1) := by decide +kernel
theorem dX8_whom_45 : decode cX8_whom 45 = .ok (.getfield 12, 3) := by decide +kernel
theorem dX8_whom_48 : decode cX8_whom 48 = .ok (.getfield 21, 3) := by decide +kernel
theorem dX8_whom_51 : decode cX8_whom 51 = .ok (.getfield 239, 3) := by decide +kernel
theorem dX8_whom_54 : decode cX8_whom 54 = .ok (.ifCond .ne 12, 3) := by decide +kernel
theorem dX8_whom_57 : decode cX8_whom 57 = .ok (.aload_n 0, 1) := by decide +kernel
theorem dX8_whom_58 : decode cX8_whom 58 = .ok (.ldc 130, 2) := by decide +kernel
theorem dX8_whom_60 : decode cX8_whom 60 = .ok (.invokevirtual 66, 3) := by decide +kernel
theorem dX8_whom_63 : decode cX8_whom 63 = .ok (.goto 19, 3) := by decide +kernel
theorem dX8_whom_66 : decode cX8_whom 66 = .ok (.aload_n 0, 1) := by decide +kernel
theorem dX8_whom_67 : decode cX8_whom 67 = .ok (.getfield 28, 3) := by decide +kernel
theorem dX8_whom_70 : decode cX8_whom 70 = .ok (.aload_n 0, 1) := by decide +kernel
theorem dX8_whom_71 : decode cX8_whom 71 = .ok (.getfield 12, 3) := by decide +kernel
theorem dX8_whom_74 : decode cX8_whom 74 = .ok (.getfield 81, 3) := by decide +kernel
theorem dX8_whom_77 : decode cX8_whom 77 = .ok (.iload_n 1, 1) := by decide +kernel
theorem dX8_whom_78 : decode cX8_whom 78 = .ok (.iload_n 2, 1) := by decide +kernel
theorem dX8_whom_79 : decode cX8_whom 79 = .ok (.invokevirtual 242, 3) := by decide +kernel
theorem dX8_whom_82 : decode cX8_whom 82 = .ok (.ireturn, 1) := by decide +kernel
theorem dX8_more_0 : decode cX8_more 0 = .ok (.iload_n 1, 1) := by decide +kernel
theorem dX8_more_1 : decode cX8_more 1 = .ok (.bipush (-20), 2) := by decide +kernel
theorem dX8_more_3 : decode cX8_more 3 = .ok (.bipush 20, 2) := by decide +kernel
theorem dX8_more_5 : decode cX8_more 5 = .ok (.invokestatic 61, 3) := by decide +kernel
theorem dX8_more_8 : decode cX8_more 8 = .ok (.ifCond .eq 20, 3) := by decide +kernel
theorem dX8_more_11 : decode cX8_more 11 = .ok (.iload_n 2, 1) := by decide +kernel
theorem dX8_more_12 : decode cX8_more 12 = .ok (.iconst 0, 1) := by decide +kernel
theorem dX8_more_13 : decode cX8_more 13 = .ok (.bipush 40, 2) := by decide +kernel
theorem dX8_more_15 : decode cX8_more 15 = .ok (.invokestatic 61, 3) := by decide +kernel
theorem dX8_more_18 : decode cX8_more 18 = .ok (.ifCond .eq 10, 3) := by decide +kernel
theorem dX8_more_21 : decode cX8_more 21 = .ok (.iload_n 3, 1) := by decide +kernel
theorem dX8_more_22 : decode cX8_more 22 = .ok (.invokestatic 57, 3) := by decide +kernel
theorem dX8_more_25 : decode cX8_more 25 = .ok (.ifCond .ne 10, 3) := by decide +kernel
theorem dX8_more_28 : decode cX8_more 28 = .ok (.aload_n 0, 1) := by decide +kernel
theorem dX8_more_29 : decode cX8_more 29 = .ok (.ldc 65, 2) := by decide +kernel
theorem dX8_more_31 : decode cX8_more 31 = .ok (.invokevirtual 66, 3) := by decide +kernel
theorem dX8_more_34 : decode cX8_more 34 = .ok (.ireturn, 1) := by decide +kernel
theorem dX8_more_35 : decode cX8_more 35 = .ok (.aload_n 0, 1) := by decide +kernel
theorem dX8_more_36 : decode cX8_more 36 = .ok (.getfield 28, 3) := by decide +kernel
theorem dX8_more_39 : decode cX8_more 39 = .ok (.aload_n 0, 1) := by decide +kernel
theorem dX8_more_40 : decode cX8_more 40 = .ok (.getfield 12, 3) := by decide +kernel
theorem dX8_more_43 : decode cX8_more 43 = .ok (.getfield 81, 3) := by decide +kernel
theorem dX8_more_46 : decode cX8_more 46 = .ok (.iload_n 1, 1) := by decide +kernel
theorem dX8_more_47 : decode cX8_more 47 = .ok (.iload_n 2, 1) := by decide +kernel
theorem dX8_more_48 : decode cX8_more 48 = .ok (.iload_n 3, 1) := by decide +kernel
theorem dX8_more_49 : decode cX8_more 49 = .ok (.invokevirtual 245, 3) := by decide +kernel
theorem dX8_more_52 : decode cX8_more 52 = .ok (.aload_n 0, 1) := by decide +kernel
theorem dX8_more_53 : decode cX8_more 53 = .ok (.getfield 28, 3) := by decide +kernel
theorem dX8_more_56 : decode cX8_more 56 = .ok (.aload_n 0, 1) := by decide +kernel
theorem dX8_more_57 : decode cX8_more 57 = .ok (.getfield 12, 3) := by decide +kernel
theorem dX8_more_60 : decode cX8_more 60 = .ok (.getfield 81, 3) := by decide +kernel
theorem dX8_more_63 : decode cX8_more 63 = .ok (.iconst 0, 1) := by decide +kernel
theorem dX8_more_64 : decode cX8_more 64 = .ok (.iload_n 2, 1) := by decide +kernel
theorem dX8_more_65 : decode cX8_more 65 = .ok (.iload_n 3, 1) := by decide +kernel
theorem dX8_more_66 : decode cX8_more 66 = .ok (.invokevirtual 245, 3) := by decide +kernel
theorem dX8_more_69 : decode cX8_more 69 = .ok (.isub, 1) := by decide +kernel
theorem dX8_more_70 : decode cX8_more 70 = .ok (.ireturn, 1) := by decide +kernel
theorem dX8_rests_0 : decode cX8_rests 0 = .ok (.iload_n 1, 1) := by decide +kernel
theorem dX8_rests_1 : decode cX8_rests 1 = .ok (.invokestatic 57, 3) := by decide +kernel
theorem dX8_rests_4 : decode cX8_rests 4 = .ok (.ifCond .ne 10, 3) := by decide +kernel
theorem dX8_rests_7 : decode cX8_rests 7 = .ok (.aload_n 0, 1) := by decide +kernel
theorem dX8_rests_8 : decode cX8_rests 8 = .ok (.ldc 65, 2) := by decide +kernel
theorem dX8_rests_10 : decode cX8_rests 10 = .ok (.invokevirtual 66, 3) := by decide +kernel
theorem dX8_rests_13 : decode cX8_rests 13 = .ok (.ireturn, 1) := by decide +kernel
theorem dX8_rests_14 : decode cX8_rests 14 = .ok (.aload_n 0, 1) := by decide +kernel
theorem dX8_rests_15 : decode cX8_rests 15 = .ok (.getfield 28, 3) := by decide +kernel
theorem dX8_rests_18 : decode cX8_rests 18 = .ok (.aload_n 0, 1) := by decide +kernel
theorem dX8_rests_19 : decode cX8_rests 19 = .ok (.getfield 12, 3) := by decide +kernel
theorem dX8_rests_22 : decode cX8_rests 22 = .ok (.getfield 81, 3) := by decide +kernel
theorem dX8_rests_25 : decode cX8_rests 25 = .ok (.iload_n 1, 1) := by decide +kernel
theorem dX8_rests_26 : decode cX8_rests 26 = .ok (.invokevirtual 249, 3) := by decide +kernel
theorem dX8_rests_29 : decode cX8_rests 29 = .ok (.istore_n 2, 1) := by decide +kernel
theorem dX8_rests_30 : decode cX8_rests 30 = .ok (.iload_n 2, 1) := by decide +kernel
theorem dX8_rests_31 : decode cX8_rests 31 = .ok (.ifCond .ge 12, 3) := by decide +kernel
theorem dX8_rests_34 : decode cX8_rests 34 = .ok (.aload_n 0, 1) := by decide +kernel
theorem dX8_rests_35 : decode cX8_rests 35 = .ok (.ldc 130, 2) := by decide +kernel
theorem dX8_rests_37 : decode cX8_rests 37 = .ok (.invokevirtual 66, 3) := by decide +kernel
theorem dX8_rests_40 : decode cX8_rests 40 = .ok (.goto 4, 3) := by decide +kernel
theorem dX8_rests_43 : decode cX8_rests 43 = .ok (.iload_n 2, 1) := by decide +kernel
theorem dX8_rests_44 : decode cX8_rests 44 = .ok (.ireturn, 1) := by decide +kernel
theorem dX8_clear_0 : decode cX8_clear 0 = .ok (.aload_n 0, 1) := by decide +kernel
theorem dX8_clear_1 : decode cX8_clear 1 = .ok (.getfield 28, 3) := by decide +kernel
theorem dX8_clear_4 : decode cX8_clear 4 = .ok (.aload_n 0, 1) := by decide +kernel
theorem dX8_clear_5 : decode cX8_clear 5 = .ok (.getfield 12, 3) := by decide +kernel
theorem dX8_clear_8 : decode cX8_clear 8 = .ok (.getfield 81, 3) := by decide +kernel
theorem dX8_clear_11 : decode cX8_clear 11 = .ok (.invokevirtual 252, 3) := by decide +kernel
theorem dX8_clear_14 : decode cX8_clear 14 = .ok (.istore_n 1, 1) := by decide +kernel
theorem dX8_clear_15 : decode cX8_clear 15 = .ok (.iload_n 1, 1) := by decide +kernel
theorem dX8_clear_16 : decode cX8_clear 16 = .ok (.ifCond .ge 12, 3) := by decide +kernel
theorem dX8_clear_19 : decode cX8_clear 19 = .ok (.aload_n 0, 1) := by decide +kernel
theorem dX8_clear_20 : decode cX8_clear 20 = .ok (.ldc 130, 2) := by decide +kernel
theorem dX8_clear_22 : decode cX8_clear 22 = .ok (.invokevirtual 66, 3) := by decide +kernel
theorem dX8_clear_25 : decode cX8_clear 25 = .ok (.goto 4, 3) := by decide +kernel
theorem dX8_clear_28 : decode cX8_clear 28 = .ok (.iload_n 1, 1) := by decide +kernel
theorem dX8_clear_29 : decode cX8_clear 29 = .ok (.ireturn, 1) := by decide +kernel
theorem dX8_seed_0 : decode cX8_seed 0 = .ok (.aload_n 0, 1) := by decide +kernel
theorem dX8_seed_1 : decode cX8_seed 1 = .ok (.getfield 12, 3) := by decide +kernel
theorem dX8_seed_4 : decode cX8_seed 4 = .ok (.getfield 256, 3) := by decide +kernel
theorem dX8_seed_7 : decode cX8_seed 7 = .ok (.istore_n 2, 1) := by decide +kernel
theorem dX8_seed_8 : decode cX8_seed 8 = .ok (.aload_n 0, 1) := by decide +kernel
theorem dX8_seed_9 : decode cX8_seed 9 = .ok (.getfield 12, 3) := by decide +kernel
theorem dX8_seed_12 : decode cX8_seed 12 = .ok (.iload_n 1, 1) := by decide +kernel
theorem dX8_seed_13 : decode cX8_seed 13 = .ok (.putfield 256, 3) := by decide +kernel
theorem dX8_seed_16 : decode cX8_seed 16 = .ok (.iload_n 2, 1) := by decide +kernel
theorem dX8_seed_17 : decode cX8_seed 17 = .ok (.ireturn, 1) := by decide +kernel
theorem dX8_voice_0 : decode cX8_voice 0 = .ok (.aload_n 0, 1) := by decide +kernel
theorem dX8_voice_1 : decode cX8_voice 1 = .ok (.getfield 12, 3) := by decide +kernel
theorem dX8_voice_4 : decode cX8_voice 4 = .ok (.getfield 21, 3) := by decide +kernel
theorem dX8_voice_7 : decode cX8_voice 7 = .ok (.iload_n 1, 1) := by decide +kernel
theorem dX8_voice_8 : decode cX8_voice 8 = .ok (.invokevirtual 102, 3) := by decide +kernel
theorem dX8_voice_11 : decode cX8_voice 11 = .ok (.ifCond .eq 12, 3) := by decide +kernel
theorem dX8_voice_14 : decode cX8_voice 14 = .ok (.iload_n 2, 1) := by decide +kernel
theorem dX8_voice_15 : decode cX8_voice 15 = .ok (.iconst 0, 1) := by decide +kernel
theorem dX8_voice_16 : decode cX8_voice 16 = .ok (.iconst 3, 1) := by decide +kernel
theorem dX8_voice_17 : decode cX8_voice 17 = .ok (.invokestatic 61, 3) := by decide +kernel
theorem dX8_voice_20 : decode cX8_voice 20 = .ok (.ifCond .ne 10, 3) := by decide +kernel
theorem dX8_voice_23 : decode cX8_voice 23 = .ok (.aload_n 0, 1) := by decide +kernel
theorem dX8_voice_24 : decode cX8_voice 24 = .ok (.ldc 65, 2) := by decide +kernel
theorem dX8_voice_26 : decode cX8_voice 26 = .ok (.invokevirtual 66, 3) := by decide +kernel
theorem dX8_voice_29 : decode cX8_voice 29 = .ok (.ireturn, 1) := by decide +kernel
theorem dX8_voice_30 : decode cX8_voice 30 = .ok (.aload_n 0, 1) := by decide +kernel
theorem dX8_voice_31 : decode cX8_voice 31 = .ok (.getfield 35, 3) := by decide +kernel
theorem dX8_voice_34 : decode cX8_voice 34 = .ok (.aload_n 0, 1) := by decide +kernel
theorem dX8_voice_35 : decode cX8_voice 35 = .ok (.getfield 12, 3) := by decide +kernel
theorem dX8_voice_38 : decode cX8_voice 38 = .ok (.getfield 21, 3) := by decide +kernel
theorem dX8_voice_41 : decode cX8_voice 41 = .ok (.iload_n 1, 1) := by decide +kernel
theorem dX8_voice_42 : decode cX8_voice 42 = .ok (.iload_n 2, 1) := by decide +kernel
theorem dX8_voice_43 : decode cX8_voice 43 = .ok (.iload_n 3, 1) := by decide +kernel
theorem dX8_voice_44 : decode cX8_voice 44 = .ok (.invokevirtual 259, 3) := by decide +kernel
theorem dX8_voice_47 : decode cX8_voice 47 = .ok (.ireturn, 1) := by decide +kernel
theorem dX8_trace_0 : decode cX8_trace 0 = .ok (.iload_n 1, 1) := by decide +kernel
theorem dX8_trace_1 : decode cX8_trace 1 = .ok (.iconst 0, 1) := by decide +kernel
theorem dX8_trace_2 : decode cX8_trace 2 = .ok (.aload_n 0, 1) := by decide +kernel
theorem dX8_trace_3 : decode cX8_trace 3 = .ok (.getfield 35, 3) := by decide +kernel
theorem dX8_trace_6 : decode cX8_trace 6 = .ok (.getfield 263, 3) := by decide +kernel
theorem dX8_trace_9 : decode cX8_trace 9 = .ok (.iconst 1, 1) := by decide +kernel
theorem dX8_trace_10 : decode cX8_trace 10 = .ok (.isub, 1) := by decide +kernel
theorem dX8_trace_11 : decode cX8_trace 11 = .ok (.invokestatic 61, 3) := by decide +kernel
theorem dX8_trace_14 : decode cX8_trace 14 = .ok (.ifCond .eq 15, 3) := by decide +kernel
theorem dX8_trace_17 : decode cX8_trace 17 = .ok (.aload_n 0, 1) := by decide +kernel
theorem dX8_trace_18 : decode cX8_trace 18 = .ok (.getfield 35, 3) := by decide +kernel
theorem dX8_trace_21 : decode cX8_trace 21 = .ok (.getfield 266, 3) := by decide +kernel
theorem dX8_trace_24 : decode cX8_trace 24 = .ok (.iload_n 1, 1) := by decide +kernel
theorem dX8_trace_25 : decode cX8_trace 25 = .ok (.iaload, 1) := by decide +kernel
theorem dX8_trace_26 : decode cX8_trace 26 = .ok (.goto 9, 3) := by decide +kernel
theorem dX8_trace_29 : decode cX8_trace 29 = .ok (.aload_n 0, 1) := by decide +kernel
theorem dX8_trace_30 : decode cX8_trace 30 = .ok (.ldc 130, 2) := by decide +kernel
theorem dX8_trace_32 : decode cX8_trace 32 = .ok (.invokevirtual 66, 3) := by decide +kernel
theorem dX8_trace_35 : decode cX8_trace 35 = .ok (.ireturn, 1) := by decide +kernel
theorem dX8_sheet_0 : decode cX8_sheet 0 = .ok (.aload_n 0, 1) := by decide +kernel
theorem dX8_sheet_1 : decode cX8_sheet 1 = .ok (.iload_n 1, 1) := by decide +kernel
theorem dX8_sheet_2 : decode cX8_sheet 2 = .ok (.invokevirtual 122, 3) := by decide +kernel
theorem dX8_sheet_5 : decode cX8_sheet 5 = .ok (.astore 4, 2) := by decide +kernel
theorem dX8_sheet_7 : decode cX8_sheet 7 = .ok (.aload 4, 2) := by decide +kernel
theorem dX8_sheet_9 : decode cX8_sheet 9 = .ok (.ifnull 25, 3) := by decide +kernel
theorem dX8_sheet_12 : decode cX8_sheet 12 = .ok (.iload_n 2, 1) := by decide +kernel
theorem dX8_sheet_13 : decode cX8_sheet 13 = .ok (.ifCond .eq 28, 3) := by decide +kernel
theorem dX8_sheet_16 : decode cX8_sheet 16 = .ok (.iload_n 2, 1) := by decide +kernel
theorem dX8_sheet_17 : decode cX8_sheet 17 = .ok (.bipush 8, 2) := by decide +kernel
theorem dX8_sheet_19 : decode cX8_sheet 19 = .ok (.if_icmp .eq 22, 3) := by decide +kernel
theorem dX8_sheet_22 : decode cX8_sheet 22 = .ok (.iload_n 2, 1) := by decide +kernel
theorem dX8_sheet_23 : decode cX8_sheet 23 = .ok (.bipush 16, 2) := by decide +kernel
theorem dX8_sheet_25 : decode cX8_sheet 25 = .ok (.if_icmp .eq 16, 3) := by decide +kernel
theorem dX8_sheet_28 : decode cX8_sheet 28 = .ok (.iload_n 2, 1) := by decide +kernel
theorem dX8_sheet_29 : decode cX8_sheet 29 = .ok (.bipush 32, 2) := by decide +kernel
theorem dX8_sheet_31 : decode cX8_sheet 31 = .ok (.if_icmp .eq 10, 3) := by decide +kernel
theorem dX8_sheet_34 : decode cX8_sheet 34 = .ok (.aload_n 0, 1) := by decide +kernel
theorem dX8_sheet_35 : decode cX8_sheet 35 = .ok (.ldc 65, 2) := by decide +kernel
theorem dX8_sheet_37 : decode cX8_sheet 37 = .ok (.invokevirtual 66, 3) := by decide +kernel
theorem dX8_sheet_40 : decode cX8_sheet 40 = .ok (.ireturn, 1) := by decide +kernel
theorem dX8_sheet_41 : decode cX8_sheet 41 = .ok (.iload_n 2, 1) := by decide +kernel
theorem dX8_sheet_42 : decode cX8_sheet 42 = .ok (.ifCond .ne 12, 3) := by decide +kernel
theorem dX8_sheet_45 : decode cX8_sheet 45 = .ok (.aload 4, 2) := by decide +kernel
theorem dX8_sheet_47 : decode cX8_sheet 47 = .ok (.iconst 0, 1) := by decide +kernel
theorem dX8_sheet_48 : decode cX8_sheet 48 = .ok (.iconst 0, 1) := by decide +kernel
theorem dX8_sheet_49 : decode cX8_sheet 49 = .ok (.invokevirtual 269, 3) := by decide +kernel
theorem dX8_sheet_52 : decode cX8_sheet 52 = .ok (.iconst 1, 1) := by decide +kernel
theorem dX8_sheet_53 : decode cX8_sheet 53 = .ok (.ireturn, 1) := by decide +kernel
theorem dX8_sheet_54 : decode cX8_sheet 54 = .ok (.iload_n 3, 1) := by decide +kernel
theorem dX8_sheet_55 : decode cX8_sheet 55 = .ok (.ifCond .ge 10, 3) := by decide +kernel
theorem dX8_sheet_58 : decode cX8_sheet 58 = .ok (.aload_n 0, 1) := by decide +kernel
theorem dX8_sheet_59 : decode cX8_sheet 59 = .ok (.ldc 191, 2) := by decide +kernel
theorem dX8_sheet_61 : decode cX8_sheet 61 = .ok (.invokevirtual 66, 3) := by decide +kernel
theorem dX8_sheet_64 : decode cX8_sheet 64 = .ok (.ireturn, 1) := by decide +kernel
theorem dX8_sheet_65 : decode cX8_sheet 65 = .ok (.iload_n 3, 1) := by decide +kernel
theorem dX8_sheet_66 : decode cX8_sheet 66 = .ok (.bipush 40, 2) := by decide +kernel
theorem dX8_sheet_68 : decode cX8_sheet 68 = .ok (.if_icmp .le 10, 3) := by decide +kernel
theorem dX8_sheet_71 : decode cX8_sheet 71 = .ok (.aload_n 0, 1) := by decide +kernel
theorem dX8_sheet_72 : decode cX8_sheet 72 = .ok (.ldc 65, 2) := by decide +kernel
theorem dX8_sheet_74 : decode cX8_sheet 74 = .ok (.invokevirtual 66, 3) := by decide +kernel
theorem dX8_sheet_77 : decode cX8_sheet 77 = .ok (.ireturn, 1) := by decide +kernel
theorem dX8_sheet_78 : decode cX8_sheet 78 = .ok (.aload 4, 2) := by decide +kernel
theorem dX8_sheet_80 : decode cX8_sheet 80 = .ok (.iload_n 2, 1) := by decide +kernel
theorem dX8_sheet_81 : decode cX8_sheet 81 = .ok (.iload_n 3, 1) := by decide +kernel
theorem dX8_sheet_82 : decode cX8_sheet 82 = .ok (.invokevirtual 269, 3) := by decide +kernel
theorem dX8_sheet_85 : decode cX8_sheet 85 = .ok (.iconst 1, 1) := by decide +kernel
theorem dX8_sheet_86 : decode cX8_sheet 86 = .ok (.ireturn, 1) := by decide +kernel
theorem dX8_put_0 : decode cX8_put 0 = .ok (.aload_n 0, 1) := by decide +kernel
theorem dX8_put_1 : decode cX8_put 1 = .ok (.iload_n 1, 1) := by decide +kernel
theorem dX8_put_2 : decode cX8_put 2 = .ok (.invokevirtual 122, 3) := by decide +kernel
theorem dX8_put_5 : decode cX8_put 5 = .ok (.astore 4, 2) := by decide +kernel
theorem dX8_put_7 : decode cX8_put 7 = .ok (.aload 4, 2) := by decide +kernel
theorem dX8_put_9 : decode cX8_put 9 = .ok (.ifnonnull 10, 3) := by decide +kernel
theorem dX8_put_12 : decode cX8_put 12 = .ok (.aload_n 0, 1) := by decide +kernel
theorem dX8_put_13 : decode cX8_put 13 = .ok (.ldc 65, 2) := by decide +kernel
theorem dX8_put_15 : decode cX8_put 15 = .ok (.invokevirtual 66, 3) := by decide +kernel
theorem dX8_put_18 : decode cX8_put 18 = .ok (.ireturn, 1) := by decide +kernel
theorem dX8_put_19 : decode cX8_put 19 = .ok (.aload 4, 2) := by decide +kernel
theorem dX8_put_21 : decode cX8_put 21 = .ok (.invokevirtual 126, 3) := by decide +kernel
theorem dX8_put_24 : decode cX8_put 24 = .ok (.ifCond .eq 10, 3) := by decide +kernel
theorem dX8_put_27 : decode cX8_put 27 = .ok (.aload_n 0, 1) := by decide +kernel
theorem dX8_put_28 : decode cX8_put 28 = .ok (.ldc 130, 2) := by decide +kernel
theorem dX8_put_30 : decode cX8_put 30 = .ok (.invokevirtual 66, 3) := by decide +kernel
theorem dX8_put_33 : decode cX8_put 33 = .ok (.ireturn, 1) := by decide +kernel
theorem dX8_put_34 : decode cX8_put 34 = .ok (.iload_n 2, 1) := by decide +kernel
theorem dX8_put_35 : decode cX8_put 35 = .ok (.iconst 0, 1) := by decide +kernel
theorem dX8_put_36 : decode cX8_put 36 = .ok (.aload 4, 2) := by decide +kernel
theorem dX8_put_38 : decode cX8_put 38 = .ok (.getfield 135, 3) := by decide +kernel
theorem dX8_put_41 : decode cX8_put 41 = .ok (.iconst 1, 1) := by decide +kernel
theorem dX8_put_42 : decode cX8_put 42 = .ok (.isub, 1) := by decide +kernel
theorem dX8_put_43 : decode cX8_put 43 = .ok (.invokestatic 61, 3) := by decide +kernel
theorem dX8_put_46 : decode cX8_put 46 = .ok (.ifCond .ne 10, 3) := by decide +kernel
theorem dX8_put_49 : decode cX8_put 49 = .ok (.aload_n 0, 1) := by decide +kernel
theorem dX8_put_50 : decode cX8_put 50 = .ok (.ldc 65, 2) := by decide +kernel
theorem dX8_put_52 : decode cX8_put 52 = .ok (.invokevirtual 66, 3) := by decide +kernel
theorem dX8_put_55 : decode cX8_put 55 = .ok (.ireturn, 1) := by decide +kernel
theorem dX8_put_56 : decode cX8_put 56 = .ok (.aload 4, 2) := by decide +kernel
theorem dX8_put_58 : decode cX8_put 58 = .ok (.iload_n 2, 1) := by decide +kernel
theorem dX8_put_59 : decode cX8_put 59 = .ok (.iload_n 3, 1) := by decide +kernel
theorem dX8_put_60 : decode cX8_put 60 = .ok (.invokevirtual 272, 3) := by decide +kernel
theorem dX8_put_63 : decode cX8_put 63 = .ok (.iconst 1, 1) := by decide +kernel
theorem dX8_put_64 : decode cX8_put 64 = .ok (.ireturn, 1) := by decide +kernel
theorem dX8_move_0 : decode cX8_move 0 = .ok (.aload_n 0, 1) := by decide +kernel
theorem dX8_move_1 : decode cX8_move 1 = .ok (.iload_n 1, 1) := by decide +kernel
theorem dX8_move_2 : decode cX8_move 2 = .ok (.invokevirtual 122, 3) := by decide +kernel
theorem dX8_move_5 : decode cX8_move 5 = .ok (.astore 6, 2) := by decide +kernel
theorem dX8_move_7 : decode cX8_move 7 = .ok (.aload_n 0, 1) := by decide +kernel
