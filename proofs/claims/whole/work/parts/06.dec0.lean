theorem dX0_init_0 : decode cX0_init 0 = .ok (.aload_n 0, 1) := by decide +kernel
theorem dX0_init_1 : decode cX0_init 1 = .ok (.invokespecial 3, 3) := by decide +kernel
theorem dX0_init_4 : decode cX0_init 4 = .ok (.aload_n 0, 1) := by decide +kernel
theorem dX0_init_5 : decode cX0_init 5 = .ok (.bipush 50, 2) := by decide +kernel
theorem dX0_init_7 : decode cX0_init 7 = .ok (.newarray .int, 2) := by decide +kernel
theorem dX0_init_9 : decode cX0_init 9 = .ok (.putfield 9, 3) := by decide +kernel
theorem dX0_init_12 : decode cX0_init 12 = .ok (.aload_n 0, 1) := by decide +kernel
theorem dX0_init_13 : decode cX0_init 13 = .ok (.iconst 4, 1) := by decide +kernel
theorem dX0_init_14 : decode cX0_init 14 = .ok (.newarray .int, 2) := by decide +kernel
theorem dX0_init_16 : decode cX0_init 16 = .ok (.putfield 15, 3) := by decide +kernel
theorem dX0_init_19 : decode cX0_init 19 = .ok (.aload_n 0, 1) := by decide +kernel
theorem dX0_init_20 : decode cX0_init 20 = .ok (.bipush 50, 2) := by decide +kernel
theorem dX0_init_22 : decode cX0_init 22 = .ok (.newarray .int, 2) := by decide +kernel
theorem dX0_init_24 : decode cX0_init 24 = .ok (.putfield 18, 3) := by decide +kernel
theorem dX0_init_27 : decode cX0_init 27 = .ok (.return_, 1) := by decide +kernel
theorem dX0_isMissing_0 : decode cX0_isMissing 0 = .ok (.aload_n 0, 1) := by decide +kernel
theorem dX0_isMissing_1 : decode cX0_isMissing 1 = .ok (.getfield 21, 3) := by decide +kernel
theorem dX0_isMissing_4 : decode cX0_isMissing 4 = .ok (.ifCond .ne 7, 3) := by decide +kernel
theorem dX0_isMissing_7 : decode cX0_isMissing 7 = .ok (.iconst 1, 1) := by decide +kernel
theorem dX0_isMissing_8 : decode cX0_isMissing 8 = .ok (.goto 4, 3) := by decide +kernel
theorem dX0_isMissing_11 : decode cX0_isMissing 11 = .ok (.iconst 0, 1) := by decide +kernel
theorem dX0_isMissing_12 : decode cX0_isMissing 12 = .ok (.ireturn, 1) := by decide +kernel
theorem dX0_take_0 : decode cX0_take 0 = .ok (.aload_n 0, 1) := by decide +kernel
theorem dX0_take_1 : decode cX0_take 1 = .ok (.iload_n 2, 1) := by decide +kernel
theorem dX0_take_2 : decode cX0_take 2 = .ok (.iconst 0, 1) := by decide +kernel
theorem dX0_take_3 : decode cX0_take 3 = .ok (.aload_n 1, 1) := by decide +kernel
theorem dX0_take_4 : decode cX0_take 4 = .ok (.arraylength, 1) := by decide +kernel
theorem dX0_take_5 : decode cX0_take 5 = .ok (.aload_n 0, 1) := by decide +kernel
theorem dX0_take_6 : decode cX0_take 6 = .ok (.getfield 9, 3) := by decide +kernel
theorem dX0_take_9 : decode cX0_take 9 = .ok (.arraylength, 1) := by decide +kernel
theorem dX0_take_10 : decode cX0_take 10 = .ok (.invokestatic 25, 3) := by decide +kernel
theorem dX0_take_13 : decode cX0_take 13 = .ok (.invokestatic 31, 3) := by decide +kernel
theorem dX0_take_16 : decode cX0_take 16 = .ok (.putfield 21, 3) := by decide +kernel
theorem dX0_take_19 : decode cX0_take 19 = .ok (.aload_n 1, 1) := by decide +kernel
theorem dX0_take_20 : decode cX0_take 20 = .ok (.iconst 0, 1) := by decide +kernel
theorem dX0_take_21 : decode cX0_take 21 = .ok (.aload_n 0, 1) := by decide +kernel
theorem dX0_take_22 : decode cX0_take 22 = .ok (.getfield 9, 3) := by decide +kernel
theorem dX0_take_25 : decode cX0_take 25 = .ok (.iconst 0, 1) := by decide +kernel
theorem dX0_take_26 : decode cX0_take 26 = .ok (.aload_n 0, 1) := by decide +kernel
theorem dX0_take_27 : decode cX0_take 27 = .ok (.getfield 21, 3) := by decide +kernel
theorem dX0_take_30 : decode cX0_take 30 = .ok (.invokestatic 35, 3) := by decide +kernel
theorem dX0_take_33 : decode cX0_take 33 = .ok (.return_, 1) := by decide +kernel
theorem dX0_gives_0 : decode cX0_gives 0 = .ok (.aload_n 0, 1) := by decide +kernel
theorem dX0_gives_1 : decode cX0_gives 1 = .ok (.getfield 15, 3) := by decide +kernel
theorem dX0_gives_4 : decode cX0_gives 4 = .ok (.iconst 0, 1) := by decide +kernel
theorem dX0_gives_5 : decode cX0_gives 5 = .ok (.iload_n 1, 1) := by decide +kernel
theorem dX0_gives_6 : decode cX0_gives 6 = .ok (.iastore, 1) := by decide +kernel
theorem dX0_gives_7 : decode cX0_gives 7 = .ok (.aload_n 0, 1) := by decide +kernel
theorem dX0_gives_8 : decode cX0_gives 8 = .ok (.getfield 15, 3) := by decide +kernel
theorem dX0_gives_11 : decode cX0_gives 11 = .ok (.iconst 1, 1) := by decide +kernel
theorem dX0_gives_12 : decode cX0_gives 12 = .ok (.iload_n 2, 1) := by decide +kernel
theorem dX0_gives_13 : decode cX0_gives 13 = .ok (.iastore, 1) := by decide +kernel
theorem dX0_gives_14 : decode cX0_gives 14 = .ok (.aload_n 0, 1) := by decide +kernel
theorem dX0_gives_15 : decode cX0_gives 15 = .ok (.getfield 15, 3) := by decide +kernel
theorem dX0_gives_18 : decode cX0_gives 18 = .ok (.iconst 2, 1) := by decide +kernel
theorem dX0_gives_19 : decode cX0_gives 19 = .ok (.iload_n 3, 1) := by decide +kernel
theorem dX0_gives_20 : decode cX0_gives 20 = .ok (.iastore, 1) := by decide +kernel
theorem dX0_gives_21 : decode cX0_gives 21 = .ok (.aload_n 0, 1) := by decide +kernel
theorem dX0_gives_22 : decode cX0_gives 22 = .ok (.getfield 15, 3) := by decide +kernel
theorem dX0_gives_25 : decode cX0_gives 25 = .ok (.iconst 3, 1) := by decide +kernel
theorem dX0_gives_26 : decode cX0_gives 26 = .ok (.iload 4, 2) := by decide +kernel
theorem dX0_gives_28 : decode cX0_gives 28 = .ok (.iastore, 1) := by decide +kernel
theorem dX0_gives_29 : decode cX0_gives 29 = .ok (.iconst 0, 1) := by decide +kernel
theorem dX0_gives_30 : decode cX0_gives 30 = .ok (.istore 5, 2) := by decide +kernel
theorem dX0_gives_32 : decode cX0_gives 32 = .ok (.iconst 0, 1) := by decide +kernel
theorem dX0_gives_33 : decode cX0_gives 33 = .ok (.istore 6, 2) := by decide +kernel
theorem dX0_gives_35 : decode cX0_gives 35 = .ok (.iload 6, 2) := by decide +kernel
theorem dX0_gives_37 : decode cX0_gives 37 = .ok (.aload_n 0, 1) := by decide +kernel
theorem dX0_gives_38 : decode cX0_gives 38 = .ok (.getfield 21, 3) := by decide +kernel
theorem dX0_gives_41 : decode cX0_gives 41 = .ok (.if_icmp .ge 152, 3) := by decide +kernel
theorem dX0_gives_44 : decode cX0_gives 44 = .ok (.aload_n 0, 1) := by decide +kernel
theorem dX0_gives_45 : decode cX0_gives 45 = .ok (.getfield 9, 3) := by decide +kernel
theorem dX0_gives_48 : decode cX0_gives 48 = .ok (.iload 6, 2) := by decide +kernel
theorem dX0_gives_50 : decode cX0_gives 50 = .ok (.iaload, 1) := by decide +kernel
theorem dX0_gives_51 : decode cX0_gives 51 = .ok (.istore 7, 2) := by decide +kernel
theorem dX0_gives_53 : decode cX0_gives 53 = .ok (.iload 7, 2) := by decide +kernel
theorem dX0_gives_55 : decode cX0_gives 55 = .ok (.sipush 10000, 3) := by decide +kernel
theorem dX0_gives_58 : decode cX0_gives 58 = .ok (.if_icmp .ge 44, 3) := by decide +kernel
theorem dX0_gives_61 : decode cX0_gives 61 = .ok (.iload 5, 2) := by decide +kernel
theorem dX0_gives_63 : decode cX0_gives 63 = .ok (.aload_n 0, 1) := by decide +kernel
theorem dX0_gives_64 : decode cX0_gives 64 = .ok (.getfield 18, 3) := by decide +kernel
theorem dX0_gives_67 : decode cX0_gives 67 = .ok (.arraylength, 1) := by decide +kernel
theorem dX0_gives_68 : decode cX0_gives 68 = .ok (.if_icmp .ge 34, 3) := by decide +kernel
theorem dX0_gives_71 : decode cX0_gives 71 = .ok (.aload_n 0, 1) := by decide +kernel
theorem dX0_gives_72 : decode cX0_gives 72 = .ok (.getfield 18, 3) := by decide +kernel
theorem dX0_gives_75 : decode cX0_gives 75 = .ok (.iload 5, 2) := by decide +kernel
theorem dX0_gives_77 : decode cX0_gives 77 = .ok (.iload 7, 2) := by decide +kernel
theorem dX0_gives_79 : decode cX0_gives 79 = .ok (.ifCond .ge 14, 3) := by decide +kernel
theorem dX0_gives_82 : decode cX0_gives 82 = .ok (.aload_n 0, 1) := by decide +kernel
theorem dX0_gives_83 : decode cX0_gives 83 = .ok (.iconst (-1), 1) := by decide +kernel
theorem dX0_gives_84 : decode cX0_gives 84 = .ok (.iload 7, 2) := by decide +kernel
theorem dX0_gives_86 : decode cX0_gives 86 = .ok (.isub, 1) := by decide +kernel
theorem dX0_gives_87 : decode cX0_gives 87 = .ok (.invokevirtual 41, 3) := by decide +kernel
theorem dX0_gives_90 : decode cX0_gives 90 = .ok (.goto 5, 3) := by decide +kernel
theorem dX0_gives_93 : decode cX0_gives 93 = .ok (.iload 7, 2) := by decide +kernel
theorem dX0_gives_95 : decode cX0_gives 95 = .ok (.iastore, 1) := by decide +kernel
theorem dX0_gives_96 : decode cX0_gives 96 = .ok (.iinc 5 1, 3) := by decide +kernel
theorem dX0_gives_99 : decode cX0_gives 99 = .ok (.goto 88, 3) := by decide +kernel
theorem dX0_gives_102 : decode cX0_gives 102 = .ok (.iload 7, 2) := by decide +kernel
theorem dX0_gives_104 : decode cX0_gives 104 = .ok (.sipush 10033, 3) := by decide +kernel
theorem dX0_gives_107 : decode cX0_gives 107 = .ok (.if_icmp .ne 37, 3) := by decide +kernel
theorem dX0_gives_110 : decode cX0_gives 110 = .ok (.iload 5, 2) := by decide +kernel
theorem dX0_gives_112 : decode cX0_gives 112 = .ok (.ifCond .le 32, 3) := by decide +kernel
theorem dX0_gives_115 : decode cX0_gives 115 = .ok (.aload_n 0, 1) := by decide +kernel
theorem dX0_gives_116 : decode cX0_gives 116 = .ok (.getfield 18, 3) := by decide +kernel
theorem dX0_gives_119 : decode cX0_gives 119 = .ok (.iload 5, 2) := by decide +kernel
theorem dX0_gives_121 : decode cX0_gives 121 = .ok (.iconst 1, 1) := by decide +kernel
theorem dX0_gives_122 : decode cX0_gives 122 = .ok (.isub, 1) := by decide +kernel
theorem dX0_gives_123 : decode cX0_gives 123 = .ok (.aload_n 0, 1) := by decide +kernel
theorem dX0_gives_124 : decode cX0_gives 124 = .ok (.getfield 18, 3) := by decide +kernel
theorem dX0_gives_127 : decode cX0_gives 127 = .ok (.iload 5, 2) := by decide +kernel
theorem dX0_gives_129 : decode cX0_gives 129 = .ok (.iconst 1, 1) := by decide +kernel
theorem dX0_gives_130 : decode cX0_gives 130 = .ok (.isub, 1) := by decide +kernel
theorem dX0_gives_131 : decode cX0_gives 131 = .ok (.iaload, 1) := by decide +kernel
theorem dX0_gives_132 : decode cX0_gives 132 = .ok (.ifCond .ne 7, 3) := by decide +kernel
theorem dX0_gives_135 : decode cX0_gives 135 = .ok (.iconst 1, 1) := by decide +kernel
theorem dX0_gives_136 : decode cX0_gives 136 = .ok (.goto 4, 3) := by decide +kernel
theorem dX0_gives_139 : decode cX0_gives 139 = .ok (.iconst 0, 1) := by decide +kernel
theorem dX0_gives_140 : decode cX0_gives 140 = .ok (.iastore, 1) := by decide +kernel
theorem dX0_gives_141 : decode cX0_gives 141 = .ok (.goto 46, 3) := by decide +kernel
theorem dX0_gives_144 : decode cX0_gives 144 = .ok (.iload 5, 2) := by decide +kernel
theorem dX0_gives_146 : decode cX0_gives 146 = .ok (.iconst 1, 1) := by decide +kernel
theorem dX0_gives_147 : decode cX0_gives 147 = .ok (.if_icmp .le 40, 3) := by decide +kernel
theorem dX0_gives_150 : decode cX0_gives 150 = .ok (.iinc 5 (-1), 3) := by decide +kernel
theorem dX0_gives_153 : decode cX0_gives 153 = .ok (.aload_n 0, 1) := by decide +kernel
theorem dX0_gives_154 : decode cX0_gives 154 = .ok (.getfield 18, 3) := by decide +kernel
theorem dX0_gives_157 : decode cX0_gives 157 = .ok (.iload 5, 2) := by decide +kernel
theorem dX0_gives_159 : decode cX0_gives 159 = .ok (.iconst 1, 1) := by decide +kernel
theorem dX0_gives_160 : decode cX0_gives 160 = .ok (.isub, 1) := by decide +kernel
theorem dX0_gives_161 : decode cX0_gives 161 = .ok (.iload 7, 2) := by decide +kernel
theorem dX0_gives_163 : decode cX0_gives 163 = .ok (.sipush 10000, 3) := by decide +kernel
theorem dX0_gives_166 : decode cX0_gives 166 = .ok (.isub, 1) := by decide +kernel
theorem dX0_gives_167 : decode cX0_gives 167 = .ok (.aload_n 0, 1) := by decide +kernel
theorem dX0_gives_168 : decode cX0_gives 168 = .ok (.getfield 18, 3) := by decide +kernel
theorem dX0_gives_171 : decode cX0_gives 171 = .ok (.iload 5, 2) := by decide +kernel
theorem dX0_gives_173 : decode cX0_gives 173 = .ok (.iconst 1, 1) := by decide +kernel
theorem dX0_gives_174 : decode cX0_gives 174 = .ok (.isub, 1) := by decide +kernel
theorem dX0_gives_175 : decode cX0_gives 175 = .ok (.iaload, 1) := by decide +kernel
theorem dX0_gives_176 : decode cX0_gives 176 = .ok (.aload_n 0, 1) := by decide +kernel
theorem dX0_gives_177 : decode cX0_gives 177 = .ok (.getfield 18, 3) := by decide +kernel
theorem dX0_gives_180 : decode cX0_gives 180 = .ok (.iload 5, 2) := by decide +kernel
theorem dX0_gives_182 : decode cX0_gives 182 = .ok (.iaload, 1) := by decide +kernel
theorem dX0_gives_183 : decode cX0_gives 183 = .ok (.invokestatic 45, 3) := by decide +kernel
theorem dX0_gives_186 : decode cX0_gives 186 = .ok (.iastore, 1) := by decide +kernel
theorem dX0_gives_187 : decode cX0_gives 187 = .ok (.iinc 6 1, 3) := by decide +kernel
theorem dX0_gives_190 : decode cX0_gives 190 = .ok (.goto (-155), 3) := by decide +kernel
theorem dX0_gives_193 : decode cX0_gives 193 = .ok (.aload_n 0, 1) := by decide +kernel
theorem dX0_gives_194 : decode cX0_gives 194 = .ok (.getfield 18, 3) := by decide +kernel
theorem dX0_gives_197 : decode cX0_gives 197 = .ok (.iconst 0, 1) := by decide +kernel
theorem dX0_gives_198 : decode cX0_gives 198 = .ok (.iaload, 1) := by decide +kernel
theorem dX0_gives_199 : decode cX0_gives 199 = .ok (.ireturn, 1) := by decide +kernel
theorem dX0_named_0 : decode cX0_named 0 = .ok (.iload_n 1, 1) := by decide +kernel
theorem dX0_named_1 : decode cX0_named 1 = .ok (.ifCond .lt 21, 3) := by decide +kernel
theorem dX0_named_4 : decode cX0_named 4 = .ok (.iload_n 1, 1) := by decide +kernel
theorem dX0_named_5 : decode cX0_named 5 = .ok (.aload_n 0, 1) := by decide +kernel
theorem dX0_named_6 : decode cX0_named 6 = .ok (.getfield 15, 3) := by decide +kernel
theorem dX0_named_9 : decode cX0_named 9 = .ok (.arraylength, 1) := by decide +kernel
theorem dX0_named_10 : decode cX0_named 10 = .ok (.if_icmp .ge 12, 3) := by decide +kernel
theorem dX0_named_13 : decode cX0_named 13 = .ok (.aload_n 0, 1) := by decide +kernel
theorem dX0_named_14 : decode cX0_named 14 = .ok (.getfield 15, 3) := by decide +kernel
theorem dX0_named_17 : decode cX0_named 17 = .ok (.iload_n 1, 1) := by decide +kernel
theorem dX0_named_18 : decode cX0_named 18 = .ok (.iaload, 1) := by decide +kernel
theorem dX0_named_19 : decode cX0_named 19 = .ok (.goto 4, 3) := by decide +kernel
theorem dX0_named_22 : decode cX0_named 22 = .ok (.iconst 0, 1) := by decide +kernel
theorem dX0_named_23 : decode cX0_named 23 = .ok (.ireturn, 1) := by decide +kernel
theorem dX0_joined_0 : decode cX0_joined 0 = .ok (.iload_n 0, 1) := by decide +kernel
theorem dX0_joined_1 : decode cX0_joined 1 = .ok (.lookupswitch 168 #[(38, 97), (42, 152), (43, 144), (45, 148), (47, 156), (60, 111), (61, 122), (62, 133), (124, 83)], 83) := by decide +kernel
theorem dX0_joined_84 : decode cX0_joined 84 = .ok (.iload_n 1, 1) := by decide +kernel
theorem dX0_joined_85 : decode cX0_joined 85 = .ok (.ifCond .ne 7, 3) := by decide +kernel
theorem dX0_joined_88 : decode cX0_joined 88 = .ok (.iload_n 2, 1) := by decide +kernel
theorem dX0_joined_89 : decode cX0_joined 89 = .ok (.ifCond .eq 7, 3) := by decide +kernel
theorem dX0_joined_92 : decode cX0_joined 92 = .ok (.iconst 1, 1) := by decide +kernel
theorem dX0_joined_93 : decode cX0_joined 93 = .ok (.goto 4, 3) := by decide +kernel
theorem dX0_joined_96 : decode cX0_joined 96 = .ok (.iconst 0, 1) := by decide +kernel
theorem dX0_joined_97 : decode cX0_joined 97 = .ok (.ireturn, 1) := by decide +kernel
theorem dX0_joined_98 : decode cX0_joined 98 = .ok (.iload_n 1, 1) := by decide +kernel
theorem dX0_joined_99 : decode cX0_joined 99 = .ok (.ifCond .eq 11, 3) := by decide +kernel
theorem dX0_joined_102 : decode cX0_joined 102 = .ok (.iload_n 2, 1) := by decide +kernel
theorem dX0_joined_103 : decode cX0_joined 103 = .ok (.ifCond .eq 7, 3) := by decide +kernel
theorem dX0_joined_106 : decode cX0_joined 106 = .ok (.iconst 1, 1) := by decide +kernel
theorem dX0_joined_107 : decode cX0_joined 107 = .ok (.goto 4, 3) := by decide +kernel
theorem dX0_joined_110 : decode cX0_joined 110 = .ok (.iconst 0, 1) := by decide +kernel
theorem dX0_joined_111 : decode cX0_joined 111 = .ok (.ireturn, 1) := by decide +kernel
theorem dX0_joined_112 : decode cX0_joined 112 = .ok (.iload_n 1, 1) := by decide +kernel
theorem dX0_joined_113 : decode cX0_joined 113 = .ok (.iload_n 2, 1) := by decide +kernel
theorem dX0_joined_114 : decode cX0_joined 114 = .ok (.if_icmp .ge 7, 3) := by decide +kernel
theorem dX0_joined_117 : decode cX0_joined 117 = .ok (.iconst 1, 1) := by decide +kernel
theorem dX0_joined_118 : decode cX0_joined 118 = .ok (.goto 4, 3) := by decide +kernel
theorem dX0_joined_121 : decode cX0_joined 121 = .ok (.iconst 0, 1) := by decide +kernel
theorem dX0_joined_122 : decode cX0_joined 122 = .ok (.ireturn, 1) := by decide +kernel
theorem dX0_joined_123 : decode cX0_joined 123 = .ok (.iload_n 1, 1) := by decide +kernel
theorem dX0_joined_124 : decode cX0_joined 124 = .ok (.iload_n 2, 1) := by decide +kernel
theorem dX0_joined_125 : decode cX0_joined 125 = .ok (.if_icmp .ne 7, 3) := by decide +kernel
theorem dX0_joined_128 : decode cX0_joined 128 = .ok (.iconst 1, 1) := by decide +kernel
theorem dX0_joined_129 : decode cX0_joined 129 = .ok (.goto 4, 3) := by decide +kernel
theorem dX0_joined_132 : decode cX0_joined 132 = .ok (.iconst 0, 1) := by decide +kernel
theorem dX0_joined_133 : decode cX0_joined 133 = .ok (.ireturn, 1) := by decide +kernel
theorem dX0_joined_134 : decode cX0_joined 134 = .ok (.iload_n 1, 1) := by decide +kernel
theorem dX0_joined_135 : decode cX0_joined 135 = .ok (.iload_n 2, 1) := by decide +kernel
theorem dX0_joined_136 : decode cX0_joined 136 = .ok (.if_icmp .le 7, 3) := by decide +kernel
theorem dX0_joined_139 : decode cX0_joined 139 = .ok (.iconst 1, 1) := by decide +kernel
theorem dX0_joined_140 : decode cX0_joined 140 = .ok (.goto 4, 3) := by decide +kernel
theorem dX0_joined_143 : decode cX0_joined 143 = .ok (.iconst 0, 1) := by decide +kernel
theorem dX0_joined_144 : decode cX0_joined 144 = .ok (.ireturn, 1) := by decide +kernel
theorem dX0_joined_145 : decode cX0_joined 145 = .ok (.iload_n 1, 1) := by decide +kernel
theorem dX0_joined_146 : decode cX0_joined 146 = .ok (.iload_n 2, 1) := by decide +kernel
theorem dX0_joined_147 : decode cX0_joined 147 = .ok (.iadd, 1) := by decide +kernel
theorem dX0_joined_148 : decode cX0_joined 148 = .ok (.ireturn, 1) := by decide +kernel
theorem dX0_joined_149 : decode cX0_joined 149 = .ok (.iload_n 1, 1) := by decide +kernel
theorem dX0_joined_150 : decode cX0_joined 150 = .ok (.iload_n 2, 1) := by decide +kernel
theorem dX0_joined_151 : decode cX0_joined 151 = .ok (.isub, 1) := by decide +kernel
theorem dX0_joined_152 : decode cX0_joined 152 = .ok (.ireturn, 1) := by decide +kernel
theorem dX0_joined_153 : decode cX0_joined 153 = .ok (.iload_n 1, 1) := by decide +kernel
theorem dX0_joined_154 : decode cX0_joined 154 = .ok (.iload_n 2, 1) := by decide +kernel
theorem dX0_joined_155 : decode cX0_joined 155 = .ok (.imul, 1) := by decide +kernel
theorem dX0_joined_156 : decode cX0_joined 156 = .ok (.ireturn, 1) := by decide +kernel
theorem dX0_joined_157 : decode cX0_joined 157 = .ok (.iload_n 2, 1) := by decide +kernel
theorem dX0_joined_158 : decode cX0_joined 158 = .ok (.ifCond .ne 7, 3) := by decide +kernel
theorem dX0_joined_161 : decode cX0_joined 161 = .ok (.iconst 0, 1) := by decide +kernel
theorem dX0_joined_162 : decode cX0_joined 162 = .ok (.goto 6, 3) := by decide +kernel
theorem dX0_joined_165 : decode cX0_joined 165 = .ok (.iload_n 1, 1) := by decide +kernel
theorem dX0_joined_166 : decode cX0_joined 166 = .ok (.iload_n 2, 1) := by decide +kernel
theorem dX0_joined_167 : decode cX0_joined 167 = .ok (.idiv, 1) := by decide +kernel
theorem dX0_joined_168 : decode cX0_joined 168 = .ok (.ireturn, 1) := by decide +kernel
theorem dX0_joined_169 : decode cX0_joined 169 = .ok (.iload_n 2, 1) := by decide +kernel
theorem dX0_joined_170 : decode cX0_joined 170 = .ok (.ifCond .ne 7, 3) := by decide +kernel
theorem dX0_joined_173 : decode cX0_joined 173 = .ok (.iconst 0, 1) := by decide +kernel
theorem dX0_joined_174 : decode cX0_joined 174 = .ok (.goto 6, 3) := by decide +kernel
theorem dX0_joined_177 : decode cX0_joined 177 = .ok (.iload_n 1, 1) := by decide +kernel
theorem dX0_joined_178 : decode cX0_joined 178 = .ok (.iload_n 2, 1) := by decide +kernel
theorem dX0_joined_179 : decode cX0_joined 179 = .ok (.irem, 1) := by decide +kernel
theorem dX0_joined_180 : decode cX0_joined 180 = .ok (.ireturn, 1) := by decide +kernel
theorem dX1_init_0 : decode cX1_init 0 = .ok (.aload_n 0, 1) := by decide +kernel
theorem dX1_init_1 : decode cX1_init 1 = .ok (.invokespecial 3, 3) := by decide +kernel
theorem dX1_init_4 : decode cX1_init 4 = .ok (.aload_n 0, 1) := by decide +kernel
theorem dX1_init_5 : decode cX1_init 5 = .ok (.iconst 4, 1) := by decide +kernel
theorem dX1_init_6 : decode cX1_init 6 = .ok (.anewarray 9, 3) := by decide +kernel
theorem dX1_init_9 : decode cX1_init 9 = .ok (.putfield 11, 3) := by decide +kernel
theorem dX1_init_12 : decode cX1_init 12 = .ok (.aload_n 0, 1) := by decide +kernel
theorem dX1_init_13 : decode cX1_init 13 = .ok (.iconst 3, 1) := by decide +kernel
theorem dX1_init_14 : decode cX1_init 14 = .ok (.newarray .int, 2) := by decide +kernel
theorem dX1_init_16 : decode cX1_init 16 = .ok (.putfield 17, 3) := by decide +kernel
theorem dX1_init_19 : decode cX1_init 19 = .ok (.aload_n 0, 1) := by decide +kernel
theorem dX1_init_20 : decode cX1_init 20 = .ok (.iconst 3, 1) := by decide +kernel
theorem dX1_init_21 : decode cX1_init 21 = .ok (.newarray .int, 2) := by decide +kernel
theorem dX1_init_23 : decode cX1_init 23 = .ok (.putfield 21, 3) := by decide +kernel
theorem dX1_init_26 : decode cX1_init 26 = .ok (.aload_n 0, 1) := by decide +kernel
theorem dX1_init_27 : decode cX1_init 27 = .ok (.new 9, 3) := by decide +kernel
theorem dX1_init_30 : decode cX1_init 30 = .ok (.dup, 1) := by decide +kernel
theorem dX1_init_31 : decode cX1_init 31 = .ok (.aload_n 1, 1) := by decide +kernel
theorem dX1_init_32 : decode cX1_init 32 = .ok (.invokespecial 24, 3) := by decide +kernel
theorem dX1_init_35 : decode cX1_init 35 = .ok (.putfield 27, 3) := by decide +kernel
theorem dX1_init_38 : decode cX1_init 38 = .ok (.iconst 0, 1) := by decide +kernel
theorem dX1_init_39 : decode cX1_init 39 = .ok (.istore_n 2, 1) := by decide +kernel
theorem dX1_init_40 : decode cX1_init 40 = .ok (.iload_n 2, 1) := by decide +kernel
theorem dX1_init_41 : decode cX1_init 41 = .ok (.aload_n 0, 1) := by decide +kernel
theorem dX1_init_42 : decode cX1_init 42 = .ok (.getfield 11, 3) := by decide +kernel
theorem dX1_init_45 : decode cX1_init 45 = .ok (.arraylength, 1) := by decide +kernel
theorem dX1_init_46 : decode cX1_init 46 = .ok (.if_icmp .ge 23, 3) := by decide +kernel
theorem dX1_init_49 : decode cX1_init 49 = .ok (.aload_n 0, 1) := by decide +kernel
theorem dX1_init_50 : decode cX1_init 50 = .ok (.getfield 11, 3) := by decide +kernel
theorem dX1_init_53 : decode cX1_init 53 = .ok (.iload_n 2, 1) := by decide +kernel
theorem dX1_init_54 : decode cX1_init 54 = .ok (.new 9, 3) := by decide +kernel
theorem dX1_init_57 : decode cX1_init 57 = .ok (.dup, 1) := by decide +kernel
theorem dX1_init_58 : decode cX1_init 58 = .ok (.aload_n 1, 1) := by decide +kernel
theorem dX1_init_59 : decode cX1_init 59 = .ok (.invokespecial 24, 3) := by decide +kernel
theorem dX1_init_62 : decode cX1_init 62 = .ok (.aastore, 1) := by decide +kernel
theorem dX1_init_63 : decode cX1_init 63 = .ok (.iinc 2 1, 3) := by decide +kernel
theorem dX1_init_66 : decode cX1_init 66 = .ok (.goto (-26), 3) := by decide +kernel
theorem dX1_init_69 : decode cX1_init 69 = .ok (.return_, 1) := by decide +kernel
theorem dX1_from_0 : decode cX1_from 0 = .ok (.aload_n 0, 1) := by decide +kernel
theorem dX1_from_1 : decode cX1_from 1 = .ok (.getfield 27, 3) := by decide +kernel
theorem dX1_from_4 : decode cX1_from 4 = .ok (.aload_n 1, 1) := by decide +kernel
theorem dX1_from_5 : decode cX1_from 5 = .ok (.invokevirtual 31, 3) := by decide +kernel
theorem dX1_from_8 : decode cX1_from 8 = .ok (.aload_n 0, 1) := by decide +kernel
theorem dX1_from_9 : decode cX1_from 9 = .ok (.getfield 27, 3) := by decide +kernel
theorem dX1_from_12 : decode cX1_from 12 = .ok (.areturn, 1) := by decide +kernel
theorem dX1_bestStep_0 : decode cX1_bestStep 0 = .ok (.iload_n 1, 1) := by decide +kernel
theorem dX1_bestStep_1 : decode cX1_bestStep 1 = .ok (.iconst 0, 1) := by decide +kernel
theorem dX1_bestStep_2 : decode cX1_bestStep 2 = .ok (.aload_n 0, 1) := by decide +kernel
theorem dX1_bestStep_3 : decode cX1_bestStep 3 = .ok (.getfield 21, 3) := by decide +kernel
theorem dX1_bestStep_6 : decode cX1_bestStep 6 = .ok (.arraylength, 1) := by decide +kernel
theorem dX1_bestStep_7 : decode cX1_bestStep 7 = .ok (.iconst 1, 1) := by decide +kernel
theorem dX1_bestStep_8 : decode cX1_bestStep 8 = .ok (.isub, 1) := by decide +kernel
theorem dX1_bestStep_9 : decode cX1_bestStep 9 = .ok (.invokestatic 35, 3) := by decide +kernel
theorem dX1_bestStep_12 : decode cX1_bestStep 12 = .ok (.ifCond .eq 12, 3) := by decide +kernel
theorem dX1_bestStep_15 : decode cX1_bestStep 15 = .ok (.aload_n 0, 1) := by decide +kernel
theorem dX1_bestStep_16 : decode cX1_bestStep 16 = .ok (.getfield 21, 3) := by decide +kernel
theorem dX1_bestStep_19 : decode cX1_bestStep 19 = .ok (.iload_n 1, 1) := by decide +kernel
theorem dX1_bestStep_20 : decode cX1_bestStep 20 = .ok (.iaload, 1) := by decide +kernel
theorem dX1_bestStep_21 : decode cX1_bestStep 21 = .ok (.goto 4, 3) := by decide +kernel
theorem dX1_bestStep_24 : decode cX1_bestStep 24 = .ok (.iconst 0, 1) := by decide +kernel
theorem dX1_bestStep_25 : decode cX1_bestStep 25 = .ok (.ireturn, 1) := by decide +kernel
theorem dX1_bestEnds_0 : decode cX1_bestEnds 0 = .ok (.aload_n 0, 1) := by decide +kernel
theorem dX1_bestEnds_1 : decode cX1_bestEnds 1 = .ok (.getfield 11, 3) := by decide +kernel
theorem dX1_bestEnds_4 : decode cX1_bestEnds 4 = .ok (.iconst 0, 1) := by decide +kernel
theorem dX1_bestEnds_5 : decode cX1_bestEnds 5 = .ok (.aaload, 1) := by decide +kernel
theorem dX1_bestEnds_6 : decode cX1_bestEnds 6 = .ok (.astore 5, 2) := by decide +kernel
theorem dX1_bestEnds_8 : decode cX1_bestEnds 8 = .ok (.aload 5, 2) := by decide +kernel
theorem dX1_bestEnds_10 : decode cX1_bestEnds 10 = .ok (.ifnonnull 5, 3) := by decide +kernel
theorem dX1_bestEnds_13 : decode cX1_bestEnds 13 = .ok (.iconst 0, 1) := by decide +kernel
theorem dX1_bestEnds_14 : decode cX1_bestEnds 14 = .ok (.ireturn, 1) := by decide +kernel
theorem dX1_bestEnds_15 : decode cX1_bestEnds 15 = .ok (.aload 5, 2) := by decide +kernel
theorem dX1_bestEnds_17 : decode cX1_bestEnds 17 = .ok (.aload_n 1, 1) := by decide +kernel
theorem dX1_bestEnds_18 : decode cX1_bestEnds 18 = .ok (.invokevirtual 31, 3) := by decide +kernel
theorem dX1_bestEnds_21 : decode cX1_bestEnds 21 = .ok (.aload 5, 2) := by decide +kernel
theorem dX1_bestEnds_23 : decode cX1_bestEnds 23 = .ok (.iload_n 2, 1) := by decide +kernel
theorem dX1_bestEnds_24 : decode cX1_bestEnds 24 = .ok (.putfield 39, 3) := by decide +kernel
theorem dX1_bestEnds_27 : decode cX1_bestEnds 27 = .ok (.aload_n 0, 1) := by decide +kernel
theorem dX1_bestEnds_28 : decode cX1_bestEnds 28 = .ok (.iconst 0, 1) := by decide +kernel
theorem dX1_bestEnds_29 : decode cX1_bestEnds 29 = .ok (.putfield 43, 3) := by decide +kernel
theorem dX1_bestEnds_32 : decode cX1_bestEnds 32 = .ok (.aload_n 0, 1) := by decide +kernel
theorem dX1_bestEnds_33 : decode cX1_bestEnds 33 = .ok (.iconst 0, 1) := by decide +kernel
theorem dX1_bestEnds_34 : decode cX1_bestEnds 34 = .ok (.iload_n 3, 1) := by decide +kernel
theorem dX1_bestEnds_35 : decode cX1_bestEnds 35 = .ok (.iload 4, 2) := by decide +kernel
theorem dX1_bestEnds_37 : decode cX1_bestEnds 37 = .ok (.invokevirtual 47, 3) := by decide +kernel
theorem dX1_bestEnds_40 : decode cX1_bestEnds 40 = .ok (.aload_n 0, 1) := by decide +kernel
theorem dX1_bestEnds_41 : decode cX1_bestEnds 41 = .ok (.getfield 51, 3) := by decide +kernel
theorem dX1_bestEnds_44 : decode cX1_bestEnds 44 = .ok (.ireturn, 1) := by decide +kernel
theorem dX1_goOn_0 : decode cX1_goOn 0 = .ok (.iload_n 1, 1) := by decide +kernel
theorem dX1_goOn_1 : decode cX1_goOn 1 = .ok (.ifCond .lt 13, 3) := by decide +kernel
theorem dX1_goOn_4 : decode cX1_goOn 4 = .ok (.iload_n 1, 1) := by decide +kernel
theorem dX1_goOn_5 : decode cX1_goOn 5 = .ok (.iload_n 2, 1) := by decide +kernel
theorem dX1_goOn_6 : decode cX1_goOn 6 = .ok (.if_icmp .ge 8, 3) := by decide +kernel
theorem dX1_goOn_9 : decode cX1_goOn 9 = .ok (.iload_n 1, 1) := by decide +kernel
theorem dX1_goOn_10 : decode cX1_goOn 10 = .ok (.iconst 3, 1) := by decide +kernel
theorem dX1_goOn_11 : decode cX1_goOn 11 = .ok (.if_icmp .lt 4, 3) := by decide +kernel
theorem dX1_goOn_14 : decode cX1_goOn 14 = .ok (.return_, 1) := by decide +kernel
theorem dX1_goOn_15 : decode cX1_goOn 15 = .ok (.aload_n 0, 1) := by decide +kernel
theorem dX1_goOn_16 : decode cX1_goOn 16 = .ok (.getfield 11, 3) := by decide +kernel
theorem dX1_goOn_19 : decode cX1_goOn 19 = .ok (.iload_n 1, 1) := by decide +kernel
theorem dX1_goOn_20 : decode cX1_goOn 20 = .ok (.aaload, 1) := by decide +kernel
theorem dX1_goOn_21 : decode cX1_goOn 21 = .ok (.astore 4, 2) := by decide +kernel
theorem dX1_goOn_23 : decode cX1_goOn 23 = .ok (.aload_n 0, 1) := by decide +kernel
theorem dX1_goOn_24 : decode cX1_goOn 24 = .ok (.getfield 11, 3) := by decide +kernel
theorem dX1_goOn_27 : decode cX1_goOn 27 = .ok (.iload_n 1, 1) := by decide +kernel
theorem dX1_goOn_28 : decode cX1_goOn 28 = .ok (.iconst 1, 1) := by decide +kernel
theorem dX1_goOn_29 : decode cX1_goOn 29 = .ok (.iadd, 1) := by decide +kernel
theorem dX1_goOn_30 : decode cX1_goOn 30 = .ok (.aaload, 1) := by decide +kernel
theorem dX1_goOn_31 : decode cX1_goOn 31 = .ok (.astore 5, 2) := by decide +kernel
theorem dX1_goOn_33 : decode cX1_goOn 33 = .ok (.aload 4, 2) := by decide +kernel
theorem dX1_goOn_35 : decode cX1_goOn 35 = .ok (.ifnull 8, 3) := by decide +kernel
theorem dX1_goOn_38 : decode cX1_goOn 38 = .ok (.aload 5, 2) := by decide +kernel
theorem dX1_goOn_40 : decode cX1_goOn 40 = .ok (.ifnonnull 4, 3) := by decide +kernel
theorem dX1_goOn_43 : decode cX1_goOn 43 = .ok (.return_, 1) := by decide +kernel
theorem dX1_goOn_44 : decode cX1_goOn 44 = .ok (.aload 4, 2) := by decide +kernel
theorem dX1_goOn_46 : decode cX1_goOn 46 = .ok (.invokevirtual 54, 3) := by decide +kernel
theorem dX1_goOn_49 : decode cX1_goOn 49 = .ok (.iload_n 3, 1) := by decide +kernel
theorem dX1_goOn_50 : decode cX1_goOn 50 = .ok (.ifCond .eq 11, 3) := by decide +kernel
theorem dX1_goOn_53 : decode cX1_goOn 53 = .ok (.aload 4, 2) := by decide +kernel
theorem dX1_goOn_55 : decode cX1_goOn 55 = .ok (.getfield 57, 3) := by decide +kernel
theorem dX1_goOn_58 : decode cX1_goOn 58 = .ok (.goto 4, 3) := by decide +kernel
theorem dX1_goOn_61 : decode cX1_goOn 61 = .ok (.iconst 0, 1) := by decide +kernel
theorem dX1_goOn_62 : decode cX1_goOn 62 = .ok (.istore 6, 2) := by decide +kernel
theorem dX1_goOn_64 : decode cX1_goOn 64 = .ok (.iload 6, 2) := by decide +kernel
theorem dX1_goOn_66 : decode cX1_goOn 66 = .ok (.bipush 10, 2) := by decide +kernel
theorem dX1_goOn_68 : decode cX1_goOn 68 = .ok (.if_icmp .ge 68, 3) := by decide +kernel
theorem dX1_goOn_71 : decode cX1_goOn 71 = .ok (.aload_n 0, 1) := by decide +kernel
theorem dX1_goOn_72 : decode cX1_goOn 72 = .ok (.getfield 17, 3) := by decide +kernel
theorem dX1_goOn_75 : decode cX1_goOn 75 = .ok (.iload_n 1, 1) := by decide +kernel
theorem dX1_goOn_76 : decode cX1_goOn 76 = .ok (.iload 6, 2) := by decide +kernel
theorem dX1_goOn_78 : decode cX1_goOn 78 = .ok (.iastore, 1) := by decide +kernel
theorem dX1_goOn_79 : decode cX1_goOn 79 = .ok (.aload 5, 2) := by decide +kernel
theorem dX1_goOn_81 : decode cX1_goOn 81 = .ok (.aload 4, 2) := by decide +kernel
theorem dX1_goOn_83 : decode cX1_goOn 83 = .ok (.invokevirtual 31, 3) := by decide +kernel
theorem dX1_goOn_86 : decode cX1_goOn 86 = .ok (.aload 5, 2) := by decide +kernel
theorem dX1_goOn_88 : decode cX1_goOn 88 = .ok (.iload 6, 2) := by decide +kernel
theorem dX1_goOn_90 : decode cX1_goOn 90 = .ok (.iconst 0, 1) := by decide +kernel
theorem dX1_goOn_91 : decode cX1_goOn 91 = .ok (.sipush 255, 3) := by decide +kernel
theorem dX1_goOn_94 : decode cX1_goOn 94 = .ok (.invokevirtual 60, 3) := by decide +kernel
theorem dX1_goOn_97 : decode cX1_goOn 97 = .ok (.iload_n 1, 1) := by decide +kernel
theorem dX1_goOn_98 : decode cX1_goOn 98 = .ok (.iconst 1, 1) := by decide +kernel
theorem dX1_goOn_99 : decode cX1_goOn 99 = .ok (.iadd, 1) := by decide +kernel
theorem dX1_goOn_100 : decode cX1_goOn 100 = .ok (.iload_n 2, 1) := by decide +kernel
theorem dX1_goOn_101 : decode cX1_goOn 101 = .ok (.if_icmp .ne 15, 3) := by decide +kernel
theorem dX1_goOn_104 : decode cX1_goOn 104 = .ok (.aload_n 0, 1) := by decide +kernel
theorem dX1_goOn_105 : decode cX1_goOn 105 = .ok (.aload 5, 2) := by decide +kernel
theorem dX1_goOn_107 : decode cX1_goOn 107 = .ok (.invokevirtual 64, 3) := by decide +kernel
theorem dX1_goOn_110 : decode cX1_goOn 110 = .ok (.invokevirtual 68, 3) := by decide +kernel
theorem dX1_goOn_113 : decode cX1_goOn 113 = .ok (.goto 17, 3) := by decide +kernel
theorem dX1_goOn_116 : decode cX1_goOn 116 = .ok (.aload 5, 2) := by decide +kernel
theorem dX1_goOn_118 : decode cX1_goOn 118 = .ok (.invokevirtual 72, 3) := by decide +kernel
theorem dX1_goOn_121 : decode cX1_goOn 121 = .ok (.aload_n 0, 1) := by decide +kernel
theorem dX1_goOn_122 : decode cX1_goOn 122 = .ok (.iload_n 1, 1) := by decide +kernel
theorem dX1_goOn_123 : decode cX1_goOn 123 = .ok (.iconst 1, 1) := by decide +kernel
theorem dX1_goOn_124 : decode cX1_goOn 124 = .ok (.iadd, 1) := by decide +kernel
theorem dX1_goOn_125 : decode cX1_goOn 125 = .ok (.iload_n 2, 1) := by decide +kernel
theorem dX1_goOn_126 : decode cX1_goOn 126 = .ok (.iload_n 3, 1) := by decide +kernel
theorem dX1_goOn_127 : decode cX1_goOn 127 = .ok (.invokevirtual 47, 3) := by decide +kernel
theorem dX1_goOn_130 : decode cX1_goOn 130 = .ok (.iinc 6 1, 3) := by decide +kernel
theorem dX1_goOn_133 : decode cX1_goOn 133 = .ok (.goto (-69), 3) := by decide +kernel
theorem dX1_goOn_136 : decode cX1_goOn 136 = .ok (.return_, 1) := by decide +kernel
theorem dX1_keepIfMore_0 : decode cX1_keepIfMore 0 = .ok (.aload_n 0, 1) := by decide +kernel
theorem dX1_keepIfMore_1 : decode cX1_keepIfMore 1 = .ok (.getfield 43, 3) := by decide +kernel
theorem dX1_keepIfMore_4 : decode cX1_keepIfMore 4 = .ok (.ifCond .eq 11, 3) := by decide +kernel
theorem dX1_keepIfMore_7 : decode cX1_keepIfMore 7 = .ok (.iload_n 1, 1) := by decide +kernel
theorem dX1_keepIfMore_8 : decode cX1_keepIfMore 8 = .ok (.aload_n 0, 1) := by decide +kernel
theorem dX1_keepIfMore_9 : decode cX1_keepIfMore 9 = .ok (.getfield 51, 3) := by decide +kernel
theorem dX1_keepIfMore_12 : decode cX1_keepIfMore 12 = .ok (.if_icmp .le 27, 3) := by decide +kernel
theorem dX1_keepIfMore_15 : decode cX1_keepIfMore 15 = .ok (.aload_n 0, 1) := by decide +kernel
theorem dX1_keepIfMore_16 : decode cX1_keepIfMore 16 = .ok (.iconst 1, 1) := by decide +kernel
theorem dX1_keepIfMore_17 : decode cX1_keepIfMore 17 = .ok (.putfield 43, 3) := by decide +kernel
theorem dX1_keepIfMore_20 : decode cX1_keepIfMore 20 = .ok (.aload_n 0, 1) := by decide +kernel
theorem dX1_keepIfMore_21 : decode cX1_keepIfMore 21 = .ok (.iload_n 1, 1) := by decide +kernel
theorem dX1_keepIfMore_22 : decode cX1_keepIfMore 22 = .ok (.putfield 51, 3) := by decide +kernel
theorem dX1_keepIfMore_25 : decode cX1_keepIfMore 25 = .ok (.aload_n 0, 1) := by decide +kernel
theorem dX1_keepIfMore_26 : decode cX1_keepIfMore 26 = .ok (.getfield 17, 3) := by decide +kernel
theorem dX1_keepIfMore_29 : decode cX1_keepIfMore 29 = .ok (.iconst 0, 1) := by decide +kernel
theorem dX1_keepIfMore_30 : decode cX1_keepIfMore 30 = .ok (.aload_n 0, 1) := by decide +kernel
theorem dX1_keepIfMore_31 : decode cX1_keepIfMore 31 = .ok (.getfield 21, 3) := by decide +kernel
theorem dX1_keepIfMore_34 : decode cX1_keepIfMore 34 = .ok (.iconst 0, 1) := by decide +kernel
theorem dX1_keepIfMore_35 : decode cX1_keepIfMore 35 = .ok (.iconst 3, 1) := by decide +kernel
theorem dX1_keepIfMore_36 : decode cX1_keepIfMore 36 = .ok (.invokestatic 75, 3) := by decide +kernel
theorem dX1_keepIfMore_39 : decode cX1_keepIfMore 39 = .ok (.return_, 1) := by decide +kernel
theorem dX1_leastKeptToRaise_0 : decode cX1_leastKeptToRaise 0 = .ok (.aload_n 1, 1) := by decide +kernel
theorem dX1_leastKeptToRaise_1 : decode cX1_leastKeptToRaise 1 = .ok (.getfield 57, 3) := by decide +kernel
theorem dX1_leastKeptToRaise_4 : decode cX1_leastKeptToRaise 4 = .ok (.bipush 9, 2) := by decide +kernel
theorem dX1_leastKeptToRaise_6 : decode cX1_leastKeptToRaise 6 = .ok (.if_icmp .lt 5, 3) := by decide +kernel
theorem dX1_leastKeptToRaise_9 : decode cX1_leastKeptToRaise 9 = .ok (.iconst (-1), 1) := by decide +kernel
theorem dX1_leastKeptToRaise_10 : decode cX1_leastKeptToRaise 10 = .ok (.ireturn, 1) := by decide +kernel
theorem dX1_leastKeptToRaise_11 : decode cX1_leastKeptToRaise 11 = .ok (.iconst 0, 1) := by decide +kernel
theorem dX1_leastKeptToRaise_12 : decode cX1_leastKeptToRaise 12 = .ok (.istore_n 3, 1) := by decide +kernel
theorem dX1_leastKeptToRaise_13 : decode cX1_leastKeptToRaise 13 = .ok (.iload_n 3, 1) := by decide +kernel
theorem dX1_leastKeptToRaise_14 : decode cX1_leastKeptToRaise 14 = .ok (.bipush 60, 2) := by decide +kernel
theorem dX1_leastKeptToRaise_16 : decode cX1_leastKeptToRaise 16 = .ok (.if_icmp .gt 33, 3) := by decide +kernel
theorem dX1_leastKeptToRaise_19 : decode cX1_leastKeptToRaise 19 = .ok (.aload_n 0, 1) := by decide +kernel
theorem dX1_leastKeptToRaise_20 : decode cX1_leastKeptToRaise 20 = .ok (.aload_n 1, 1) := by decide +kernel
theorem dX1_leastKeptToRaise_21 : decode cX1_leastKeptToRaise 21 = .ok (.iload_n 3, 1) := by decide +kernel
theorem dX1_leastKeptToRaise_22 : decode cX1_leastKeptToRaise 22 = .ok (.iload_n 2, 1) := by decide +kernel
theorem dX1_leastKeptToRaise_23 : decode cX1_leastKeptToRaise 23 = .ok (.iconst 0, 1) := by decide +kernel
theorem dX1_leastKeptToRaise_24 : decode cX1_leastKeptToRaise 24 = .ok (.invokevirtual 81, 3) := by decide +kernel
theorem dX1_leastKeptToRaise_27 : decode cX1_leastKeptToRaise 27 = .ok (.pop, 1) := by decide +kernel
theorem dX1_leastKeptToRaise_28 : decode cX1_leastKeptToRaise 28 = .ok (.aload_n 0, 1) := by decide +kernel
theorem dX1_leastKeptToRaise_29 : decode cX1_leastKeptToRaise 29 = .ok (.getfield 21, 3) := by decide +kernel
theorem dX1_leastKeptToRaise_32 : decode cX1_leastKeptToRaise 32 = .ok (.iconst 0, 1) := by decide +kernel
theorem dX1_leastKeptToRaise_33 : decode cX1_leastKeptToRaise 33 = .ok (.iaload, 1) := by decide +kernel
theorem dX1_leastKeptToRaise_34 : decode cX1_leastKeptToRaise 34 = .ok (.aload_n 1, 1) := by decide +kernel
theorem dX1_leastKeptToRaise_35 : decode cX1_leastKeptToRaise 35 = .ok (.getfield 57, 3) := by decide +kernel
theorem dX1_leastKeptToRaise_38 : decode cX1_leastKeptToRaise 38 = .ok (.if_icmp .le 5, 3) := by decide +kernel
theorem dX1_leastKeptToRaise_41 : decode cX1_leastKeptToRaise 41 = .ok (.iload_n 3, 1) := by decide +kernel
theorem dX1_leastKeptToRaise_42 : decode cX1_leastKeptToRaise 42 = .ok (.ireturn, 1) := by decide +kernel
theorem dX1_leastKeptToRaise_43 : decode cX1_leastKeptToRaise 43 = .ok (.iinc 3 1, 3) := by decide +kernel
theorem dX1_leastKeptToRaise_46 : decode cX1_leastKeptToRaise 46 = .ok (.goto (-33), 3) := by decide +kernel
theorem dX1_leastKeptToRaise_49 : decode cX1_leastKeptToRaise 49 = .ok (.iconst (-1), 1) := by decide +kernel
theorem dX1_leastKeptToRaise_50 : decode cX1_leastKeptToRaise 50 = .ok (.ireturn, 1) := by decide +kernel
theorem dX1_bestBack_0 : decode cX1_bestBack 0 = .ok (.iconst 0, 1) := by decide +kernel
theorem dX1_bestBack_1 : decode cX1_bestBack 1 = .ok (.istore 4, 2) := by decide +kernel
theorem dX1_bestBack_3 : decode cX1_bestBack 3 = .ok (.iconst 0, 1) := by decide +kernel
theorem dX1_bestBack_4 : decode cX1_bestBack 4 = .ok (.istore 5, 2) := by decide +kernel
theorem dX1_bestBack_6 : decode cX1_bestBack 6 = .ok (.iconst 0, 1) := by decide +kernel
theorem dX1_bestBack_7 : decode cX1_bestBack 7 = .ok (.istore 6, 2) := by decide +kernel
theorem dX1_bestBack_9 : decode cX1_bestBack 9 = .ok (.iload 6, 2) := by decide +kernel
theorem dX1_bestBack_11 : decode cX1_bestBack 11 = .ok (.bipush 20, 2) := by decide +kernel
theorem dX1_bestBack_13 : decode cX1_bestBack 13 = .ok (.if_icmp .gt 68, 3) := by decide +kernel
theorem dX1_bestBack_16 : decode cX1_bestBack 16 = .ok (.aload_n 0, 1) := by decide +kernel
theorem dX1_bestBack_17 : decode cX1_bestBack 17 = .ok (.getfield 27, 3) := by decide +kernel
theorem dX1_bestBack_20 : decode cX1_bestBack 20 = .ok (.aload_n 1, 1) := by decide +kernel
theorem dX1_bestBack_21 : decode cX1_bestBack 21 = .ok (.invokevirtual 31, 3) := by decide +kernel
theorem dX1_bestBack_24 : decode cX1_bestBack 24 = .ok (.aload_n 0, 1) := by decide +kernel
theorem dX1_bestBack_25 : decode cX1_bestBack 25 = .ok (.getfield 27, 3) := by decide +kernel
theorem dX1_bestBack_28 : decode cX1_bestBack 28 = .ok (.iload_n 3, 1) := by decide +kernel
theorem dX1_bestBack_29 : decode cX1_bestBack 29 = .ok (.iload 6, 2) := by decide +kernel
theorem dX1_bestBack_31 : decode cX1_bestBack 31 = .ok (.sipush 255, 3) := by decide +kernel
theorem dX1_bestBack_34 : decode cX1_bestBack 34 = .ok (.invokevirtual 85, 3) := by decide +kernel
theorem dX1_bestBack_37 : decode cX1_bestBack 37 = .ok (.aload_n 0, 1) := by decide +kernel
theorem dX1_bestBack_38 : decode cX1_bestBack 38 = .ok (.getfield 27, 3) := by decide +kernel
theorem dX1_bestBack_41 : decode cX1_bestBack 41 = .ok (.iload_n 2, 1) := by decide +kernel
theorem dX1_bestBack_42 : decode cX1_bestBack 42 = .ok (.iload_n 3, 1) := by decide +kernel
theorem dX1_bestBack_43 : decode cX1_bestBack 43 = .ok (.invokevirtual 88, 3) := by decide +kernel
theorem dX1_bestBack_46 : decode cX1_bestBack 46 = .ok (.aload_n 0, 1) := by decide +kernel
theorem dX1_bestBack_47 : decode cX1_bestBack 47 = .ok (.getfield 27, 3) := by decide +kernel
theorem dX1_bestBack_50 : decode cX1_bestBack 50 = .ok (.invokevirtual 64, 3) := by decide +kernel
theorem dX1_bestBack_53 : decode cX1_bestBack 53 = .ok (.istore 7, 2) := by decide +kernel
theorem dX1_bestBack_55 : decode cX1_bestBack 55 = .ok (.iload 6, 2) := by decide +kernel
theorem dX1_bestBack_57 : decode cX1_bestBack 57 = .ok (.ifCond .eq 10, 3) := by decide +kernel
theorem dX1_bestBack_60 : decode cX1_bestBack 60 = .ok (.iload 7, 2) := by decide +kernel
theorem dX1_bestBack_62 : decode cX1_bestBack 62 = .ok (.iload 5, 2) := by decide +kernel
theorem dX1_bestBack_64 : decode cX1_bestBack 64 = .ok (.if_icmp .le 11, 3) := by decide +kernel
theorem dX1_bestBack_67 : decode cX1_bestBack 67 = .ok (.iload 6, 2) := by decide +kernel
theorem dX1_bestBack_69 : decode cX1_bestBack 69 = .ok (.istore 4, 2) := by decide +kernel
theorem dX1_bestBack_71 : decode cX1_bestBack 71 = .ok (.iload 7, 2) := by decide +kernel
theorem dX1_bestBack_73 : decode cX1_bestBack 73 = .ok (.istore 5, 2) := by decide +kernel
theorem dX1_bestBack_75 : decode cX1_bestBack 75 = .ok (.iinc 6 1, 3) := by decide +kernel
theorem dX1_bestBack_78 : decode cX1_bestBack 78 = .ok (.goto (-69), 3) := by decide +kernel
theorem dX1_bestBack_81 : decode cX1_bestBack 81 = .ok (.iload 4, 2) := by decide +kernel
theorem dX1_bestBack_83 : decode cX1_bestBack 83 = .ok (.ireturn, 1) := by decide +kernel
theorem dX1_bestGiven_0 : decode cX1_bestGiven 0 = .ok (.iconst 0, 1) := by decide +kernel
theorem dX1_bestGiven_1 : decode cX1_bestGiven 1 = .ok (.istore 4, 2) := by decide +kernel
theorem dX1_bestGiven_3 : decode cX1_bestGiven 3 = .ok (.iconst 0, 1) := by decide +kernel
theorem dX1_bestGiven_4 : decode cX1_bestGiven 4 = .ok (.istore 5, 2) := by decide +kernel
theorem dX1_bestGiven_6 : decode cX1_bestGiven 6 = .ok (.iconst 0, 1) := by decide +kernel
theorem dX1_bestGiven_7 : decode cX1_bestGiven 7 = .ok (.istore 6, 2) := by decide +kernel
theorem dX1_bestGiven_9 : decode cX1_bestGiven 9 = .ok (.iload 6, 2) := by decide +kernel
theorem dX1_bestGiven_11 : decode cX1_bestGiven 11 = .ok (.aload_n 1, 1) := by decide +kernel
theorem dX1_bestGiven_12 : decode cX1_bestGiven 12 = .ok (.getfield 92, 3) := by decide +kernel
theorem dX1_bestGiven_15 : decode cX1_bestGiven 15 = .ok (.getfield 96, 3) := by decide +kernel
theorem dX1_bestGiven_18 : decode cX1_bestGiven 18 = .ok (.if_icmp .ge 64, 3) := by decide +kernel
theorem dX1_bestGiven_21 : decode cX1_bestGiven 21 = .ok (.aload_n 0, 1) := by decide +kernel
theorem dX1_bestGiven_22 : decode cX1_bestGiven 22 = .ok (.getfield 27, 3) := by decide +kernel
theorem dX1_bestGiven_25 : decode cX1_bestGiven 25 = .ok (.aload_n 1, 1) := by decide +kernel
theorem dX1_bestGiven_26 : decode cX1_bestGiven 26 = .ok (.invokevirtual 31, 3) := by decide +kernel
theorem dX1_bestGiven_29 : decode cX1_bestGiven 29 = .ok (.aload_n 0, 1) := by decide +kernel
theorem dX1_bestGiven_30 : decode cX1_bestGiven 30 = .ok (.getfield 27, 3) := by decide +kernel
theorem dX1_bestGiven_33 : decode cX1_bestGiven 33 = .ok (.iload 6, 2) := by decide +kernel
theorem dX1_bestGiven_35 : decode cX1_bestGiven 35 = .ok (.invokevirtual 101, 3) := by decide +kernel
theorem dX1_bestGiven_38 : decode cX1_bestGiven 38 = .ok (.aload_n 0, 1) := by decide +kernel
theorem dX1_bestGiven_39 : decode cX1_bestGiven 39 = .ok (.getfield 27, 3) := by decide +kernel
theorem dX1_bestGiven_42 : decode cX1_bestGiven 42 = .ok (.iload_n 2, 1) := by decide +kernel
theorem dX1_bestGiven_43 : decode cX1_bestGiven 43 = .ok (.iload_n 3, 1) := by decide +kernel
theorem dX1_bestGiven_44 : decode cX1_bestGiven 44 = .ok (.invokevirtual 88, 3) := by decide +kernel
theorem dX1_bestGiven_47 : decode cX1_bestGiven 47 = .ok (.aload_n 0, 1) := by decide +kernel
theorem dX1_bestGiven_48 : decode cX1_bestGiven 48 = .ok (.getfield 27, 3) := by decide +kernel
theorem dX1_bestGiven_51 : decode cX1_bestGiven 51 = .ok (.invokevirtual 64, 3) := by decide +kernel
theorem dX1_bestGiven_54 : decode cX1_bestGiven 54 = .ok (.istore 7, 2) := by decide +kernel
theorem dX1_bestGiven_56 : decode cX1_bestGiven 56 = .ok (.iload 6, 2) := by decide +kernel
theorem dX1_bestGiven_58 : decode cX1_bestGiven 58 = .ok (.ifCond .eq 10, 3) := by decide +kernel
theorem dX1_bestGiven_61 : decode cX1_bestGiven 61 = .ok (.iload 7, 2) := by decide +kernel
theorem dX1_bestGiven_63 : decode cX1_bestGiven 63 = .ok (.iload 5, 2) := by decide +kernel
theorem dX1_bestGiven_65 : decode cX1_bestGiven 65 = .ok (.if_icmp .le 11, 3) := by decide +kernel
theorem dX1_bestGiven_68 : decode cX1_bestGiven 68 = .ok (.iload 6, 2) := by decide +kernel
theorem dX1_bestGiven_70 : decode cX1_bestGiven 70 = .ok (.istore 4, 2) := by decide +kernel
theorem dX1_bestGiven_72 : decode cX1_bestGiven 72 = .ok (.iload 7, 2) := by decide +kernel
theorem dX1_bestGiven_74 : decode cX1_bestGiven 74 = .ok (.istore 5, 2) := by decide +kernel
theorem dX1_bestGiven_76 : decode cX1_bestGiven 76 = .ok (.iinc 6 1, 3) := by decide +kernel
theorem dX1_bestGiven_79 : decode cX1_bestGiven 79 = .ok (.goto (-70), 3) := by decide +kernel
theorem dX1_bestGiven_82 : decode cX1_bestGiven 82 = .ok (.iload 4, 2) := by decide +kernel
theorem dX1_bestGiven_84 : decode cX1_bestGiven 84 = .ok (.ireturn, 1) := by decide +kernel
theorem dX1_endsWithMore_0 : decode cX1_endsWithMore 0 = .ok (.aload_n 0, 1) := by decide +kernel
theorem dX1_endsWithMore_1 : decode cX1_endsWithMore 1 = .ok (.getfield 27, 3) := by decide +kernel
theorem dX1_endsWithMore_4 : decode cX1_endsWithMore 4 = .ok (.aload_n 1, 1) := by decide +kernel
theorem dX1_endsWithMore_5 : decode cX1_endsWithMore 5 = .ok (.invokevirtual 31, 3) := by decide +kernel
theorem dX1_endsWithMore_8 : decode cX1_endsWithMore 8 = .ok (.aload_n 0, 1) := by decide +kernel
theorem dX1_endsWithMore_9 : decode cX1_endsWithMore 9 = .ok (.getfield 27, 3) := by decide +kernel
theorem dX1_endsWithMore_12 : decode cX1_endsWithMore 12 = .ok (.aload_n 1, 1) := by decide +kernel
theorem dX1_endsWithMore_13 : decode cX1_endsWithMore 13 = .ok (.getfield 104, 3) := by decide +kernel
theorem dX1_endsWithMore_16 : decode cX1_endsWithMore 16 = .ok (.iload_n 2, 1) := by decide +kernel
theorem dX1_endsWithMore_17 : decode cX1_endsWithMore 17 = .ok (.iadd, 1) := by decide +kernel
theorem dX1_endsWithMore_18 : decode cX1_endsWithMore 18 = .ok (.iconst 0, 1) := by decide +kernel
theorem dX1_endsWithMore_19 : decode cX1_endsWithMore 19 = .ok (.bipush 20, 2) := by decide +kernel
theorem dX1_endsWithMore_21 : decode cX1_endsWithMore 21 = .ok (.invokestatic 107, 3) := by decide +kernel
theorem dX1_endsWithMore_24 : decode cX1_endsWithMore 24 = .ok (.putfield 104, 3) := by decide +kernel
theorem dX1_endsWithMore_27 : decode cX1_endsWithMore 27 = .ok (.aload_n 0, 1) := by decide +kernel
theorem dX1_endsWithMore_28 : decode cX1_endsWithMore 28 = .ok (.getfield 27, 3) := by decide +kernel
theorem dX1_endsWithMore_31 : decode cX1_endsWithMore 31 = .ok (.iload_n 3, 1) := by decide +kernel
theorem dX1_endsWithMore_32 : decode cX1_endsWithMore 32 = .ok (.iload 4, 2) := by decide +kernel
theorem dX1_endsWithMore_34 : decode cX1_endsWithMore 34 = .ok (.invokevirtual 88, 3) := by decide +kernel
theorem dX1_endsWithMore_37 : decode cX1_endsWithMore 37 = .ok (.aload_n 0, 1) := by decide +kernel
theorem dX1_endsWithMore_38 : decode cX1_endsWithMore 38 = .ok (.getfield 27, 3) := by decide +kernel
theorem dX1_endsWithMore_41 : decode cX1_endsWithMore 41 = .ok (.invokevirtual 64, 3) := by decide +kernel
theorem dX1_endsWithMore_44 : decode cX1_endsWithMore 44 = .ok (.ireturn, 1) := by decide +kernel
theorem dX1_yearsToRest_0 : decode cX1_yearsToRest 0 = .ok (.aload_n 0, 1) := by decide +kernel
theorem dX1_yearsToRest_1 : decode cX1_yearsToRest 1 = .ok (.getfield 27, 3) := by decide +kernel
theorem dX1_yearsToRest_4 : decode cX1_yearsToRest 4 = .ok (.aload_n 1, 1) := by decide +kernel
theorem dX1_yearsToRest_5 : decode cX1_yearsToRest 5 = .ok (.invokevirtual 31, 3) := by decide +kernel
theorem dX1_yearsToRest_8 : decode cX1_yearsToRest 8 = .ok (.iconst 1, 1) := by decide +kernel
theorem dX1_yearsToRest_9 : decode cX1_yearsToRest 9 = .ok (.istore_n 3, 1) := by decide +kernel
theorem dX1_yearsToRest_10 : decode cX1_yearsToRest 10 = .ok (.iload_n 3, 1) := by decide +kernel
theorem dX1_yearsToRest_11 : decode cX1_yearsToRest 11 = .ok (.bipush 40, 2) := by decide +kernel
theorem dX1_yearsToRest_13 : decode cX1_yearsToRest 13 = .ok (.if_icmp .gt 65, 3) := by decide +kernel
theorem dX1_yearsToRest_16 : decode cX1_yearsToRest 16 = .ok (.aload_n 0, 1) := by decide +kernel
theorem dX1_yearsToRest_17 : decode cX1_yearsToRest 17 = .ok (.getfield 27, 3) := by decide +kernel
theorem dX1_yearsToRest_20 : decode cX1_yearsToRest 20 = .ok (.getfield 111, 3) := by decide +kernel
theorem dX1_yearsToRest_23 : decode cX1_yearsToRest 23 = .ok (.istore 4, 2) := by decide +kernel
theorem dX1_yearsToRest_25 : decode cX1_yearsToRest 25 = .ok (.aload_n 0, 1) := by decide +kernel
theorem dX1_yearsToRest_26 : decode cX1_yearsToRest 26 = .ok (.getfield 27, 3) := by decide +kernel
theorem dX1_yearsToRest_29 : decode cX1_yearsToRest 29 = .ok (.getfield 39, 3) := by decide +kernel
theorem dX1_yearsToRest_32 : decode cX1_yearsToRest 32 = .ok (.istore 5, 2) := by decide +kernel
theorem dX1_yearsToRest_34 : decode cX1_yearsToRest 34 = .ok (.aload_n 0, 1) := by decide +kernel
theorem dX1_yearsToRest_35 : decode cX1_yearsToRest 35 = .ok (.getfield 27, 3) := by decide +kernel
theorem dX1_yearsToRest_38 : decode cX1_yearsToRest 38 = .ok (.iload_n 2, 1) := by decide +kernel
theorem dX1_yearsToRest_39 : decode cX1_yearsToRest 39 = .ok (.iconst 0, 1) := by decide +kernel
theorem dX1_yearsToRest_40 : decode cX1_yearsToRest 40 = .ok (.sipush 255, 3) := by decide +kernel
theorem dX1_yearsToRest_43 : decode cX1_yearsToRest 43 = .ok (.invokevirtual 85, 3) := by decide +kernel
theorem dX1_yearsToRest_46 : decode cX1_yearsToRest 46 = .ok (.aload_n 0, 1) := by decide +kernel
theorem dX1_yearsToRest_47 : decode cX1_yearsToRest 47 = .ok (.getfield 27, 3) := by decide +kernel
theorem dX1_yearsToRest_50 : decode cX1_yearsToRest 50 = .ok (.getfield 111, 3) := by decide +kernel
theorem dX1_yearsToRest_53 : decode cX1_yearsToRest 53 = .ok (.iload 4, 2) := by decide +kernel
theorem dX1_yearsToRest_55 : decode cX1_yearsToRest 55 = .ok (.if_icmp .ne 17, 3) := by decide +kernel
theorem dX1_yearsToRest_58 : decode cX1_yearsToRest 58 = .ok (.aload_n 0, 1) := by decide +kernel
theorem dX1_yearsToRest_59 : decode cX1_yearsToRest 59 = .ok (.getfield 27, 3) := by decide +kernel
theorem dX1_yearsToRest_62 : decode cX1_yearsToRest 62 = .ok (.getfield 39, 3) := by decide +kernel
theorem dX1_yearsToRest_65 : decode cX1_yearsToRest 65 = .ok (.iload 5, 2) := by decide +kernel
theorem dX1_yearsToRest_67 : decode cX1_yearsToRest 67 = .ok (.if_icmp .ne 5, 3) := by decide +kernel
theorem dX1_yearsToRest_70 : decode cX1_yearsToRest 70 = .ok (.iload_n 3, 1) := by decide +kernel
theorem dX1_yearsToRest_71 : decode cX1_yearsToRest 71 = .ok (.ireturn, 1) := by decide +kernel
theorem dX1_yearsToRest_72 : decode cX1_yearsToRest 72 = .ok (.iinc 3 1, 3) := by decide +kernel
theorem dX1_yearsToRest_75 : decode cX1_yearsToRest 75 = .ok (.goto (-65), 3) := by decide +kernel
theorem dX1_yearsToRest_78 : decode cX1_yearsToRest 78 = .ok (.iconst (-1), 1) := by decide +kernel
theorem dX1_yearsToRest_79 : decode cX1_yearsToRest 79 = .ok (.ireturn, 1) := by decide +kernel
theorem dX1_leastClearing_0 : decode cX1_leastClearing 0 = .ok (.aload_n 1, 1) := by decide +kernel
theorem dX1_leastClearing_1 : decode cX1_leastClearing 1 = .ok (.invokevirtual 114, 3) := by decide +kernel
theorem dX1_leastClearing_4 : decode cX1_leastClearing 4 = .ok (.ifCond .ne 5, 3) := by decide +kernel
theorem dX1_leastClearing_7 : decode cX1_leastClearing 7 = .ok (.iconst (-1), 1) := by decide +kernel
theorem dX1_leastClearing_8 : decode cX1_leastClearing 8 = .ok (.ireturn, 1) := by decide +kernel
theorem dX1_leastClearing_9 : decode cX1_leastClearing 9 = .ok (.iconst 0, 1) := by decide +kernel
theorem dX1_leastClearing_10 : decode cX1_leastClearing 10 = .ok (.istore_n 2, 1) := by decide +kernel
theorem dX1_leastClearing_11 : decode cX1_leastClearing 11 = .ok (.iload_n 2, 1) := by decide +kernel
theorem dX1_leastClearing_12 : decode cX1_leastClearing 12 = .ok (.bipush 10, 2) := by decide +kernel
theorem dX1_leastClearing_14 : decode cX1_leastClearing 14 = .ok (.if_icmp .ge 41, 3) := by decide +kernel
theorem dX1_leastClearing_17 : decode cX1_leastClearing 17 = .ok (.aload_n 0, 1) := by decide +kernel
theorem dX1_leastClearing_18 : decode cX1_leastClearing 18 = .ok (.getfield 27, 3) := by decide +kernel
theorem dX1_leastClearing_21 : decode cX1_leastClearing 21 = .ok (.aload_n 1, 1) := by decide +kernel
theorem dX1_leastClearing_22 : decode cX1_leastClearing 22 = .ok (.invokevirtual 31, 3) := by decide +kernel
theorem dX1_leastClearing_25 : decode cX1_leastClearing 25 = .ok (.aload_n 0, 1) := by decide +kernel
theorem dX1_leastClearing_26 : decode cX1_leastClearing 26 = .ok (.getfield 27, 3) := by decide +kernel
theorem dX1_leastClearing_29 : decode cX1_leastClearing 29 = .ok (.iload_n 2, 1) := by decide +kernel
theorem dX1_leastClearing_30 : decode cX1_leastClearing 30 = .ok (.iconst 0, 1) := by decide +kernel
theorem dX1_leastClearing_31 : decode cX1_leastClearing 31 = .ok (.sipush 255, 3) := by decide +kernel
theorem dX1_leastClearing_34 : decode cX1_leastClearing 34 = .ok (.invokevirtual 85, 3) := by decide +kernel
theorem dX1_leastClearing_37 : decode cX1_leastClearing 37 = .ok (.aload_n 0, 1) := by decide +kernel
theorem dX1_leastClearing_38 : decode cX1_leastClearing 38 = .ok (.getfield 27, 3) := by decide +kernel
theorem dX1_leastClearing_41 : decode cX1_leastClearing 41 = .ok (.getfield 117, 3) := by decide +kernel
theorem dX1_leastClearing_44 : decode cX1_leastClearing 44 = .ok (.ifCond .ne 5, 3) := by decide +kernel
theorem dX1_leastClearing_47 : decode cX1_leastClearing 47 = .ok (.iload_n 2, 1) := by decide +kernel
theorem dX1_leastClearing_48 : decode cX1_leastClearing 48 = .ok (.ireturn, 1) := by decide +kernel
theorem dX1_leastClearing_49 : decode cX1_leastClearing 49 = .ok (.iinc 2 1, 3) := by decide +kernel
theorem dX1_leastClearing_52 : decode cX1_leastClearing 52 = .ok (.goto (-41), 3) := by decide +kernel
theorem dX1_leastClearing_55 : decode cX1_leastClearing 55 = .ok (.iconst (-1), 1) := by decide +kernel
theorem dX1_leastClearing_56 : decode cX1_leastClearing 56 = .ok (.ireturn, 1) := by decide +kernel
theorem dX2_init_0 : decode cX2_init 0 = .ok (.aload_n 0, 1) := by decide +kernel
theorem dX2_init_1 : decode cX2_init 1 = .ok (.invokespecial 3, 3) := by decide +kernel
theorem dX2_init_4 : decode cX2_init 4 = .ok (.aload_n 0, 1) := by decide +kernel
theorem dX2_init_5 : decode cX2_init 5 = .ok (.bipush 50, 2) := by decide +kernel
theorem dX2_init_7 : decode cX2_init 7 = .ok (.newarray .int, 2) := by decide +kernel
theorem dX2_init_9 : decode cX2_init 9 = .ok (.putfield 9, 3) := by decide +kernel
theorem dX2_init_12 : decode cX2_init 12 = .ok (.aload_n 0, 1) := by decide +kernel
theorem dX2_init_13 : decode cX2_init 13 = .ok (.bipush 50, 2) := by decide +kernel
theorem dX2_init_15 : decode cX2_init 15 = .ok (.newarray .int, 2) := by decide +kernel
theorem dX2_init_17 : decode cX2_init 17 = .ok (.putfield 15, 3) := by decide +kernel
theorem dX2_init_20 : decode cX2_init 20 = .ok (.return_, 1) := by decide +kernel
theorem dX2_reads_0 : decode cX2_reads 0 = .ok (.aload_n 0, 1) := by decide +kernel
theorem dX2_reads_1 : decode cX2_reads 1 = .ok (.iload_n 3, 1) := by decide +kernel
theorem dX2_reads_2 : decode cX2_reads 2 = .ok (.putfield 18, 3) := by decide +kernel
theorem dX2_reads_5 : decode cX2_reads 5 = .ok (.aload_n 0, 1) := by decide +kernel
theorem dX2_reads_6 : decode cX2_reads 6 = .ok (.iload_n 2, 1) := by decide +kernel
theorem dX2_reads_7 : decode cX2_reads 7 = .ok (.iconst 0, 1) := by decide +kernel
theorem dX2_reads_8 : decode cX2_reads 8 = .ok (.aload_n 1, 1) := by decide +kernel
theorem dX2_reads_9 : decode cX2_reads 9 = .ok (.arraylength, 1) := by decide +kernel
theorem dX2_reads_10 : decode cX2_reads 10 = .ok (.aload_n 0, 1) := by decide +kernel
theorem dX2_reads_11 : decode cX2_reads 11 = .ok (.getfield 15, 3) := by decide +kernel
theorem dX2_reads_14 : decode cX2_reads 14 = .ok (.arraylength, 1) := by decide +kernel
theorem dX2_reads_15 : decode cX2_reads 15 = .ok (.invokestatic 22, 3) := by decide +kernel
theorem dX2_reads_18 : decode cX2_reads 18 = .ok (.invokestatic 28, 3) := by decide +kernel
theorem dX2_reads_21 : decode cX2_reads 21 = .ok (.putfield 32, 3) := by decide +kernel
theorem dX2_reads_24 : decode cX2_reads 24 = .ok (.aload_n 1, 1) := by decide +kernel
theorem dX2_reads_25 : decode cX2_reads 25 = .ok (.iconst 0, 1) := by decide +kernel
theorem dX2_reads_26 : decode cX2_reads 26 = .ok (.aload_n 0, 1) := by decide +kernel
theorem dX2_reads_27 : decode cX2_reads 27 = .ok (.getfield 15, 3) := by decide +kernel
theorem dX2_reads_30 : decode cX2_reads 30 = .ok (.iconst 0, 1) := by decide +kernel
theorem dX2_reads_31 : decode cX2_reads 31 = .ok (.aload_n 0, 1) := by decide +kernel
theorem dX2_reads_32 : decode cX2_reads 32 = .ok (.getfield 32, 3) := by decide +kernel
theorem dX2_reads_35 : decode cX2_reads 35 = .ok (.invokestatic 35, 3) := by decide +kernel
theorem dX2_reads_38 : decode cX2_reads 38 = .ok (.aload_n 0, 1) := by decide +kernel
theorem dX2_reads_39 : decode cX2_reads 39 = .ok (.iconst 0, 1) := by decide +kernel
theorem dX2_reads_40 : decode cX2_reads 40 = .ok (.putfield 41, 3) := by decide +kernel
theorem dX2_reads_43 : decode cX2_reads 43 = .ok (.aload_n 0, 1) := by decide +kernel
theorem dX2_reads_44 : decode cX2_reads 44 = .ok (.iconst 0, 1) := by decide +kernel
theorem dX2_reads_45 : decode cX2_reads 45 = .ok (.putfield 44, 3) := by decide +kernel
theorem dX2_reads_48 : decode cX2_reads 48 = .ok (.aload_n 0, 1) := by decide +kernel
theorem dX2_reads_49 : decode cX2_reads 49 = .ok (.iconst 0, 1) := by decide +kernel
theorem dX2_reads_50 : decode cX2_reads 50 = .ok (.iconst 0, 1) := by decide +kernel
theorem dX2_reads_51 : decode cX2_reads 51 = .ok (.invokevirtual 47, 3) := by decide +kernel
theorem dX2_reads_54 : decode cX2_reads 54 = .ok (.ifCond .eq 18, 3) := by decide +kernel
theorem dX2_reads_57 : decode cX2_reads 57 = .ok (.aload_n 0, 1) := by decide +kernel
theorem dX2_reads_58 : decode cX2_reads 58 = .ok (.getfield 41, 3) := by decide +kernel
theorem dX2_reads_61 : decode cX2_reads 61 = .ok (.aload_n 0, 1) := by decide +kernel
theorem dX2_reads_62 : decode cX2_reads 62 = .ok (.getfield 32, 3) := by decide +kernel
theorem dX2_reads_65 : decode cX2_reads 65 = .ok (.if_icmp .ne 7, 3) := by decide +kernel
theorem dX2_reads_68 : decode cX2_reads 68 = .ok (.iconst 1, 1) := by decide +kernel
theorem dX2_reads_69 : decode cX2_reads 69 = .ok (.goto 4, 3) := by decide +kernel
theorem dX2_reads_72 : decode cX2_reads 72 = .ok (.iconst 0, 1) := by decide +kernel
theorem dX2_reads_73 : decode cX2_reads 73 = .ok (.istore 4, 2) := by decide +kernel
theorem dX2_reads_75 : decode cX2_reads 75 = .ok (.iload 4, 2) := by decide +kernel
theorem dX2_reads_77 : decode cX2_reads 77 = .ok (.ifCond .eq 7, 3) := by decide +kernel
theorem dX2_reads_80 : decode cX2_reads 80 = .ok (.iconst (-1), 1) := by decide +kernel
theorem dX2_reads_81 : decode cX2_reads 81 = .ok (.goto 7, 3) := by decide +kernel
theorem dX2_reads_84 : decode cX2_reads 84 = .ok (.aload_n 0, 1) := by decide +kernel
theorem dX2_reads_85 : decode cX2_reads 85 = .ok (.getfield 41, 3) := by decide +kernel
theorem dX2_reads_88 : decode cX2_reads 88 = .ok (.ireturn, 1) := by decide +kernel
theorem dX2_ahead_0 : decode cX2_ahead 0 = .ok (.aload_n 0, 1) := by decide +kernel
theorem dX2_ahead_1 : decode cX2_ahead 1 = .ok (.getfield 41, 3) := by decide +kernel
theorem dX2_ahead_4 : decode cX2_ahead 4 = .ok (.aload_n 0, 1) := by decide +kernel
theorem dX2_ahead_5 : decode cX2_ahead 5 = .ok (.getfield 32, 3) := by decide +kernel
theorem dX2_ahead_8 : decode cX2_ahead 8 = .ok (.if_icmp .ge 15, 3) := by decide +kernel
theorem dX2_ahead_11 : decode cX2_ahead 11 = .ok (.aload_n 0, 1) := by decide +kernel
theorem dX2_ahead_12 : decode cX2_ahead 12 = .ok (.getfield 15, 3) := by decide +kernel
theorem dX2_ahead_15 : decode cX2_ahead 15 = .ok (.aload_n 0, 1) := by decide +kernel
theorem dX2_ahead_16 : decode cX2_ahead 16 = .ok (.getfield 41, 3) := by decide +kernel
theorem dX2_ahead_19 : decode cX2_ahead 19 = .ok (.iaload, 1) := by decide +kernel
theorem dX2_ahead_20 : decode cX2_ahead 20 = .ok (.goto 4, 3) := by decide +kernel
theorem dX2_ahead_23 : decode cX2_ahead 23 = .ok (.iconst (-1), 1) := by decide +kernel
theorem dX2_ahead_24 : decode cX2_ahead 24 = .ok (.ireturn, 1) := by decide +kernel
theorem dX2_readsRule_0 : decode cX2_readsRule 0 = .ok (.iload_n 1, 1) := by decide +kernel
theorem dX2_readsRule_1 : decode cX2_readsRule 1 = .ok (.iconst 5, 1) := by decide +kernel
theorem dX2_readsRule_2 : decode cX2_readsRule 2 = .ok (.if_icmp .lt 9, 3) := by decide +kernel
theorem dX2_readsRule_5 : decode cX2_readsRule 5 = .ok (.aload_n 0, 1) := by decide +kernel
theorem dX2_readsRule_6 : decode cX2_readsRule 6 = .ok (.iload_n 2, 1) := by decide +kernel
theorem dX2_readsRule_7 : decode cX2_readsRule 7 = .ok (.invokevirtual 51, 3) := by decide +kernel
theorem dX2_readsRule_10 : decode cX2_readsRule 10 = .ok (.ireturn, 1) := by decide +kernel
theorem dX2_readsRule_11 : decode cX2_readsRule 11 = .ok (.aload_n 0, 1) := by decide +kernel
theorem dX2_readsRule_12 : decode cX2_readsRule 12 = .ok (.iload_n 1, 1) := by decide +kernel
theorem dX2_readsRule_13 : decode cX2_readsRule 13 = .ok (.iconst 1, 1) := by decide +kernel
theorem dX2_readsRule_14 : decode cX2_readsRule 14 = .ok (.iadd, 1) := by decide +kernel
theorem dX2_readsRule_15 : decode cX2_readsRule 15 = .ok (.iload_n 2, 1) := by decide +kernel
theorem dX2_readsRule_16 : decode cX2_readsRule 16 = .ok (.invokevirtual 47, 3) := by decide +kernel
theorem dX2_readsRule_19 : decode cX2_readsRule 19 = .ok (.ifCond .ne 5, 3) := by decide +kernel
theorem dX2_readsRule_22 : decode cX2_readsRule 22 = .ok (.iconst 0, 1) := by decide +kernel
theorem dX2_readsRule_23 : decode cX2_readsRule 23 = .ok (.ireturn, 1) := by decide +kernel
theorem dX2_readsRule_24 : decode cX2_readsRule 24 = .ok (.iconst 0, 1) := by decide +kernel
theorem dX2_readsRule_25 : decode cX2_readsRule 25 = .ok (.istore_n 3, 1) := by decide +kernel
theorem dX2_readsRule_26 : decode cX2_readsRule 26 = .ok (.iload_n 3, 1) := by decide +kernel
theorem dX2_readsRule_27 : decode cX2_readsRule 27 = .ok (.bipush 50, 2) := by decide +kernel
theorem dX2_readsRule_29 : decode cX2_readsRule 29 = .ok (.if_icmp .ge 69, 3) := by decide +kernel
theorem dX2_readsRule_32 : decode cX2_readsRule 32 = .ok (.aload_n 0, 1) := by decide +kernel
theorem dX2_readsRule_33 : decode cX2_readsRule 33 = .ok (.invokevirtual 55, 3) := by decide +kernel
theorem dX2_readsRule_36 : decode cX2_readsRule 36 = .ok (.istore 4, 2) := by decide +kernel
theorem dX2_readsRule_38 : decode cX2_readsRule 38 = .ok (.iload 4, 2) := by decide +kernel
theorem dX2_readsRule_40 : decode cX2_readsRule 40 = .ok (.invokestatic 59, 3) := by decide +kernel
theorem dX2_readsRule_43 : decode cX2_readsRule 43 = .ok (.iload_n 1, 1) := by decide +kernel
theorem dX2_readsRule_44 : decode cX2_readsRule 44 = .ok (.if_icmp .ne 13, 3) := by decide +kernel
theorem dX2_readsRule_47 : decode cX2_readsRule 47 = .ok (.iload_n 1, 1) := by decide +kernel
theorem dX2_readsRule_48 : decode cX2_readsRule 48 = .ok (.iconst 2, 1) := by decide +kernel
theorem dX2_readsRule_49 : decode cX2_readsRule 49 = .ok (.if_icmp .ne 10, 3) := by decide +kernel
theorem dX2_readsRule_52 : decode cX2_readsRule 52 = .ok (.iload_n 3, 1) := by decide +kernel
theorem dX2_readsRule_53 : decode cX2_readsRule 53 = .ok (.iconst 1, 1) := by decide +kernel
theorem dX2_readsRule_54 : decode cX2_readsRule 54 = .ok (.if_icmp .ne 5, 3) := by decide +kernel
theorem dX2_readsRule_57 : decode cX2_readsRule 57 = .ok (.iconst 1, 1) := by decide +kernel
theorem dX2_readsRule_58 : decode cX2_readsRule 58 = .ok (.ireturn, 1) := by decide +kernel
theorem dX2_readsRule_59 : decode cX2_readsRule 59 = .ok (.aload_n 0, 1) := by decide +kernel
theorem dX2_readsRule_60 : decode cX2_readsRule 60 = .ok (.dup, 1) := by decide +kernel
theorem dX2_readsRule_61 : decode cX2_readsRule 61 = .ok (.getfield 41, 3) := by decide +kernel
theorem dX2_readsRule_64 : decode cX2_readsRule 64 = .ok (.iconst 1, 1) := by decide +kernel
theorem dX2_readsRule_65 : decode cX2_readsRule 65 = .ok (.iadd, 1) := by decide +kernel
theorem dX2_readsRule_66 : decode cX2_readsRule 66 = .ok (.putfield 41, 3) := by decide +kernel
theorem dX2_readsRule_69 : decode cX2_readsRule 69 = .ok (.aload_n 0, 1) := by decide +kernel
theorem dX2_readsRule_70 : decode cX2_readsRule 70 = .ok (.iload_n 1, 1) := by decide +kernel
theorem dX2_readsRule_71 : decode cX2_readsRule 71 = .ok (.iconst 1, 1) := by decide +kernel
theorem dX2_readsRule_72 : decode cX2_readsRule 72 = .ok (.iadd, 1) := by decide +kernel
theorem dX2_readsRule_73 : decode cX2_readsRule 73 = .ok (.iload_n 2, 1) := by decide +kernel
theorem dX2_readsRule_74 : decode cX2_readsRule 74 = .ok (.invokevirtual 47, 3) := by decide +kernel
theorem dX2_readsRule_77 : decode cX2_readsRule 77 = .ok (.ifCond .ne 5, 3) := by decide +kernel
theorem dX2_readsRule_80 : decode cX2_readsRule 80 = .ok (.iconst 0, 1) := by decide +kernel
theorem dX2_readsRule_81 : decode cX2_readsRule 81 = .ok (.ireturn, 1) := by decide +kernel
theorem dX2_readsRule_82 : decode cX2_readsRule 82 = .ok (.aload_n 0, 1) := by decide +kernel
theorem dX2_readsRule_83 : decode cX2_readsRule 83 = .ok (.sipush 10000, 3) := by decide +kernel
theorem dX2_readsRule_86 : decode cX2_readsRule 86 = .ok (.iload 4, 2) := by decide +kernel
theorem dX2_readsRule_88 : decode cX2_readsRule 88 = .ok (.iadd, 1) := by decide +kernel
theorem dX2_readsRule_89 : decode cX2_readsRule 89 = .ok (.invokevirtual 65, 3) := by decide +kernel
theorem dX2_readsRule_92 : decode cX2_readsRule 92 = .ok (.iinc 3 1, 3) := by decide +kernel
theorem dX2_readsRule_95 : decode cX2_readsRule 95 = .ok (.goto (-69), 3) := by decide +kernel
theorem dX2_readsRule_98 : decode cX2_readsRule 98 = .ok (.iconst 1, 1) := by decide +kernel
theorem dX2_readsRule_99 : decode cX2_readsRule 99 = .ok (.ireturn, 1) := by decide +kernel
theorem dX2_ruleOf_0 : decode cX2_ruleOf 0 = .ok (.iload_n 0, 1) := by decide +kernel
theorem dX2_ruleOf_1 : decode cX2_ruleOf 1 = .ok (.lookupswitch 101 #[(37, 99), (38, 93), (42, 99), (43, 97), (45, 97), (47, 99), (60, 95), (61, 95), (62, 95), (124, 91)], 91) := by decide +kernel
theorem dX2_ruleOf_92 : decode cX2_ruleOf 92 = .ok (.iconst 0, 1) := by decide +kernel
theorem dX2_ruleOf_93 : decode cX2_ruleOf 93 = .ok (.ireturn, 1) := by decide +kernel
theorem dX2_ruleOf_94 : decode cX2_ruleOf 94 = .ok (.iconst 1, 1) := by decide +kernel
theorem dX2_ruleOf_95 : decode cX2_ruleOf 95 = .ok (.ireturn, 1) := by decide +kernel
theorem dX2_ruleOf_96 : decode cX2_ruleOf 96 = .ok (.iconst 2, 1) := by decide +kernel
theorem dX2_ruleOf_97 : decode cX2_ruleOf 97 = .ok (.ireturn, 1) := by decide +kernel
theorem dX2_ruleOf_98 : decode cX2_ruleOf 98 = .ok (.iconst 3, 1) := by decide +kernel
theorem dX2_ruleOf_99 : decode cX2_ruleOf 99 = .ok (.ireturn, 1) := by decide +kernel
theorem dX2_ruleOf_100 : decode cX2_ruleOf 100 = .ok (.iconst 4, 1) := by decide +kernel
theorem dX2_ruleOf_101 : decode cX2_ruleOf 101 = .ok (.ireturn, 1) := by decide +kernel
theorem dX2_ruleOf_102 : decode cX2_ruleOf 102 = .ok (.iconst (-1), 1) := by decide +kernel
theorem dX2_ruleOf_103 : decode cX2_ruleOf 103 = .ok (.ireturn, 1) := by decide +kernel
theorem dX2_readsQ_0 : decode cX2_readsQ 0 = .ok (.aload_n 0, 1) := by decide +kernel
theorem dX2_readsQ_1 : decode cX2_readsQ 1 = .ok (.invokevirtual 55, 3) := by decide +kernel
theorem dX2_readsQ_4 : decode cX2_readsQ 4 = .ok (.istore_n 2, 1) := by decide +kernel
theorem dX2_readsQ_5 : decode cX2_readsQ 5 = .ok (.iload_n 2, 1) := by decide +kernel
theorem dX2_readsQ_6 : decode cX2_readsQ 6 = .ok (.invokestatic 69, 3) := by decide +kernel
theorem dX2_readsQ_9 : decode cX2_readsQ 9 = .ok (.ifCond .eq 9, 3) := by decide +kernel
theorem dX2_readsQ_12 : decode cX2_readsQ 12 = .ok (.aload_n 0, 1) := by decide +kernel
theorem dX2_readsQ_13 : decode cX2_readsQ 13 = .ok (.invokevirtual 72, 3) := by decide +kernel
theorem dX2_readsQ_16 : decode cX2_readsQ 16 = .ok (.iconst 1, 1) := by decide +kernel
theorem dX2_readsQ_17 : decode cX2_readsQ 17 = .ok (.ireturn, 1) := by decide +kernel
theorem dX2_readsQ_18 : decode cX2_readsQ 18 = .ok (.aload_n 0, 1) := by decide +kernel
theorem dX2_readsQ_19 : decode cX2_readsQ 19 = .ok (.iload_n 2, 1) := by decide +kernel
theorem dX2_readsQ_20 : decode cX2_readsQ 20 = .ok (.invokevirtual 75, 3) := by decide +kernel
theorem dX2_readsQ_23 : decode cX2_readsQ 23 = .ok (.istore_n 3, 1) := by decide +kernel
theorem dX2_readsQ_24 : decode cX2_readsQ 24 = .ok (.iload_n 3, 1) := by decide +kernel
theorem dX2_readsQ_25 : decode cX2_readsQ 25 = .ok (.ifCond .lt 22, 3) := by decide +kernel
theorem dX2_readsQ_28 : decode cX2_readsQ 28 = .ok (.aload_n 0, 1) := by decide +kernel
theorem dX2_readsQ_29 : decode cX2_readsQ 29 = .ok (.dup, 1) := by decide +kernel
theorem dX2_readsQ_30 : decode cX2_readsQ 30 = .ok (.getfield 41, 3) := by decide +kernel
theorem dX2_readsQ_33 : decode cX2_readsQ 33 = .ok (.iconst 1, 1) := by decide +kernel
theorem dX2_readsQ_34 : decode cX2_readsQ 34 = .ok (.iadd, 1) := by decide +kernel
theorem dX2_readsQ_35 : decode cX2_readsQ 35 = .ok (.putfield 41, 3) := by decide +kernel
theorem dX2_readsQ_38 : decode cX2_readsQ 38 = .ok (.aload_n 0, 1) := by decide +kernel
theorem dX2_readsQ_39 : decode cX2_readsQ 39 = .ok (.iconst (-1), 1) := by decide +kernel
theorem dX2_readsQ_40 : decode cX2_readsQ 40 = .ok (.iload_n 3, 1) := by decide +kernel
theorem dX2_readsQ_41 : decode cX2_readsQ 41 = .ok (.isub, 1) := by decide +kernel
theorem dX2_readsQ_42 : decode cX2_readsQ 42 = .ok (.invokevirtual 65, 3) := by decide +kernel
theorem dX2_readsQ_45 : decode cX2_readsQ 45 = .ok (.iconst 1, 1) := by decide +kernel
theorem dX2_readsQ_46 : decode cX2_readsQ 46 = .ok (.ireturn, 1) := by decide +kernel
theorem dX2_readsQ_47 : decode cX2_readsQ 47 = .ok (.iload_n 1, 1) := by decide +kernel
theorem dX2_readsQ_48 : decode cX2_readsQ 48 = .ok (.iconst 5, 1) := by decide +kernel
theorem dX2_readsQ_49 : decode cX2_readsQ 49 = .ok (.if_icmp .lt 5, 3) := by decide +kernel
theorem dX2_readsQ_52 : decode cX2_readsQ 52 = .ok (.iconst 0, 1) := by decide +kernel
theorem dX2_readsQ_53 : decode cX2_readsQ 53 = .ok (.ireturn, 1) := by decide +kernel
theorem dX2_readsQ_54 : decode cX2_readsQ 54 = .ok (.iload_n 2, 1) := by decide +kernel
theorem dX2_readsQ_55 : decode cX2_readsQ 55 = .ok (.bipush 33, 2) := by decide +kernel
theorem dX2_readsQ_57 : decode cX2_readsQ 57 = .ok (.if_icmp .ne 13, 3) := by decide +kernel
theorem dX2_readsQ_60 : decode cX2_readsQ 60 = .ok (.aload_n 0, 1) := by decide +kernel
theorem dX2_readsQ_61 : decode cX2_readsQ 61 = .ok (.iload_n 1, 1) := by decide +kernel
theorem dX2_readsQ_62 : decode cX2_readsQ 62 = .ok (.iconst 1, 1) := by decide +kernel
theorem dX2_readsQ_63 : decode cX2_readsQ 63 = .ok (.iadd, 1) := by decide +kernel
theorem dX2_readsQ_64 : decode cX2_readsQ 64 = .ok (.invokevirtual 78, 3) := by decide +kernel
theorem dX2_readsQ_67 : decode cX2_readsQ 67 = .ok (.goto 24, 3) := by decide +kernel
theorem dX2_readsQ_70 : decode cX2_readsQ 70 = .ok (.iload_n 2, 1) := by decide +kernel
theorem dX2_readsQ_71 : decode cX2_readsQ 71 = .ok (.bipush 40, 2) := by decide +kernel
theorem dX2_readsQ_73 : decode cX2_readsQ 73 = .ok (.if_icmp .ne 17, 3) := by decide +kernel
theorem dX2_readsQ_76 : decode cX2_readsQ 76 = .ok (.aload_n 0, 1) := by decide +kernel
theorem dX2_readsQ_77 : decode cX2_readsQ 77 = .ok (.iload_n 1, 1) := by decide +kernel
theorem dX2_readsQ_78 : decode cX2_readsQ 78 = .ok (.iconst 1, 1) := by decide +kernel
theorem dX2_readsQ_79 : decode cX2_readsQ 79 = .ok (.iadd, 1) := by decide +kernel
theorem dX2_readsQ_80 : decode cX2_readsQ 80 = .ok (.invokevirtual 81, 3) := by decide +kernel
theorem dX2_readsQ_83 : decode cX2_readsQ 83 = .ok (.ifCond .eq 7, 3) := by decide +kernel
theorem dX2_readsQ_86 : decode cX2_readsQ 86 = .ok (.iconst 1, 1) := by decide +kernel
theorem dX2_readsQ_87 : decode cX2_readsQ 87 = .ok (.goto 4, 3) := by decide +kernel
theorem dX2_readsQ_90 : decode cX2_readsQ 90 = .ok (.iconst 0, 1) := by decide +kernel
theorem dX2_readsQ_91 : decode cX2_readsQ 91 = .ok (.ireturn, 1) := by decide +kernel
theorem dX2_readsNot_0 : decode cX2_readsNot 0 = .ok (.aload_n 0, 1) := by decide +kernel
theorem dX2_readsNot_1 : decode cX2_readsNot 1 = .ok (.dup, 1) := by decide +kernel
theorem dX2_readsNot_2 : decode cX2_readsNot 2 = .ok (.getfield 41, 3) := by decide +kernel
theorem dX2_readsNot_5 : decode cX2_readsNot 5 = .ok (.iconst 1, 1) := by decide +kernel
theorem dX2_readsNot_6 : decode cX2_readsNot 6 = .ok (.iadd, 1) := by decide +kernel
theorem dX2_readsNot_7 : decode cX2_readsNot 7 = .ok (.putfield 41, 3) := by decide +kernel
theorem dX2_readsNot_10 : decode cX2_readsNot 10 = .ok (.aload_n 0, 1) := by decide +kernel
theorem dX2_readsNot_11 : decode cX2_readsNot 11 = .ok (.iload_n 1, 1) := by decide +kernel
theorem dX2_readsNot_12 : decode cX2_readsNot 12 = .ok (.invokevirtual 51, 3) := by decide +kernel
theorem dX2_readsNot_15 : decode cX2_readsNot 15 = .ok (.ifCond .ne 5, 3) := by decide +kernel
theorem dX2_readsNot_18 : decode cX2_readsNot 18 = .ok (.iconst 0, 1) := by decide +kernel
theorem dX2_readsNot_19 : decode cX2_readsNot 19 = .ok (.ireturn, 1) := by decide +kernel
theorem dX2_readsNot_20 : decode cX2_readsNot 20 = .ok (.aload_n 0, 1) := by decide +kernel
theorem dX2_readsNot_21 : decode cX2_readsNot 21 = .ok (.sipush 10033, 3) := by decide +kernel
theorem dX2_readsNot_24 : decode cX2_readsNot 24 = .ok (.invokevirtual 65, 3) := by decide +kernel
theorem dX2_readsNot_27 : decode cX2_readsNot 27 = .ok (.iconst 1, 1) := by decide +kernel
theorem dX2_readsNot_28 : decode cX2_readsNot 28 = .ok (.ireturn, 1) := by decide +kernel
theorem dX2_readsInside_0 : decode cX2_readsInside 0 = .ok (.aload_n 0, 1) := by decide +kernel
theorem dX2_readsInside_1 : decode cX2_readsInside 1 = .ok (.dup, 1) := by decide +kernel
theorem dX2_readsInside_2 : decode cX2_readsInside 2 = .ok (.getfield 41, 3) := by decide +kernel
theorem dX2_readsInside_5 : decode cX2_readsInside 5 = .ok (.iconst 1, 1) := by decide +kernel
theorem dX2_readsInside_6 : decode cX2_readsInside 6 = .ok (.iadd, 1) := by decide +kernel
theorem dX2_readsInside_7 : decode cX2_readsInside 7 = .ok (.putfield 41, 3) := by decide +kernel
theorem dX2_readsInside_10 : decode cX2_readsInside 10 = .ok (.aload_n 0, 1) := by decide +kernel
theorem dX2_readsInside_11 : decode cX2_readsInside 11 = .ok (.iconst 0, 1) := by decide +kernel
theorem dX2_readsInside_12 : decode cX2_readsInside 12 = .ok (.iload_n 1, 1) := by decide +kernel
theorem dX2_readsInside_13 : decode cX2_readsInside 13 = .ok (.invokevirtual 47, 3) := by decide +kernel
theorem dX2_readsInside_16 : decode cX2_readsInside 16 = .ok (.ifCond .eq 12, 3) := by decide +kernel
theorem dX2_readsInside_19 : decode cX2_readsInside 19 = .ok (.aload_n 0, 1) := by decide +kernel
theorem dX2_readsInside_20 : decode cX2_readsInside 20 = .ok (.invokevirtual 55, 3) := by decide +kernel
theorem dX2_readsInside_23 : decode cX2_readsInside 23 = .ok (.bipush 41, 2) := by decide +kernel
theorem dX2_readsInside_25 : decode cX2_readsInside 25 = .ok (.if_icmp .eq 5, 3) := by decide +kernel
theorem dX2_readsInside_28 : decode cX2_readsInside 28 = .ok (.iconst 0, 1) := by decide +kernel
theorem dX2_readsInside_29 : decode cX2_readsInside 29 = .ok (.ireturn, 1) := by decide +kernel
theorem dX2_readsInside_30 : decode cX2_readsInside 30 = .ok (.aload_n 0, 1) := by decide +kernel
theorem dX2_readsInside_31 : decode cX2_readsInside 31 = .ok (.dup, 1) := by decide +kernel
theorem dX2_readsInside_32 : decode cX2_readsInside 32 = .ok (.getfield 41, 3) := by decide +kernel
theorem dX2_readsInside_35 : decode cX2_readsInside 35 = .ok (.iconst 1, 1) := by decide +kernel
theorem dX2_readsInside_36 : decode cX2_readsInside 36 = .ok (.iadd, 1) := by decide +kernel
theorem dX2_readsInside_37 : decode cX2_readsInside 37 = .ok (.putfield 41, 3) := by decide +kernel
theorem dX2_readsInside_40 : decode cX2_readsInside 40 = .ok (.iconst 1, 1) := by decide +kernel
theorem dX2_readsInside_41 : decode cX2_readsInside 41 = .ok (.ireturn, 1) := by decide +kernel
theorem dX2_readsNumber_0 : decode cX2_readsNumber 0 = .ok (.iconst 0, 1) := by decide +kernel
theorem dX2_readsNumber_1 : decode cX2_readsNumber 1 = .ok (.istore_n 1, 1) := by decide +kernel
theorem dX2_readsNumber_2 : decode cX2_readsNumber 2 = .ok (.iconst 0, 1) := by decide +kernel
theorem dX2_readsNumber_3 : decode cX2_readsNumber 3 = .ok (.istore_n 2, 1) := by decide +kernel
theorem dX2_readsNumber_4 : decode cX2_readsNumber 4 = .ok (.iload_n 2, 1) := by decide +kernel
theorem dX2_readsNumber_5 : decode cX2_readsNumber 5 = .ok (.iconst 4, 1) := by decide +kernel
theorem dX2_readsNumber_6 : decode cX2_readsNumber 6 = .ok (.if_icmp .ge 42, 3) := by decide +kernel
theorem dX2_readsNumber_9 : decode cX2_readsNumber 9 = .ok (.aload_n 0, 1) := by decide +kernel
theorem dX2_readsNumber_10 : decode cX2_readsNumber 10 = .ok (.invokevirtual 55, 3) := by decide +kernel
theorem dX2_readsNumber_13 : decode cX2_readsNumber 13 = .ok (.invokestatic 69, 3) := by decide +kernel
theorem dX2_readsNumber_16 : decode cX2_readsNumber 16 = .ok (.ifCond .eq 32, 3) := by decide +kernel
theorem dX2_readsNumber_19 : decode cX2_readsNumber 19 = .ok (.bipush 10, 2) := by decide +kernel
theorem dX2_readsNumber_21 : decode cX2_readsNumber 21 = .ok (.iload_n 1, 1) := by decide +kernel
theorem dX2_readsNumber_22 : decode cX2_readsNumber 22 = .ok (.imul, 1) := by decide +kernel
theorem dX2_readsNumber_23 : decode cX2_readsNumber 23 = .ok (.aload_n 0, 1) := by decide +kernel
theorem dX2_readsNumber_24 : decode cX2_readsNumber 24 = .ok (.invokevirtual 55, 3) := by decide +kernel
theorem dX2_readsNumber_27 : decode cX2_readsNumber 27 = .ok (.iadd, 1) := by decide +kernel
theorem dX2_readsNumber_28 : decode cX2_readsNumber 28 = .ok (.bipush 48, 2) := by decide +kernel
theorem dX2_readsNumber_30 : decode cX2_readsNumber 30 = .ok (.isub, 1) := by decide +kernel
theorem dX2_readsNumber_31 : decode cX2_readsNumber 31 = .ok (.istore_n 1, 1) := by decide +kernel
theorem dX2_readsNumber_32 : decode cX2_readsNumber 32 = .ok (.aload_n 0, 1) := by decide +kernel
theorem dX2_readsNumber_33 : decode cX2_readsNumber 33 = .ok (.dup, 1) := by decide +kernel
theorem dX2_readsNumber_34 : decode cX2_readsNumber 34 = .ok (.getfield 41, 3) := by decide +kernel
theorem dX2_readsNumber_37 : decode cX2_readsNumber 37 = .ok (.iconst 1, 1) := by decide +kernel
theorem dX2_readsNumber_38 : decode cX2_readsNumber 38 = .ok (.iadd, 1) := by decide +kernel
theorem dX2_readsNumber_39 : decode cX2_readsNumber 39 = .ok (.putfield 41, 3) := by decide +kernel
theorem dX2_readsNumber_42 : decode cX2_readsNumber 42 = .ok (.iinc 2 1, 3) := by decide +kernel
theorem dX2_readsNumber_45 : decode cX2_readsNumber 45 = .ok (.goto (-41), 3) := by decide +kernel
theorem dX2_readsNumber_48 : decode cX2_readsNumber 48 = .ok (.aload_n 0, 1) := by decide +kernel
theorem dX2_readsNumber_49 : decode cX2_readsNumber 49 = .ok (.iload_n 1, 1) := by decide +kernel
theorem dX2_readsNumber_50 : decode cX2_readsNumber 50 = .ok (.invokevirtual 65, 3) := by decide +kernel
theorem dX2_readsNumber_53 : decode cX2_readsNumber 53 = .ok (.return_, 1) := by decide +kernel
theorem dX2_isDigit_0 : decode cX2_isDigit 0 = .ok (.iload_n 0, 1) := by decide +kernel
theorem dX2_isDigit_1 : decode cX2_isDigit 1 = .ok (.bipush 48, 2) := by decide +kernel
theorem dX2_isDigit_3 : decode cX2_isDigit 3 = .ok (.bipush 57, 2) := by decide +kernel
theorem dX2_isDigit_5 : decode cX2_isDigit 5 = .ok (.invokestatic 84, 3) := by decide +kernel
theorem dX2_isDigit_8 : decode cX2_isDigit 8 = .ok (.ireturn, 1) := by decide +kernel
theorem dX2_nameOf_0 : decode cX2_nameOf 0 = .ok (.iconst 0, 1) := by decide +kernel
theorem dX2_nameOf_1 : decode cX2_nameOf 1 = .ok (.istore_n 2, 1) := by decide +kernel
theorem dX2_nameOf_2 : decode cX2_nameOf 2 = .ok (.iload_n 2, 1) := by decide +kernel
theorem dX2_nameOf_3 : decode cX2_nameOf 3 = .ok (.iconst 4, 1) := by decide +kernel
theorem dX2_nameOf_4 : decode cX2_nameOf 4 = .ok (.if_icmp .ge 43, 3) := by decide +kernel
theorem dX2_nameOf_7 : decode cX2_nameOf 7 = .ok (.iconst 4, 1) := by decide +kernel
theorem dX2_nameOf_8 : decode cX2_nameOf 8 = .ok (.aload_n 0, 1) := by decide +kernel
theorem dX2_nameOf_9 : decode cX2_nameOf 9 = .ok (.getfield 18, 3) := by decide +kernel
theorem dX2_nameOf_12 : decode cX2_nameOf 12 = .ok (.imul, 1) := by decide +kernel
theorem dX2_nameOf_13 : decode cX2_nameOf 13 = .ok (.iload_n 2, 1) := by decide +kernel
theorem dX2_nameOf_14 : decode cX2_nameOf 14 = .ok (.iadd, 1) := by decide +kernel
theorem dX2_nameOf_15 : decode cX2_nameOf 15 = .ok (.istore_n 3, 1) := by decide +kernel
theorem dX2_nameOf_16 : decode cX2_nameOf 16 = .ok (.iload_n 3, 1) := by decide +kernel
theorem dX2_nameOf_17 : decode cX2_nameOf 17 = .ok (.iconst 0, 1) := by decide +kernel
theorem dX2_nameOf_18 : decode cX2_nameOf 18 = .ok (.getstatic 88, 3) := by decide +kernel
theorem dX2_nameOf_21 : decode cX2_nameOf 21 = .ok (.arraylength, 1) := by decide +kernel
theorem dX2_nameOf_22 : decode cX2_nameOf 22 = .ok (.iconst 1, 1) := by decide +kernel
theorem dX2_nameOf_23 : decode cX2_nameOf 23 = .ok (.isub, 1) := by decide +kernel
theorem dX2_nameOf_24 : decode cX2_nameOf 24 = .ok (.invokestatic 84, 3) := by decide +kernel
theorem dX2_nameOf_27 : decode cX2_nameOf 27 = .ok (.ifCond .eq 14, 3) := by decide +kernel
theorem dX2_nameOf_30 : decode cX2_nameOf 30 = .ok (.getstatic 88, 3) := by decide +kernel
theorem dX2_nameOf_33 : decode cX2_nameOf 33 = .ok (.iload_n 3, 1) := by decide +kernel
theorem dX2_nameOf_34 : decode cX2_nameOf 34 = .ok (.caload, 1) := by decide +kernel
theorem dX2_nameOf_35 : decode cX2_nameOf 35 = .ok (.iload_n 1, 1) := by decide +kernel
theorem dX2_nameOf_36 : decode cX2_nameOf 36 = .ok (.if_icmp .ne 5, 3) := by decide +kernel
theorem dX2_nameOf_39 : decode cX2_nameOf 39 = .ok (.iload_n 2, 1) := by decide +kernel
theorem dX2_nameOf_40 : decode cX2_nameOf 40 = .ok (.ireturn, 1) := by decide +kernel
theorem dX2_nameOf_41 : decode cX2_nameOf 41 = .ok (.iinc 2 1, 3) := by decide +kernel
theorem dX2_nameOf_44 : decode cX2_nameOf 44 = .ok (.goto (-42), 3) := by decide +kernel
theorem dX2_nameOf_47 : decode cX2_nameOf 47 = .ok (.iconst (-1), 1) := by decide +kernel
theorem dX2_nameOf_48 : decode cX2_nameOf 48 = .ok (.ireturn, 1) := by decide +kernel
theorem dX2_makes_0 : decode cX2_makes 0 = .ok (.aload_n 0, 1) := by decide +kernel
theorem dX2_makes_1 : decode cX2_makes 1 = .ok (.getfield 44, 3) := by decide +kernel
theorem dX2_makes_4 : decode cX2_makes 4 = .ok (.aload_n 0, 1) := by decide +kernel
theorem dX2_makes_5 : decode cX2_makes 5 = .ok (.getfield 9, 3) := by decide +kernel
theorem dX2_makes_8 : decode cX2_makes 8 = .ok (.arraylength, 1) := by decide +kernel
theorem dX2_makes_9 : decode cX2_makes 9 = .ok (.if_icmp .ge 23, 3) := by decide +kernel
theorem dX2_makes_12 : decode cX2_makes 12 = .ok (.aload_n 0, 1) := by decide +kernel
theorem dX2_makes_13 : decode cX2_makes 13 = .ok (.getfield 9, 3) := by decide +kernel
theorem dX2_makes_16 : decode cX2_makes 16 = .ok (.aload_n 0, 1) := by decide +kernel
theorem dX2_makes_17 : decode cX2_makes 17 = .ok (.getfield 44, 3) := by decide +kernel
theorem dX2_makes_20 : decode cX2_makes 20 = .ok (.iload_n 1, 1) := by decide +kernel
theorem dX2_makes_21 : decode cX2_makes 21 = .ok (.iastore, 1) := by decide +kernel
theorem dX2_makes_22 : decode cX2_makes 22 = .ok (.aload_n 0, 1) := by decide +kernel
theorem dX2_makes_23 : decode cX2_makes 23 = .ok (.dup, 1) := by decide +kernel
theorem dX2_makes_24 : decode cX2_makes 24 = .ok (.getfield 44, 3) := by decide +kernel
theorem dX2_makes_27 : decode cX2_makes 27 = .ok (.iconst 1, 1) := by decide +kernel
theorem dX2_makes_28 : decode cX2_makes 28 = .ok (.iadd, 1) := by decide +kernel
theorem dX2_makes_29 : decode cX2_makes 29 = .ok (.putfield 44, 3) := by decide +kernel
theorem dX2_makes_32 : decode cX2_makes 32 = .ok (.return_, 1) := by decide +kernel
theorem dX3_init_0 : decode cX3_init 0 = .ok (.aload_n 0, 1) := by decide +kernel
theorem dX3_init_1 : decode cX3_init 1 = .ok (.invokespecial 3, 3) := by decide +kernel
theorem dX3_init_4 : decode cX3_init 4 = .ok (.aload_n 0, 1) := by decide +kernel
theorem dX3_init_5 : decode cX3_init 5 = .ok (.bipush 10, 2) := by decide +kernel
theorem dX3_init_7 : decode cX3_init 7 = .ok (.newarray .int, 2) := by decide +kernel
theorem dX3_init_9 : decode cX3_init 9 = .ok (.putfield 9, 3) := by decide +kernel
theorem dX3_init_12 : decode cX3_init 12 = .ok (.aload_n 0, 1) := by decide +kernel
theorem dX3_init_13 : decode cX3_init 13 = .ok (.bipush 8, 2) := by decide +kernel
theorem dX3_init_15 : decode cX3_init 15 = .ok (.newarray .int, 2) := by decide +kernel
theorem dX3_init_17 : decode cX3_init 17 = .ok (.putfield 15, 3) := by decide +kernel
theorem dX3_init_20 : decode cX3_init 20 = .ok (.aload_n 0, 1) := by decide +kernel
theorem dX3_init_21 : decode cX3_init 21 = .ok (.bipush 8, 2) := by decide +kernel
theorem dX3_init_23 : decode cX3_init 23 = .ok (.newarray .int, 2) := by decide +kernel
theorem dX3_init_25 : decode cX3_init 25 = .ok (.putfield 18, 3) := by decide +kernel
theorem dX3_init_28 : decode cX3_init 28 = .ok (.aload_n 0, 1) := by decide +kernel
theorem dX3_init_29 : decode cX3_init 29 = .ok (.bipush 8, 2) := by decide +kernel
theorem dX3_init_31 : decode cX3_init 31 = .ok (.newarray .int, 2) := by decide +kernel
theorem dX3_init_33 : decode cX3_init 33 = .ok (.putfield 21, 3) := by decide +kernel
theorem dX3_init_36 : decode cX3_init 36 = .ok (.aload_n 0, 1) := by decide +kernel
theorem dX3_init_37 : decode cX3_init 37 = .ok (.new 24, 3) := by decide +kernel
theorem dX3_init_40 : decode cX3_init 40 = .ok (.dup, 1) := by decide +kernel
theorem dX3_init_41 : decode cX3_init 41 = .ok (.invokespecial 26, 3) := by decide +kernel
theorem dX3_init_44 : decode cX3_init 44 = .ok (.putfield 27, 3) := by decide +kernel
theorem dX3_init_47 : decode cX3_init 47 = .ok (.aload_n 0, 1) := by decide +kernel
theorem dX3_init_48 : decode cX3_init 48 = .ok (.new 24, 3) := by decide +kernel
theorem dX3_init_51 : decode cX3_init 51 = .ok (.dup, 1) := by decide +kernel
theorem dX3_init_52 : decode cX3_init 52 = .ok (.invokespecial 26, 3) := by decide +kernel
theorem dX3_init_55 : decode cX3_init 55 = .ok (.putfield 31, 3) := by decide +kernel
theorem dX3_init_58 : decode cX3_init 58 = .ok (.iconst 0, 1) := by decide +kernel
theorem dX3_init_59 : decode cX3_init 59 = .ok (.istore_n 1, 1) := by decide +kernel
theorem dX3_init_60 : decode cX3_init 60 = .ok (.iload_n 1, 1) := by decide +kernel
theorem dX3_init_61 : decode cX3_init 61 = .ok (.bipush 10, 2) := by decide +kernel
theorem dX3_init_63 : decode cX3_init 63 = .ok (.if_icmp .ge 21, 3) := by decide +kernel
theorem dX3_init_66 : decode cX3_init 66 = .ok (.aload_n 0, 1) := by decide +kernel
theorem dX3_init_67 : decode cX3_init 67 = .ok (.getfield 9, 3) := by decide +kernel
theorem dX3_init_70 : decode cX3_init 70 = .ok (.iload_n 1, 1) := by decide +kernel
theorem dX3_init_71 : decode cX3_init 71 = .ok (.bipush 10, 2) := by decide +kernel
theorem dX3_init_73 : decode cX3_init 73 = .ok (.iload_n 1, 1) := by decide +kernel
theorem dX3_init_74 : decode cX3_init 74 = .ok (.iconst 1, 1) := by decide +kernel
theorem dX3_init_75 : decode cX3_init 75 = .ok (.iadd, 1) := by decide +kernel
theorem dX3_init_76 : decode cX3_init 76 = .ok (.imul, 1) := by decide +kernel
theorem dX3_init_77 : decode cX3_init 77 = .ok (.iastore, 1) := by decide +kernel
theorem dX3_init_78 : decode cX3_init 78 = .ok (.iinc 1 1, 3) := by decide +kernel
theorem dX3_init_81 : decode cX3_init 81 = .ok (.goto (-21), 3) := by decide +kernel
theorem dX3_init_84 : decode cX3_init 84 = .ok (.return_, 1) := by decide +kernel
theorem dX3_take_0 : decode cX3_take 0 = .ok (.aload_n 1, 1) := by decide +kernel
theorem dX3_take_1 : decode cX3_take 1 = .ok (.getfield 9, 3) := by decide +kernel
theorem dX3_take_4 : decode cX3_take 4 = .ok (.iconst 0, 1) := by decide +kernel
theorem dX3_take_5 : decode cX3_take 5 = .ok (.aload_n 0, 1) := by decide +kernel
theorem dX3_take_6 : decode cX3_take 6 = .ok (.getfield 9, 3) := by decide +kernel
theorem dX3_take_9 : decode cX3_take 9 = .ok (.iconst 0, 1) := by decide +kernel
theorem dX3_take_10 : decode cX3_take 10 = .ok (.bipush 10, 2) := by decide +kernel
theorem dX3_take_12 : decode cX3_take 12 = .ok (.invokestatic 34, 3) := by decide +kernel
theorem dX3_take_15 : decode cX3_take 15 = .ok (.aload_n 1, 1) := by decide +kernel
theorem dX3_take_16 : decode cX3_take 16 = .ok (.getfield 15, 3) := by decide +kernel
theorem dX3_take_19 : decode cX3_take 19 = .ok (.iconst 0, 1) := by decide +kernel
theorem dX3_take_20 : decode cX3_take 20 = .ok (.aload_n 0, 1) := by decide +kernel
theorem dX3_take_21 : decode cX3_take 21 = .ok (.getfield 15, 3) := by decide +kernel
theorem dX3_take_24 : decode cX3_take 24 = .ok (.iconst 0, 1) := by decide +kernel
theorem dX3_take_25 : decode cX3_take 25 = .ok (.bipush 8, 2) := by decide +kernel
theorem dX3_take_27 : decode cX3_take 27 = .ok (.invokestatic 34, 3) := by decide +kernel
theorem dX3_take_30 : decode cX3_take 30 = .ok (.aload_n 1, 1) := by decide +kernel
theorem dX3_take_31 : decode cX3_take 31 = .ok (.getfield 18, 3) := by decide +kernel
theorem dX3_take_34 : decode cX3_take 34 = .ok (.iconst 0, 1) := by decide +kernel
theorem dX3_take_35 : decode cX3_take 35 = .ok (.aload_n 0, 1) := by decide +kernel
theorem dX3_take_36 : decode cX3_take 36 = .ok (.getfield 18, 3) := by decide +kernel
theorem dX3_take_39 : decode cX3_take 39 = .ok (.iconst 0, 1) := by decide +kernel
theorem dX3_take_40 : decode cX3_take 40 = .ok (.bipush 8, 2) := by decide +kernel
theorem dX3_take_42 : decode cX3_take 42 = .ok (.invokestatic 34, 3) := by decide +kernel
theorem dX3_take_45 : decode cX3_take 45 = .ok (.aload_n 1, 1) := by decide +kernel
theorem dX3_take_46 : decode cX3_take 46 = .ok (.getfield 21, 3) := by decide +kernel
theorem dX3_take_49 : decode cX3_take 49 = .ok (.iconst 0, 1) := by decide +kernel
theorem dX3_take_50 : decode cX3_take 50 = .ok (.aload_n 0, 1) := by decide +kernel
theorem dX3_take_51 : decode cX3_take 51 = .ok (.getfield 21, 3) := by decide +kernel
theorem dX3_take_54 : decode cX3_take 54 = .ok (.iconst 0, 1) := by decide +kernel
theorem dX3_take_55 : decode cX3_take 55 = .ok (.bipush 8, 2) := by decide +kernel
theorem dX3_take_57 : decode cX3_take 57 = .ok (.invokestatic 34, 3) := by decide +kernel
theorem dX3_take_60 : decode cX3_take 60 = .ok (.aload_n 0, 1) := by decide +kernel
theorem dX3_take_61 : decode cX3_take 61 = .ok (.getfield 27, 3) := by decide +kernel
theorem dX3_take_64 : decode cX3_take 64 = .ok (.aload_n 1, 1) := by decide +kernel
theorem dX3_take_65 : decode cX3_take 65 = .ok (.getfield 27, 3) := by decide +kernel
theorem dX3_take_68 : decode cX3_take 68 = .ok (.getfield 40, 3) := by decide +kernel
theorem dX3_take_71 : decode cX3_take 71 = .ok (.aload_n 1, 1) := by decide +kernel
theorem dX3_take_72 : decode cX3_take 72 = .ok (.getfield 27, 3) := by decide +kernel
theorem dX3_take_75 : decode cX3_take 75 = .ok (.getfield 43, 3) := by decide +kernel
theorem dX3_take_78 : decode cX3_take 78 = .ok (.invokevirtual 47, 3) := by decide +kernel
theorem dX3_take_81 : decode cX3_take 81 = .ok (.aload_n 0, 1) := by decide +kernel
theorem dX3_take_82 : decode cX3_take 82 = .ok (.getfield 31, 3) := by decide +kernel
theorem dX3_take_85 : decode cX3_take 85 = .ok (.aload_n 1, 1) := by decide +kernel
theorem dX3_take_86 : decode cX3_take 86 = .ok (.getfield 31, 3) := by decide +kernel
theorem dX3_take_89 : decode cX3_take 89 = .ok (.getfield 40, 3) := by decide +kernel
theorem dX3_take_92 : decode cX3_take 92 = .ok (.aload_n 1, 1) := by decide +kernel
theorem dX3_take_93 : decode cX3_take 93 = .ok (.getfield 31, 3) := by decide +kernel
theorem dX3_take_96 : decode cX3_take 96 = .ok (.getfield 43, 3) := by decide +kernel
theorem dX3_take_99 : decode cX3_take 99 = .ok (.invokevirtual 47, 3) := by decide +kernel
theorem dX3_take_102 : decode cX3_take 102 = .ok (.aload_n 0, 1) := by decide +kernel
theorem dX3_take_103 : decode cX3_take 103 = .ok (.aload_n 1, 1) := by decide +kernel
theorem dX3_take_104 : decode cX3_take 104 = .ok (.getfield 51, 3) := by decide +kernel
theorem dX3_take_107 : decode cX3_take 107 = .ok (.putfield 51, 3) := by decide +kernel
theorem dX3_take_110 : decode cX3_take 110 = .ok (.return_, 1) := by decide +kernel
theorem dX3_isBuyer_0 : decode cX3_isBuyer 0 = .ok (.iload_n 1, 1) := by decide +kernel
theorem dX3_isBuyer_1 : decode cX3_isBuyer 1 = .ok (.iconst 0, 1) := by decide +kernel
theorem dX3_isBuyer_2 : decode cX3_isBuyer 2 = .ok (.aload_n 0, 1) := by decide +kernel
theorem dX3_isBuyer_3 : decode cX3_isBuyer 3 = .ok (.getfield 51, 3) := by decide +kernel
theorem dX3_isBuyer_6 : decode cX3_isBuyer 6 = .ok (.iconst 1, 1) := by decide +kernel
theorem dX3_isBuyer_7 : decode cX3_isBuyer 7 = .ok (.isub, 1) := by decide +kernel
theorem dX3_isBuyer_8 : decode cX3_isBuyer 8 = .ok (.invokestatic 54, 3) := by decide +kernel
theorem dX3_isBuyer_11 : decode cX3_isBuyer 11 = .ok (.ireturn, 1) := by decide +kernel
theorem dX3_formula_0 : decode cX3_formula 0 = .ok (.iload_n 1, 1) := by decide +kernel
theorem dX3_formula_1 : decode cX3_formula 1 = .ok (.ifCond .ne 10, 3) := by decide +kernel
theorem dX3_formula_4 : decode cX3_formula 4 = .ok (.aload_n 0, 1) := by decide +kernel
theorem dX3_formula_5 : decode cX3_formula 5 = .ok (.getfield 27, 3) := by decide +kernel
theorem dX3_formula_8 : decode cX3_formula 8 = .ok (.goto 7, 3) := by decide +kernel
theorem dX3_formula_11 : decode cX3_formula 11 = .ok (.aload_n 0, 1) := by decide +kernel
theorem dX3_formula_12 : decode cX3_formula 12 = .ok (.getfield 31, 3) := by decide +kernel
theorem dX3_formula_15 : decode cX3_formula 15 = .ok (.areturn, 1) := by decide +kernel
theorem dX3_plainWorth_0 : decode cX3_plainWorth 0 = .ok (.aload_n 0, 1) := by decide +kernel
theorem dX3_plainWorth_1 : decode cX3_plainWorth 1 = .ok (.getfield 27, 3) := by decide +kernel
theorem dX3_plainWorth_4 : decode cX3_plainWorth 4 = .ok (.invokevirtual 58, 3) := by decide +kernel
theorem dX3_plainWorth_7 : decode cX3_plainWorth 7 = .ok (.ifCond .eq 14, 3) := by decide +kernel
theorem dX3_plainWorth_10 : decode cX3_plainWorth 10 = .ok (.iload_n 1, 1) := by decide +kernel
theorem dX3_plainWorth_11 : decode cX3_plainWorth 11 = .ok (.iload_n 2, 1) := by decide +kernel
theorem dX3_plainWorth_12 : decode cX3_plainWorth 12 = .ok (.iconst 5, 1) := by decide +kernel
theorem dX3_plainWorth_13 : decode cX3_plainWorth 13 = .ok (.imul, 1) := by decide +kernel
theorem dX3_plainWorth_14 : decode cX3_plainWorth 14 = .ok (.iadd, 1) := by decide +kernel
theorem dX3_plainWorth_15 : decode cX3_plainWorth 15 = .ok (.iload 4, 2) := by decide +kernel
theorem dX3_plainWorth_17 : decode cX3_plainWorth 17 = .ok (.isub, 1) := by decide +kernel
theorem dX3_plainWorth_18 : decode cX3_plainWorth 18 = .ok (.goto 15, 3) := by decide +kernel
theorem dX3_plainWorth_21 : decode cX3_plainWorth 21 = .ok (.aload_n 0, 1) := by decide +kernel
theorem dX3_plainWorth_22 : decode cX3_plainWorth 22 = .ok (.getfield 27, 3) := by decide +kernel
theorem dX3_plainWorth_25 : decode cX3_plainWorth 25 = .ok (.iload_n 1, 1) := by decide +kernel
theorem dX3_plainWorth_26 : decode cX3_plainWorth 26 = .ok (.iload_n 2, 1) := by decide +kernel
theorem dX3_plainWorth_27 : decode cX3_plainWorth 27 = .ok (.iload_n 3, 1) := by decide +kernel
theorem dX3_plainWorth_28 : decode cX3_plainWorth 28 = .ok (.iload 4, 2) := by decide +kernel
theorem dX3_plainWorth_30 : decode cX3_plainWorth 30 = .ok (.invokevirtual 62, 3) := by decide +kernel
theorem dX3_plainWorth_33 : decode cX3_plainWorth 33 = .ok (.istore 5, 2) := by decide +kernel
theorem dX3_plainWorth_35 : decode cX3_plainWorth 35 = .ok (.iload 5, 2) := by decide +kernel
theorem dX3_plainWorth_37 : decode cX3_plainWorth 37 = .ok (.iconst 0, 1) := by decide +kernel
theorem dX3_plainWorth_38 : decode cX3_plainWorth 38 = .ok (.ldc 66, 2) := by decide +kernel
theorem dX3_plainWorth_40 : decode cX3_plainWorth 40 = .ok (.invokestatic 67, 3) := by decide +kernel
theorem dX3_plainWorth_43 : decode cX3_plainWorth 43 = .ok (.ireturn, 1) := by decide +kernel
theorem dX3_fame_0 : decode cX3_fame 0 = .ok (.aload_n 0, 1) := by decide +kernel
theorem dX3_fame_1 : decode cX3_fame 1 = .ok (.getfield 31, 3) := by decide +kernel
theorem dX3_fame_4 : decode cX3_fame 4 = .ok (.invokevirtual 58, 3) := by decide +kernel
theorem dX3_fame_7 : decode cX3_fame 7 = .ok (.ifCond .eq 26, 3) := by decide +kernel
theorem dX3_fame_10 : decode cX3_fame 10 = .ok (.iload_n 2, 1) := by decide +kernel
theorem dX3_fame_11 : decode cX3_fame 11 = .ok (.ifCond .ne 7, 3) := by decide +kernel
theorem dX3_fame_14 : decode cX3_fame 14 = .ok (.iconst 1, 1) := by decide +kernel
theorem dX3_fame_15 : decode cX3_fame 15 = .ok (.goto 4, 3) := by decide +kernel
theorem dX3_fame_18 : decode cX3_fame 18 = .ok (.iconst 0, 1) := by decide +kernel
theorem dX3_fame_19 : decode cX3_fame 19 = .ok (.iload_n 2, 1) := by decide +kernel
theorem dX3_fame_20 : decode cX3_fame 20 = .ok (.iconst 3, 1) := by decide +kernel
theorem dX3_fame_21 : decode cX3_fame 21 = .ok (.if_icmp .le 7, 3) := by decide +kernel
theorem dX3_fame_24 : decode cX3_fame 24 = .ok (.iconst 1, 1) := by decide +kernel
theorem dX3_fame_25 : decode cX3_fame 25 = .ok (.goto 4, 3) := by decide +kernel
theorem dX3_fame_28 : decode cX3_fame 28 = .ok (.iconst 0, 1) := by decide +kernel
theorem dX3_fame_29 : decode cX3_fame 29 = .ok (.isub, 1) := by decide +kernel
theorem dX3_fame_30 : decode cX3_fame 30 = .ok (.goto 15, 3) := by decide +kernel
theorem dX3_fame_33 : decode cX3_fame 33 = .ok (.aload_n 0, 1) := by decide +kernel
theorem dX3_fame_34 : decode cX3_fame 34 = .ok (.getfield 31, 3) := by decide +kernel
theorem dX3_fame_37 : decode cX3_fame 37 = .ok (.iload_n 1, 1) := by decide +kernel
theorem dX3_fame_38 : decode cX3_fame 38 = .ok (.iload_n 2, 1) := by decide +kernel
theorem dX3_fame_39 : decode cX3_fame 39 = .ok (.iload_n 3, 1) := by decide +kernel
theorem dX3_fame_40 : decode cX3_fame 40 = .ok (.iload 4, 2) := by decide +kernel
theorem dX3_fame_42 : decode cX3_fame 42 = .ok (.invokevirtual 62, 3) := by decide +kernel
theorem dX3_fame_45 : decode cX3_fame 45 = .ok (.istore 5, 2) := by decide +kernel
theorem dX3_fame_47 : decode cX3_fame 47 = .ok (.iload 5, 2) := by decide +kernel
theorem dX3_fame_49 : decode cX3_fame 49 = .ok (.bipush (-3), 2) := by decide +kernel
theorem dX3_fame_51 : decode cX3_fame 51 = .ok (.iconst 3, 1) := by decide +kernel
theorem dX3_fame_52 : decode cX3_fame 52 = .ok (.invokestatic 67, 3) := by decide +kernel
theorem dX3_fame_55 : decode cX3_fame 55 = .ok (.ireturn, 1) := by decide +kernel
theorem dX4_init_0 : decode cX4_init 0 = .ok (.aload_n 0, 1) := by decide +kernel
theorem dX4_init_1 : decode cX4_init 1 = .ok (.invokespecial 3, 3) := by decide +kernel
theorem dX4_init_4 : decode cX4_init 4 = .ok (.aload_n 0, 1) := by decide +kernel
theorem dX4_init_5 : decode cX4_init 5 = .ok (.bipush 40, 2) := by decide +kernel
theorem dX4_init_7 : decode cX4_init 7 = .ok (.newarray .int, 2) := by decide +kernel
theorem dX4_init_9 : decode cX4_init 9 = .ok (.putfield 9, 3) := by decide +kernel
theorem dX4_init_12 : decode cX4_init 12 = .ok (.return_, 1) := by decide +kernel
theorem dX4_isMissing_0 : decode cX4_isMissing 0 = .ok (.aload_n 0, 1) := by decide +kernel
theorem dX4_isMissing_1 : decode cX4_isMissing 1 = .ok (.getfield 15, 3) := by decide +kernel
theorem dX4_isMissing_4 : decode cX4_isMissing 4 = .ok (.ifCond .ne 7, 3) := by decide +kernel
theorem dX4_isMissing_7 : decode cX4_isMissing 7 = .ok (.iconst 1, 1) := by decide +kernel
theorem dX4_isMissing_8 : decode cX4_isMissing 8 = .ok (.goto 4, 3) := by decide +kernel
theorem dX4_isMissing_11 : decode cX4_isMissing 11 = .ok (.iconst 0, 1) := by decide +kernel
theorem dX4_isMissing_12 : decode cX4_isMissing 12 = .ok (.ireturn, 1) := by decide +kernel
theorem dX4_becomes_0 : decode cX4_becomes 0 = .ok (.aload_n 0, 1) := by decide +kernel
theorem dX4_becomes_1 : decode cX4_becomes 1 = .ok (.iload_n 1, 1) := by decide +kernel
theorem dX4_becomes_2 : decode cX4_becomes 2 = .ok (.putfield 15, 3) := by decide +kernel
theorem dX4_becomes_5 : decode cX4_becomes 5 = .ok (.aload_n 0, 1) := by decide +kernel
theorem dX4_becomes_6 : decode cX4_becomes 6 = .ok (.iload_n 2, 1) := by decide +kernel
theorem dX4_becomes_7 : decode cX4_becomes 7 = .ok (.iconst 0, 1) := by decide +kernel
theorem dX4_becomes_8 : decode cX4_becomes 8 = .ok (.bipush 40, 2) := by decide +kernel
theorem dX4_becomes_10 : decode cX4_becomes 10 = .ok (.invokestatic 19, 3) := by decide +kernel
theorem dX4_becomes_13 : decode cX4_becomes 13 = .ok (.putfield 23, 3) := by decide +kernel
theorem dX4_becomes_16 : decode cX4_becomes 16 = .ok (.iconst 0, 1) := by decide +kernel
theorem dX4_becomes_17 : decode cX4_becomes 17 = .ok (.istore_n 3, 1) := by decide +kernel
theorem dX4_becomes_18 : decode cX4_becomes 18 = .ok (.iload_n 3, 1) := by decide +kernel
theorem dX4_becomes_19 : decode cX4_becomes 19 = .ok (.bipush 40, 2) := by decide +kernel
theorem dX4_becomes_21 : decode cX4_becomes 21 = .ok (.if_icmp .ge 16, 3) := by decide +kernel
theorem dX4_becomes_24 : decode cX4_becomes 24 = .ok (.aload_n 0, 1) := by decide +kernel
theorem dX4_becomes_25 : decode cX4_becomes 25 = .ok (.getfield 9, 3) := by decide +kernel
theorem dX4_becomes_28 : decode cX4_becomes 28 = .ok (.iload_n 3, 1) := by decide +kernel
theorem dX4_becomes_29 : decode cX4_becomes 29 = .ok (.iconst 0, 1) := by decide +kernel
theorem dX4_becomes_30 : decode cX4_becomes 30 = .ok (.iastore, 1) := by decide +kernel
theorem dX4_becomes_31 : decode cX4_becomes 31 = .ok (.iinc 3 1, 3) := by decide +kernel
theorem dX4_becomes_34 : decode cX4_becomes 34 = .ok (.goto (-16), 3) := by decide +kernel
theorem dX4_becomes_37 : decode cX4_becomes 37 = .ok (.return_, 1) := by decide +kernel
theorem dX4_number_0 : decode cX4_number 0 = .ok (.iload_n 1, 1) := by decide +kernel
theorem dX4_number_1 : decode cX4_number 1 = .ok (.iconst 0, 1) := by decide +kernel
theorem dX4_number_2 : decode cX4_number 2 = .ok (.aload_n 0, 1) := by decide +kernel
theorem dX4_number_3 : decode cX4_number 3 = .ok (.getfield 23, 3) := by decide +kernel
theorem dX4_number_6 : decode cX4_number 6 = .ok (.iconst 1, 1) := by decide +kernel
theorem dX4_number_7 : decode cX4_number 7 = .ok (.isub, 1) := by decide +kernel
theorem dX4_number_8 : decode cX4_number 8 = .ok (.invokestatic 26, 3) := by decide +kernel
theorem dX4_number_11 : decode cX4_number 11 = .ok (.ifCond .eq 12, 3) := by decide +kernel
theorem dX4_number_14 : decode cX4_number 14 = .ok (.aload_n 0, 1) := by decide +kernel
theorem dX4_number_15 : decode cX4_number 15 = .ok (.getfield 9, 3) := by decide +kernel
theorem dX4_number_18 : decode cX4_number 18 = .ok (.iload_n 1, 1) := by decide +kernel
theorem dX4_number_19 : decode cX4_number 19 = .ok (.iaload, 1) := by decide +kernel
theorem dX4_number_20 : decode cX4_number 20 = .ok (.goto 4, 3) := by decide +kernel
theorem dX4_number_23 : decode cX4_number 23 = .ok (.iconst 0, 1) := by decide +kernel
theorem dX4_number_24 : decode cX4_number 24 = .ok (.ireturn, 1) := by decide +kernel
theorem dX4_change_0 : decode cX4_change 0 = .ok (.iload_n 1, 1) := by decide +kernel
theorem dX4_change_1 : decode cX4_change 1 = .ok (.iconst 0, 1) := by decide +kernel
theorem dX4_change_2 : decode cX4_change 2 = .ok (.aload_n 0, 1) := by decide +kernel
theorem dX4_change_3 : decode cX4_change 3 = .ok (.getfield 23, 3) := by decide +kernel
theorem dX4_change_6 : decode cX4_change 6 = .ok (.iconst 1, 1) := by decide +kernel
theorem dX4_change_7 : decode cX4_change 7 = .ok (.isub, 1) := by decide +kernel
theorem dX4_change_8 : decode cX4_change 8 = .ok (.invokestatic 26, 3) := by decide +kernel
theorem dX4_change_11 : decode cX4_change 11 = .ok (.ifCond .eq 14, 3) := by decide +kernel
theorem dX4_change_14 : decode cX4_change 14 = .ok (.aload_n 0, 1) := by decide +kernel
theorem dX4_change_15 : decode cX4_change 15 = .ok (.getfield 9, 3) := by decide +kernel
theorem dX4_change_18 : decode cX4_change 18 = .ok (.iload_n 1, 1) := by decide +kernel
theorem dX4_change_19 : decode cX4_change 19 = .ok (.aload_n 0, 1) := by decide +kernel
theorem dX4_change_20 : decode cX4_change 20 = .ok (.iload_n 2, 1) := by decide +kernel
theorem dX4_change_21 : decode cX4_change 21 = .ok (.invokevirtual 30, 3) := by decide +kernel
theorem dX4_change_24 : decode cX4_change 24 = .ok (.iastore, 1) := by decide +kernel
theorem dX4_change_25 : decode cX4_change 25 = .ok (.return_, 1) := by decide +kernel
theorem dX4_lowest_0 : decode cX4_lowest 0 = .ok (.aload_n 0, 1) := by decide +kernel
theorem dX4_lowest_1 : decode cX4_lowest 1 = .ok (.getfield 15, 3) := by decide +kernel
theorem dX4_lowest_4 : decode cX4_lowest 4 = .ok (.lookupswitch 34 #[(8, 28), (16, 31)], 28) := by decide +kernel
theorem dX4_lowest_32 : decode cX4_lowest 32 = .ok (.iload_n 1, 1) := by decide +kernel
theorem dX4_lowest_33 : decode cX4_lowest 33 = .ok (.i2b, 1) := by decide +kernel
theorem dX4_lowest_34 : decode cX4_lowest 34 = .ok (.ireturn, 1) := by decide +kernel
theorem dX4_lowest_35 : decode cX4_lowest 35 = .ok (.iload_n 1, 1) := by decide +kernel
theorem dX4_lowest_36 : decode cX4_lowest 36 = .ok (.i2s, 1) := by decide +kernel
theorem dX4_lowest_37 : decode cX4_lowest 37 = .ok (.ireturn, 1) := by decide +kernel
theorem dX4_lowest_38 : decode cX4_lowest 38 = .ok (.iload_n 1, 1) := by decide +kernel
theorem dX4_lowest_39 : decode cX4_lowest 39 = .ok (.ireturn, 1) := by decide +kernel
theorem dX4_holds_0 : decode cX4_holds 0 = .ok (.iload_n 2, 1) := by decide +kernel
theorem dX4_holds_1 : decode cX4_holds 1 = .ok (.ifCond .lt 29, 3) := by decide +kernel
theorem dX4_holds_4 : decode cX4_holds 4 = .ok (.iload_n 1, 1) := by decide +kernel
theorem dX4_holds_5 : decode cX4_holds 5 = .ok (.ifCond .lt 25, 3) := by decide +kernel
theorem dX4_holds_8 : decode cX4_holds 8 = .ok (.iload_n 2, 1) := by decide +kernel
theorem dX4_holds_9 : decode cX4_holds 9 = .ok (.aload_n 0, 1) := by decide +kernel
theorem dX4_holds_10 : decode cX4_holds 10 = .ok (.getfield 23, 3) := by decide +kernel
theorem dX4_holds_13 : decode cX4_holds 13 = .ok (.if_icmp .gt 17, 3) := by decide +kernel
theorem dX4_holds_16 : decode cX4_holds 16 = .ok (.iload_n 1, 1) := by decide +kernel
theorem dX4_holds_17 : decode cX4_holds 17 = .ok (.aload_n 0, 1) := by decide +kernel
theorem dX4_holds_18 : decode cX4_holds 18 = .ok (.getfield 23, 3) := by decide +kernel
theorem dX4_holds_21 : decode cX4_holds 21 = .ok (.iload_n 2, 1) := by decide +kernel
theorem dX4_holds_22 : decode cX4_holds 22 = .ok (.isub, 1) := by decide +kernel
theorem dX4_holds_23 : decode cX4_holds 23 = .ok (.if_icmp .gt 7, 3) := by decide +kernel
theorem dX4_holds_26 : decode cX4_holds 26 = .ok (.iconst 1, 1) := by decide +kernel
theorem dX4_holds_27 : decode cX4_holds 27 = .ok (.goto 4, 3) := by decide +kernel
theorem dX4_holds_30 : decode cX4_holds 30 = .ok (.iconst 0, 1) := by decide +kernel
theorem dX4_holds_31 : decode cX4_holds 31 = .ok (.ireturn, 1) := by decide +kernel
theorem dX5_init_0 : decode cX5_init 0 = .ok (.aload_n 0, 1) := by decide +kernel
theorem dX5_init_1 : decode cX5_init 1 = .ok (.invokespecial 3, 3) := by decide +kernel
theorem dX5_init_4 : decode cX5_init 4 = .ok (.aload_n 0, 1) := by decide +kernel
theorem dX5_init_5 : decode cX5_init 5 = .ok (.bipush 8, 2) := by decide +kernel
theorem dX5_init_7 : decode cX5_init 7 = .ok (.newarray .int, 2) := by decide +kernel
theorem dX5_init_9 : decode cX5_init 9 = .ok (.putfield 9, 3) := by decide +kernel
theorem dX5_init_12 : decode cX5_init 12 = .ok (.aload_n 0, 1) := by decide +kernel
theorem dX5_init_13 : decode cX5_init 13 = .ok (.bipush 8, 2) := by decide +kernel
theorem dX5_init_15 : decode cX5_init 15 = .ok (.newarray .int, 2) := by decide +kernel
theorem dX5_init_17 : decode cX5_init 17 = .ok (.putfield 15, 3) := by decide +kernel
theorem dX5_init_20 : decode cX5_init 20 = .ok (.aload_n 0, 1) := by decide +kernel
theorem dX5_init_21 : decode cX5_init 21 = .ok (.bipush 6, 2) := by decide +kernel
theorem dX5_init_23 : decode cX5_init 23 = .ok (.putfield 18, 3) := by decide +kernel
theorem dX5_init_26 : decode cX5_init 26 = .ok (.aload_n 0, 1) := by decide +kernel
theorem dX5_init_27 : decode cX5_init 27 = .ok (.bipush 9, 2) := by decide +kernel
theorem dX5_init_29 : decode cX5_init 29 = .ok (.putfield 22, 3) := by decide +kernel
theorem dX5_init_32 : decode cX5_init 32 = .ok (.aload_n 0, 1) := by decide +kernel
theorem dX5_init_33 : decode cX5_init 33 = .ok (.aload_n 1, 1) := by decide +kernel
theorem dX5_init_34 : decode cX5_init 34 = .ok (.putfield 25, 3) := by decide +kernel
theorem dX5_init_37 : decode cX5_init 37 = .ok (.return_, 1) := by decide +kernel
theorem dX5_take_0 : decode cX5_take 0 = .ok (.aload_n 1, 1) := by decide +kernel
theorem dX5_take_1 : decode cX5_take 1 = .ok (.getfield 9, 3) := by decide +kernel
theorem dX5_take_4 : decode cX5_take 4 = .ok (.iconst 0, 1) := by decide +kernel
theorem dX5_take_5 : decode cX5_take 5 = .ok (.aload_n 0, 1) := by decide +kernel
theorem dX5_take_6 : decode cX5_take 6 = .ok (.getfield 9, 3) := by decide +kernel
theorem dX5_take_9 : decode cX5_take 9 = .ok (.iconst 0, 1) := by decide +kernel
theorem dX5_take_10 : decode cX5_take 10 = .ok (.bipush 8, 2) := by decide +kernel
theorem dX5_take_12 : decode cX5_take 12 = .ok (.invokestatic 29, 3) := by decide +kernel
theorem dX5_take_15 : decode cX5_take 15 = .ok (.aload_n 1, 1) := by decide +kernel
theorem dX5_take_16 : decode cX5_take 16 = .ok (.getfield 15, 3) := by decide +kernel
theorem dX5_take_19 : decode cX5_take 19 = .ok (.iconst 0, 1) := by decide +kernel
theorem dX5_take_20 : decode cX5_take 20 = .ok (.aload_n 0, 1) := by decide +kernel
theorem dX5_take_21 : decode cX5_take 21 = .ok (.getfield 15, 3) := by decide +kernel
theorem dX5_take_24 : decode cX5_take 24 = .ok (.iconst 0, 1) := by decide +kernel
theorem dX5_take_25 : decode cX5_take 25 = .ok (.bipush 8, 2) := by decide +kernel
theorem dX5_take_27 : decode cX5_take 27 = .ok (.invokestatic 29, 3) := by decide +kernel
theorem dX5_take_30 : decode cX5_take 30 = .ok (.aload_n 0, 1) := by decide +kernel
theorem dX5_take_31 : decode cX5_take 31 = .ok (.aload_n 1, 1) := by decide +kernel
theorem dX5_take_32 : decode cX5_take 32 = .ok (.getfield 35, 3) := by decide +kernel
theorem dX5_take_35 : decode cX5_take 35 = .ok (.putfield 35, 3) := by decide +kernel
theorem dX5_take_38 : decode cX5_take 38 = .ok (.aload_n 0, 1) := by decide +kernel
theorem dX5_take_39 : decode cX5_take 39 = .ok (.aload_n 1, 1) := by decide +kernel
theorem dX5_take_40 : decode cX5_take 40 = .ok (.getfield 18, 3) := by decide +kernel
theorem dX5_take_43 : decode cX5_take 43 = .ok (.putfield 18, 3) := by decide +kernel
theorem dX5_take_46 : decode cX5_take 46 = .ok (.aload_n 0, 1) := by decide +kernel
theorem dX5_take_47 : decode cX5_take 47 = .ok (.aload_n 1, 1) := by decide +kernel
theorem dX5_take_48 : decode cX5_take 48 = .ok (.getfield 22, 3) := by decide +kernel
theorem dX5_take_51 : decode cX5_take 51 = .ok (.putfield 22, 3) := by decide +kernel
theorem dX5_take_54 : decode cX5_take 54 = .ok (.aload_n 0, 1) := by decide +kernel
theorem dX5_take_55 : decode cX5_take 55 = .ok (.aload_n 1, 1) := by decide +kernel
theorem dX5_take_56 : decode cX5_take 56 = .ok (.getfield 38, 3) := by decide +kernel
theorem dX5_take_59 : decode cX5_take 59 = .ok (.putfield 38, 3) := by decide +kernel
theorem dX5_take_62 : decode cX5_take 62 = .ok (.aload_n 0, 1) := by decide +kernel
theorem dX5_take_63 : decode cX5_take 63 = .ok (.aload_n 1, 1) := by decide +kernel
theorem dX5_take_64 : decode cX5_take 64 = .ok (.getfield 41, 3) := by decide +kernel
theorem dX5_take_67 : decode cX5_take 67 = .ok (.putfield 41, 3) := by decide +kernel
theorem dX5_take_70 : decode cX5_take 70 = .ok (.aload_n 0, 1) := by decide +kernel
theorem dX5_take_71 : decode cX5_take 71 = .ok (.aload_n 1, 1) := by decide +kernel
theorem dX5_take_72 : decode cX5_take 72 = .ok (.getfield 44, 3) := by decide +kernel
theorem dX5_take_75 : decode cX5_take 75 = .ok (.putfield 44, 3) := by decide +kernel
theorem dX5_take_78 : decode cX5_take 78 = .ok (.return_, 1) := by decide +kernel
theorem dX5_setting_0 : decode cX5_setting 0 = .ok (.iload_n 1, 1) := by decide +kernel
theorem dX5_setting_1 : decode cX5_setting 1 = .ok (.tableswitch 60 0 4 #[35, 40, 45, 50, 55], 35) := by decide +kernel
theorem dX5_setting_36 : decode cX5_setting 36 = .ok (.aload_n 0, 1) := by decide +kernel
theorem dX5_setting_37 : decode cX5_setting 37 = .ok (.getfield 35, 3) := by decide +kernel
theorem dX5_setting_40 : decode cX5_setting 40 = .ok (.ireturn, 1) := by decide +kernel
theorem dX5_setting_41 : decode cX5_setting 41 = .ok (.aload_n 0, 1) := by decide +kernel
theorem dX5_setting_42 : decode cX5_setting 42 = .ok (.getfield 18, 3) := by decide +kernel
theorem dX5_setting_45 : decode cX5_setting 45 = .ok (.ireturn, 1) := by decide +kernel
theorem dX5_setting_46 : decode cX5_setting 46 = .ok (.aload_n 0, 1) := by decide +kernel
theorem dX5_setting_47 : decode cX5_setting 47 = .ok (.getfield 22, 3) := by decide +kernel
theorem dX5_setting_50 : decode cX5_setting 50 = .ok (.ireturn, 1) := by decide +kernel
theorem dX5_setting_51 : decode cX5_setting 51 = .ok (.aload_n 0, 1) := by decide +kernel
theorem dX5_setting_52 : decode cX5_setting 52 = .ok (.getfield 38, 3) := by decide +kernel
theorem dX5_setting_55 : decode cX5_setting 55 = .ok (.ireturn, 1) := by decide +kernel
theorem dX5_setting_56 : decode cX5_setting 56 = .ok (.aload_n 0, 1) := by decide +kernel
theorem dX5_setting_57 : decode cX5_setting 57 = .ok (.getfield 41, 3) := by decide +kernel
theorem dX5_setting_60 : decode cX5_setting 60 = .ok (.ireturn, 1) := by decide +kernel
theorem dX5_setting_61 : decode cX5_setting 61 = .ok (.aload_n 0, 1) := by decide +kernel
theorem dX5_setting_62 : decode cX5_setting 62 = .ok (.getfield 44, 3) := by decide +kernel
theorem dX5_setting_65 : decode cX5_setting 65 = .ok (.ireturn, 1) := by decide +kernel
theorem dX5_change_0 : decode cX5_change 0 = .ok (.iload_n 1, 1) := by decide +kernel
theorem dX5_change_1 : decode cX5_change 1 = .ok (.tableswitch 75 0 4 #[35, 43, 51, 59, 67], 35) := by decide +kernel
theorem dX5_change_36 : decode cX5_change 36 = .ok (.aload_n 0, 1) := by decide +kernel
theorem dX5_change_37 : decode cX5_change 37 = .ok (.iload_n 2, 1) := by decide +kernel
theorem dX5_change_38 : decode cX5_change 38 = .ok (.putfield 35, 3) := by decide +kernel
theorem dX5_change_41 : decode cX5_change 41 = .ok (.goto 40, 3) := by decide +kernel
theorem dX5_change_44 : decode cX5_change 44 = .ok (.aload_n 0, 1) := by decide +kernel
theorem dX5_change_45 : decode cX5_change 45 = .ok (.iload_n 2, 1) := by decide +kernel
theorem dX5_change_46 : decode cX5_change 46 = .ok (.putfield 18, 3) := by decide +kernel
theorem dX5_change_49 : decode cX5_change 49 = .ok (.goto 32, 3) := by decide +kernel
theorem dX5_change_52 : decode cX5_change 52 = .ok (.aload_n 0, 1) := by decide +kernel
theorem dX5_change_53 : decode cX5_change 53 = .ok (.iload_n 2, 1) := by decide +kernel
theorem dX5_change_54 : decode cX5_change 54 = .ok (.putfield 22, 3) := by decide +kernel
theorem dX5_change_57 : decode cX5_change 57 = .ok (.goto 24, 3) := by decide +kernel
theorem dX5_change_60 : decode cX5_change 60 = .ok (.aload_n 0, 1) := by decide +kernel
theorem dX5_change_61 : decode cX5_change 61 = .ok (.iload_n 2, 1) := by decide +kernel
theorem dX5_change_62 : decode cX5_change 62 = .ok (.putfield 38, 3) := by decide +kernel
theorem dX5_change_65 : decode cX5_change 65 = .ok (.goto 16, 3) := by decide +kernel
theorem dX5_change_68 : decode cX5_change 68 = .ok (.aload_n 0, 1) := by decide +kernel
theorem dX5_change_69 : decode cX5_change 69 = .ok (.iload_n 2, 1) := by decide +kernel
theorem dX5_change_70 : decode cX5_change 70 = .ok (.putfield 41, 3) := by decide +kernel
theorem dX5_change_73 : decode cX5_change 73 = .ok (.goto 8, 3) := by decide +kernel
theorem dX5_change_76 : decode cX5_change 76 = .ok (.aload_n 0, 1) := by decide +kernel
theorem dX5_change_77 : decode cX5_change 77 = .ok (.iload_n 2, 1) := by decide +kernel
theorem dX5_change_78 : decode cX5_change 78 = .ok (.putfield 44, 3) := by decide +kernel
theorem dX5_change_81 : decode cX5_change 81 = .ok (.return_, 1) := by decide +kernel
theorem dX5_figure_0 : decode cX5_figure 0 = .ok (.iload_n 1, 1) := by decide +kernel
theorem dX5_figure_1 : decode cX5_figure 1 = .ok (.tableswitch 51 0 3 #[31, 36, 41, 46], 31) := by decide +kernel
theorem dX5_figure_32 : decode cX5_figure 32 = .ok (.aload_n 0, 1) := by decide +kernel
theorem dX5_figure_33 : decode cX5_figure 33 = .ok (.getfield 41, 3) := by decide +kernel
theorem dX5_figure_36 : decode cX5_figure 36 = .ok (.ireturn, 1) := by decide +kernel
theorem dX5_figure_37 : decode cX5_figure 37 = .ok (.aload_n 0, 1) := by decide +kernel
theorem dX5_figure_38 : decode cX5_figure 38 = .ok (.getfield 18, 3) := by decide +kernel
theorem dX5_figure_41 : decode cX5_figure 41 = .ok (.ireturn, 1) := by decide +kernel
theorem dX5_figure_42 : decode cX5_figure 42 = .ok (.aload_n 0, 1) := by decide +kernel
theorem dX5_figure_43 : decode cX5_figure 43 = .ok (.getfield 38, 3) := by decide +kernel
theorem dX5_figure_46 : decode cX5_figure 46 = .ok (.ireturn, 1) := by decide +kernel
theorem dX5_figure_47 : decode cX5_figure 47 = .ok (.aload_n 0, 1) := by decide +kernel
theorem dX5_figure_48 : decode cX5_figure 48 = .ok (.invokevirtual 47, 3) := by decide +kernel
theorem dX5_figure_51 : decode cX5_figure 51 = .ok (.ireturn, 1) := by decide +kernel
theorem dX5_figure_52 : decode cX5_figure 52 = .ok (.aload_n 0, 1) := by decide +kernel
theorem dX5_figure_53 : decode cX5_figure 53 = .ok (.invokevirtual 51, 3) := by decide +kernel
theorem dX5_figure_56 : decode cX5_figure 56 = .ok (.ireturn, 1) := by decide +kernel
theorem dX5_ends_0 : decode cX5_ends 0 = .ok (.aload_n 0, 1) := by decide +kernel
theorem dX5_ends_1 : decode cX5_ends 1 = .ok (.getfield 41, 3) := by decide +kernel
theorem dX5_ends_4 : decode cX5_ends 4 = .ok (.aload_n 0, 1) := by decide +kernel
theorem dX5_ends_5 : decode cX5_ends 5 = .ok (.getfield 38, 3) := by decide +kernel
theorem dX5_ends_8 : decode cX5_ends 8 = .ok (.aload_n 0, 1) := by decide +kernel
theorem dX5_ends_9 : decode cX5_ends 9 = .ok (.getfield 25, 3) := by decide +kernel
theorem dX5_ends_12 : decode cX5_ends 12 = .ok (.getfield 54, 3) := by decide +kernel
theorem dX5_ends_15 : decode cX5_ends 15 = .ok (.aload_n 0, 1) := by decide +kernel
theorem dX5_ends_16 : decode cX5_ends 16 = .ok (.getfield 35, 3) := by decide +kernel
theorem dX5_ends_19 : decode cX5_ends 19 = .ok (.iaload, 1) := by decide +kernel
theorem dX5_ends_20 : decode cX5_ends 20 = .ok (.imul, 1) := by decide +kernel
theorem dX5_ends_21 : decode cX5_ends 21 = .ok (.iconst 2, 1) := by decide +kernel
theorem dX5_ends_22 : decode cX5_ends 22 = .ok (.idiv, 1) := by decide +kernel
theorem dX5_ends_23 : decode cX5_ends 23 = .ok (.iadd, 1) := by decide +kernel
theorem dX5_ends_24 : decode cX5_ends 24 = .ok (.ireturn, 1) := by decide +kernel
theorem dX5_hasInAll_0 : decode cX5_hasInAll 0 = .ok (.iconst 0, 1) := by decide +kernel
theorem dX5_hasInAll_1 : decode cX5_hasInAll 1 = .ok (.istore_n 1, 1) := by decide +kernel
theorem dX5_hasInAll_2 : decode cX5_hasInAll 2 = .ok (.iconst 0, 1) := by decide +kernel
theorem dX5_hasInAll_3 : decode cX5_hasInAll 3 = .ok (.istore_n 2, 1) := by decide +kernel
theorem dX5_hasInAll_4 : decode cX5_hasInAll 4 = .ok (.iload_n 2, 1) := by decide +kernel
theorem dX5_hasInAll_5 : decode cX5_hasInAll 5 = .ok (.aload_n 0, 1) := by decide +kernel
theorem dX5_hasInAll_6 : decode cX5_hasInAll 6 = .ok (.getfield 25, 3) := by decide +kernel
theorem dX5_hasInAll_9 : decode cX5_hasInAll 9 = .ok (.getfield 59, 3) := by decide +kernel
theorem dX5_hasInAll_12 : decode cX5_hasInAll 12 = .ok (.if_icmp .ge 18, 3) := by decide +kernel
theorem dX5_hasInAll_15 : decode cX5_hasInAll 15 = .ok (.iload_n 1, 1) := by decide +kernel
theorem dX5_hasInAll_16 : decode cX5_hasInAll 16 = .ok (.aload_n 0, 1) := by decide +kernel
theorem dX5_hasInAll_17 : decode cX5_hasInAll 17 = .ok (.getfield 9, 3) := by decide +kernel
theorem dX5_hasInAll_20 : decode cX5_hasInAll 20 = .ok (.iload_n 2, 1) := by decide +kernel
theorem dX5_hasInAll_21 : decode cX5_hasInAll 21 = .ok (.iaload, 1) := by decide +kernel
theorem dX5_hasInAll_22 : decode cX5_hasInAll 22 = .ok (.iadd, 1) := by decide +kernel
theorem dX5_hasInAll_23 : decode cX5_hasInAll 23 = .ok (.istore_n 1, 1) := by decide +kernel
theorem dX5_hasInAll_24 : decode cX5_hasInAll 24 = .ok (.iinc 2 1, 3) := by decide +kernel
theorem dX5_hasInAll_27 : decode cX5_hasInAll 27 = .ok (.goto (-23), 3) := by decide +kernel
theorem dX5_hasInAll_30 : decode cX5_hasInAll 30 = .ok (.iload_n 1, 1) := by decide +kernel
theorem dX5_hasInAll_31 : decode cX5_hasInAll 31 = .ok (.ireturn, 1) := by decide +kernel
theorem dX5_pots_0 : decode cX5_pots 0 = .ok (.aload_n 0, 1) := by decide +kernel
theorem dX5_pots_1 : decode cX5_pots 1 = .ok (.getfield 38, 3) := by decide +kernel
theorem dX5_pots_4 : decode cX5_pots 4 = .ok (.aload_n 0, 1) := by decide +kernel
theorem dX5_pots_5 : decode cX5_pots 5 = .ok (.getfield 22, 3) := by decide +kernel
theorem dX5_pots_8 : decode cX5_pots 8 = .ok (.iadd, 1) := by decide +kernel
theorem dX5_pots_9 : decode cX5_pots 9 = .ok (.ireturn, 1) := by decide +kernel
theorem dX5_appraise_0 : decode cX5_appraise 0 = .ok (.aload_n 0, 1) := by decide +kernel
theorem dX5_appraise_1 : decode cX5_appraise 1 = .ok (.getfield 25, 3) := by decide +kernel
theorem dX5_appraise_4 : decode cX5_appraise 4 = .ok (.getfield 54, 3) := by decide +kernel
theorem dX5_appraise_7 : decode cX5_appraise 7 = .ok (.aload_n 0, 1) := by decide +kernel
theorem dX5_appraise_8 : decode cX5_appraise 8 = .ok (.getfield 35, 3) := by decide +kernel
theorem dX5_appraise_11 : decode cX5_appraise 11 = .ok (.iaload, 1) := by decide +kernel
theorem dX5_appraise_12 : decode cX5_appraise 12 = .ok (.istore_n 1, 1) := by decide +kernel
theorem dX5_appraise_13 : decode cX5_appraise 13 = .ok (.iconst 0, 1) := by decide +kernel
theorem dX5_appraise_14 : decode cX5_appraise 14 = .ok (.istore_n 2, 1) := by decide +kernel
theorem dX5_appraise_15 : decode cX5_appraise 15 = .ok (.iload_n 2, 1) := by decide +kernel
theorem dX5_appraise_16 : decode cX5_appraise 16 = .ok (.aload_n 0, 1) := by decide +kernel
theorem dX5_appraise_17 : decode cX5_appraise 17 = .ok (.getfield 25, 3) := by decide +kernel
theorem dX5_appraise_20 : decode cX5_appraise 20 = .ok (.getfield 59, 3) := by decide +kernel
theorem dX5_appraise_23 : decode cX5_appraise 23 = .ok (.if_icmp .ge 42, 3) := by decide +kernel
theorem dX5_appraise_26 : decode cX5_appraise 26 = .ok (.aload_n 0, 1) := by decide +kernel
theorem dX5_appraise_27 : decode cX5_appraise 27 = .ok (.getfield 15, 3) := by decide +kernel
theorem dX5_appraise_30 : decode cX5_appraise 30 = .ok (.iload_n 2, 1) := by decide +kernel
theorem dX5_appraise_31 : decode cX5_appraise 31 = .ok (.aload_n 0, 1) := by decide +kernel
theorem dX5_appraise_32 : decode cX5_appraise 32 = .ok (.getfield 25, 3) := by decide +kernel
theorem dX5_appraise_35 : decode cX5_appraise 35 = .ok (.aload_n 0, 1) := by decide +kernel
theorem dX5_appraise_36 : decode cX5_appraise 36 = .ok (.getfield 25, 3) := by decide +kernel
theorem dX5_appraise_39 : decode cX5_appraise 39 = .ok (.getfield 62, 3) := by decide +kernel
theorem dX5_appraise_42 : decode cX5_appraise 42 = .ok (.iload_n 2, 1) := by decide +kernel
theorem dX5_appraise_43 : decode cX5_appraise 43 = .ok (.iaload, 1) := by decide +kernel
theorem dX5_appraise_44 : decode cX5_appraise 44 = .ok (.aload_n 0, 1) := by decide +kernel
theorem dX5_appraise_45 : decode cX5_appraise 45 = .ok (.getfield 18, 3) := by decide +kernel
theorem dX5_appraise_48 : decode cX5_appraise 48 = .ok (.iload_n 1, 1) := by decide +kernel
theorem dX5_appraise_49 : decode cX5_appraise 49 = .ok (.aload_n 0, 1) := by decide +kernel
theorem dX5_appraise_50 : decode cX5_appraise 50 = .ok (.getfield 9, 3) := by decide +kernel
theorem dX5_appraise_53 : decode cX5_appraise 53 = .ok (.iload_n 2, 1) := by decide +kernel
theorem dX5_appraise_54 : decode cX5_appraise 54 = .ok (.iaload, 1) := by decide +kernel
theorem dX5_appraise_55 : decode cX5_appraise 55 = .ok (.invokevirtual 65, 3) := by decide +kernel
theorem dX5_appraise_58 : decode cX5_appraise 58 = .ok (.iastore, 1) := by decide +kernel
theorem dX5_appraise_59 : decode cX5_appraise 59 = .ok (.iinc 2 1, 3) := by decide +kernel
theorem dX5_appraise_62 : decode cX5_appraise 62 = .ok (.goto (-47), 3) := by decide +kernel
theorem dX5_appraise_65 : decode cX5_appraise 65 = .ok (.return_, 1) := by decide +kernel
theorem dX5_worth_0 : decode cX5_worth 0 = .ok (.aload_n 0, 1) := by decide +kernel
theorem dX5_worth_1 : decode cX5_worth 1 = .ok (.getfield 15, 3) := by decide +kernel
theorem dX5_worth_4 : decode cX5_worth 4 = .ok (.iload_n 1, 1) := by decide +kernel
theorem dX5_worth_5 : decode cX5_worth 5 = .ok (.iaload, 1) := by decide +kernel
theorem dX5_worth_6 : decode cX5_worth 6 = .ok (.istore_n 3, 1) := by decide +kernel
theorem dX5_worth_7 : decode cX5_worth 7 = .ok (.iload_n 2, 1) := by decide +kernel
theorem dX5_worth_8 : decode cX5_worth 8 = .ok (.aload_n 0, 1) := by decide +kernel
theorem dX5_worth_9 : decode cX5_worth 9 = .ok (.getfield 35, 3) := by decide +kernel
theorem dX5_worth_12 : decode cX5_worth 12 = .ok (.if_icmp .le 11, 3) := by decide +kernel
theorem dX5_worth_15 : decode cX5_worth 15 = .ok (.iload_n 3, 1) := by decide +kernel
theorem dX5_worth_16 : decode cX5_worth 16 = .ok (.iload_n 3, 1) := by decide +kernel
theorem dX5_worth_17 : decode cX5_worth 17 = .ok (.iconst 5, 1) := by decide +kernel
theorem dX5_worth_18 : decode cX5_worth 18 = .ok (.idiv, 1) := by decide +kernel
theorem dX5_worth_19 : decode cX5_worth 19 = .ok (.iadd, 1) := by decide +kernel
theorem dX5_worth_20 : decode cX5_worth 20 = .ok (.goto 4, 3) := by decide +kernel
theorem dX5_worth_23 : decode cX5_worth 23 = .ok (.iload_n 3, 1) := by decide +kernel
theorem dX5_worth_24 : decode cX5_worth 24 = .ok (.istore 4, 2) := by decide +kernel
theorem dX5_worth_26 : decode cX5_worth 26 = .ok (.aload_n 0, 1) := by decide +kernel
theorem dX5_worth_27 : decode cX5_worth 27 = .ok (.getfield 25, 3) := by decide +kernel
theorem dX5_worth_30 : decode cX5_worth 30 = .ok (.getfield 69, 3) := by decide +kernel
theorem dX5_worth_33 : decode cX5_worth 33 = .ok (.iload_n 1, 1) := by decide +kernel
theorem dX5_worth_34 : decode cX5_worth 34 = .ok (.iaload, 1) := by decide +kernel
theorem dX5_worth_35 : decode cX5_worth 35 = .ok (.tableswitch 102 1 6 #[37, 40, 52, 69, 88, 92], 37) := by decide +kernel
theorem dX5_worth_72 : decode cX5_worth 72 = .ok (.iload 4, 2) := by decide +kernel
theorem dX5_worth_74 : decode cX5_worth 74 = .ok (.ireturn, 1) := by decide +kernel
theorem dX5_worth_75 : decode cX5_worth 75 = .ok (.iload 4, 2) := by decide +kernel
theorem dX5_worth_77 : decode cX5_worth 77 = .ok (.iconst 3, 1) := by decide +kernel
theorem dX5_worth_78 : decode cX5_worth 78 = .ok (.aload_n 0, 1) := by decide +kernel
theorem dX5_worth_79 : decode cX5_worth 79 = .ok (.getfield 9, 3) := by decide +kernel
theorem dX5_worth_82 : decode cX5_worth 82 = .ok (.iload_n 1, 1) := by decide +kernel
theorem dX5_worth_83 : decode cX5_worth 83 = .ok (.iaload, 1) := by decide +kernel
theorem dX5_worth_84 : decode cX5_worth 84 = .ok (.imul, 1) := by decide +kernel
theorem dX5_worth_85 : decode cX5_worth 85 = .ok (.isub, 1) := by decide +kernel
theorem dX5_worth_86 : decode cX5_worth 86 = .ok (.ireturn, 1) := by decide +kernel
theorem dX5_worth_87 : decode cX5_worth 87 = .ok (.aload_n 0, 1) := by decide +kernel
theorem dX5_worth_88 : decode cX5_worth 88 = .ok (.getfield 9, 3) := by decide +kernel
theorem dX5_worth_91 : decode cX5_worth 91 = .ok (.iload_n 1, 1) := by decide +kernel
theorem dX5_worth_92 : decode cX5_worth 92 = .ok (.iaload, 1) := by decide +kernel
theorem dX5_worth_93 : decode cX5_worth 93 = .ok (.bipush 6, 2) := by decide +kernel
theorem dX5_worth_95 : decode cX5_worth 95 = .ok (.if_icmp .lt 7, 3) := by decide +kernel
theorem dX5_worth_98 : decode cX5_worth 98 = .ok (.iconst 0, 1) := by decide +kernel
theorem dX5_worth_99 : decode cX5_worth 99 = .ok (.goto 4, 3) := by decide +kernel
theorem dX5_worth_102 : decode cX5_worth 102 = .ok (.iload_n 3, 1) := by decide +kernel
theorem dX5_worth_103 : decode cX5_worth 103 = .ok (.ireturn, 1) := by decide +kernel
theorem dX5_worth_104 : decode cX5_worth 104 = .ok (.aload_n 0, 1) := by decide +kernel
theorem dX5_worth_105 : decode cX5_worth 105 = .ok (.getfield 9, 3) := by decide +kernel
theorem dX5_worth_108 : decode cX5_worth 108 = .ok (.iload_n 1, 1) := by decide +kernel
theorem dX5_worth_109 : decode cX5_worth 109 = .ok (.iaload, 1) := by decide +kernel
theorem dX5_worth_110 : decode cX5_worth 110 = .ok (.bipush 6, 2) := by decide +kernel
theorem dX5_worth_112 : decode cX5_worth 112 = .ok (.if_icmp .lt 7, 3) := by decide +kernel
theorem dX5_worth_115 : decode cX5_worth 115 = .ok (.iconst 0, 1) := by decide +kernel
theorem dX5_worth_116 : decode cX5_worth 116 = .ok (.goto 6, 3) := by decide +kernel
theorem dX5_worth_119 : decode cX5_worth 119 = .ok (.iconst 2, 1) := by decide +kernel
theorem dX5_worth_120 : decode cX5_worth 120 = .ok (.iload_n 3, 1) := by decide +kernel
theorem dX5_worth_121 : decode cX5_worth 121 = .ok (.imul, 1) := by decide +kernel
theorem dX5_worth_122 : decode cX5_worth 122 = .ok (.ireturn, 1) := by decide +kernel
theorem dX5_worth_123 : decode cX5_worth 123 = .ok (.iload_n 3, 1) := by decide +kernel
theorem dX5_worth_124 : decode cX5_worth 124 = .ok (.iconst 2, 1) := by decide +kernel
theorem dX5_worth_125 : decode cX5_worth 125 = .ok (.idiv, 1) := by decide +kernel
theorem dX5_worth_126 : decode cX5_worth 126 = .ok (.ireturn, 1) := by decide +kernel
theorem dX5_worth_127 : decode cX5_worth 127 = .ok (.iload 4, 2) := by decide +kernel
theorem dX5_worth_129 : decode cX5_worth 129 = .ok (.iconst 5, 1) := by decide +kernel
theorem dX5_worth_130 : decode cX5_worth 130 = .ok (.aload_n 0, 1) := by decide +kernel
theorem dX5_worth_131 : decode cX5_worth 131 = .ok (.getfield 18, 3) := by decide +kernel
theorem dX5_worth_134 : decode cX5_worth 134 = .ok (.imul, 1) := by decide +kernel
theorem dX5_worth_135 : decode cX5_worth 135 = .ok (.iadd, 1) := by decide +kernel
theorem dX5_worth_136 : decode cX5_worth 136 = .ok (.ireturn, 1) := by decide +kernel
theorem dX5_worth_137 : decode cX5_worth 137 = .ok (.iload_n 3, 1) := by decide +kernel
theorem dX5_worth_138 : decode cX5_worth 138 = .ok (.ireturn, 1) := by decide +kernel
theorem dX5_due_0 : decode cX5_due 0 = .ok (.aload_n 0, 1) := by decide +kernel
theorem dX5_due_1 : decode cX5_due 1 = .ok (.getfield 25, 3) := by decide +kernel
theorem dX5_due_4 : decode cX5_due 4 = .ok (.getfield 54, 3) := by decide +kernel
theorem dX5_due_7 : decode cX5_due 7 = .ok (.iload_n 2, 1) := by decide +kernel
theorem dX5_due_8 : decode cX5_due 8 = .ok (.iaload, 1) := by decide +kernel
theorem dX5_due_9 : decode cX5_due 9 = .ok (.istore_n 3, 1) := by decide +kernel
theorem dX5_due_10 : decode cX5_due 10 = .ok (.aload_n 0, 1) := by decide +kernel
theorem dX5_due_11 : decode cX5_due 11 = .ok (.getfield 25, 3) := by decide +kernel
theorem dX5_due_14 : decode cX5_due 14 = .ok (.getfield 69, 3) := by decide +kernel
theorem dX5_due_17 : decode cX5_due 17 = .ok (.iload_n 1, 1) := by decide +kernel
theorem dX5_due_18 : decode cX5_due 18 = .ok (.iaload, 1) := by decide +kernel
theorem dX5_due_19 : decode cX5_due 19 = .ok (.lookupswitch 35 #[(4, 25), (5, 29)], 25) := by decide +kernel
theorem dX5_due_44 : decode cX5_due 44 = .ok (.iload_n 3, 1) := by decide +kernel
theorem dX5_due_45 : decode cX5_due 45 = .ok (.iconst 2, 1) := by decide +kernel
theorem dX5_due_46 : decode cX5_due 46 = .ok (.idiv, 1) := by decide +kernel
theorem dX5_due_47 : decode cX5_due 47 = .ok (.ireturn, 1) := by decide +kernel
theorem dX5_due_48 : decode cX5_due 48 = .ok (.iconst 2, 1) := by decide +kernel
theorem dX5_due_49 : decode cX5_due 49 = .ok (.iload_n 3, 1) := by decide +kernel
theorem dX5_due_50 : decode cX5_due 50 = .ok (.imul, 1) := by decide +kernel
theorem dX5_due_51 : decode cX5_due 51 = .ok (.iconst 3, 1) := by decide +kernel
theorem dX5_due_52 : decode cX5_due 52 = .ok (.idiv, 1) := by decide +kernel
theorem dX5_due_53 : decode cX5_due 53 = .ok (.ireturn, 1) := by decide +kernel
theorem dX5_due_54 : decode cX5_due 54 = .ok (.iload_n 3, 1) := by decide +kernel
theorem dX5_due_55 : decode cX5_due 55 = .ok (.ireturn, 1) := by decide +kernel
theorem dX5_buys_0 : decode cX5_buys 0 = .ok (.iload_n 3, 1) := by decide +kernel
theorem dX5_buys_1 : decode cX5_buys 1 = .ok (.ifCond .le 18, 3) := by decide +kernel
theorem dX5_buys_4 : decode cX5_buys 4 = .ok (.aload_n 0, 1) := by decide +kernel
theorem dX5_buys_5 : decode cX5_buys 5 = .ok (.iload_n 1, 1) := by decide +kernel
theorem dX5_buys_6 : decode cX5_buys 6 = .ok (.iload_n 2, 1) := by decide +kernel
theorem dX5_buys_7 : decode cX5_buys 7 = .ok (.invokevirtual 72, 3) := by decide +kernel
theorem dX5_buys_10 : decode cX5_buys 10 = .ok (.aload_n 0, 1) := by decide +kernel
theorem dX5_buys_11 : decode cX5_buys 11 = .ok (.iload_n 1, 1) := by decide +kernel
theorem dX5_buys_12 : decode cX5_buys 12 = .ok (.iload_n 2, 1) := by decide +kernel
theorem dX5_buys_13 : decode cX5_buys 13 = .ok (.invokevirtual 76, 3) := by decide +kernel
theorem dX5_buys_16 : decode cX5_buys 16 = .ok (.if_icmp .le 5, 3) := by decide +kernel
theorem dX5_buys_19 : decode cX5_buys 19 = .ok (.iconst 0, 1) := by decide +kernel
theorem dX5_buys_20 : decode cX5_buys 20 = .ok (.ireturn, 1) := by decide +kernel
theorem dX5_buys_21 : decode cX5_buys 21 = .ok (.iload_n 3, 1) := by decide +kernel
theorem dX5_buys_22 : decode cX5_buys 22 = .ok (.aload_n 0, 1) := by decide +kernel
theorem dX5_buys_23 : decode cX5_buys 23 = .ok (.iload_n 1, 1) := by decide +kernel
theorem dX5_buys_24 : decode cX5_buys 24 = .ok (.iload_n 2, 1) := by decide +kernel
theorem dX5_buys_25 : decode cX5_buys 25 = .ok (.invokevirtual 79, 3) := by decide +kernel
theorem dX5_buys_28 : decode cX5_buys 28 = .ok (.invokestatic 82, 3) := by decide +kernel
theorem dX5_buys_31 : decode cX5_buys 31 = .ok (.ireturn, 1) := by decide +kernel
theorem dX5_takes_0 : decode cX5_takes 0 = .ok (.aload_n 0, 1) := by decide +kernel
theorem dX5_takes_1 : decode cX5_takes 1 = .ok (.getfield 25, 3) := by decide +kernel
theorem dX5_takes_4 : decode cX5_takes 4 = .ok (.getfield 87, 3) := by decide +kernel
theorem dX5_takes_7 : decode cX5_takes 7 = .ok (.iload_n 1, 1) := by decide +kernel
theorem dX5_takes_8 : decode cX5_takes 8 = .ok (.iaload, 1) := by decide +kernel
theorem dX5_takes_9 : decode cX5_takes 9 = .ok (.istore_n 3, 1) := by decide +kernel
theorem dX5_takes_10 : decode cX5_takes 10 = .ok (.aload_n 0, 1) := by decide +kernel
theorem dX5_takes_11 : decode cX5_takes 11 = .ok (.getfield 25, 3) := by decide +kernel
theorem dX5_takes_14 : decode cX5_takes 14 = .ok (.getfield 69, 3) := by decide +kernel
theorem dX5_takes_17 : decode cX5_takes 17 = .ok (.iload_n 1, 1) := by decide +kernel
theorem dX5_takes_18 : decode cX5_takes 18 = .ok (.iaload, 1) := by decide +kernel
theorem dX5_takes_19 : decode cX5_takes 19 = .ok (.tableswitch 59 2 4 #[25, 41, 41], 25) := by decide +kernel
theorem dX5_takes_44 : decode cX5_takes 44 = .ok (.iload_n 2, 1) := by decide +kernel
theorem dX5_takes_45 : decode cX5_takes 45 = .ok (.aload_n 0, 1) := by decide +kernel
theorem dX5_takes_46 : decode cX5_takes 46 = .ok (.getfield 35, 3) := by decide +kernel
theorem dX5_takes_49 : decode cX5_takes 49 = .ok (.if_icmp .le 9, 3) := by decide +kernel
theorem dX5_takes_52 : decode cX5_takes 52 = .ok (.iconst 2, 1) := by decide +kernel
theorem dX5_takes_53 : decode cX5_takes 53 = .ok (.iload_n 3, 1) := by decide +kernel
theorem dX5_takes_54 : decode cX5_takes 54 = .ok (.imul, 1) := by decide +kernel
theorem dX5_takes_55 : decode cX5_takes 55 = .ok (.goto 4, 3) := by decide +kernel
theorem dX5_takes_58 : decode cX5_takes 58 = .ok (.iload_n 3, 1) := by decide +kernel
theorem dX5_takes_59 : decode cX5_takes 59 = .ok (.ireturn, 1) := by decide +kernel
theorem dX5_takes_60 : decode cX5_takes 60 = .ok (.iconst 0, 1) := by decide +kernel
theorem dX5_takes_61 : decode cX5_takes 61 = .ok (.iload_n 3, 1) := by decide +kernel
theorem dX5_takes_62 : decode cX5_takes 62 = .ok (.bipush 6, 2) := by decide +kernel
theorem dX5_takes_64 : decode cX5_takes 64 = .ok (.aload_n 0, 1) := by decide +kernel
theorem dX5_takes_65 : decode cX5_takes 65 = .ok (.getfield 9, 3) := by decide +kernel
theorem dX5_takes_68 : decode cX5_takes 68 = .ok (.iload_n 1, 1) := by decide +kernel
theorem dX5_takes_69 : decode cX5_takes 69 = .ok (.iaload, 1) := by decide +kernel
theorem dX5_takes_70 : decode cX5_takes 70 = .ok (.isub, 1) := by decide +kernel
theorem dX5_takes_71 : decode cX5_takes 71 = .ok (.invokestatic 82, 3) := by decide +kernel
theorem dX5_takes_74 : decode cX5_takes 74 = .ok (.invokestatic 89, 3) := by decide +kernel
theorem dX5_takes_77 : decode cX5_takes 77 = .ok (.ireturn, 1) := by decide +kernel
theorem dX5_takes_78 : decode cX5_takes 78 = .ok (.iload_n 3, 1) := by decide +kernel
theorem dX5_takes_79 : decode cX5_takes 79 = .ok (.ireturn, 1) := by decide +kernel
theorem dX5_sells_0 : decode cX5_sells 0 = .ok (.iconst 0, 1) := by decide +kernel
theorem dX5_sells_1 : decode cX5_sells 1 = .ok (.aload_n 0, 1) := by decide +kernel
theorem dX5_sells_2 : decode cX5_sells 2 = .ok (.invokevirtual 92, 3) := by decide +kernel
theorem dX5_sells_5 : decode cX5_sells 5 = .ok (.iload_n 2, 1) := by decide +kernel
theorem dX5_sells_6 : decode cX5_sells 6 = .ok (.isub, 1) := by decide +kernel
theorem dX5_sells_7 : decode cX5_sells 7 = .ok (.invokestatic 89, 3) := by decide +kernel
theorem dX5_sells_10 : decode cX5_sells 10 = .ok (.istore 4, 2) := by decide +kernel
theorem dX5_sells_12 : decode cX5_sells 12 = .ok (.iload 4, 2) := by decide +kernel
theorem dX5_sells_14 : decode cX5_sells 14 = .ok (.istore 5, 2) := by decide +kernel
theorem dX5_sells_16 : decode cX5_sells 16 = .ok (.iconst 0, 1) := by decide +kernel
theorem dX5_sells_17 : decode cX5_sells 17 = .ok (.istore 6, 2) := by decide +kernel
theorem dX5_sells_19 : decode cX5_sells 19 = .ok (.iconst 0, 1) := by decide +kernel
theorem dX5_sells_20 : decode cX5_sells 20 = .ok (.istore 7, 2) := by decide +kernel
theorem dX5_sells_22 : decode cX5_sells 22 = .ok (.iload 7, 2) := by decide +kernel
theorem dX5_sells_24 : decode cX5_sells 24 = .ok (.aload_n 0, 1) := by decide +kernel
theorem dX5_sells_25 : decode cX5_sells 25 = .ok (.getfield 25, 3) := by decide +kernel
theorem dX5_sells_28 : decode cX5_sells 28 = .ok (.getfield 59, 3) := by decide +kernel
theorem dX5_sells_31 : decode cX5_sells 31 = .ok (.if_icmp .ge 84, 3) := by decide +kernel
theorem dX5_sells_34 : decode cX5_sells 34 = .ok (.iload_n 3, 1) := by decide +kernel
theorem dX5_sells_35 : decode cX5_sells 35 = .ok (.iload 7, 2) := by decide +kernel
theorem dX5_sells_37 : decode cX5_sells 37 = .ok (.iushr, 1) := by decide +kernel
theorem dX5_sells_38 : decode cX5_sells 38 = .ok (.iconst 1, 1) := by decide +kernel
theorem dX5_sells_39 : decode cX5_sells 39 = .ok (.iand, 1) := by decide +kernel
theorem dX5_sells_40 : decode cX5_sells 40 = .ok (.iconst 1, 1) := by decide +kernel
theorem dX5_sells_41 : decode cX5_sells 41 = .ok (.if_icmp .ne 15, 3) := by decide +kernel
theorem dX5_sells_44 : decode cX5_sells 44 = .ok (.aload_n 0, 1) := by decide +kernel
theorem dX5_sells_45 : decode cX5_sells 45 = .ok (.iload 7, 2) := by decide +kernel
theorem dX5_sells_47 : decode cX5_sells 47 = .ok (.iload_n 1, 1) := by decide +kernel
theorem dX5_sells_48 : decode cX5_sells 48 = .ok (.iload 5, 2) := by decide +kernel
theorem dX5_sells_50 : decode cX5_sells 50 = .ok (.invokevirtual 95, 3) := by decide +kernel
theorem dX5_sells_53 : decode cX5_sells 53 = .ok (.goto 4, 3) := by decide +kernel
theorem dX5_sells_56 : decode cX5_sells 56 = .ok (.iconst 0, 1) := by decide +kernel
theorem dX5_sells_57 : decode cX5_sells 57 = .ok (.istore 8, 2) := by decide +kernel
theorem dX5_sells_59 : decode cX5_sells 59 = .ok (.iload 8, 2) := by decide +kernel
theorem dX5_sells_61 : decode cX5_sells 61 = .ok (.ifCond .le 48, 3) := by decide +kernel
theorem dX5_sells_64 : decode cX5_sells 64 = .ok (.iload 5, 2) := by decide +kernel
theorem dX5_sells_66 : decode cX5_sells 66 = .ok (.iload 8, 2) := by decide +kernel
theorem dX5_sells_68 : decode cX5_sells 68 = .ok (.isub, 1) := by decide +kernel
theorem dX5_sells_69 : decode cX5_sells 69 = .ok (.istore 5, 2) := by decide +kernel
theorem dX5_sells_71 : decode cX5_sells 71 = .ok (.iload 6, 2) := by decide +kernel
theorem dX5_sells_73 : decode cX5_sells 73 = .ok (.iload 8, 2) := by decide +kernel
theorem dX5_sells_75 : decode cX5_sells 75 = .ok (.aload_n 0, 1) := by decide +kernel
theorem dX5_sells_76 : decode cX5_sells 76 = .ok (.iload 7, 2) := by decide +kernel
theorem dX5_sells_78 : decode cX5_sells 78 = .ok (.iload_n 1, 1) := by decide +kernel
