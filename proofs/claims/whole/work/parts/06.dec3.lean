theorem dX9_text_136 : decode cX9_text 136 = .ok (.getfield 177, 3) := by decide +kernel
theorem dX9_text_139 : decode cX9_text 139 = .ok (.imul, 1) := by decide +kernel
theorem dX9_text_140 : decode cX9_text 140 = .ok (.iadd, 1) := by decide +kernel
theorem dX9_text_141 : decode cX9_text 141 = .ok (.iconst 1, 1) := by decide +kernel
theorem dX9_text_142 : decode cX9_text 142 = .ok (.iadd, 1) := by decide +kernel
theorem dX9_text_143 : decode cX9_text 143 = .ok (.iload_n 2, 1) := by decide +kernel
theorem dX9_text_144 : decode cX9_text 144 = .ok (.iadd, 1) := by decide +kernel
theorem dX9_text_145 : decode cX9_text 145 = .ok (.aload_n 0, 1) := by decide +kernel
theorem dX9_text_146 : decode cX9_text 146 = .ok (.getfield 36, 3) := by decide +kernel
theorem dX9_text_149 : decode cX9_text 149 = .ok (.iload_n 2, 1) := by decide +kernel
theorem dX9_text_150 : decode cX9_text 150 = .ok (.iaload, 1) := by decide +kernel
theorem dX9_text_151 : decode cX9_text 151 = .ok (.iastore, 1) := by decide +kernel
theorem dX9_text_152 : decode cX9_text 152 = .ok (.iinc 2 1, 3) := by decide +kernel
theorem dX9_text_155 : decode cX9_text 155 = .ok (.goto (-36), 3) := by decide +kernel
theorem dX9_text_158 : decode cX9_text 158 = .ok (.iconst 1, 1) := by decide +kernel
theorem dX9_text_159 : decode cX9_text 159 = .ok (.ireturn, 1) := by decide +kernel
theorem dX9_done_0 : decode cX9_done 0 = .ok (.iload_n 0, 1) := by decide +kernel
theorem dX9_done_1 : decode cX9_done 1 = .ok (.tableswitch 136 20000 20008 #[51, 65, 79, 90, 101, 112, 116, 120, 124], 51) := by decide +kernel
theorem dX9_done_52 : decode cX9_done 52 = .ok (.iload_n 1, 1) := by decide +kernel
theorem dX9_done_53 : decode cX9_done 53 = .ok (.ifCond .ne 7, 3) := by decide +kernel
theorem dX9_done_56 : decode cX9_done 56 = .ok (.iload_n 2, 1) := by decide +kernel
theorem dX9_done_57 : decode cX9_done 57 = .ok (.ifCond .eq 7, 3) := by decide +kernel
theorem dX9_done_60 : decode cX9_done 60 = .ok (.iconst 1, 1) := by decide +kernel
theorem dX9_done_61 : decode cX9_done 61 = .ok (.goto 4, 3) := by decide +kernel
theorem dX9_done_64 : decode cX9_done 64 = .ok (.iconst 0, 1) := by decide +kernel
theorem dX9_done_65 : decode cX9_done 65 = .ok (.ireturn, 1) := by decide +kernel
theorem dX9_done_66 : decode cX9_done 66 = .ok (.iload_n 1, 1) := by decide +kernel
theorem dX9_done_67 : decode cX9_done 67 = .ok (.ifCond .eq 11, 3) := by decide +kernel
theorem dX9_done_70 : decode cX9_done 70 = .ok (.iload_n 2, 1) := by decide +kernel
theorem dX9_done_71 : decode cX9_done 71 = .ok (.ifCond .eq 7, 3) := by decide +kernel
theorem dX9_done_74 : decode cX9_done 74 = .ok (.iconst 1, 1) := by decide +kernel
theorem dX9_done_75 : decode cX9_done 75 = .ok (.goto 4, 3) := by decide +kernel
theorem dX9_done_78 : decode cX9_done 78 = .ok (.iconst 0, 1) := by decide +kernel
theorem dX9_done_79 : decode cX9_done 79 = .ok (.ireturn, 1) := by decide +kernel
theorem dX9_done_80 : decode cX9_done 80 = .ok (.iload_n 1, 1) := by decide +kernel
theorem dX9_done_81 : decode cX9_done 81 = .ok (.iload_n 2, 1) := by decide +kernel
theorem dX9_done_82 : decode cX9_done 82 = .ok (.if_icmp .ge 7, 3) := by decide +kernel
theorem dX9_done_85 : decode cX9_done 85 = .ok (.iconst 1, 1) := by decide +kernel
theorem dX9_done_86 : decode cX9_done 86 = .ok (.goto 4, 3) := by decide +kernel
theorem dX9_done_89 : decode cX9_done 89 = .ok (.iconst 0, 1) := by decide +kernel
theorem dX9_done_90 : decode cX9_done 90 = .ok (.ireturn, 1) := by decide +kernel
theorem dX9_done_91 : decode cX9_done 91 = .ok (.iload_n 1, 1) := by decide +kernel
theorem dX9_done_92 : decode cX9_done 92 = .ok (.iload_n 2, 1) := by decide +kernel
theorem dX9_done_93 : decode cX9_done 93 = .ok (.if_icmp .ne 7, 3) := by decide +kernel
theorem dX9_done_96 : decode cX9_done 96 = .ok (.iconst 1, 1) := by decide +kernel
theorem dX9_done_97 : decode cX9_done 97 = .ok (.goto 4, 3) := by decide +kernel
theorem dX9_done_100 : decode cX9_done 100 = .ok (.iconst 0, 1) := by decide +kernel
theorem dX9_done_101 : decode cX9_done 101 = .ok (.ireturn, 1) := by decide +kernel
theorem dX9_done_102 : decode cX9_done 102 = .ok (.iload_n 1, 1) := by decide +kernel
theorem dX9_done_103 : decode cX9_done 103 = .ok (.iload_n 2, 1) := by decide +kernel
theorem dX9_done_104 : decode cX9_done 104 = .ok (.if_icmp .le 7, 3) := by decide +kernel
theorem dX9_done_107 : decode cX9_done 107 = .ok (.iconst 1, 1) := by decide +kernel
theorem dX9_done_108 : decode cX9_done 108 = .ok (.goto 4, 3) := by decide +kernel
theorem dX9_done_111 : decode cX9_done 111 = .ok (.iconst 0, 1) := by decide +kernel
theorem dX9_done_112 : decode cX9_done 112 = .ok (.ireturn, 1) := by decide +kernel
theorem dX9_done_113 : decode cX9_done 113 = .ok (.iload_n 1, 1) := by decide +kernel
theorem dX9_done_114 : decode cX9_done 114 = .ok (.iload_n 2, 1) := by decide +kernel
theorem dX9_done_115 : decode cX9_done 115 = .ok (.iadd, 1) := by decide +kernel
theorem dX9_done_116 : decode cX9_done 116 = .ok (.ireturn, 1) := by decide +kernel
theorem dX9_done_117 : decode cX9_done 117 = .ok (.iload_n 1, 1) := by decide +kernel
theorem dX9_done_118 : decode cX9_done 118 = .ok (.iload_n 2, 1) := by decide +kernel
theorem dX9_done_119 : decode cX9_done 119 = .ok (.isub, 1) := by decide +kernel
theorem dX9_done_120 : decode cX9_done 120 = .ok (.ireturn, 1) := by decide +kernel
theorem dX9_done_121 : decode cX9_done 121 = .ok (.iload_n 1, 1) := by decide +kernel
theorem dX9_done_122 : decode cX9_done 122 = .ok (.iload_n 2, 1) := by decide +kernel
theorem dX9_done_123 : decode cX9_done 123 = .ok (.imul, 1) := by decide +kernel
theorem dX9_done_124 : decode cX9_done 124 = .ok (.ireturn, 1) := by decide +kernel
theorem dX9_done_125 : decode cX9_done 125 = .ok (.iload_n 2, 1) := by decide +kernel
theorem dX9_done_126 : decode cX9_done 126 = .ok (.ifCond .ne 7, 3) := by decide +kernel
theorem dX9_done_129 : decode cX9_done 129 = .ok (.iconst 0, 1) := by decide +kernel
theorem dX9_done_130 : decode cX9_done 130 = .ok (.goto 6, 3) := by decide +kernel
theorem dX9_done_133 : decode cX9_done 133 = .ok (.iload_n 1, 1) := by decide +kernel
theorem dX9_done_134 : decode cX9_done 134 = .ok (.iload_n 2, 1) := by decide +kernel
theorem dX9_done_135 : decode cX9_done 135 = .ok (.idiv, 1) := by decide +kernel
theorem dX9_done_136 : decode cX9_done 136 = .ok (.ireturn, 1) := by decide +kernel
theorem dX9_done_137 : decode cX9_done 137 = .ok (.iload_n 2, 1) := by decide +kernel
theorem dX9_done_138 : decode cX9_done 138 = .ok (.ifCond .ne 7, 3) := by decide +kernel
theorem dX9_done_141 : decode cX9_done 141 = .ok (.iconst 0, 1) := by decide +kernel
theorem dX9_done_142 : decode cX9_done 142 = .ok (.goto 6, 3) := by decide +kernel
theorem dX9_done_145 : decode cX9_done 145 = .ok (.iload_n 1, 1) := by decide +kernel
theorem dX9_done_146 : decode cX9_done 146 = .ok (.iload_n 2, 1) := by decide +kernel
theorem dX9_done_147 : decode cX9_done 147 = .ok (.irem, 1) := by decide +kernel
theorem dX9_done_148 : decode cX9_done 148 = .ok (.ireturn, 1) := by decide +kernel
theorem dX9_worked_0 : decode cX9_worked 0 = .ok (.iconst 0, 1) := by decide +kernel
theorem dX9_worked_1 : decode cX9_worked 1 = .ok (.istore_n 2, 1) := by decide +kernel
theorem dX9_worked_2 : decode cX9_worked 2 = .ok (.iload_n 1, 1) := by decide +kernel
theorem dX9_worked_3 : decode cX9_worked 3 = .ok (.istore_n 3, 1) := by decide +kernel
theorem dX9_worked_4 : decode cX9_worked 4 = .ok (.iload_n 3, 1) := by decide +kernel
theorem dX9_worked_5 : decode cX9_worked 5 = .ok (.iload_n 1, 1) := by decide +kernel
theorem dX9_worked_6 : decode cX9_worked 6 = .ok (.aload_n 0, 1) := by decide +kernel
theorem dX9_worked_7 : decode cX9_worked 7 = .ok (.getfield 9, 3) := by decide +kernel
theorem dX9_worked_10 : decode cX9_worked 10 = .ok (.iload_n 1, 1) := by decide +kernel
theorem dX9_worked_11 : decode cX9_worked 11 = .ok (.iconst 1, 1) := by decide +kernel
theorem dX9_worked_12 : decode cX9_worked 12 = .ok (.isub, 1) := by decide +kernel
theorem dX9_worked_13 : decode cX9_worked 13 = .ok (.iaload, 1) := by decide +kernel
theorem dX9_worked_14 : decode cX9_worked 14 = .ok (.iadd, 1) := by decide +kernel
theorem dX9_worked_15 : decode cX9_worked 15 = .ok (.if_icmp .ge 126, 3) := by decide +kernel
theorem dX9_worked_18 : decode cX9_worked 18 = .ok (.aload_n 0, 1) := by decide +kernel
theorem dX9_worked_19 : decode cX9_worked 19 = .ok (.getfield 9, 3) := by decide +kernel
theorem dX9_worked_22 : decode cX9_worked 22 = .ok (.iload_n 3, 1) := by decide +kernel
theorem dX9_worked_23 : decode cX9_worked 23 = .ok (.iaload, 1) := by decide +kernel
theorem dX9_worked_24 : decode cX9_worked 24 = .ok (.istore 4, 2) := by decide +kernel
theorem dX9_worked_26 : decode cX9_worked 26 = .ok (.iload 4, 2) := by decide +kernel
theorem dX9_worked_28 : decode cX9_worked 28 = .ok (.sipush 20000, 3) := by decide +kernel
theorem dX9_worked_31 : decode cX9_worked 31 = .ok (.if_icmp .ge 39, 3) := by decide +kernel
theorem dX9_worked_34 : decode cX9_worked 34 = .ok (.aload_n 0, 1) := by decide +kernel
theorem dX9_worked_35 : decode cX9_worked 35 = .ok (.getfield 42, 3) := by decide +kernel
theorem dX9_worked_38 : decode cX9_worked 38 = .ok (.iload_n 2, 1) := by decide +kernel
theorem dX9_worked_39 : decode cX9_worked 39 = .ok (.iload 4, 2) := by decide +kernel
theorem dX9_worked_41 : decode cX9_worked 41 = .ok (.sipush 10000, 3) := by decide +kernel
theorem dX9_worked_44 : decode cX9_worked 44 = .ok (.if_icmp .ge 8, 3) := by decide +kernel
theorem dX9_worked_47 : decode cX9_worked 47 = .ok (.iload 4, 2) := by decide +kernel
theorem dX9_worked_49 : decode cX9_worked 49 = .ok (.goto 14, 3) := by decide +kernel
theorem dX9_worked_52 : decode cX9_worked 52 = .ok (.aload_n 0, 1) := by decide +kernel
theorem dX9_worked_53 : decode cX9_worked 53 = .ok (.getfield 39, 3) := by decide +kernel
theorem dX9_worked_56 : decode cX9_worked 56 = .ok (.iload 4, 2) := by decide +kernel
theorem dX9_worked_58 : decode cX9_worked 58 = .ok (.sipush 10000, 3) := by decide +kernel
theorem dX9_worked_61 : decode cX9_worked 61 = .ok (.isub, 1) := by decide +kernel
theorem dX9_worked_62 : decode cX9_worked 62 = .ok (.iaload, 1) := by decide +kernel
theorem dX9_worked_63 : decode cX9_worked 63 = .ok (.iastore, 1) := by decide +kernel
theorem dX9_worked_64 : decode cX9_worked 64 = .ok (.iinc 2 1, 3) := by decide +kernel
theorem dX9_worked_67 : decode cX9_worked 67 = .ok (.goto 68, 3) := by decide +kernel
theorem dX9_worked_70 : decode cX9_worked 70 = .ok (.iload 4, 2) := by decide +kernel
theorem dX9_worked_72 : decode cX9_worked 72 = .ok (.sipush 20010, 3) := by decide +kernel
theorem dX9_worked_75 : decode cX9_worked 75 = .ok (.if_icmp .ne 30, 3) := by decide +kernel
theorem dX9_worked_78 : decode cX9_worked 78 = .ok (.aload_n 0, 1) := by decide +kernel
theorem dX9_worked_79 : decode cX9_worked 79 = .ok (.getfield 42, 3) := by decide +kernel
theorem dX9_worked_82 : decode cX9_worked 82 = .ok (.iload_n 2, 1) := by decide +kernel
theorem dX9_worked_83 : decode cX9_worked 83 = .ok (.iconst 1, 1) := by decide +kernel
theorem dX9_worked_84 : decode cX9_worked 84 = .ok (.isub, 1) := by decide +kernel
theorem dX9_worked_85 : decode cX9_worked 85 = .ok (.aload_n 0, 1) := by decide +kernel
theorem dX9_worked_86 : decode cX9_worked 86 = .ok (.getfield 42, 3) := by decide +kernel
theorem dX9_worked_89 : decode cX9_worked 89 = .ok (.iload_n 2, 1) := by decide +kernel
theorem dX9_worked_90 : decode cX9_worked 90 = .ok (.iconst 1, 1) := by decide +kernel
theorem dX9_worked_91 : decode cX9_worked 91 = .ok (.isub, 1) := by decide +kernel
theorem dX9_worked_92 : decode cX9_worked 92 = .ok (.iaload, 1) := by decide +kernel
theorem dX9_worked_93 : decode cX9_worked 93 = .ok (.ifCond .ne 7, 3) := by decide +kernel
theorem dX9_worked_96 : decode cX9_worked 96 = .ok (.iconst 1, 1) := by decide +kernel
theorem dX9_worked_97 : decode cX9_worked 97 = .ok (.goto 4, 3) := by decide +kernel
theorem dX9_worked_100 : decode cX9_worked 100 = .ok (.iconst 0, 1) := by decide +kernel
theorem dX9_worked_101 : decode cX9_worked 101 = .ok (.iastore, 1) := by decide +kernel
theorem dX9_worked_102 : decode cX9_worked 102 = .ok (.goto 33, 3) := by decide +kernel
theorem dX9_worked_105 : decode cX9_worked 105 = .ok (.iinc 2 (-1), 3) := by decide +kernel
theorem dX9_worked_108 : decode cX9_worked 108 = .ok (.aload_n 0, 1) := by decide +kernel
theorem dX9_worked_109 : decode cX9_worked 109 = .ok (.getfield 42, 3) := by decide +kernel
theorem dX9_worked_112 : decode cX9_worked 112 = .ok (.iload_n 2, 1) := by decide +kernel
theorem dX9_worked_113 : decode cX9_worked 113 = .ok (.iconst 1, 1) := by decide +kernel
theorem dX9_worked_114 : decode cX9_worked 114 = .ok (.isub, 1) := by decide +kernel
theorem dX9_worked_115 : decode cX9_worked 115 = .ok (.iload 4, 2) := by decide +kernel
theorem dX9_worked_117 : decode cX9_worked 117 = .ok (.aload_n 0, 1) := by decide +kernel
theorem dX9_worked_118 : decode cX9_worked 118 = .ok (.getfield 42, 3) := by decide +kernel
theorem dX9_worked_121 : decode cX9_worked 121 = .ok (.iload_n 2, 1) := by decide +kernel
theorem dX9_worked_122 : decode cX9_worked 122 = .ok (.iconst 1, 1) := by decide +kernel
theorem dX9_worked_123 : decode cX9_worked 123 = .ok (.isub, 1) := by decide +kernel
theorem dX9_worked_124 : decode cX9_worked 124 = .ok (.iaload, 1) := by decide +kernel
theorem dX9_worked_125 : decode cX9_worked 125 = .ok (.aload_n 0, 1) := by decide +kernel
theorem dX9_worked_126 : decode cX9_worked 126 = .ok (.getfield 42, 3) := by decide +kernel
theorem dX9_worked_129 : decode cX9_worked 129 = .ok (.iload_n 2, 1) := by decide +kernel
theorem dX9_worked_130 : decode cX9_worked 130 = .ok (.iaload, 1) := by decide +kernel
theorem dX9_worked_131 : decode cX9_worked 131 = .ok (.invokestatic 196, 3) := by decide +kernel
theorem dX9_worked_134 : decode cX9_worked 134 = .ok (.iastore, 1) := by decide +kernel
theorem dX9_worked_135 : decode cX9_worked 135 = .ok (.iinc 3 1, 3) := by decide +kernel
theorem dX9_worked_138 : decode cX9_worked 138 = .ok (.goto (-134), 3) := by decide +kernel
theorem dX9_worked_141 : decode cX9_worked 141 = .ok (.aload_n 0, 1) := by decide +kernel
theorem dX9_worked_142 : decode cX9_worked 142 = .ok (.getfield 42, 3) := by decide +kernel
theorem dX9_worked_145 : decode cX9_worked 145 = .ok (.iconst 0, 1) := by decide +kernel
theorem dX9_worked_146 : decode cX9_worked 146 = .ok (.iaload, 1) := by decide +kernel
theorem dX9_worked_147 : decode cX9_worked 147 = .ok (.ireturn, 1) := by decide +kernel
theorem dX9_given_0 : decode cX9_given 0 = .ok (.aload_n 0, 1) := by decide +kernel
theorem dX9_given_1 : decode cX9_given 1 = .ok (.getfield 39, 3) := by decide +kernel
theorem dX9_given_4 : decode cX9_given 4 = .ok (.iconst 0, 1) := by decide +kernel
theorem dX9_given_5 : decode cX9_given 5 = .ok (.iload_n 2, 1) := by decide +kernel
theorem dX9_given_6 : decode cX9_given 6 = .ok (.iastore, 1) := by decide +kernel
theorem dX9_given_7 : decode cX9_given 7 = .ok (.aload_n 0, 1) := by decide +kernel
theorem dX9_given_8 : decode cX9_given 8 = .ok (.getfield 39, 3) := by decide +kernel
theorem dX9_given_11 : decode cX9_given 11 = .ok (.iconst 1, 1) := by decide +kernel
theorem dX9_given_12 : decode cX9_given 12 = .ok (.iload_n 3, 1) := by decide +kernel
theorem dX9_given_13 : decode cX9_given 13 = .ok (.iastore, 1) := by decide +kernel
theorem dX9_given_14 : decode cX9_given 14 = .ok (.aload_n 0, 1) := by decide +kernel
theorem dX9_given_15 : decode cX9_given 15 = .ok (.getfield 39, 3) := by decide +kernel
theorem dX9_given_18 : decode cX9_given 18 = .ok (.iconst 2, 1) := by decide +kernel
theorem dX9_given_19 : decode cX9_given 19 = .ok (.iload 4, 2) := by decide +kernel
theorem dX9_given_21 : decode cX9_given 21 = .ok (.iastore, 1) := by decide +kernel
theorem dX9_given_22 : decode cX9_given 22 = .ok (.aload_n 0, 1) := by decide +kernel
theorem dX9_given_23 : decode cX9_given 23 = .ok (.getfield 39, 3) := by decide +kernel
theorem dX9_given_26 : decode cX9_given 26 = .ok (.iconst 3, 1) := by decide +kernel
theorem dX9_given_27 : decode cX9_given 27 = .ok (.iload 5, 2) := by decide +kernel
theorem dX9_given_29 : decode cX9_given 29 = .ok (.iastore, 1) := by decide +kernel
theorem dX9_given_30 : decode cX9_given 30 = .ok (.bipush 123, 2) := by decide +kernel
theorem dX9_given_32 : decode cX9_given 32 = .ok (.bipush 52, 2) := by decide +kernel
theorem dX9_given_34 : decode cX9_given 34 = .ok (.iload_n 1, 1) := by decide +kernel
theorem dX9_given_35 : decode cX9_given 35 = .ok (.imul, 1) := by decide +kernel
theorem dX9_given_36 : decode cX9_given 36 = .ok (.iadd, 1) := by decide +kernel
theorem dX9_given_37 : decode cX9_given 37 = .ok (.iconst 1, 1) := by decide +kernel
theorem dX9_given_38 : decode cX9_given 38 = .ok (.iadd, 1) := by decide +kernel
theorem dX9_given_39 : decode cX9_given 39 = .ok (.istore 6, 2) := by decide +kernel
theorem dX9_given_41 : decode cX9_given 41 = .ok (.aload_n 0, 1) := by decide +kernel
theorem dX9_given_42 : decode cX9_given 42 = .ok (.getfield 9, 3) := by decide +kernel
theorem dX9_given_45 : decode cX9_given 45 = .ok (.iload 6, 2) := by decide +kernel
theorem dX9_given_47 : decode cX9_given 47 = .ok (.iconst 1, 1) := by decide +kernel
theorem dX9_given_48 : decode cX9_given 48 = .ok (.isub, 1) := by decide +kernel
theorem dX9_given_49 : decode cX9_given 49 = .ok (.iaload, 1) := by decide +kernel
theorem dX9_given_50 : decode cX9_given 50 = .ok (.ifCond .le 7, 3) := by decide +kernel
theorem dX9_given_53 : decode cX9_given 53 = .ok (.iconst 1, 1) := by decide +kernel
theorem dX9_given_54 : decode cX9_given 54 = .ok (.goto 4, 3) := by decide +kernel
theorem dX9_given_57 : decode cX9_given 57 = .ok (.iconst 0, 1) := by decide +kernel
theorem dX9_given_58 : decode cX9_given 58 = .ok (.istore 7, 2) := by decide +kernel
theorem dX9_given_60 : decode cX9_given 60 = .ok (.iload 7, 2) := by decide +kernel
theorem dX9_given_62 : decode cX9_given 62 = .ok (.ifCond .eq 12, 3) := by decide +kernel
theorem dX9_given_65 : decode cX9_given 65 = .ok (.aload_n 0, 1) := by decide +kernel
theorem dX9_given_66 : decode cX9_given 66 = .ok (.iload 6, 2) := by decide +kernel
theorem dX9_given_68 : decode cX9_given 68 = .ok (.invokevirtual 199, 3) := by decide +kernel
theorem dX9_given_71 : decode cX9_given 71 = .ok (.goto 38, 3) := by decide +kernel
theorem dX9_given_74 : decode cX9_given 74 = .ok (.iload_n 1, 1) := by decide +kernel
theorem dX9_given_75 : decode cX9_given 75 = .ok (.ifCond .ne 14, 3) := by decide +kernel
theorem dX9_given_78 : decode cX9_given 78 = .ok (.iload_n 2, 1) := by decide +kernel
theorem dX9_given_79 : decode cX9_given 79 = .ok (.iload_n 3, 1) := by decide +kernel
theorem dX9_given_80 : decode cX9_given 80 = .ok (.iconst 5, 1) := by decide +kernel
theorem dX9_given_81 : decode cX9_given 81 = .ok (.imul, 1) := by decide +kernel
theorem dX9_given_82 : decode cX9_given 82 = .ok (.iadd, 1) := by decide +kernel
theorem dX9_given_83 : decode cX9_given 83 = .ok (.iload 5, 2) := by decide +kernel
theorem dX9_given_85 : decode cX9_given 85 = .ok (.isub, 1) := by decide +kernel
theorem dX9_given_86 : decode cX9_given 86 = .ok (.goto 23, 3) := by decide +kernel
theorem dX9_given_89 : decode cX9_given 89 = .ok (.iload_n 3, 1) := by decide +kernel
theorem dX9_given_90 : decode cX9_given 90 = .ok (.ifCond .ne 7, 3) := by decide +kernel
theorem dX9_given_93 : decode cX9_given 93 = .ok (.iconst 1, 1) := by decide +kernel
theorem dX9_given_94 : decode cX9_given 94 = .ok (.goto 4, 3) := by decide +kernel
theorem dX9_given_97 : decode cX9_given 97 = .ok (.iconst 0, 1) := by decide +kernel
theorem dX9_given_98 : decode cX9_given 98 = .ok (.iload_n 3, 1) := by decide +kernel
theorem dX9_given_99 : decode cX9_given 99 = .ok (.iconst 3, 1) := by decide +kernel
theorem dX9_given_100 : decode cX9_given 100 = .ok (.if_icmp .le 7, 3) := by decide +kernel
theorem dX9_given_103 : decode cX9_given 103 = .ok (.iconst 1, 1) := by decide +kernel
theorem dX9_given_104 : decode cX9_given 104 = .ok (.goto 4, 3) := by decide +kernel
theorem dX9_given_107 : decode cX9_given 107 = .ok (.iconst 0, 1) := by decide +kernel
theorem dX9_given_108 : decode cX9_given 108 = .ok (.isub, 1) := by decide +kernel
theorem dX9_given_109 : decode cX9_given 109 = .ok (.istore 8, 2) := by decide +kernel
theorem dX9_given_111 : decode cX9_given 111 = .ok (.iload_n 1, 1) := by decide +kernel
theorem dX9_given_112 : decode cX9_given 112 = .ok (.ifCond .ne 14, 3) := by decide +kernel
theorem dX9_given_115 : decode cX9_given 115 = .ok (.iload 8, 2) := by decide +kernel
theorem dX9_given_117 : decode cX9_given 117 = .ok (.iconst 0, 1) := by decide +kernel
theorem dX9_given_118 : decode cX9_given 118 = .ok (.ldc 202, 2) := by decide +kernel
theorem dX9_given_120 : decode cX9_given 120 = .ok (.invokestatic 203, 3) := by decide +kernel
theorem dX9_given_123 : decode cX9_given 123 = .ok (.goto 11, 3) := by decide +kernel
theorem dX9_given_126 : decode cX9_given 126 = .ok (.iload 8, 2) := by decide +kernel
theorem dX9_given_128 : decode cX9_given 128 = .ok (.bipush (-3), 2) := by decide +kernel
theorem dX9_given_130 : decode cX9_given 130 = .ok (.iconst 3, 1) := by decide +kernel
theorem dX9_given_131 : decode cX9_given 131 = .ok (.invokestatic 203, 3) := by decide +kernel
theorem dX9_given_134 : decode cX9_given 134 = .ok (.ireturn, 1) := by decide +kernel
theorem dX9_law_0 : decode cX9_law 0 = .ok (.iload_n 1, 1) := by decide +kernel
theorem dX9_law_1 : decode cX9_law 1 = .ok (.iconst 0, 1) := by decide +kernel
theorem dX9_law_2 : decode cX9_law 2 = .ok (.iconst 1, 1) := by decide +kernel
theorem dX9_law_3 : decode cX9_law 3 = .ok (.invokestatic 80, 3) := by decide +kernel
theorem dX9_law_6 : decode cX9_law 6 = .ok (.ifCond .eq 17, 3) := by decide +kernel
theorem dX9_law_9 : decode cX9_law 9 = .ok (.aload_n 0, 1) := by decide +kernel
theorem dX9_law_10 : decode cX9_law 10 = .ok (.iload_n 1, 1) := by decide +kernel
theorem dX9_law_11 : decode cX9_law 11 = .ok (.iload_n 2, 1) := by decide +kernel
theorem dX9_law_12 : decode cX9_law 12 = .ok (.iload_n 3, 1) := by decide +kernel
theorem dX9_law_13 : decode cX9_law 13 = .ok (.iload 4, 2) := by decide +kernel
theorem dX9_law_15 : decode cX9_law 15 = .ok (.iload 5, 2) := by decide +kernel
theorem dX9_law_17 : decode cX9_law 17 = .ok (.invokevirtual 119, 3) := by decide +kernel
theorem dX9_law_20 : decode cX9_law 20 = .ok (.goto 9, 3) := by decide +kernel
theorem dX9_law_23 : decode cX9_law 23 = .ok (.aload_n 0, 1) := by decide +kernel
theorem dX9_law_24 : decode cX9_law 24 = .ok (.ldc 91, 2) := by decide +kernel
theorem dX9_law_26 : decode cX9_law 26 = .ok (.invokevirtual 92, 3) := by decide +kernel
theorem dX9_law_29 : decode cX9_law 29 = .ok (.ireturn, 1) := by decide +kernel
theorem dX9_goes_0 : decode cX9_goes 0 = .ok (.aload_n 0, 1) := by decide +kernel
theorem dX9_goes_1 : decode cX9_goes 1 = .ok (.getfield 9, 3) := by decide +kernel
theorem dX9_goes_4 : decode cX9_goes 4 = .ok (.iconst 5, 1) := by decide +kernel
theorem dX9_goes_5 : decode cX9_goes 5 = .ok (.iaload, 1) := by decide +kernel
theorem dX9_goes_6 : decode cX9_goes 6 = .ok (.aload_n 0, 1) := by decide +kernel
theorem dX9_goes_7 : decode cX9_goes 7 = .ok (.getfield 9, 3) := by decide +kernel
theorem dX9_goes_10 : decode cX9_goes 10 = .ok (.iconst 4, 1) := by decide +kernel
theorem dX9_goes_11 : decode cX9_goes 11 = .ok (.iaload, 1) := by decide +kernel
theorem dX9_goes_12 : decode cX9_goes 12 = .ok (.iadd, 1) := by decide +kernel
theorem dX9_goes_13 : decode cX9_goes 13 = .ok (.istore 4, 2) := by decide +kernel
theorem dX9_goes_15 : decode cX9_goes 15 = .ok (.iconst 0, 1) := by decide +kernel
theorem dX9_goes_16 : decode cX9_goes 16 = .ok (.iload 4, 2) := by decide +kernel
theorem dX9_goes_18 : decode cX9_goes 18 = .ok (.iload_n 2, 1) := by decide +kernel
theorem dX9_goes_19 : decode cX9_goes 19 = .ok (.isub, 1) := by decide +kernel
theorem dX9_goes_20 : decode cX9_goes 20 = .ok (.invokestatic 73, 3) := by decide +kernel
theorem dX9_goes_23 : decode cX9_goes 23 = .ok (.istore 5, 2) := by decide +kernel
theorem dX9_goes_25 : decode cX9_goes 25 = .ok (.iconst 0, 1) := by decide +kernel
theorem dX9_goes_26 : decode cX9_goes 26 = .ok (.istore 6, 2) := by decide +kernel
theorem dX9_goes_28 : decode cX9_goes 28 = .ok (.aload_n 0, 1) := by decide +kernel
theorem dX9_goes_29 : decode cX9_goes 29 = .ok (.getfield 9, 3) := by decide +kernel
theorem dX9_goes_32 : decode cX9_goes 32 = .ok (.bipush 6, 2) := by decide +kernel
theorem dX9_goes_34 : decode cX9_goes 34 = .ok (.iaload, 1) := by decide +kernel
theorem dX9_goes_35 : decode cX9_goes 35 = .ok (.i2l, 1) := by decide +kernel
theorem dX9_goes_36 : decode cX9_goes 36 = .ok (.lstore 7, 2) := by decide +kernel
theorem dX9_goes_38 : decode cX9_goes 38 = .ok (.iconst 0, 1) := by decide +kernel
theorem dX9_goes_39 : decode cX9_goes 39 = .ok (.istore 9, 2) := by decide +kernel
theorem dX9_goes_41 : decode cX9_goes 41 = .ok (.iload 9, 2) := by decide +kernel
theorem dX9_goes_43 : decode cX9_goes 43 = .ok (.aload_n 0, 1) := by decide +kernel
theorem dX9_goes_44 : decode cX9_goes 44 = .ok (.getfield 9, 3) := by decide +kernel
theorem dX9_goes_47 : decode cX9_goes 47 = .ok (.iconst 1, 1) := by decide +kernel
theorem dX9_goes_48 : decode cX9_goes 48 = .ok (.iaload, 1) := by decide +kernel
theorem dX9_goes_49 : decode cX9_goes 49 = .ok (.if_icmp .ge 93, 3) := by decide +kernel
theorem dX9_goes_52 : decode cX9_goes 52 = .ok (.iload_n 3, 1) := by decide +kernel
theorem dX9_goes_53 : decode cX9_goes 53 = .ok (.ifCond .eq 20, 3) := by decide +kernel
theorem dX9_goes_56 : decode cX9_goes 56 = .ok (.aload_n 0, 1) := by decide +kernel
theorem dX9_goes_57 : decode cX9_goes 57 = .ok (.bipush 13, 2) := by decide +kernel
theorem dX9_goes_59 : decode cX9_goes 59 = .ok (.invokevirtual 206, 3) := by decide +kernel
theorem dX9_goes_62 : decode cX9_goes 62 = .ok (.aload_n 0, 1) := by decide +kernel
theorem dX9_goes_63 : decode cX9_goes 63 = .ok (.getfield 9, 3) := by decide +kernel
theorem dX9_goes_66 : decode cX9_goes 66 = .ok (.iconst 3, 1) := by decide +kernel
theorem dX9_goes_67 : decode cX9_goes 67 = .ok (.iaload, 1) := by decide +kernel
theorem dX9_goes_68 : decode cX9_goes 68 = .ok (.iconst 1, 1) := by decide +kernel
theorem dX9_goes_69 : decode cX9_goes 69 = .ok (.iadd, 1) := by decide +kernel
theorem dX9_goes_70 : decode cX9_goes 70 = .ok (.if_icmp .ge 7, 3) := by decide +kernel
theorem dX9_goes_73 : decode cX9_goes 73 = .ok (.iconst 1, 1) := by decide +kernel
theorem dX9_goes_74 : decode cX9_goes 74 = .ok (.goto 4, 3) := by decide +kernel
theorem dX9_goes_77 : decode cX9_goes 77 = .ok (.iconst 0, 1) := by decide +kernel
theorem dX9_goes_78 : decode cX9_goes 78 = .ok (.istore 10, 2) := by decide +kernel
theorem dX9_goes_80 : decode cX9_goes 80 = .ok (.iload 10, 2) := by decide +kernel
theorem dX9_goes_82 : decode cX9_goes 82 = .ok (.ifCond .eq 18, 3) := by decide +kernel
theorem dX9_goes_85 : decode cX9_goes 85 = .ok (.aload_n 0, 1) := by decide +kernel
theorem dX9_goes_86 : decode cX9_goes 86 = .ok (.iload 9, 2) := by decide +kernel
theorem dX9_goes_88 : decode cX9_goes 88 = .ok (.iload_n 1, 1) := by decide +kernel
theorem dX9_goes_89 : decode cX9_goes 89 = .ok (.iload 5, 2) := by decide +kernel
theorem dX9_goes_91 : decode cX9_goes 91 = .ok (.iload 6, 2) := by decide +kernel
theorem dX9_goes_93 : decode cX9_goes 93 = .ok (.isub, 1) := by decide +kernel
theorem dX9_goes_94 : decode cX9_goes 94 = .ok (.invokevirtual 135, 3) := by decide +kernel
theorem dX9_goes_97 : decode cX9_goes 97 = .ok (.goto 4, 3) := by decide +kernel
theorem dX9_goes_100 : decode cX9_goes 100 = .ok (.iconst 0, 1) := by decide +kernel
theorem dX9_goes_101 : decode cX9_goes 101 = .ok (.istore 11, 2) := by decide +kernel
theorem dX9_goes_103 : decode cX9_goes 103 = .ok (.aload_n 0, 1) := by decide +kernel
theorem dX9_goes_104 : decode cX9_goes 104 = .ok (.getfield 45, 3) := by decide +kernel
theorem dX9_goes_107 : decode cX9_goes 107 = .ok (.iload 9, 2) := by decide +kernel
theorem dX9_goes_109 : decode cX9_goes 109 = .ok (.iload 11, 2) := by decide +kernel
theorem dX9_goes_111 : decode cX9_goes 111 = .ok (.iastore, 1) := by decide +kernel
theorem dX9_goes_112 : decode cX9_goes 112 = .ok (.lload 7, 2) := by decide +kernel
theorem dX9_goes_114 : decode cX9_goes 114 = .ok (.iload 11, 2) := by decide +kernel
theorem dX9_goes_116 : decode cX9_goes 116 = .ok (.i2l, 1) := by decide +kernel
theorem dX9_goes_117 : decode cX9_goes 117 = .ok (.aload_n 0, 1) := by decide +kernel
theorem dX9_goes_118 : decode cX9_goes 118 = .ok (.iload 9, 2) := by decide +kernel
theorem dX9_goes_120 : decode cX9_goes 120 = .ok (.iload_n 1, 1) := by decide +kernel
theorem dX9_goes_121 : decode cX9_goes 121 = .ok (.invokevirtual 126, 3) := by decide +kernel
theorem dX9_goes_124 : decode cX9_goes 124 = .ok (.i2l, 1) := by decide +kernel
theorem dX9_goes_125 : decode cX9_goes 125 = .ok (.lmul, 1) := by decide +kernel
theorem dX9_goes_126 : decode cX9_goes 126 = .ok (.ladd, 1) := by decide +kernel
theorem dX9_goes_127 : decode cX9_goes 127 = .ok (.lstore 7, 2) := by decide +kernel
theorem dX9_goes_129 : decode cX9_goes 129 = .ok (.iload 6, 2) := by decide +kernel
theorem dX9_goes_131 : decode cX9_goes 131 = .ok (.iload 11, 2) := by decide +kernel
theorem dX9_goes_133 : decode cX9_goes 133 = .ok (.iadd, 1) := by decide +kernel
theorem dX9_goes_134 : decode cX9_goes 134 = .ok (.istore 6, 2) := by decide +kernel
theorem dX9_goes_136 : decode cX9_goes 136 = .ok (.iinc 9 1, 3) := by decide +kernel
theorem dX9_goes_139 : decode cX9_goes 139 = .ok (.goto (-98), 3) := by decide +kernel
theorem dX9_goes_142 : decode cX9_goes 142 = .ok (.iconst 0, 1) := by decide +kernel
theorem dX9_goes_143 : decode cX9_goes 143 = .ok (.istore 9, 2) := by decide +kernel
theorem dX9_goes_145 : decode cX9_goes 145 = .ok (.iload 9, 2) := by decide +kernel
theorem dX9_goes_147 : decode cX9_goes 147 = .ok (.aload_n 0, 1) := by decide +kernel
theorem dX9_goes_148 : decode cX9_goes 148 = .ok (.getfield 9, 3) := by decide +kernel
theorem dX9_goes_151 : decode cX9_goes 151 = .ok (.iconst 1, 1) := by decide +kernel
theorem dX9_goes_152 : decode cX9_goes 152 = .ok (.iaload, 1) := by decide +kernel
theorem dX9_goes_153 : decode cX9_goes 153 = .ok (.if_icmp .ge 48, 3) := by decide +kernel
theorem dX9_goes_156 : decode cX9_goes 156 = .ok (.bipush 21, 2) := by decide +kernel
theorem dX9_goes_158 : decode cX9_goes 158 = .ok (.iconst 4, 1) := by decide +kernel
theorem dX9_goes_159 : decode cX9_goes 159 = .ok (.iload 9, 2) := by decide +kernel
theorem dX9_goes_161 : decode cX9_goes 161 = .ok (.imul, 1) := by decide +kernel
theorem dX9_goes_162 : decode cX9_goes 162 = .ok (.iadd, 1) := by decide +kernel
theorem dX9_goes_163 : decode cX9_goes 163 = .ok (.iconst 3, 1) := by decide +kernel
theorem dX9_goes_164 : decode cX9_goes 164 = .ok (.iadd, 1) := by decide +kernel
theorem dX9_goes_165 : decode cX9_goes 165 = .ok (.istore 10, 2) := by decide +kernel
theorem dX9_goes_167 : decode cX9_goes 167 = .ok (.aload_n 0, 1) := by decide +kernel
theorem dX9_goes_168 : decode cX9_goes 168 = .ok (.getfield 9, 3) := by decide +kernel
theorem dX9_goes_171 : decode cX9_goes 171 = .ok (.iload 10, 2) := by decide +kernel
theorem dX9_goes_173 : decode cX9_goes 173 = .ok (.sipush 9999, 3) := by decide +kernel
theorem dX9_goes_176 : decode cX9_goes 176 = .ok (.aload_n 0, 1) := by decide +kernel
theorem dX9_goes_177 : decode cX9_goes 177 = .ok (.getfield 9, 3) := by decide +kernel
theorem dX9_goes_180 : decode cX9_goes 180 = .ok (.iload 10, 2) := by decide +kernel
theorem dX9_goes_182 : decode cX9_goes 182 = .ok (.iaload, 1) := by decide +kernel
theorem dX9_goes_183 : decode cX9_goes 183 = .ok (.aload_n 0, 1) := by decide +kernel
theorem dX9_goes_184 : decode cX9_goes 184 = .ok (.getfield 45, 3) := by decide +kernel
theorem dX9_goes_187 : decode cX9_goes 187 = .ok (.iload 9, 2) := by decide +kernel
theorem dX9_goes_189 : decode cX9_goes 189 = .ok (.iaload, 1) := by decide +kernel
theorem dX9_goes_190 : decode cX9_goes 190 = .ok (.iadd, 1) := by decide +kernel
theorem dX9_goes_191 : decode cX9_goes 191 = .ok (.invokestatic 67, 3) := by decide +kernel
theorem dX9_goes_194 : decode cX9_goes 194 = .ok (.iastore, 1) := by decide +kernel
theorem dX9_goes_195 : decode cX9_goes 195 = .ok (.iinc 9 1, 3) := by decide +kernel
theorem dX9_goes_198 : decode cX9_goes 198 = .ok (.goto (-53), 3) := by decide +kernel
theorem dX9_goes_201 : decode cX9_goes 201 = .ok (.lload 7, 2) := by decide +kernel
theorem dX9_goes_203 : decode cX9_goes 203 = .ok (.aload_n 0, 1) := by decide +kernel
theorem dX9_goes_204 : decode cX9_goes 204 = .ok (.getfield 9, 3) := by decide +kernel
theorem dX9_goes_207 : decode cX9_goes 207 = .ok (.bipush 7, 2) := by decide +kernel
theorem dX9_goes_209 : decode cX9_goes 209 = .ok (.iaload, 1) := by decide +kernel
theorem dX9_goes_210 : decode cX9_goes 210 = .ok (.i2l, 1) := by decide +kernel
theorem dX9_goes_211 : decode cX9_goes 211 = .ok (.aload_n 0, 1) := by decide +kernel
theorem dX9_goes_212 : decode cX9_goes 212 = .ok (.getfield 9, 3) := by decide +kernel
theorem dX9_goes_215 : decode cX9_goes 215 = .ok (.iconst 4, 1) := by decide +kernel
theorem dX9_goes_216 : decode cX9_goes 216 = .ok (.iaload, 1) := by decide +kernel
theorem dX9_goes_217 : decode cX9_goes 217 = .ok (.i2l, 1) := by decide +kernel
theorem dX9_goes_218 : decode cX9_goes 218 = .ok (.lmul, 1) := by decide +kernel
theorem dX9_goes_219 : decode cX9_goes 219 = .ok (.lsub, 1) := by decide +kernel
theorem dX9_goes_220 : decode cX9_goes 220 = .ok (.lstore 7, 2) := by decide +kernel
theorem dX9_goes_222 : decode cX9_goes 222 = .ok (.aload_n 0, 1) := by decide +kernel
theorem dX9_goes_223 : decode cX9_goes 223 = .ok (.getfield 9, 3) := by decide +kernel
theorem dX9_goes_226 : decode cX9_goes 226 = .ok (.bipush 6, 2) := by decide +kernel
theorem dX9_goes_228 : decode cX9_goes 228 = .ok (.ldc2_w 209, 3) := by decide +kernel
theorem dX9_goes_231 : decode cX9_goes 231 = .ok (.ldc2_w 211, 3) := by decide +kernel
theorem dX9_goes_234 : decode cX9_goes 234 = .ok (.lload 7, 2) := by decide +kernel
theorem dX9_goes_236 : decode cX9_goes 236 = .ok (.invokestatic 213, 3) := by decide +kernel
theorem dX9_goes_239 : decode cX9_goes 239 = .ok (.invokestatic 216, 3) := by decide +kernel
theorem dX9_goes_242 : decode cX9_goes 242 = .ok (.l2i, 1) := by decide +kernel
theorem dX9_goes_243 : decode cX9_goes 243 = .ok (.iastore, 1) := by decide +kernel
theorem dX9_goes_244 : decode cX9_goes 244 = .ok (.aload_n 0, 1) := by decide +kernel
theorem dX9_goes_245 : decode cX9_goes 245 = .ok (.iconst 1, 1) := by decide +kernel
theorem dX9_goes_246 : decode cX9_goes 246 = .ok (.iload 6, 2) := by decide +kernel
theorem dX9_goes_248 : decode cX9_goes 248 = .ok (.iload 5, 2) := by decide +kernel
theorem dX9_goes_250 : decode cX9_goes 250 = .ok (.iload 6, 2) := by decide +kernel
theorem dX9_goes_252 : decode cX9_goes 252 = .ok (.isub, 1) := by decide +kernel
theorem dX9_goes_253 : decode cX9_goes 253 = .ok (.aload_n 0, 1) := by decide +kernel
theorem dX9_goes_254 : decode cX9_goes 254 = .ok (.getfield 9, 3) := by decide +kernel
theorem dX9_goes_257 : decode cX9_goes 257 = .ok (.iconst 3, 1) := by decide +kernel
theorem dX9_goes_258 : decode cX9_goes 258 = .ok (.iaload, 1) := by decide +kernel
theorem dX9_goes_259 : decode cX9_goes 259 = .ok (.iload_n 1, 1) := by decide +kernel
theorem dX9_goes_260 : decode cX9_goes 260 = .ok (.aload_n 0, 1) := by decide +kernel
theorem dX9_goes_261 : decode cX9_goes 261 = .ok (.getfield 9, 3) := by decide +kernel
theorem dX9_goes_264 : decode cX9_goes 264 = .ok (.iconst 2, 1) := by decide +kernel
theorem dX9_goes_265 : decode cX9_goes 265 = .ok (.iaload, 1) := by decide +kernel
theorem dX9_goes_266 : decode cX9_goes 266 = .ok (.isub, 1) := by decide +kernel
theorem dX9_goes_267 : decode cX9_goes 267 = .ok (.invokevirtual 119, 3) := by decide +kernel
theorem dX9_goes_270 : decode cX9_goes 270 = .ok (.istore 9, 2) := by decide +kernel
theorem dX9_goes_272 : decode cX9_goes 272 = .ok (.aload_n 0, 1) := by decide +kernel
theorem dX9_goes_273 : decode cX9_goes 273 = .ok (.getfield 9, 3) := by decide +kernel
theorem dX9_goes_276 : decode cX9_goes 276 = .ok (.iconst 3, 1) := by decide +kernel
theorem dX9_goes_277 : decode cX9_goes 277 = .ok (.aload_n 0, 1) := by decide +kernel
theorem dX9_goes_278 : decode cX9_goes 278 = .ok (.getfield 9, 3) := by decide +kernel
theorem dX9_goes_281 : decode cX9_goes 281 = .ok (.iconst 3, 1) := by decide +kernel
theorem dX9_goes_282 : decode cX9_goes 282 = .ok (.iaload, 1) := by decide +kernel
theorem dX9_goes_283 : decode cX9_goes 283 = .ok (.iload 9, 2) := by decide +kernel
theorem dX9_goes_285 : decode cX9_goes 285 = .ok (.iadd, 1) := by decide +kernel
theorem dX9_goes_286 : decode cX9_goes 286 = .ok (.iconst 0, 1) := by decide +kernel
theorem dX9_goes_287 : decode cX9_goes 287 = .ok (.bipush 12, 2) := by decide +kernel
theorem dX9_goes_289 : decode cX9_goes 289 = .ok (.invokestatic 203, 3) := by decide +kernel
theorem dX9_goes_292 : decode cX9_goes 292 = .ok (.iastore, 1) := by decide +kernel
theorem dX9_goes_293 : decode cX9_goes 293 = .ok (.aload_n 0, 1) := by decide +kernel
theorem dX9_goes_294 : decode cX9_goes 294 = .ok (.getfield 9, 3) := by decide +kernel
theorem dX9_goes_297 : decode cX9_goes 297 = .ok (.iconst 5, 1) := by decide +kernel
theorem dX9_goes_298 : decode cX9_goes 298 = .ok (.bipush 60, 2) := by decide +kernel
theorem dX9_goes_300 : decode cX9_goes 300 = .ok (.iload 4, 2) := by decide +kernel
theorem dX9_goes_302 : decode cX9_goes 302 = .ok (.iload 6, 2) := by decide +kernel
theorem dX9_goes_304 : decode cX9_goes 304 = .ok (.isub, 1) := by decide +kernel
theorem dX9_goes_305 : decode cX9_goes 305 = .ok (.invokestatic 67, 3) := by decide +kernel
theorem dX9_goes_308 : decode cX9_goes 308 = .ok (.iastore, 1) := by decide +kernel
theorem dX9_goes_309 : decode cX9_goes 309 = .ok (.aload_n 0, 1) := by decide +kernel
theorem dX9_goes_310 : decode cX9_goes 310 = .ok (.getfield 9, 3) := by decide +kernel
theorem dX9_goes_313 : decode cX9_goes 313 = .ok (.iconst 2, 1) := by decide +kernel
theorem dX9_goes_314 : decode cX9_goes 314 = .ok (.iload_n 1, 1) := by decide +kernel
theorem dX9_goes_315 : decode cX9_goes 315 = .ok (.iastore, 1) := by decide +kernel
theorem dX9_goes_316 : decode cX9_goes 316 = .ok (.aload_n 0, 1) := by decide +kernel
theorem dX9_goes_317 : decode cX9_goes 317 = .ok (.getfield 9, 3) := by decide +kernel
theorem dX9_goes_320 : decode cX9_goes 320 = .ok (.iconst 0, 1) := by decide +kernel
theorem dX9_goes_321 : decode cX9_goes 321 = .ok (.dup2, 1) := by decide +kernel
theorem dX9_goes_322 : decode cX9_goes 322 = .ok (.iaload, 1) := by decide +kernel
theorem dX9_goes_323 : decode cX9_goes 323 = .ok (.iconst 1, 1) := by decide +kernel
theorem dX9_goes_324 : decode cX9_goes 324 = .ok (.iadd, 1) := by decide +kernel
theorem dX9_goes_325 : decode cX9_goes 325 = .ok (.iastore, 1) := by decide +kernel
theorem dX9_goes_326 : decode cX9_goes 326 = .ok (.iload 6, 2) := by decide +kernel
theorem dX9_goes_328 : decode cX9_goes 328 = .ok (.ireturn, 1) := by decide +kernel
theorem dX9_year_0 : decode cX9_year 0 = .ok (.iload_n 1, 1) := by decide +kernel
theorem dX9_year_1 : decode cX9_year 1 = .ok (.invokestatic 84, 3) := by decide +kernel
theorem dX9_year_4 : decode cX9_year 4 = .ok (.ifCond .eq 13, 3) := by decide +kernel
theorem dX9_year_7 : decode cX9_year 7 = .ok (.iload_n 2, 1) := by decide +kernel
theorem dX9_year_8 : decode cX9_year 8 = .ok (.iconst 0, 1) := by decide +kernel
theorem dX9_year_9 : decode cX9_year 9 = .ok (.bipush 99, 2) := by decide +kernel
theorem dX9_year_11 : decode cX9_year 11 = .ok (.invokestatic 80, 3) := by decide +kernel
theorem dX9_year_14 : decode cX9_year 14 = .ok (.ifCond .ne 10, 3) := by decide +kernel
theorem dX9_year_17 : decode cX9_year 17 = .ok (.aload_n 0, 1) := by decide +kernel
theorem dX9_year_18 : decode cX9_year 18 = .ok (.ldc 91, 2) := by decide +kernel
theorem dX9_year_20 : decode cX9_year 20 = .ok (.invokevirtual 92, 3) := by decide +kernel
theorem dX9_year_23 : decode cX9_year 23 = .ok (.ireturn, 1) := by decide +kernel
theorem dX9_year_24 : decode cX9_year 24 = .ok (.aload_n 0, 1) := by decide +kernel
theorem dX9_year_25 : decode cX9_year 25 = .ok (.getfield 9, 3) := by decide +kernel
theorem dX9_year_28 : decode cX9_year 28 = .ok (.iconst 0, 1) := by decide +kernel
theorem dX9_year_29 : decode cX9_year 29 = .ok (.iaload, 1) := by decide +kernel
theorem dX9_year_30 : decode cX9_year 30 = .ok (.iconst 1, 1) := by decide +kernel
theorem dX9_year_31 : decode cX9_year 31 = .ok (.iadd, 1) := by decide +kernel
theorem dX9_year_32 : decode cX9_year 32 = .ok (.sipush 199, 3) := by decide +kernel
theorem dX9_year_35 : decode cX9_year 35 = .ok (.if_icmp .le 12, 3) := by decide +kernel
theorem dX9_year_38 : decode cX9_year 38 = .ok (.aload_n 0, 1) := by decide +kernel
theorem dX9_year_39 : decode cX9_year 39 = .ok (.ldc 218, 2) := by decide +kernel
theorem dX9_year_41 : decode cX9_year 41 = .ok (.invokevirtual 92, 3) := by decide +kernel
theorem dX9_year_44 : decode cX9_year 44 = .ok (.goto 10, 3) := by decide +kernel
theorem dX9_year_47 : decode cX9_year 47 = .ok (.aload_n 0, 1) := by decide +kernel
theorem dX9_year_48 : decode cX9_year 48 = .ok (.iload_n 1, 1) := by decide +kernel
theorem dX9_year_49 : decode cX9_year 49 = .ok (.iload_n 2, 1) := by decide +kernel
theorem dX9_year_50 : decode cX9_year 50 = .ok (.iconst 0, 1) := by decide +kernel
theorem dX9_year_51 : decode cX9_year 51 = .ok (.invokevirtual 219, 3) := by decide +kernel
theorem dX9_year_54 : decode cX9_year 54 = .ok (.ireturn, 1) := by decide +kernel
theorem dX9_gives_0 : decode cX9_gives 0 = .ok (.bipush 21, 2) := by decide +kernel
theorem dX9_gives_2 : decode cX9_gives 2 = .ok (.iconst 4, 1) := by decide +kernel
theorem dX9_gives_3 : decode cX9_gives 3 = .ok (.iload_n 1, 1) := by decide +kernel
theorem dX9_gives_4 : decode cX9_gives 4 = .ok (.imul, 1) := by decide +kernel
theorem dX9_gives_5 : decode cX9_gives 5 = .ok (.iadd, 1) := by decide +kernel
theorem dX9_gives_6 : decode cX9_gives 6 = .ok (.iconst 3, 1) := by decide +kernel
theorem dX9_gives_7 : decode cX9_gives 7 = .ok (.iadd, 1) := by decide +kernel
theorem dX9_gives_8 : decode cX9_gives 8 = .ok (.istore_n 2, 1) := by decide +kernel
theorem dX9_gives_9 : decode cX9_gives 9 = .ok (.aload_n 0, 1) := by decide +kernel
theorem dX9_gives_10 : decode cX9_gives 10 = .ok (.getfield 9, 3) := by decide +kernel
theorem dX9_gives_13 : decode cX9_gives 13 = .ok (.iload_n 2, 1) := by decide +kernel
theorem dX9_gives_14 : decode cX9_gives 14 = .ok (.sipush 9999, 3) := by decide +kernel
theorem dX9_gives_17 : decode cX9_gives 17 = .ok (.aload_n 0, 1) := by decide +kernel
theorem dX9_gives_18 : decode cX9_gives 18 = .ok (.getfield 9, 3) := by decide +kernel
theorem dX9_gives_21 : decode cX9_gives 21 = .ok (.iload_n 2, 1) := by decide +kernel
theorem dX9_gives_22 : decode cX9_gives 22 = .ok (.iaload, 1) := by decide +kernel
theorem dX9_gives_23 : decode cX9_gives 23 = .ok (.iconst 1, 1) := by decide +kernel
theorem dX9_gives_24 : decode cX9_gives 24 = .ok (.iadd, 1) := by decide +kernel
theorem dX9_gives_25 : decode cX9_gives 25 = .ok (.invokestatic 67, 3) := by decide +kernel
theorem dX9_gives_28 : decode cX9_gives 28 = .ok (.iastore, 1) := by decide +kernel
theorem dX9_gives_29 : decode cX9_gives 29 = .ok (.aload_n 0, 1) := by decide +kernel
theorem dX9_gives_30 : decode cX9_gives 30 = .ok (.getfield 9, 3) := by decide +kernel
theorem dX9_gives_33 : decode cX9_gives 33 = .ok (.iconst 5, 1) := by decide +kernel
theorem dX9_gives_34 : decode cX9_gives 34 = .ok (.dup2, 1) := by decide +kernel
theorem dX9_gives_35 : decode cX9_gives 35 = .ok (.iaload, 1) := by decide +kernel
theorem dX9_gives_36 : decode cX9_gives 36 = .ok (.iconst 1, 1) := by decide +kernel
theorem dX9_gives_37 : decode cX9_gives 37 = .ok (.isub, 1) := by decide +kernel
theorem dX9_gives_38 : decode cX9_gives 38 = .ok (.iastore, 1) := by decide +kernel
theorem dX9_gives_39 : decode cX9_gives 39 = .ok (.aload_n 0, 1) := by decide +kernel
theorem dX9_gives_40 : decode cX9_gives 40 = .ok (.getfield 9, 3) := by decide +kernel
theorem dX9_gives_43 : decode cX9_gives 43 = .ok (.iconst 3, 1) := by decide +kernel
theorem dX9_gives_44 : decode cX9_gives 44 = .ok (.aload_n 0, 1) := by decide +kernel
theorem dX9_gives_45 : decode cX9_gives 45 = .ok (.getfield 9, 3) := by decide +kernel
theorem dX9_gives_48 : decode cX9_gives 48 = .ok (.iconst 3, 1) := by decide +kernel
theorem dX9_gives_49 : decode cX9_gives 49 = .ok (.iaload, 1) := by decide +kernel
theorem dX9_gives_50 : decode cX9_gives 50 = .ok (.aload_n 0, 1) := by decide +kernel
theorem dX9_gives_51 : decode cX9_gives 51 = .ok (.iload_n 1, 1) := by decide +kernel
theorem dX9_gives_52 : decode cX9_gives 52 = .ok (.invokevirtual 132, 3) := by decide +kernel
theorem dX9_gives_55 : decode cX9_gives 55 = .ok (.ifCond .eq 7, 3) := by decide +kernel
theorem dX9_gives_58 : decode cX9_gives 58 = .ok (.iconst 1, 1) := by decide +kernel
theorem dX9_gives_59 : decode cX9_gives 59 = .ok (.goto 4, 3) := by decide +kernel
theorem dX9_gives_62 : decode cX9_gives 62 = .ok (.iconst 0, 1) := by decide +kernel
theorem dX9_gives_63 : decode cX9_gives 63 = .ok (.iadd, 1) := by decide +kernel
theorem dX9_gives_64 : decode cX9_gives 64 = .ok (.iconst 0, 1) := by decide +kernel
theorem dX9_gives_65 : decode cX9_gives 65 = .ok (.bipush 12, 2) := by decide +kernel
theorem dX9_gives_67 : decode cX9_gives 67 = .ok (.invokestatic 203, 3) := by decide +kernel
theorem dX9_gives_70 : decode cX9_gives 70 = .ok (.iastore, 1) := by decide +kernel
theorem dX9_gives_71 : decode cX9_gives 71 = .ok (.aload_n 0, 1) := by decide +kernel
theorem dX9_gives_72 : decode cX9_gives 72 = .ok (.getfield 9, 3) := by decide +kernel
theorem dX9_gives_75 : decode cX9_gives 75 = .ok (.iload_n 2, 1) := by decide +kernel
theorem dX9_gives_76 : decode cX9_gives 76 = .ok (.iaload, 1) := by decide +kernel
theorem dX9_gives_77 : decode cX9_gives 77 = .ok (.ireturn, 1) := by decide +kernel
theorem dX9_give_0 : decode cX9_give 0 = .ok (.aload_n 0, 1) := by decide +kernel
theorem dX9_give_1 : decode cX9_give 1 = .ok (.iload_n 1, 1) := by decide +kernel
theorem dX9_give_2 : decode cX9_give 2 = .ok (.invokevirtual 105, 3) := by decide +kernel
theorem dX9_give_5 : decode cX9_give 5 = .ok (.ifCond .ne 10, 3) := by decide +kernel
theorem dX9_give_8 : decode cX9_give 8 = .ok (.aload_n 0, 1) := by decide +kernel
theorem dX9_give_9 : decode cX9_give 9 = .ok (.ldc 91, 2) := by decide +kernel
theorem dX9_give_11 : decode cX9_give 11 = .ok (.invokevirtual 92, 3) := by decide +kernel
theorem dX9_give_14 : decode cX9_give 14 = .ok (.ireturn, 1) := by decide +kernel
theorem dX9_give_15 : decode cX9_give 15 = .ok (.aload_n 0, 1) := by decide +kernel
theorem dX9_give_16 : decode cX9_give 16 = .ok (.getfield 9, 3) := by decide +kernel
theorem dX9_give_19 : decode cX9_give 19 = .ok (.iconst 5, 1) := by decide +kernel
theorem dX9_give_20 : decode cX9_give 20 = .ok (.iaload, 1) := by decide +kernel
theorem dX9_give_21 : decode cX9_give 21 = .ok (.ifCond .ne 12, 3) := by decide +kernel
theorem dX9_give_24 : decode cX9_give 24 = .ok (.aload_n 0, 1) := by decide +kernel
theorem dX9_give_25 : decode cX9_give 25 = .ok (.ldc 218, 2) := by decide +kernel
theorem dX9_give_27 : decode cX9_give 27 = .ok (.invokevirtual 92, 3) := by decide +kernel
theorem dX9_give_30 : decode cX9_give 30 = .ok (.goto 8, 3) := by decide +kernel
theorem dX9_give_33 : decode cX9_give 33 = .ok (.aload_n 0, 1) := by decide +kernel
theorem dX9_give_34 : decode cX9_give 34 = .ok (.iload_n 1, 1) := by decide +kernel
theorem dX9_give_35 : decode cX9_give 35 = .ok (.invokevirtual 223, 3) := by decide +kernel
theorem dX9_give_38 : decode cX9_give 38 = .ok (.ireturn, 1) := by decide +kernel
theorem dX9_drawn_0 : decode cX9_drawn 0 = .ok (.aload_n 0, 1) := by decide +kernel
theorem dX9_drawn_1 : decode cX9_drawn 1 = .ok (.getfield 9, 3) := by decide +kernel
theorem dX9_drawn_4 : decode cX9_drawn 4 = .ok (.bipush 10, 2) := by decide +kernel
theorem dX9_drawn_6 : decode cX9_drawn 6 = .ok (.aload_n 0, 1) := by decide +kernel
theorem dX9_drawn_7 : decode cX9_drawn 7 = .ok (.getfield 9, 3) := by decide +kernel
theorem dX9_drawn_10 : decode cX9_drawn 10 = .ok (.bipush 10, 2) := by decide +kernel
theorem dX9_drawn_12 : decode cX9_drawn 12 = .ok (.iaload, 1) := by decide +kernel
theorem dX9_drawn_13 : decode cX9_drawn 13 = .ok (.ldc 226, 2) := by decide +kernel
theorem dX9_drawn_15 : decode cX9_drawn 15 = .ok (.imul, 1) := by decide +kernel
theorem dX9_drawn_16 : decode cX9_drawn 16 = .ok (.sipush 12345, 3) := by decide +kernel
theorem dX9_drawn_19 : decode cX9_drawn 19 = .ok (.iadd, 1) := by decide +kernel
theorem dX9_drawn_20 : decode cX9_drawn 20 = .ok (.iastore, 1) := by decide +kernel
theorem dX9_drawn_21 : decode cX9_drawn 21 = .ok (.aload_n 0, 1) := by decide +kernel
theorem dX9_drawn_22 : decode cX9_drawn 22 = .ok (.getfield 9, 3) := by decide +kernel
theorem dX9_drawn_25 : decode cX9_drawn 25 = .ok (.bipush 10, 2) := by decide +kernel
theorem dX9_drawn_27 : decode cX9_drawn 27 = .ok (.iaload, 1) := by decide +kernel
theorem dX9_drawn_28 : decode cX9_drawn 28 = .ok (.bipush 8, 2) := by decide +kernel
theorem dX9_drawn_30 : decode cX9_drawn 30 = .ok (.iushr, 1) := by decide +kernel
theorem dX9_drawn_31 : decode cX9_drawn 31 = .ok (.iload_n 1, 1) := by decide +kernel
theorem dX9_drawn_32 : decode cX9_drawn 32 = .ok (.irem, 1) := by decide +kernel
theorem dX9_drawn_33 : decode cX9_drawn 33 = .ok (.ireturn, 1) := by decide +kernel
theorem dX9_life_0 : decode cX9_life 0 = .ok (.iload_n 1, 1) := by decide +kernel
theorem dX9_life_1 : decode cX9_life 1 = .ok (.iconst 1, 1) := by decide +kernel
theorem dX9_life_2 : decode cX9_life 2 = .ok (.bipush 30, 2) := by decide +kernel
theorem dX9_life_4 : decode cX9_life 4 = .ok (.invokestatic 80, 3) := by decide +kernel
theorem dX9_life_7 : decode cX9_life 7 = .ok (.ifCond .eq 10, 3) := by decide +kernel
theorem dX9_life_10 : decode cX9_life 10 = .ok (.iload_n 2, 1) := by decide +kernel
theorem dX9_life_11 : decode cX9_life 11 = .ok (.invokestatic 84, 3) := by decide +kernel
theorem dX9_life_14 : decode cX9_life 14 = .ok (.ifCond .ne 10, 3) := by decide +kernel
theorem dX9_life_17 : decode cX9_life 17 = .ok (.aload_n 0, 1) := by decide +kernel
theorem dX9_life_18 : decode cX9_life 18 = .ok (.ldc 91, 2) := by decide +kernel
theorem dX9_life_20 : decode cX9_life 20 = .ok (.invokevirtual 92, 3) := by decide +kernel
theorem dX9_life_23 : decode cX9_life 23 = .ok (.ireturn, 1) := by decide +kernel
theorem dX9_life_24 : decode cX9_life 24 = .ok (.aload_n 0, 1) := by decide +kernel
theorem dX9_life_25 : decode cX9_life 25 = .ok (.getfield 9, 3) := by decide +kernel
theorem dX9_life_28 : decode cX9_life 28 = .ok (.iconst 0, 1) := by decide +kernel
theorem dX9_life_29 : decode cX9_life 29 = .ok (.iaload, 1) := by decide +kernel
theorem dX9_life_30 : decode cX9_life 30 = .ok (.iload_n 1, 1) := by decide +kernel
theorem dX9_life_31 : decode cX9_life 31 = .ok (.iadd, 1) := by decide +kernel
theorem dX9_life_32 : decode cX9_life 32 = .ok (.sipush 199, 3) := by decide +kernel
theorem dX9_life_35 : decode cX9_life 35 = .ok (.if_icmp .le 10, 3) := by decide +kernel
theorem dX9_life_38 : decode cX9_life 38 = .ok (.aload_n 0, 1) := by decide +kernel
theorem dX9_life_39 : decode cX9_life 39 = .ok (.ldc 218, 2) := by decide +kernel
theorem dX9_life_41 : decode cX9_life 41 = .ok (.invokevirtual 92, 3) := by decide +kernel
theorem dX9_life_44 : decode cX9_life 44 = .ok (.ireturn, 1) := by decide +kernel
theorem dX9_life_45 : decode cX9_life 45 = .ok (.iconst 0, 1) := by decide +kernel
theorem dX9_life_46 : decode cX9_life 46 = .ok (.istore_n 3, 1) := by decide +kernel
theorem dX9_life_47 : decode cX9_life 47 = .ok (.iconst 0, 1) := by decide +kernel
theorem dX9_life_48 : decode cX9_life 48 = .ok (.istore 4, 2) := by decide +kernel
theorem dX9_life_50 : decode cX9_life 50 = .ok (.iload 4, 2) := by decide +kernel
theorem dX9_life_52 : decode cX9_life 52 = .ok (.iload_n 1, 1) := by decide +kernel
theorem dX9_life_53 : decode cX9_life 53 = .ok (.if_icmp .ge 19, 3) := by decide +kernel
theorem dX9_life_56 : decode cX9_life 56 = .ok (.iload_n 3, 1) := by decide +kernel
theorem dX9_life_57 : decode cX9_life 57 = .ok (.aload_n 0, 1) := by decide +kernel
theorem dX9_life_58 : decode cX9_life 58 = .ok (.iload_n 2, 1) := by decide +kernel
theorem dX9_life_59 : decode cX9_life 59 = .ok (.iconst 0, 1) := by decide +kernel
theorem dX9_life_60 : decode cX9_life 60 = .ok (.iconst 1, 1) := by decide +kernel
theorem dX9_life_61 : decode cX9_life 61 = .ok (.invokevirtual 219, 3) := by decide +kernel
theorem dX9_life_64 : decode cX9_life 64 = .ok (.iadd, 1) := by decide +kernel
theorem dX9_life_65 : decode cX9_life 65 = .ok (.istore_n 3, 1) := by decide +kernel
theorem dX9_life_66 : decode cX9_life 66 = .ok (.iinc 4 1, 3) := by decide +kernel
theorem dX9_life_69 : decode cX9_life 69 = .ok (.goto (-19), 3) := by decide +kernel
theorem dX9_life_72 : decode cX9_life 72 = .ok (.iload_n 3, 1) := by decide +kernel
theorem dX9_life_73 : decode cX9_life 73 = .ok (.ireturn, 1) := by decide +kernel
theorem dX9_yearsGo_0 : decode cX9_yearsGo 0 = .ok (.iconst 0, 1) := by decide +kernel
theorem dX9_yearsGo_1 : decode cX9_yearsGo 1 = .ok (.istore_n 3, 1) := by decide +kernel
theorem dX9_yearsGo_2 : decode cX9_yearsGo 2 = .ok (.iload_n 3, 1) := by decide +kernel
theorem dX9_yearsGo_3 : decode cX9_yearsGo 3 = .ok (.iload_n 1, 1) := by decide +kernel
theorem dX9_yearsGo_4 : decode cX9_yearsGo 4 = .ok (.if_icmp .ge 18, 3) := by decide +kernel
theorem dX9_yearsGo_7 : decode cX9_yearsGo 7 = .ok (.aload_n 0, 1) := by decide +kernel
theorem dX9_yearsGo_8 : decode cX9_yearsGo 8 = .ok (.iload_n 2, 1) := by decide +kernel
theorem dX9_yearsGo_9 : decode cX9_yearsGo 9 = .ok (.iconst 0, 1) := by decide +kernel
theorem dX9_yearsGo_10 : decode cX9_yearsGo 10 = .ok (.iconst 0, 1) := by decide +kernel
theorem dX9_yearsGo_11 : decode cX9_yearsGo 11 = .ok (.invokevirtual 219, 3) := by decide +kernel
theorem dX9_yearsGo_14 : decode cX9_yearsGo 14 = .ok (.istore 4, 2) := by decide +kernel
theorem dX9_yearsGo_16 : decode cX9_yearsGo 16 = .ok (.iinc 3 1, 3) := by decide +kernel
theorem dX9_yearsGo_19 : decode cX9_yearsGo 19 = .ok (.goto (-17), 3) := by decide +kernel
theorem dX9_yearsGo_22 : decode cX9_yearsGo 22 = .ok (.return_, 1) := by decide +kernel
theorem dX9_ends_0 : decode cX9_ends 0 = .ok (.aload_n 0, 1) := by decide +kernel
theorem dX9_ends_1 : decode cX9_ends 1 = .ok (.getfield 9, 3) := by decide +kernel
theorem dX9_ends_4 : decode cX9_ends 4 = .ok (.bipush 6, 2) := by decide +kernel
theorem dX9_ends_6 : decode cX9_ends 6 = .ok (.iaload, 1) := by decide +kernel
theorem dX9_ends_7 : decode cX9_ends 7 = .ok (.aload_n 0, 1) := by decide +kernel
theorem dX9_ends_8 : decode cX9_ends 8 = .ok (.getfield 9, 3) := by decide +kernel
theorem dX9_ends_11 : decode cX9_ends 11 = .ok (.iconst 5, 1) := by decide +kernel
theorem dX9_ends_12 : decode cX9_ends 12 = .ok (.iaload, 1) := by decide +kernel
theorem dX9_ends_13 : decode cX9_ends 13 = .ok (.aload_n 0, 1) := by decide +kernel
theorem dX9_ends_14 : decode cX9_ends 14 = .ok (.getfield 9, 3) := by decide +kernel
theorem dX9_ends_17 : decode cX9_ends 17 = .ok (.bipush 11, 2) := by decide +kernel
theorem dX9_ends_19 : decode cX9_ends 19 = .ok (.aload_n 0, 1) := by decide +kernel
theorem dX9_ends_20 : decode cX9_ends 20 = .ok (.getfield 9, 3) := by decide +kernel
theorem dX9_ends_23 : decode cX9_ends 23 = .ok (.iconst 2, 1) := by decide +kernel
theorem dX9_ends_24 : decode cX9_ends 24 = .ok (.iaload, 1) := by decide +kernel
theorem dX9_ends_25 : decode cX9_ends 25 = .ok (.iadd, 1) := by decide +kernel
theorem dX9_ends_26 : decode cX9_ends 26 = .ok (.iaload, 1) := by decide +kernel
theorem dX9_ends_27 : decode cX9_ends 27 = .ok (.imul, 1) := by decide +kernel
theorem dX9_ends_28 : decode cX9_ends 28 = .ok (.iconst 2, 1) := by decide +kernel
theorem dX9_ends_29 : decode cX9_ends 29 = .ok (.idiv, 1) := by decide +kernel
theorem dX9_ends_30 : decode cX9_ends 30 = .ok (.iadd, 1) := by decide +kernel
theorem dX9_ends_31 : decode cX9_ends 31 = .ok (.ireturn, 1) := by decide +kernel
theorem dX9_toldOf_0 : decode cX9_toldOf 0 = .ok (.iconst 0, 1) := by decide +kernel
theorem dX9_toldOf_1 : decode cX9_toldOf 1 = .ok (.istore_n 2, 1) := by decide +kernel
theorem dX9_toldOf_2 : decode cX9_toldOf 2 = .ok (.iload_n 1, 1) := by decide +kernel
theorem dX9_toldOf_3 : decode cX9_toldOf 3 = .ok (.tableswitch 56 0 3 #[29, 37, 44, 51], 29) := by decide +kernel
theorem dX9_toldOf_32 : decode cX9_toldOf 32 = .ok (.aload_n 0, 1) := by decide +kernel
theorem dX9_toldOf_33 : decode cX9_toldOf 33 = .ok (.getfield 9, 3) := by decide +kernel
theorem dX9_toldOf_36 : decode cX9_toldOf 36 = .ok (.bipush 6, 2) := by decide +kernel
theorem dX9_toldOf_38 : decode cX9_toldOf 38 = .ok (.iaload, 1) := by decide +kernel
theorem dX9_toldOf_39 : decode cX9_toldOf 39 = .ok (.ireturn, 1) := by decide +kernel
theorem dX9_toldOf_40 : decode cX9_toldOf 40 = .ok (.aload_n 0, 1) := by decide +kernel
theorem dX9_toldOf_41 : decode cX9_toldOf 41 = .ok (.getfield 9, 3) := by decide +kernel
theorem dX9_toldOf_44 : decode cX9_toldOf 44 = .ok (.iconst 3, 1) := by decide +kernel
theorem dX9_toldOf_45 : decode cX9_toldOf 45 = .ok (.iaload, 1) := by decide +kernel
theorem dX9_toldOf_46 : decode cX9_toldOf 46 = .ok (.ireturn, 1) := by decide +kernel
theorem dX9_toldOf_47 : decode cX9_toldOf 47 = .ok (.aload_n 0, 1) := by decide +kernel
theorem dX9_toldOf_48 : decode cX9_toldOf 48 = .ok (.getfield 9, 3) := by decide +kernel
theorem dX9_toldOf_51 : decode cX9_toldOf 51 = .ok (.iconst 5, 1) := by decide +kernel
theorem dX9_toldOf_52 : decode cX9_toldOf 52 = .ok (.iaload, 1) := by decide +kernel
theorem dX9_toldOf_53 : decode cX9_toldOf 53 = .ok (.ireturn, 1) := by decide +kernel
theorem dX9_toldOf_54 : decode cX9_toldOf 54 = .ok (.aload_n 0, 1) := by decide +kernel
theorem dX9_toldOf_55 : decode cX9_toldOf 55 = .ok (.invokevirtual 227, 3) := by decide +kernel
theorem dX9_toldOf_58 : decode cX9_toldOf 58 = .ok (.ireturn, 1) := by decide +kernel
theorem dX9_toldOf_59 : decode cX9_toldOf 59 = .ok (.iconst 0, 1) := by decide +kernel
theorem dX9_toldOf_60 : decode cX9_toldOf 60 = .ok (.istore_n 3, 1) := by decide +kernel
theorem dX9_toldOf_61 : decode cX9_toldOf 61 = .ok (.iload_n 3, 1) := by decide +kernel
theorem dX9_toldOf_62 : decode cX9_toldOf 62 = .ok (.aload_n 0, 1) := by decide +kernel
theorem dX9_toldOf_63 : decode cX9_toldOf 63 = .ok (.getfield 9, 3) := by decide +kernel
theorem dX9_toldOf_66 : decode cX9_toldOf 66 = .ok (.iconst 1, 1) := by decide +kernel
theorem dX9_toldOf_67 : decode cX9_toldOf 67 = .ok (.iaload, 1) := by decide +kernel
theorem dX9_toldOf_68 : decode cX9_toldOf 68 = .ok (.if_icmp .ge 18, 3) := by decide +kernel
theorem dX9_toldOf_71 : decode cX9_toldOf 71 = .ok (.iload_n 2, 1) := by decide +kernel
theorem dX9_toldOf_72 : decode cX9_toldOf 72 = .ok (.aload_n 0, 1) := by decide +kernel
theorem dX9_toldOf_73 : decode cX9_toldOf 73 = .ok (.iload_n 3, 1) := by decide +kernel
theorem dX9_toldOf_74 : decode cX9_toldOf 74 = .ok (.iconst 3, 1) := by decide +kernel
theorem dX9_toldOf_75 : decode cX9_toldOf 75 = .ok (.invokevirtual 108, 3) := by decide +kernel
theorem dX9_toldOf_78 : decode cX9_toldOf 78 = .ok (.iadd, 1) := by decide +kernel
theorem dX9_toldOf_79 : decode cX9_toldOf 79 = .ok (.istore_n 2, 1) := by decide +kernel
theorem dX9_toldOf_80 : decode cX9_toldOf 80 = .ok (.iinc 3 1, 3) := by decide +kernel
theorem dX9_toldOf_83 : decode cX9_toldOf 83 = .ok (.goto (-22), 3) := by decide +kernel
theorem dX9_toldOf_86 : decode cX9_toldOf 86 = .ok (.iload_n 2, 1) := by decide +kernel
theorem dX9_toldOf_87 : decode cX9_toldOf 87 = .ok (.ireturn, 1) := by decide +kernel
theorem dX9_isAhead_0 : decode cX9_isAhead 0 = .ok (.iload_n 0, 1) := by decide +kernel
theorem dX9_isAhead_1 : decode cX9_isAhead 1 = .ok (.iconst 0, 1) := by decide +kernel
theorem dX9_isAhead_2 : decode cX9_isAhead 2 = .ok (.bipush 40, 2) := by decide +kernel
theorem dX9_isAhead_4 : decode cX9_isAhead 4 = .ok (.invokestatic 80, 3) := by decide +kernel
theorem dX9_isAhead_7 : decode cX9_isAhead 7 = .ok (.ireturn, 1) := by decide +kernel
theorem dX9_then_0 : decode cX9_then 0 = .ok (.iload_n 1, 1) := by decide +kernel
theorem dX9_then_1 : decode cX9_then 1 = .ok (.invokestatic 230, 3) := by decide +kernel
theorem dX9_then_4 : decode cX9_then 4 = .ok (.ifCond .eq 19, 3) := by decide +kernel
theorem dX9_then_7 : decode cX9_then 7 = .ok (.iload_n 2, 1) := by decide +kernel
theorem dX9_then_8 : decode cX9_then 8 = .ok (.invokestatic 84, 3) := by decide +kernel
theorem dX9_then_11 : decode cX9_then 11 = .ok (.ifCond .eq 12, 3) := by decide +kernel
theorem dX9_then_14 : decode cX9_then 14 = .ok (.iload_n 3, 1) := by decide +kernel
theorem dX9_then_15 : decode cX9_then 15 = .ok (.iconst 0, 1) := by decide +kernel
theorem dX9_then_16 : decode cX9_then 16 = .ok (.iconst 4, 1) := by decide +kernel
theorem dX9_then_17 : decode cX9_then 17 = .ok (.invokestatic 80, 3) := by decide +kernel
theorem dX9_then_20 : decode cX9_then 20 = .ok (.ifCond .ne 10, 3) := by decide +kernel
theorem dX9_then_23 : decode cX9_then 23 = .ok (.aload_n 0, 1) := by decide +kernel
theorem dX9_then_24 : decode cX9_then 24 = .ok (.ldc 91, 2) := by decide +kernel
theorem dX9_then_26 : decode cX9_then 26 = .ok (.invokevirtual 92, 3) := by decide +kernel
theorem dX9_then_29 : decode cX9_then 29 = .ok (.ireturn, 1) := by decide +kernel
theorem dX9_then_30 : decode cX9_then 30 = .ok (.aload_n 0, 1) := by decide +kernel
theorem dX9_then_31 : decode cX9_then 31 = .ok (.getfield 9, 3) := by decide +kernel
theorem dX9_then_34 : decode cX9_then 34 = .ok (.aload_n 0, 1) := by decide +kernel
theorem dX9_then_35 : decode cX9_then 35 = .ok (.getfield 16, 3) := by decide +kernel
theorem dX9_then_38 : decode cX9_then 38 = .ok (.invokestatic 76, 3) := by decide +kernel
theorem dX9_then_41 : decode cX9_then 41 = .ok (.aload_n 0, 1) := by decide +kernel
theorem dX9_then_42 : decode cX9_then 42 = .ok (.iload_n 1, 1) := by decide +kernel
theorem dX9_then_43 : decode cX9_then 43 = .ok (.iload_n 2, 1) := by decide +kernel
theorem dX9_then_44 : decode cX9_then 44 = .ok (.invokevirtual 233, 3) := by decide +kernel
theorem dX9_then_47 : decode cX9_then 47 = .ok (.aload_n 0, 1) := by decide +kernel
theorem dX9_then_48 : decode cX9_then 48 = .ok (.aload_n 0, 1) := by decide +kernel
theorem dX9_then_49 : decode cX9_then 49 = .ok (.iload_n 3, 1) := by decide +kernel
theorem dX9_then_50 : decode cX9_then 50 = .ok (.invokevirtual 237, 3) := by decide +kernel
theorem dX9_then_53 : decode cX9_then 53 = .ok (.invokevirtual 240, 3) := by decide +kernel
theorem dX9_then_56 : decode cX9_then 56 = .ok (.ireturn, 1) := by decide +kernel
theorem dX9_by_0 : decode cX9_by 0 = .ok (.iload_n 1, 1) := by decide +kernel
theorem dX9_by_1 : decode cX9_by 1 = .ok (.invokestatic 115, 3) := by decide +kernel
theorem dX9_by_4 : decode cX9_by 4 = .ok (.ifCond .eq 12, 3) := by decide +kernel
theorem dX9_by_7 : decode cX9_by 7 = .ok (.iload_n 2, 1) := by decide +kernel
theorem dX9_by_8 : decode cX9_by 8 = .ok (.iconst 0, 1) := by decide +kernel
theorem dX9_by_9 : decode cX9_by 9 = .ok (.iconst 4, 1) := by decide +kernel
theorem dX9_by_10 : decode cX9_by 10 = .ok (.invokestatic 80, 3) := by decide +kernel
theorem dX9_by_13 : decode cX9_by 13 = .ok (.ifCond .ne 10, 3) := by decide +kernel
theorem dX9_by_16 : decode cX9_by 16 = .ok (.aload_n 0, 1) := by decide +kernel
theorem dX9_by_17 : decode cX9_by 17 = .ok (.ldc 91, 2) := by decide +kernel
theorem dX9_by_19 : decode cX9_by 19 = .ok (.invokevirtual 92, 3) := by decide +kernel
theorem dX9_by_22 : decode cX9_by 22 = .ok (.ireturn, 1) := by decide +kernel
theorem dX9_by_23 : decode cX9_by 23 = .ok (.aload_n 0, 1) := by decide +kernel
theorem dX9_by_24 : decode cX9_by 24 = .ok (.getfield 54, 3) := by decide +kernel
theorem dX9_by_27 : decode cX9_by 27 = .ok (.iload_n 1, 1) := by decide +kernel
theorem dX9_by_28 : decode cX9_by 28 = .ok (.iaload, 1) := by decide +kernel
theorem dX9_by_29 : decode cX9_by 29 = .ok (.ifCond .ne 10, 3) := by decide +kernel
theorem dX9_by_32 : decode cX9_by 32 = .ok (.aload_n 0, 1) := by decide +kernel
theorem dX9_by_33 : decode cX9_by 33 = .ok (.ldc 118, 2) := by decide +kernel
theorem dX9_by_35 : decode cX9_by 35 = .ok (.invokevirtual 92, 3) := by decide +kernel
theorem dX9_by_38 : decode cX9_by 38 = .ok (.ireturn, 1) := by decide +kernel
theorem dX9_by_39 : decode cX9_by 39 = .ok (.aload_n 0, 1) := by decide +kernel
theorem dX9_by_40 : decode cX9_by 40 = .ok (.getfield 9, 3) := by decide +kernel
theorem dX9_by_43 : decode cX9_by 43 = .ok (.aload_n 0, 1) := by decide +kernel
theorem dX9_by_44 : decode cX9_by 44 = .ok (.getfield 16, 3) := by decide +kernel
theorem dX9_by_47 : decode cX9_by 47 = .ok (.invokestatic 76, 3) := by decide +kernel
theorem dX9_by_50 : decode cX9_by 50 = .ok (.iconst 0, 1) := by decide +kernel
theorem dX9_by_51 : decode cX9_by 51 = .ok (.istore_n 3, 1) := by decide +kernel
theorem dX9_by_52 : decode cX9_by 52 = .ok (.iload_n 3, 1) := by decide +kernel
theorem dX9_by_53 : decode cX9_by 53 = .ok (.aload_n 0, 1) := by decide +kernel
theorem dX9_by_54 : decode cX9_by 54 = .ok (.getfield 57, 3) := by decide +kernel
theorem dX9_by_57 : decode cX9_by 57 = .ok (.iload_n 1, 1) := by decide +kernel
theorem dX9_by_58 : decode cX9_by 58 = .ok (.iaload, 1) := by decide +kernel
theorem dX9_by_59 : decode cX9_by 59 = .ok (.if_icmp .ge 42, 3) := by decide +kernel
theorem dX9_by_62 : decode cX9_by 62 = .ok (.aload_n 0, 1) := by decide +kernel
theorem dX9_by_63 : decode cX9_by 63 = .ok (.getfield 60, 3) := by decide +kernel
theorem dX9_by_66 : decode cX9_by 66 = .ok (.bipush 40, 2) := by decide +kernel
theorem dX9_by_68 : decode cX9_by 68 = .ok (.iload_n 1, 1) := by decide +kernel
theorem dX9_by_69 : decode cX9_by 69 = .ok (.imul, 1) := by decide +kernel
theorem dX9_by_70 : decode cX9_by 70 = .ok (.iload_n 3, 1) := by decide +kernel
theorem dX9_by_71 : decode cX9_by 71 = .ok (.iadd, 1) := by decide +kernel
theorem dX9_by_72 : decode cX9_by 72 = .ok (.iaload, 1) := by decide +kernel
theorem dX9_by_73 : decode cX9_by 73 = .ok (.invokestatic 84, 3) := by decide +kernel
theorem dX9_by_76 : decode cX9_by 76 = .ok (.ifCond .eq 25, 3) := by decide +kernel
theorem dX9_by_79 : decode cX9_by 79 = .ok (.aload_n 0, 1) := by decide +kernel
theorem dX9_by_80 : decode cX9_by 80 = .ok (.iconst 1, 1) := by decide +kernel
theorem dX9_by_81 : decode cX9_by 81 = .ok (.aload_n 0, 1) := by decide +kernel
theorem dX9_by_82 : decode cX9_by 82 = .ok (.getfield 60, 3) := by decide +kernel
theorem dX9_by_85 : decode cX9_by 85 = .ok (.bipush 40, 2) := by decide +kernel
theorem dX9_by_87 : decode cX9_by 87 = .ok (.iload_n 1, 1) := by decide +kernel
theorem dX9_by_88 : decode cX9_by 88 = .ok (.imul, 1) := by decide +kernel
theorem dX9_by_89 : decode cX9_by 89 = .ok (.iload_n 3, 1) := by decide +kernel
theorem dX9_by_90 : decode cX9_by 90 = .ok (.iadd, 1) := by decide +kernel
theorem dX9_by_91 : decode cX9_by 91 = .ok (.iaload, 1) := by decide +kernel
theorem dX9_by_92 : decode cX9_by 92 = .ok (.invokevirtual 233, 3) := by decide +kernel
theorem dX9_by_95 : decode cX9_by 95 = .ok (.iinc 3 1, 3) := by decide +kernel
theorem dX9_by_98 : decode cX9_by 98 = .ok (.goto (-46), 3) := by decide +kernel
theorem dX9_by_101 : decode cX9_by 101 = .ok (.aload_n 0, 1) := by decide +kernel
theorem dX9_by_102 : decode cX9_by 102 = .ok (.aload_n 0, 1) := by decide +kernel
theorem dX9_by_103 : decode cX9_by 103 = .ok (.iload_n 2, 1) := by decide +kernel
theorem dX9_by_104 : decode cX9_by 104 = .ok (.invokevirtual 237, 3) := by decide +kernel
theorem dX9_by_107 : decode cX9_by 107 = .ok (.invokevirtual 240, 3) := by decide +kernel
theorem dX9_by_110 : decode cX9_by 110 = .ok (.ireturn, 1) := by decide +kernel
theorem dX9_findBest_0 : decode cX9_findBest 0 = .ok (.aload_n 0, 1) := by decide +kernel
theorem dX9_findBest_1 : decode cX9_findBest 1 = .ok (.getfield 9, 3) := by decide +kernel
theorem dX9_findBest_4 : decode cX9_findBest 4 = .ok (.aload_n 0, 1) := by decide +kernel
theorem dX9_findBest_5 : decode cX9_findBest 5 = .ok (.getfield 16, 3) := by decide +kernel
theorem dX9_findBest_8 : decode cX9_findBest 8 = .ok (.invokestatic 76, 3) := by decide +kernel
theorem dX9_findBest_11 : decode cX9_findBest 11 = .ok (.iload_n 1, 1) := by decide +kernel
theorem dX9_findBest_12 : decode cX9_findBest 12 = .ok (.iconst 1, 1) := by decide +kernel
theorem dX9_findBest_13 : decode cX9_findBest 13 = .ok (.if_icmp .ne 8, 3) := by decide +kernel
theorem dX9_findBest_16 : decode cX9_findBest 16 = .ok (.bipush 10, 2) := by decide +kernel
theorem dX9_findBest_18 : decode cX9_findBest 18 = .ok (.goto 16, 3) := by decide +kernel
theorem dX9_findBest_21 : decode cX9_findBest 21 = .ok (.iload_n 1, 1) := by decide +kernel
theorem dX9_findBest_22 : decode cX9_findBest 22 = .ok (.iconst 2, 1) := by decide +kernel
theorem dX9_findBest_23 : decode cX9_findBest 23 = .ok (.if_icmp .ne 8, 3) := by decide +kernel
theorem dX9_findBest_26 : decode cX9_findBest 26 = .ok (.bipush 100, 2) := by decide +kernel
theorem dX9_findBest_28 : decode cX9_findBest 28 = .ok (.goto 6, 3) := by decide +kernel
theorem dX9_findBest_31 : decode cX9_findBest 31 = .ok (.sipush 1000, 3) := by decide +kernel
theorem dX9_findBest_34 : decode cX9_findBest 34 = .ok (.istore_n 3, 1) := by decide +kernel
theorem dX9_findBest_35 : decode cX9_findBest 35 = .ok (.iconst 0, 1) := by decide +kernel
theorem dX9_findBest_36 : decode cX9_findBest 36 = .ok (.istore 4, 2) := by decide +kernel
theorem dX9_findBest_38 : decode cX9_findBest 38 = .ok (.iconst 0, 1) := by decide +kernel
theorem dX9_findBest_39 : decode cX9_findBest 39 = .ok (.istore 5, 2) := by decide +kernel
theorem dX9_findBest_41 : decode cX9_findBest 41 = .ok (.iload 5, 2) := by decide +kernel
theorem dX9_findBest_43 : decode cX9_findBest 43 = .ok (.iload_n 3, 1) := by decide +kernel
theorem dX9_findBest_44 : decode cX9_findBest 44 = .ok (.if_icmp .ge 187, 3) := by decide +kernel
theorem dX9_findBest_47 : decode cX9_findBest 47 = .ok (.iconst 1, 1) := by decide +kernel
theorem dX9_findBest_48 : decode cX9_findBest 48 = .ok (.istore 6, 2) := by decide +kernel
theorem dX9_findBest_50 : decode cX9_findBest 50 = .ok (.iload_n 3, 1) := by decide +kernel
theorem dX9_findBest_51 : decode cX9_findBest 51 = .ok (.bipush 10, 2) := by decide +kernel
theorem dX9_findBest_53 : decode cX9_findBest 53 = .ok (.idiv, 1) := by decide +kernel
theorem dX9_findBest_54 : decode cX9_findBest 54 = .ok (.istore 7, 2) := by decide +kernel
theorem dX9_findBest_56 : decode cX9_findBest 56 = .ok (.iconst 0, 1) := by decide +kernel
theorem dX9_findBest_57 : decode cX9_findBest 57 = .ok (.istore 8, 2) := by decide +kernel
theorem dX9_findBest_59 : decode cX9_findBest 59 = .ok (.iload 8, 2) := by decide +kernel
theorem dX9_findBest_61 : decode cX9_findBest 61 = .ok (.iload_n 1, 1) := by decide +kernel
theorem dX9_findBest_62 : decode cX9_findBest 62 = .ok (.if_icmp .ge 65, 3) := by decide +kernel
theorem dX9_findBest_65 : decode cX9_findBest 65 = .ok (.iload 5, 2) := by decide +kernel
theorem dX9_findBest_67 : decode cX9_findBest 67 = .ok (.iload 7, 2) := by decide +kernel
theorem dX9_findBest_69 : decode cX9_findBest 69 = .ok (.idiv, 1) := by decide +kernel
theorem dX9_findBest_70 : decode cX9_findBest 70 = .ok (.bipush 10, 2) := by decide +kernel
theorem dX9_findBest_72 : decode cX9_findBest 72 = .ok (.irem, 1) := by decide +kernel
theorem dX9_findBest_73 : decode cX9_findBest 73 = .ok (.istore 9, 2) := by decide +kernel
theorem dX9_findBest_75 : decode cX9_findBest 75 = .ok (.iload 7, 2) := by decide +kernel
theorem dX9_findBest_77 : decode cX9_findBest 77 = .ok (.bipush 10, 2) := by decide +kernel
theorem dX9_findBest_79 : decode cX9_findBest 79 = .ok (.idiv, 1) := by decide +kernel
theorem dX9_findBest_80 : decode cX9_findBest 80 = .ok (.istore 7, 2) := by decide +kernel
theorem dX9_findBest_82 : decode cX9_findBest 82 = .ok (.iload 6, 2) := by decide +kernel
theorem dX9_findBest_84 : decode cX9_findBest 84 = .ok (.ifCond .eq 22, 3) := by decide +kernel
theorem dX9_findBest_87 : decode cX9_findBest 87 = .ok (.iload_n 2, 1) := by decide +kernel
theorem dX9_findBest_88 : decode cX9_findBest 88 = .ok (.ifCond .eq 14, 3) := by decide +kernel
theorem dX9_findBest_91 : decode cX9_findBest 91 = .ok (.iload 9, 2) := by decide +kernel
theorem dX9_findBest_93 : decode cX9_findBest 93 = .ok (.aload_n 0, 1) := by decide +kernel
theorem dX9_findBest_94 : decode cX9_findBest 94 = .ok (.getfield 9, 3) := by decide +kernel
theorem dX9_findBest_97 : decode cX9_findBest 97 = .ok (.iconst 2, 1) := by decide +kernel
theorem dX9_findBest_98 : decode cX9_findBest 98 = .ok (.iaload, 1) := by decide +kernel
theorem dX9_findBest_99 : decode cX9_findBest 99 = .ok (.if_icmp .lt 7, 3) := by decide +kernel
theorem dX9_findBest_102 : decode cX9_findBest 102 = .ok (.iconst 1, 1) := by decide +kernel
theorem dX9_findBest_103 : decode cX9_findBest 103 = .ok (.goto 4, 3) := by decide +kernel
theorem dX9_findBest_106 : decode cX9_findBest 106 = .ok (.iconst 0, 1) := by decide +kernel
theorem dX9_findBest_107 : decode cX9_findBest 107 = .ok (.istore 6, 2) := by decide +kernel
theorem dX9_findBest_109 : decode cX9_findBest 109 = .ok (.iload 6, 2) := by decide +kernel
theorem dX9_findBest_111 : decode cX9_findBest 111 = .ok (.ifCond .eq 10, 3) := by decide +kernel
theorem dX9_findBest_114 : decode cX9_findBest 114 = .ok (.aload_n 0, 1) := by decide +kernel
theorem dX9_findBest_115 : decode cX9_findBest 115 = .ok (.iconst 1, 1) := by decide +kernel
theorem dX9_findBest_116 : decode cX9_findBest 116 = .ok (.iload 9, 2) := by decide +kernel
theorem dX9_findBest_118 : decode cX9_findBest 118 = .ok (.invokevirtual 233, 3) := by decide +kernel
theorem dX9_findBest_121 : decode cX9_findBest 121 = .ok (.iinc 8 1, 3) := by decide +kernel
theorem dX9_findBest_124 : decode cX9_findBest 124 = .ok (.goto (-65), 3) := by decide +kernel
theorem dX9_findBest_127 : decode cX9_findBest 127 = .ok (.aload_n 0, 1) := by decide +kernel
theorem dX9_findBest_128 : decode cX9_findBest 128 = .ok (.invokevirtual 227, 3) := by decide +kernel
theorem dX9_findBest_131 : decode cX9_findBest 131 = .ok (.istore 8, 2) := by decide +kernel
theorem dX9_findBest_133 : decode cX9_findBest 133 = .ok (.aload_n 0, 1) := by decide +kernel
theorem dX9_findBest_134 : decode cX9_findBest 134 = .ok (.getfield 16, 3) := by decide +kernel
theorem dX9_findBest_137 : decode cX9_findBest 137 = .ok (.aload_n 0, 1) := by decide +kernel
theorem dX9_findBest_138 : decode cX9_findBest 138 = .ok (.getfield 9, 3) := by decide +kernel
theorem dX9_findBest_141 : decode cX9_findBest 141 = .ok (.invokestatic 76, 3) := by decide +kernel
theorem dX9_findBest_144 : decode cX9_findBest 144 = .ok (.iload 6, 2) := by decide +kernel
theorem dX9_findBest_146 : decode cX9_findBest 146 = .ok (.ifCond .eq 79, 3) := by decide +kernel
theorem dX9_findBest_149 : decode cX9_findBest 149 = .ok (.iload 4, 2) := by decide +kernel
theorem dX9_findBest_151 : decode cX9_findBest 151 = .ok (.ifCond .eq 12, 3) := by decide +kernel
theorem dX9_findBest_154 : decode cX9_findBest 154 = .ok (.iload 8, 2) := by decide +kernel
theorem dX9_findBest_156 : decode cX9_findBest 156 = .ok (.aload_n 0, 1) := by decide +kernel
theorem dX9_findBest_157 : decode cX9_findBest 157 = .ok (.getfield 243, 3) := by decide +kernel
theorem dX9_findBest_160 : decode cX9_findBest 160 = .ok (.if_icmp .le 65, 3) := by decide +kernel
theorem dX9_findBest_163 : decode cX9_findBest 163 = .ok (.iconst 1, 1) := by decide +kernel
theorem dX9_findBest_164 : decode cX9_findBest 164 = .ok (.istore 4, 2) := by decide +kernel
theorem dX9_findBest_166 : decode cX9_findBest 166 = .ok (.aload_n 0, 1) := by decide +kernel
theorem dX9_findBest_167 : decode cX9_findBest 167 = .ok (.iload 8, 2) := by decide +kernel
theorem dX9_findBest_169 : decode cX9_findBest 169 = .ok (.putfield 243, 3) := by decide +kernel
theorem dX9_findBest_172 : decode cX9_findBest 172 = .ok (.aload_n 0, 1) := by decide +kernel
theorem dX9_findBest_173 : decode cX9_findBest 173 = .ok (.getfield 48, 3) := by decide +kernel
theorem dX9_findBest_176 : decode cX9_findBest 176 = .ok (.iconst 0, 1) := by decide +kernel
theorem dX9_findBest_177 : decode cX9_findBest 177 = .ok (.iload 5, 2) := by decide +kernel
theorem dX9_findBest_179 : decode cX9_findBest 179 = .ok (.iload_n 3, 1) := by decide +kernel
theorem dX9_findBest_180 : decode cX9_findBest 180 = .ok (.bipush 10, 2) := by decide +kernel
theorem dX9_findBest_182 : decode cX9_findBest 182 = .ok (.idiv, 1) := by decide +kernel
theorem dX9_findBest_183 : decode cX9_findBest 183 = .ok (.idiv, 1) := by decide +kernel
theorem dX9_findBest_184 : decode cX9_findBest 184 = .ok (.bipush 10, 2) := by decide +kernel
theorem dX9_findBest_186 : decode cX9_findBest 186 = .ok (.irem, 1) := by decide +kernel
theorem dX9_findBest_187 : decode cX9_findBest 187 = .ok (.iastore, 1) := by decide +kernel
theorem dX9_findBest_188 : decode cX9_findBest 188 = .ok (.aload_n 0, 1) := by decide +kernel
theorem dX9_findBest_189 : decode cX9_findBest 189 = .ok (.getfield 48, 3) := by decide +kernel
theorem dX9_findBest_192 : decode cX9_findBest 192 = .ok (.iconst 1, 1) := by decide +kernel
theorem dX9_findBest_193 : decode cX9_findBest 193 = .ok (.iload_n 3, 1) := by decide +kernel
theorem dX9_findBest_194 : decode cX9_findBest 194 = .ok (.bipush 10, 2) := by decide +kernel
theorem dX9_findBest_196 : decode cX9_findBest 196 = .ok (.if_icmp .le 16, 3) := by decide +kernel
theorem dX9_findBest_199 : decode cX9_findBest 199 = .ok (.iload 5, 2) := by decide +kernel
theorem dX9_findBest_201 : decode cX9_findBest 201 = .ok (.iload_n 3, 1) := by decide +kernel
theorem dX9_findBest_202 : decode cX9_findBest 202 = .ok (.bipush 100, 2) := by decide +kernel
theorem dX9_findBest_204 : decode cX9_findBest 204 = .ok (.idiv, 1) := by decide +kernel
theorem dX9_findBest_205 : decode cX9_findBest 205 = .ok (.idiv, 1) := by decide +kernel
theorem dX9_findBest_206 : decode cX9_findBest 206 = .ok (.bipush 10, 2) := by decide +kernel
theorem dX9_findBest_208 : decode cX9_findBest 208 = .ok (.irem, 1) := by decide +kernel
theorem dX9_findBest_209 : decode cX9_findBest 209 = .ok (.goto 4, 3) := by decide +kernel
theorem dX9_findBest_212 : decode cX9_findBest 212 = .ok (.iconst 0, 1) := by decide +kernel
theorem dX9_findBest_213 : decode cX9_findBest 213 = .ok (.iastore, 1) := by decide +kernel
theorem dX9_findBest_214 : decode cX9_findBest 214 = .ok (.aload_n 0, 1) := by decide +kernel
theorem dX9_findBest_215 : decode cX9_findBest 215 = .ok (.getfield 48, 3) := by decide +kernel
theorem dX9_findBest_218 : decode cX9_findBest 218 = .ok (.iconst 2, 1) := by decide +kernel
theorem dX9_findBest_219 : decode cX9_findBest 219 = .ok (.iload 5, 2) := by decide +kernel
theorem dX9_findBest_221 : decode cX9_findBest 221 = .ok (.bipush 10, 2) := by decide +kernel
theorem dX9_findBest_223 : decode cX9_findBest 223 = .ok (.irem, 1) := by decide +kernel
theorem dX9_findBest_224 : decode cX9_findBest 224 = .ok (.iastore, 1) := by decide +kernel
theorem dX9_findBest_225 : decode cX9_findBest 225 = .ok (.iinc 5 1, 3) := by decide +kernel
theorem dX9_findBest_228 : decode cX9_findBest 228 = .ok (.goto (-187), 3) := by decide +kernel
theorem dX9_findBest_231 : decode cX9_findBest 231 = .ok (.return_, 1) := by decide +kernel
theorem dX9_ofBest_0 : decode cX9_ofBest 0 = .ok (.iload_n 1, 1) := by decide +kernel
theorem dX9_ofBest_1 : decode cX9_ofBest 1 = .ok (.iconst 1, 1) := by decide +kernel
theorem dX9_ofBest_2 : decode cX9_ofBest 2 = .ok (.iconst 3, 1) := by decide +kernel
theorem dX9_ofBest_3 : decode cX9_ofBest 3 = .ok (.invokestatic 80, 3) := by decide +kernel
theorem dX9_ofBest_6 : decode cX9_ofBest 6 = .ok (.ifCond .eq 14, 3) := by decide +kernel
theorem dX9_ofBest_9 : decode cX9_ofBest 9 = .ok (.iload_n 2, 1) := by decide +kernel
theorem dX9_ofBest_10 : decode cX9_ofBest 10 = .ok (.iconst (-1), 1) := by decide +kernel
theorem dX9_ofBest_11 : decode cX9_ofBest 11 = .ok (.iload_n 1, 1) := by decide +kernel
theorem dX9_ofBest_12 : decode cX9_ofBest 12 = .ok (.iconst 1, 1) := by decide +kernel
theorem dX9_ofBest_13 : decode cX9_ofBest 13 = .ok (.isub, 1) := by decide +kernel
theorem dX9_ofBest_14 : decode cX9_ofBest 14 = .ok (.invokestatic 80, 3) := by decide +kernel
theorem dX9_ofBest_17 : decode cX9_ofBest 17 = .ok (.ifCond .ne 10, 3) := by decide +kernel
theorem dX9_ofBest_20 : decode cX9_ofBest 20 = .ok (.aload_n 0, 1) := by decide +kernel
theorem dX9_ofBest_21 : decode cX9_ofBest 21 = .ok (.ldc 91, 2) := by decide +kernel
theorem dX9_ofBest_23 : decode cX9_ofBest 23 = .ok (.invokevirtual 92, 3) := by decide +kernel
theorem dX9_ofBest_26 : decode cX9_ofBest 26 = .ok (.ireturn, 1) := by decide +kernel
theorem dX9_ofBest_27 : decode cX9_ofBest 27 = .ok (.aload_n 0, 1) := by decide +kernel
theorem dX9_ofBest_28 : decode cX9_ofBest 28 = .ok (.iload_n 1, 1) := by decide +kernel
theorem dX9_ofBest_29 : decode cX9_ofBest 29 = .ok (.iload_n 3, 1) := by decide +kernel
theorem dX9_ofBest_30 : decode cX9_ofBest 30 = .ok (.invokevirtual 246, 3) := by decide +kernel
theorem dX9_ofBest_33 : decode cX9_ofBest 33 = .ok (.iload_n 2, 1) := by decide +kernel
theorem dX9_ofBest_34 : decode cX9_ofBest 34 = .ok (.ifCond .ge 10, 3) := by decide +kernel
theorem dX9_ofBest_37 : decode cX9_ofBest 37 = .ok (.aload_n 0, 1) := by decide +kernel
theorem dX9_ofBest_38 : decode cX9_ofBest 38 = .ok (.getfield 243, 3) := by decide +kernel
theorem dX9_ofBest_41 : decode cX9_ofBest 41 = .ok (.goto 9, 3) := by decide +kernel
theorem dX9_ofBest_44 : decode cX9_ofBest 44 = .ok (.aload_n 0, 1) := by decide +kernel
theorem dX9_ofBest_45 : decode cX9_ofBest 45 = .ok (.getfield 48, 3) := by decide +kernel
theorem dX9_ofBest_48 : decode cX9_ofBest 48 = .ok (.iload_n 2, 1) := by decide +kernel
theorem dX9_ofBest_49 : decode cX9_ofBest 49 = .ok (.iaload, 1) := by decide +kernel
theorem dX9_ofBest_50 : decode cX9_ofBest 50 = .ok (.ireturn, 1) := by decide +kernel
theorem dX9_best_0 : decode cX9_best 0 = .ok (.aload_n 0, 1) := by decide +kernel
theorem dX9_best_1 : decode cX9_best 1 = .ok (.iload_n 1, 1) := by decide +kernel
theorem dX9_best_2 : decode cX9_best 2 = .ok (.iload_n 2, 1) := by decide +kernel
theorem dX9_best_3 : decode cX9_best 3 = .ok (.iconst 0, 1) := by decide +kernel
theorem dX9_best_4 : decode cX9_best 4 = .ok (.invokevirtual 250, 3) := by decide +kernel
theorem dX9_best_7 : decode cX9_best 7 = .ok (.ireturn, 1) := by decide +kernel
theorem dX9_never_0 : decode cX9_never 0 = .ok (.aload_n 0, 1) := by decide +kernel
theorem dX9_never_1 : decode cX9_never 1 = .ok (.iload_n 1, 1) := by decide +kernel
theorem dX9_never_2 : decode cX9_never 2 = .ok (.iload_n 2, 1) := by decide +kernel
theorem dX9_never_3 : decode cX9_never 3 = .ok (.iconst 1, 1) := by decide +kernel
theorem dX9_never_4 : decode cX9_never 4 = .ok (.invokevirtual 250, 3) := by decide +kernel
theorem dX9_never_7 : decode cX9_never 7 = .ok (.ireturn, 1) := by decide +kernel
theorem dX9_costs_0 : decode cX9_costs 0 = .ok (.iload_n 1, 1) := by decide +kernel
theorem dX9_costs_1 : decode cX9_costs 1 = .ok (.iconst 1, 1) := by decide +kernel
theorem dX9_costs_2 : decode cX9_costs 2 = .ok (.iconst 3, 1) := by decide +kernel
theorem dX9_costs_3 : decode cX9_costs 3 = .ok (.invokestatic 80, 3) := by decide +kernel
theorem dX9_costs_6 : decode cX9_costs 6 = .ok (.ifCond .ne 10, 3) := by decide +kernel
theorem dX9_costs_9 : decode cX9_costs 9 = .ok (.aload_n 0, 1) := by decide +kernel
theorem dX9_costs_10 : decode cX9_costs 10 = .ok (.ldc 91, 2) := by decide +kernel
theorem dX9_costs_12 : decode cX9_costs 12 = .ok (.invokevirtual 92, 3) := by decide +kernel
theorem dX9_costs_15 : decode cX9_costs 15 = .ok (.ireturn, 1) := by decide +kernel
theorem dX9_costs_16 : decode cX9_costs 16 = .ok (.aload_n 0, 1) := by decide +kernel
theorem dX9_costs_17 : decode cX9_costs 17 = .ok (.iload_n 1, 1) := by decide +kernel
theorem dX9_costs_18 : decode cX9_costs 18 = .ok (.iconst 0, 1) := by decide +kernel
theorem dX9_costs_19 : decode cX9_costs 19 = .ok (.invokevirtual 246, 3) := by decide +kernel
theorem dX9_costs_22 : decode cX9_costs 22 = .ok (.aload_n 0, 1) := by decide +kernel
theorem dX9_costs_23 : decode cX9_costs 23 = .ok (.getfield 243, 3) := by decide +kernel
theorem dX9_costs_26 : decode cX9_costs 26 = .ok (.istore_n 2, 1) := by decide +kernel
theorem dX9_costs_27 : decode cX9_costs 27 = .ok (.aload_n 0, 1) := by decide +kernel
theorem dX9_costs_28 : decode cX9_costs 28 = .ok (.iload_n 1, 1) := by decide +kernel
theorem dX9_costs_29 : decode cX9_costs 29 = .ok (.iconst 1, 1) := by decide +kernel
theorem dX9_costs_30 : decode cX9_costs 30 = .ok (.invokevirtual 246, 3) := by decide +kernel
theorem dX9_costs_33 : decode cX9_costs 33 = .ok (.iload_n 2, 1) := by decide +kernel
theorem dX9_costs_34 : decode cX9_costs 34 = .ok (.aload_n 0, 1) := by decide +kernel
theorem dX9_costs_35 : decode cX9_costs 35 = .ok (.getfield 243, 3) := by decide +kernel
theorem dX9_costs_38 : decode cX9_costs 38 = .ok (.isub, 1) := by decide +kernel
theorem dX9_costs_39 : decode cX9_costs 39 = .ok (.ireturn, 1) := by decide +kernel
theorem dX9_raise_0 : decode cX9_raise 0 = .ok (.iload_n 1, 1) := by decide +kernel
theorem dX9_raise_1 : decode cX9_raise 1 = .ok (.iconst 1, 1) := by decide +kernel
theorem dX9_raise_2 : decode cX9_raise 2 = .ok (.iconst 2, 1) := by decide +kernel
theorem dX9_raise_3 : decode cX9_raise 3 = .ok (.invokestatic 80, 3) := by decide +kernel
theorem dX9_raise_6 : decode cX9_raise 6 = .ok (.ifCond .ne 10, 3) := by decide +kernel
theorem dX9_raise_9 : decode cX9_raise 9 = .ok (.aload_n 0, 1) := by decide +kernel
theorem dX9_raise_10 : decode cX9_raise 10 = .ok (.ldc 91, 2) := by decide +kernel
theorem dX9_raise_12 : decode cX9_raise 12 = .ok (.invokevirtual 92, 3) := by decide +kernel
theorem dX9_raise_15 : decode cX9_raise 15 = .ok (.ireturn, 1) := by decide +kernel
theorem dX9_raise_16 : decode cX9_raise 16 = .ok (.aload_n 0, 1) := by decide +kernel
theorem dX9_raise_17 : decode cX9_raise 17 = .ok (.getfield 9, 3) := by decide +kernel
theorem dX9_raise_20 : decode cX9_raise 20 = .ok (.iconst 5, 1) := by decide +kernel
theorem dX9_raise_21 : decode cX9_raise 21 = .ok (.iaload, 1) := by decide +kernel
theorem dX9_raise_22 : decode cX9_raise 22 = .ok (.istore_n 2, 1) := by decide +kernel
theorem dX9_raise_23 : decode cX9_raise 23 = .ok (.iconst (-1), 1) := by decide +kernel
theorem dX9_raise_24 : decode cX9_raise 24 = .ok (.istore_n 3, 1) := by decide +kernel
theorem dX9_raise_25 : decode cX9_raise 25 = .ok (.iconst 0, 1) := by decide +kernel
theorem dX9_raise_26 : decode cX9_raise 26 = .ok (.istore 4, 2) := by decide +kernel
theorem dX9_raise_28 : decode cX9_raise 28 = .ok (.iload 4, 2) := by decide +kernel
theorem dX9_raise_30 : decode cX9_raise 30 = .ok (.bipush 60, 2) := by decide +kernel
theorem dX9_raise_32 : decode cX9_raise 32 = .ok (.if_icmp .gt 49, 3) := by decide +kernel
theorem dX9_raise_35 : decode cX9_raise 35 = .ok (.iload_n 3, 1) := by decide +kernel
theorem dX9_raise_36 : decode cX9_raise 36 = .ok (.ifCond .ge 45, 3) := by decide +kernel
theorem dX9_raise_39 : decode cX9_raise 39 = .ok (.aload_n 0, 1) := by decide +kernel
theorem dX9_raise_40 : decode cX9_raise 40 = .ok (.getfield 9, 3) := by decide +kernel
theorem dX9_raise_43 : decode cX9_raise 43 = .ok (.iconst 5, 1) := by decide +kernel
theorem dX9_raise_44 : decode cX9_raise 44 = .ok (.iload 4, 2) := by decide +kernel
theorem dX9_raise_46 : decode cX9_raise 46 = .ok (.iastore, 1) := by decide +kernel
theorem dX9_raise_47 : decode cX9_raise 47 = .ok (.aload_n 0, 1) := by decide +kernel
theorem dX9_raise_48 : decode cX9_raise 48 = .ok (.iload_n 1, 1) := by decide +kernel
theorem dX9_raise_49 : decode cX9_raise 49 = .ok (.iconst 0, 1) := by decide +kernel
theorem dX9_raise_50 : decode cX9_raise 50 = .ok (.invokevirtual 246, 3) := by decide +kernel
theorem dX9_raise_53 : decode cX9_raise 53 = .ok (.aload_n 0, 1) := by decide +kernel
theorem dX9_raise_54 : decode cX9_raise 54 = .ok (.getfield 48, 3) := by decide +kernel
theorem dX9_raise_57 : decode cX9_raise 57 = .ok (.iconst 0, 1) := by decide +kernel
theorem dX9_raise_58 : decode cX9_raise 58 = .ok (.iaload, 1) := by decide +kernel
theorem dX9_raise_59 : decode cX9_raise 59 = .ok (.aload_n 0, 1) := by decide +kernel
theorem dX9_raise_60 : decode cX9_raise 60 = .ok (.getfield 9, 3) := by decide +kernel
theorem dX9_raise_63 : decode cX9_raise 63 = .ok (.iconst 2, 1) := by decide +kernel
theorem dX9_raise_64 : decode cX9_raise 64 = .ok (.iaload, 1) := by decide +kernel
theorem dX9_raise_65 : decode cX9_raise 65 = .ok (.if_icmp .le 8, 3) := by decide +kernel
theorem dX9_raise_68 : decode cX9_raise 68 = .ok (.iload 4, 2) := by decide +kernel
theorem dX9_raise_70 : decode cX9_raise 70 = .ok (.goto 4, 3) := by decide +kernel
theorem dX9_raise_73 : decode cX9_raise 73 = .ok (.iconst (-1), 1) := by decide +kernel
theorem dX9_raise_74 : decode cX9_raise 74 = .ok (.istore_n 3, 1) := by decide +kernel
theorem dX9_raise_75 : decode cX9_raise 75 = .ok (.iinc 4 1, 3) := by decide +kernel
theorem dX9_raise_78 : decode cX9_raise 78 = .ok (.goto (-50), 3) := by decide +kernel
theorem dX9_raise_81 : decode cX9_raise 81 = .ok (.aload_n 0, 1) := by decide +kernel
theorem dX9_raise_82 : decode cX9_raise 82 = .ok (.getfield 9, 3) := by decide +kernel
theorem dX9_raise_85 : decode cX9_raise 85 = .ok (.iconst 5, 1) := by decide +kernel
theorem dX9_raise_86 : decode cX9_raise 86 = .ok (.iload_n 2, 1) := by decide +kernel
theorem dX9_raise_87 : decode cX9_raise 87 = .ok (.iastore, 1) := by decide +kernel
theorem dX9_raise_88 : decode cX9_raise 88 = .ok (.iload_n 3, 1) := by decide +kernel
theorem dX9_raise_89 : decode cX9_raise 89 = .ok (.ifCond .ge 12, 3) := by decide +kernel
theorem dX9_raise_92 : decode cX9_raise 92 = .ok (.aload_n 0, 1) := by decide +kernel
theorem dX9_raise_93 : decode cX9_raise 93 = .ok (.ldc 118, 2) := by decide +kernel
theorem dX9_raise_95 : decode cX9_raise 95 = .ok (.invokevirtual 92, 3) := by decide +kernel
theorem dX9_raise_98 : decode cX9_raise 98 = .ok (.goto 4, 3) := by decide +kernel
theorem dX9_raise_101 : decode cX9_raise 101 = .ok (.iload_n 3, 1) := by decide +kernel
theorem dX9_raise_102 : decode cX9_raise 102 = .ok (.ireturn, 1) := by decide +kernel
theorem dX9_back_0 : decode cX9_back 0 = .ok (.iload_n 1, 1) := by decide +kernel
theorem dX9_back_1 : decode cX9_back 1 = .ok (.iconst 0, 1) := by decide +kernel
theorem dX9_back_2 : decode cX9_back 2 = .ok (.bipush 20, 2) := by decide +kernel
theorem dX9_back_4 : decode cX9_back 4 = .ok (.invokestatic 80, 3) := by decide +kernel
theorem dX9_back_7 : decode cX9_back 7 = .ok (.ifCond .eq 10, 3) := by decide +kernel
theorem dX9_back_10 : decode cX9_back 10 = .ok (.iload_n 2, 1) := by decide +kernel
theorem dX9_back_11 : decode cX9_back 11 = .ok (.invokestatic 84, 3) := by decide +kernel
theorem dX9_back_14 : decode cX9_back 14 = .ok (.ifCond .ne 10, 3) := by decide +kernel
theorem dX9_back_17 : decode cX9_back 17 = .ok (.aload_n 0, 1) := by decide +kernel
theorem dX9_back_18 : decode cX9_back 18 = .ok (.ldc 91, 2) := by decide +kernel
theorem dX9_back_20 : decode cX9_back 20 = .ok (.invokevirtual 92, 3) := by decide +kernel
theorem dX9_back_23 : decode cX9_back 23 = .ok (.ireturn, 1) := by decide +kernel
theorem dX9_back_24 : decode cX9_back 24 = .ok (.aload_n 0, 1) := by decide +kernel
theorem dX9_back_25 : decode cX9_back 25 = .ok (.getfield 9, 3) := by decide +kernel
theorem dX9_back_28 : decode cX9_back 28 = .ok (.aload_n 0, 1) := by decide +kernel
theorem dX9_back_29 : decode cX9_back 29 = .ok (.getfield 16, 3) := by decide +kernel
theorem dX9_back_32 : decode cX9_back 32 = .ok (.invokestatic 76, 3) := by decide +kernel
theorem dX9_back_35 : decode cX9_back 35 = .ok (.iconst (-1), 1) := by decide +kernel
theorem dX9_back_36 : decode cX9_back 36 = .ok (.istore_n 3, 1) := by decide +kernel
theorem dX9_back_37 : decode cX9_back 37 = .ok (.iconst 0, 1) := by decide +kernel
theorem dX9_back_38 : decode cX9_back 38 = .ok (.istore 4, 2) := by decide +kernel
theorem dX9_back_40 : decode cX9_back 40 = .ok (.iconst 0, 1) := by decide +kernel
theorem dX9_back_41 : decode cX9_back 41 = .ok (.istore 5, 2) := by decide +kernel
theorem dX9_back_43 : decode cX9_back 43 = .ok (.iload 5, 2) := by decide +kernel
theorem dX9_back_45 : decode cX9_back 45 = .ok (.bipush 20, 2) := by decide +kernel
theorem dX9_back_47 : decode cX9_back 47 = .ok (.if_icmp .gt 53, 3) := by decide +kernel
theorem dX9_back_50 : decode cX9_back 50 = .ok (.aload_n 0, 1) := by decide +kernel
theorem dX9_back_51 : decode cX9_back 51 = .ok (.iload_n 2, 1) := by decide +kernel
theorem dX9_back_52 : decode cX9_back 52 = .ok (.iload 5, 2) := by decide +kernel
theorem dX9_back_54 : decode cX9_back 54 = .ok (.iconst 0, 1) := by decide +kernel
theorem dX9_back_55 : decode cX9_back 55 = .ok (.invokevirtual 219, 3) := by decide +kernel
theorem dX9_back_58 : decode cX9_back 58 = .ok (.istore 6, 2) := by decide +kernel
theorem dX9_back_60 : decode cX9_back 60 = .ok (.aload_n 0, 1) := by decide +kernel
theorem dX9_back_61 : decode cX9_back 61 = .ok (.iload_n 1, 1) := by decide +kernel
theorem dX9_back_62 : decode cX9_back 62 = .ok (.iload_n 2, 1) := by decide +kernel
theorem dX9_back_63 : decode cX9_back 63 = .ok (.invokevirtual 233, 3) := by decide +kernel
theorem dX9_back_66 : decode cX9_back 66 = .ok (.aload_n 0, 1) := by decide +kernel
theorem dX9_back_67 : decode cX9_back 67 = .ok (.aload_n 0, 1) := by decide +kernel
theorem dX9_back_68 : decode cX9_back 68 = .ok (.invokevirtual 227, 3) := by decide +kernel
theorem dX9_back_71 : decode cX9_back 71 = .ok (.invokevirtual 240, 3) := by decide +kernel
theorem dX9_back_74 : decode cX9_back 74 = .ok (.istore 7, 2) := by decide +kernel
theorem dX9_back_76 : decode cX9_back 76 = .ok (.iload_n 3, 1) := by decide +kernel
theorem dX9_back_77 : decode cX9_back 77 = .ok (.ifCond .lt 10, 3) := by decide +kernel
theorem dX9_back_80 : decode cX9_back 80 = .ok (.iload 7, 2) := by decide +kernel
theorem dX9_back_82 : decode cX9_back 82 = .ok (.iload 4, 2) := by decide +kernel
theorem dX9_back_84 : decode cX9_back 84 = .ok (.if_icmp .le 10, 3) := by decide +kernel
theorem dX9_back_87 : decode cX9_back 87 = .ok (.iload 5, 2) := by decide +kernel
theorem dX9_back_89 : decode cX9_back 89 = .ok (.istore_n 3, 1) := by decide +kernel
theorem dX9_back_90 : decode cX9_back 90 = .ok (.iload 7, 2) := by decide +kernel
theorem dX9_back_92 : decode cX9_back 92 = .ok (.istore 4, 2) := by decide +kernel
theorem dX9_back_94 : decode cX9_back 94 = .ok (.iinc 5 1, 3) := by decide +kernel
theorem dX9_back_97 : decode cX9_back 97 = .ok (.goto (-54), 3) := by decide +kernel
theorem dX9_back_100 : decode cX9_back 100 = .ok (.iload_n 3, 1) := by decide +kernel
theorem dX9_back_101 : decode cX9_back 101 = .ok (.ireturn, 1) := by decide +kernel
theorem dX9_whom_0 : decode cX9_whom 0 = .ok (.iload_n 1, 1) := by decide +kernel
theorem dX9_whom_1 : decode cX9_whom 1 = .ok (.invokestatic 230, 3) := by decide +kernel
theorem dX9_whom_4 : decode cX9_whom 4 = .ok (.ifCond .eq 10, 3) := by decide +kernel
theorem dX9_whom_7 : decode cX9_whom 7 = .ok (.iload_n 2, 1) := by decide +kernel
theorem dX9_whom_8 : decode cX9_whom 8 = .ok (.invokestatic 84, 3) := by decide +kernel
theorem dX9_whom_11 : decode cX9_whom 11 = .ok (.ifCond .ne 10, 3) := by decide +kernel
theorem dX9_whom_14 : decode cX9_whom 14 = .ok (.aload_n 0, 1) := by decide +kernel
theorem dX9_whom_15 : decode cX9_whom 15 = .ok (.ldc 91, 2) := by decide +kernel
theorem dX9_whom_17 : decode cX9_whom 17 = .ok (.invokevirtual 92, 3) := by decide +kernel
theorem dX9_whom_20 : decode cX9_whom 20 = .ok (.ireturn, 1) := by decide +kernel
theorem dX9_whom_21 : decode cX9_whom 21 = .ok (.aload_n 0, 1) := by decide +kernel
theorem dX9_whom_22 : decode cX9_whom 22 = .ok (.getfield 9, 3) := by decide +kernel
theorem dX9_whom_25 : decode cX9_whom 25 = .ok (.iconst 5, 1) := by decide +kernel
theorem dX9_whom_26 : decode cX9_whom 26 = .ok (.iaload, 1) := by decide +kernel
theorem dX9_whom_27 : decode cX9_whom 27 = .ok (.ifCond .ne 10, 3) := by decide +kernel
theorem dX9_whom_30 : decode cX9_whom 30 = .ok (.aload_n 0, 1) := by decide +kernel
theorem dX9_whom_31 : decode cX9_whom 31 = .ok (.ldc 218, 2) := by decide +kernel
theorem dX9_whom_33 : decode cX9_whom 33 = .ok (.invokevirtual 92, 3) := by decide +kernel
theorem dX9_whom_36 : decode cX9_whom 36 = .ok (.ireturn, 1) := by decide +kernel
theorem dX9_whom_37 : decode cX9_whom 37 = .ok (.aload_n 0, 1) := by decide +kernel
theorem dX9_whom_38 : decode cX9_whom 38 = .ok (.getfield 9, 3) := by decide +kernel
theorem dX9_whom_41 : decode cX9_whom 41 = .ok (.aload_n 0, 1) := by decide +kernel
theorem dX9_whom_42 : decode cX9_whom 42 = .ok (.getfield 16, 3) := by decide +kernel
theorem dX9_whom_45 : decode cX9_whom 45 = .ok (.invokestatic 76, 3) := by decide +kernel
theorem dX9_whom_48 : decode cX9_whom 48 = .ok (.iconst (-1), 1) := by decide +kernel
theorem dX9_whom_49 : decode cX9_whom 49 = .ok (.istore_n 3, 1) := by decide +kernel
theorem dX9_whom_50 : decode cX9_whom 50 = .ok (.iconst 0, 1) := by decide +kernel
theorem dX9_whom_51 : decode cX9_whom 51 = .ok (.istore 4, 2) := by decide +kernel
theorem dX9_whom_53 : decode cX9_whom 53 = .ok (.iconst 0, 1) := by decide +kernel
theorem dX9_whom_54 : decode cX9_whom 54 = .ok (.istore 5, 2) := by decide +kernel
theorem dX9_whom_56 : decode cX9_whom 56 = .ok (.iload 5, 2) := by decide +kernel
theorem dX9_whom_58 : decode cX9_whom 58 = .ok (.aload_n 0, 1) := by decide +kernel
theorem dX9_whom_59 : decode cX9_whom 59 = .ok (.getfield 9, 3) := by decide +kernel
theorem dX9_whom_62 : decode cX9_whom 62 = .ok (.iconst 1, 1) := by decide +kernel
theorem dX9_whom_63 : decode cX9_whom 63 = .ok (.iaload, 1) := by decide +kernel
theorem dX9_whom_64 : decode cX9_whom 64 = .ok (.if_icmp .ge 51, 3) := by decide +kernel
theorem dX9_whom_67 : decode cX9_whom 67 = .ok (.aload_n 0, 1) := by decide +kernel
theorem dX9_whom_68 : decode cX9_whom 68 = .ok (.iload 5, 2) := by decide +kernel
theorem dX9_whom_70 : decode cX9_whom 70 = .ok (.invokevirtual 223, 3) := by decide +kernel
theorem dX9_whom_73 : decode cX9_whom 73 = .ok (.istore 6, 2) := by decide +kernel
theorem dX9_whom_75 : decode cX9_whom 75 = .ok (.aload_n 0, 1) := by decide +kernel
theorem dX9_whom_76 : decode cX9_whom 76 = .ok (.iload_n 1, 1) := by decide +kernel
theorem dX9_whom_77 : decode cX9_whom 77 = .ok (.iload_n 2, 1) := by decide +kernel
theorem dX9_whom_78 : decode cX9_whom 78 = .ok (.invokevirtual 233, 3) := by decide +kernel
theorem dX9_whom_81 : decode cX9_whom 81 = .ok (.aload_n 0, 1) := by decide +kernel
theorem dX9_whom_82 : decode cX9_whom 82 = .ok (.aload_n 0, 1) := by decide +kernel
theorem dX9_whom_83 : decode cX9_whom 83 = .ok (.invokevirtual 227, 3) := by decide +kernel
theorem dX9_whom_86 : decode cX9_whom 86 = .ok (.invokevirtual 240, 3) := by decide +kernel
theorem dX9_whom_89 : decode cX9_whom 89 = .ok (.istore 7, 2) := by decide +kernel
theorem dX9_whom_91 : decode cX9_whom 91 = .ok (.iload_n 3, 1) := by decide +kernel
theorem dX9_whom_92 : decode cX9_whom 92 = .ok (.ifCond .lt 10, 3) := by decide +kernel
theorem dX9_whom_95 : decode cX9_whom 95 = .ok (.iload 7, 2) := by decide +kernel
theorem dX9_whom_97 : decode cX9_whom 97 = .ok (.iload 4, 2) := by decide +kernel
theorem dX9_whom_99 : decode cX9_whom 99 = .ok (.if_icmp .le 10, 3) := by decide +kernel
theorem dX9_whom_102 : decode cX9_whom 102 = .ok (.iload 5, 2) := by decide +kernel
theorem dX9_whom_104 : decode cX9_whom 104 = .ok (.istore_n 3, 1) := by decide +kernel
theorem dX9_whom_105 : decode cX9_whom 105 = .ok (.iload 7, 2) := by decide +kernel
theorem dX9_whom_107 : decode cX9_whom 107 = .ok (.istore 4, 2) := by decide +kernel
theorem dX9_whom_109 : decode cX9_whom 109 = .ok (.iinc 5 1, 3) := by decide +kernel
theorem dX9_whom_112 : decode cX9_whom 112 = .ok (.goto (-56), 3) := by decide +kernel
theorem dX9_whom_115 : decode cX9_whom 115 = .ok (.iload_n 3, 1) := by decide +kernel
theorem dX9_whom_116 : decode cX9_whom 116 = .ok (.ifCond .ge 12, 3) := by decide +kernel
theorem dX9_whom_119 : decode cX9_whom 119 = .ok (.aload_n 0, 1) := by decide +kernel
theorem dX9_whom_120 : decode cX9_whom 120 = .ok (.ldc 118, 2) := by decide +kernel
theorem dX9_whom_122 : decode cX9_whom 122 = .ok (.invokevirtual 92, 3) := by decide +kernel
theorem dX9_whom_125 : decode cX9_whom 125 = .ok (.goto 4, 3) := by decide +kernel
theorem dX9_whom_128 : decode cX9_whom 128 = .ok (.iload_n 3, 1) := by decide +kernel
theorem dX9_whom_129 : decode cX9_whom 129 = .ok (.ireturn, 1) := by decide +kernel
theorem dX9_more_0 : decode cX9_more 0 = .ok (.iload_n 1, 1) := by decide +kernel
theorem dX9_more_1 : decode cX9_more 1 = .ok (.bipush (-20), 2) := by decide +kernel
theorem dX9_more_3 : decode cX9_more 3 = .ok (.bipush 20, 2) := by decide +kernel
theorem dX9_more_5 : decode cX9_more 5 = .ok (.invokestatic 80, 3) := by decide +kernel
theorem dX9_more_8 : decode cX9_more 8 = .ok (.ifCond .eq 17, 3) := by decide +kernel
theorem dX9_more_11 : decode cX9_more 11 = .ok (.iload_n 2, 1) := by decide +kernel
theorem dX9_more_12 : decode cX9_more 12 = .ok (.invokestatic 230, 3) := by decide +kernel
theorem dX9_more_15 : decode cX9_more 15 = .ok (.ifCond .eq 10, 3) := by decide +kernel
theorem dX9_more_18 : decode cX9_more 18 = .ok (.iload_n 3, 1) := by decide +kernel
theorem dX9_more_19 : decode cX9_more 19 = .ok (.invokestatic 84, 3) := by decide +kernel
theorem dX9_more_22 : decode cX9_more 22 = .ok (.ifCond .ne 10, 3) := by decide +kernel
theorem dX9_more_25 : decode cX9_more 25 = .ok (.aload_n 0, 1) := by decide +kernel
theorem dX9_more_26 : decode cX9_more 26 = .ok (.ldc 91, 2) := by decide +kernel
theorem dX9_more_28 : decode cX9_more 28 = .ok (.invokevirtual 92, 3) := by decide +kernel
theorem dX9_more_31 : decode cX9_more 31 = .ok (.ireturn, 1) := by decide +kernel
theorem dX9_more_32 : decode cX9_more 32 = .ok (.aload_n 0, 1) := by decide +kernel
theorem dX9_more_33 : decode cX9_more 33 = .ok (.getfield 9, 3) := by decide +kernel
theorem dX9_more_36 : decode cX9_more 36 = .ok (.aload_n 0, 1) := by decide +kernel
theorem dX9_more_37 : decode cX9_more 37 = .ok (.getfield 16, 3) := by decide +kernel
theorem dX9_more_40 : decode cX9_more 40 = .ok (.invokestatic 76, 3) := by decide +kernel
theorem dX9_more_43 : decode cX9_more 43 = .ok (.aload_n 0, 1) := by decide +kernel
theorem dX9_more_44 : decode cX9_more 44 = .ok (.iload_n 2, 1) := by decide +kernel
theorem dX9_more_45 : decode cX9_more 45 = .ok (.iload_n 3, 1) := by decide +kernel
theorem dX9_more_46 : decode cX9_more 46 = .ok (.invokevirtual 233, 3) := by decide +kernel
theorem dX9_more_49 : decode cX9_more 49 = .ok (.aload_n 0, 1) := by decide +kernel
theorem dX9_more_50 : decode cX9_more 50 = .ok (.aload_n 0, 1) := by decide +kernel
theorem dX9_more_51 : decode cX9_more 51 = .ok (.invokevirtual 227, 3) := by decide +kernel
theorem dX9_more_54 : decode cX9_more 54 = .ok (.invokevirtual 240, 3) := by decide +kernel
theorem dX9_more_57 : decode cX9_more 57 = .ok (.istore 4, 2) := by decide +kernel
theorem dX9_more_59 : decode cX9_more 59 = .ok (.aload_n 0, 1) := by decide +kernel
theorem dX9_more_60 : decode cX9_more 60 = .ok (.getfield 9, 3) := by decide +kernel
theorem dX9_more_63 : decode cX9_more 63 = .ok (.iconst 4, 1) := by decide +kernel
theorem dX9_more_64 : decode cX9_more 64 = .ok (.aload_n 0, 1) := by decide +kernel
theorem dX9_more_65 : decode cX9_more 65 = .ok (.getfield 9, 3) := by decide +kernel
theorem dX9_more_68 : decode cX9_more 68 = .ok (.iconst 4, 1) := by decide +kernel
theorem dX9_more_69 : decode cX9_more 69 = .ok (.iaload, 1) := by decide +kernel
theorem dX9_more_70 : decode cX9_more 70 = .ok (.iload_n 1, 1) := by decide +kernel
theorem dX9_more_71 : decode cX9_more 71 = .ok (.iadd, 1) := by decide +kernel
theorem dX9_more_72 : decode cX9_more 72 = .ok (.iconst 0, 1) := by decide +kernel
theorem dX9_more_73 : decode cX9_more 73 = .ok (.bipush 20, 2) := by decide +kernel
theorem dX9_more_75 : decode cX9_more 75 = .ok (.invokestatic 203, 3) := by decide +kernel
theorem dX9_more_78 : decode cX9_more 78 = .ok (.iastore, 1) := by decide +kernel
theorem dX9_more_79 : decode cX9_more 79 = .ok (.aload_n 0, 1) := by decide +kernel
theorem dX9_more_80 : decode cX9_more 80 = .ok (.iload_n 2, 1) := by decide +kernel
theorem dX9_more_81 : decode cX9_more 81 = .ok (.iload_n 3, 1) := by decide +kernel
theorem dX9_more_82 : decode cX9_more 82 = .ok (.invokevirtual 233, 3) := by decide +kernel
theorem dX9_more_85 : decode cX9_more 85 = .ok (.aload_n 0, 1) := by decide +kernel
theorem dX9_more_86 : decode cX9_more 86 = .ok (.aload_n 0, 1) := by decide +kernel
theorem dX9_more_87 : decode cX9_more 87 = .ok (.invokevirtual 227, 3) := by decide +kernel
theorem dX9_more_90 : decode cX9_more 90 = .ok (.invokevirtual 240, 3) := by decide +kernel
theorem dX9_more_93 : decode cX9_more 93 = .ok (.iload 4, 2) := by decide +kernel
theorem dX9_more_95 : decode cX9_more 95 = .ok (.isub, 1) := by decide +kernel
theorem dX9_more_96 : decode cX9_more 96 = .ok (.ireturn, 1) := by decide +kernel
theorem dX9_rests_0 : decode cX9_rests 0 = .ok (.iload_n 1, 1) := by decide +kernel
theorem dX9_rests_1 : decode cX9_rests 1 = .ok (.invokestatic 84, 3) := by decide +kernel
theorem dX9_rests_4 : decode cX9_rests 4 = .ok (.ifCond .ne 10, 3) := by decide +kernel
theorem dX9_rests_7 : decode cX9_rests 7 = .ok (.aload_n 0, 1) := by decide +kernel
theorem dX9_rests_8 : decode cX9_rests 8 = .ok (.ldc 91, 2) := by decide +kernel
theorem dX9_rests_10 : decode cX9_rests 10 = .ok (.invokevirtual 92, 3) := by decide +kernel
theorem dX9_rests_13 : decode cX9_rests 13 = .ok (.ireturn, 1) := by decide +kernel
theorem dX9_rests_14 : decode cX9_rests 14 = .ok (.aload_n 0, 1) := by decide +kernel
theorem dX9_rests_15 : decode cX9_rests 15 = .ok (.getfield 9, 3) := by decide +kernel
theorem dX9_rests_18 : decode cX9_rests 18 = .ok (.aload_n 0, 1) := by decide +kernel
theorem dX9_rests_19 : decode cX9_rests 19 = .ok (.getfield 16, 3) := by decide +kernel
theorem dX9_rests_22 : decode cX9_rests 22 = .ok (.invokestatic 76, 3) := by decide +kernel
theorem dX9_rests_25 : decode cX9_rests 25 = .ok (.iconst (-1), 1) := by decide +kernel
theorem dX9_rests_26 : decode cX9_rests 26 = .ok (.istore_n 2, 1) := by decide +kernel
theorem dX9_rests_27 : decode cX9_rests 27 = .ok (.iconst 1, 1) := by decide +kernel
theorem dX9_rests_28 : decode cX9_rests 28 = .ok (.istore_n 3, 1) := by decide +kernel
theorem dX9_rests_29 : decode cX9_rests 29 = .ok (.iload_n 3, 1) := by decide +kernel
theorem dX9_rests_30 : decode cX9_rests 30 = .ok (.bipush 40, 2) := by decide +kernel
theorem dX9_rests_32 : decode cX9_rests 32 = .ok (.if_icmp .gt 63, 3) := by decide +kernel
theorem dX9_rests_35 : decode cX9_rests 35 = .ok (.iload_n 2, 1) := by decide +kernel
theorem dX9_rests_36 : decode cX9_rests 36 = .ok (.ifCond .ge 59, 3) := by decide +kernel
theorem dX9_rests_39 : decode cX9_rests 39 = .ok (.aload_n 0, 1) := by decide +kernel
theorem dX9_rests_40 : decode cX9_rests 40 = .ok (.getfield 9, 3) := by decide +kernel
theorem dX9_rests_43 : decode cX9_rests 43 = .ok (.iconst 3, 1) := by decide +kernel
theorem dX9_rests_44 : decode cX9_rests 44 = .ok (.iaload, 1) := by decide +kernel
theorem dX9_rests_45 : decode cX9_rests 45 = .ok (.istore 4, 2) := by decide +kernel
theorem dX9_rests_47 : decode cX9_rests 47 = .ok (.aload_n 0, 1) := by decide +kernel
theorem dX9_rests_48 : decode cX9_rests 48 = .ok (.getfield 9, 3) := by decide +kernel
theorem dX9_rests_51 : decode cX9_rests 51 = .ok (.iconst 5, 1) := by decide +kernel
theorem dX9_rests_52 : decode cX9_rests 52 = .ok (.iaload, 1) := by decide +kernel
theorem dX9_rests_53 : decode cX9_rests 53 = .ok (.istore 5, 2) := by decide +kernel
theorem dX9_rests_55 : decode cX9_rests 55 = .ok (.aload_n 0, 1) := by decide +kernel
theorem dX9_rests_56 : decode cX9_rests 56 = .ok (.iconst 1, 1) := by decide +kernel
theorem dX9_rests_57 : decode cX9_rests 57 = .ok (.iload_n 1, 1) := by decide +kernel
theorem dX9_rests_58 : decode cX9_rests 58 = .ok (.invokevirtual 233, 3) := by decide +kernel
theorem dX9_rests_61 : decode cX9_rests 61 = .ok (.aload_n 0, 1) := by decide +kernel
theorem dX9_rests_62 : decode cX9_rests 62 = .ok (.getfield 9, 3) := by decide +kernel
theorem dX9_rests_65 : decode cX9_rests 65 = .ok (.iconst 3, 1) := by decide +kernel
theorem dX9_rests_66 : decode cX9_rests 66 = .ok (.iaload, 1) := by decide +kernel
theorem dX9_rests_67 : decode cX9_rests 67 = .ok (.iload 4, 2) := by decide +kernel
theorem dX9_rests_69 : decode cX9_rests 69 = .ok (.if_icmp .ne 18, 3) := by decide +kernel
theorem dX9_rests_72 : decode cX9_rests 72 = .ok (.aload_n 0, 1) := by decide +kernel
theorem dX9_rests_73 : decode cX9_rests 73 = .ok (.getfield 9, 3) := by decide +kernel
theorem dX9_rests_76 : decode cX9_rests 76 = .ok (.iconst 5, 1) := by decide +kernel
theorem dX9_rests_77 : decode cX9_rests 77 = .ok (.iaload, 1) := by decide +kernel
theorem dX9_rests_78 : decode cX9_rests 78 = .ok (.iload 5, 2) := by decide +kernel
theorem dX9_rests_80 : decode cX9_rests 80 = .ok (.if_icmp .ne 7, 3) := by decide +kernel
theorem dX9_rests_83 : decode cX9_rests 83 = .ok (.iload_n 3, 1) := by decide +kernel
theorem dX9_rests_84 : decode cX9_rests 84 = .ok (.goto 4, 3) := by decide +kernel
theorem dX9_rests_87 : decode cX9_rests 87 = .ok (.iconst (-1), 1) := by decide +kernel
theorem dX9_rests_88 : decode cX9_rests 88 = .ok (.istore_n 2, 1) := by decide +kernel
theorem dX9_rests_89 : decode cX9_rests 89 = .ok (.iinc 3 1, 3) := by decide +kernel
theorem dX9_rests_92 : decode cX9_rests 92 = .ok (.goto (-63), 3) := by decide +kernel
theorem dX9_rests_95 : decode cX9_rests 95 = .ok (.aload_n 0, 1) := by decide +kernel
theorem dX9_rests_96 : decode cX9_rests 96 = .ok (.iconst 0, 1) := by decide +kernel
theorem dX9_rests_97 : decode cX9_rests 97 = .ok (.invokevirtual 240, 3) := by decide +kernel
theorem dX9_rests_100 : decode cX9_rests 100 = .ok (.ifCond .ne 11, 3) := by decide +kernel
theorem dX9_rests_103 : decode cX9_rests 103 = .ok (.iload_n 2, 1) := by decide +kernel
theorem dX9_rests_104 : decode cX9_rests 104 = .ok (.ifCond .le 7, 3) := by decide +kernel
theorem dX9_rests_107 : decode cX9_rests 107 = .ok (.iload_n 2, 1) := by decide +kernel
theorem dX9_rests_108 : decode cX9_rests 108 = .ok (.goto 9, 3) := by decide +kernel
theorem dX9_rests_111 : decode cX9_rests 111 = .ok (.aload_n 0, 1) := by decide +kernel
theorem dX9_rests_112 : decode cX9_rests 112 = .ok (.ldc 118, 2) := by decide +kernel
theorem dX9_rests_114 : decode cX9_rests 114 = .ok (.invokevirtual 92, 3) := by decide +kernel
theorem dX9_rests_117 : decode cX9_rests 117 = .ok (.ireturn, 1) := by decide +kernel
theorem dX9_clear_0 : decode cX9_clear 0 = .ok (.aload_n 0, 1) := by decide +kernel
theorem dX9_clear_1 : decode cX9_clear 1 = .ok (.getfield 9, 3) := by decide +kernel
theorem dX9_clear_4 : decode cX9_clear 4 = .ok (.aload_n 0, 1) := by decide +kernel
theorem dX9_clear_5 : decode cX9_clear 5 = .ok (.getfield 16, 3) := by decide +kernel
theorem dX9_clear_8 : decode cX9_clear 8 = .ok (.invokestatic 76, 3) := by decide +kernel
theorem dX9_clear_11 : decode cX9_clear 11 = .ok (.aload_n 0, 1) := by decide +kernel
theorem dX9_clear_12 : decode cX9_clear 12 = .ok (.getfield 9, 3) := by decide +kernel
theorem dX9_clear_15 : decode cX9_clear 15 = .ok (.iconst 5, 1) := by decide +kernel
theorem dX9_clear_16 : decode cX9_clear 16 = .ok (.iaload, 1) := by decide +kernel
theorem dX9_clear_17 : decode cX9_clear 17 = .ok (.aload_n 0, 1) := by decide +kernel
theorem dX9_clear_18 : decode cX9_clear 18 = .ok (.getfield 9, 3) := by decide +kernel
theorem dX9_clear_21 : decode cX9_clear 21 = .ok (.iconst 4, 1) := by decide +kernel
theorem dX9_clear_22 : decode cX9_clear 22 = .ok (.iaload, 1) := by decide +kernel
theorem dX9_clear_23 : decode cX9_clear 23 = .ok (.iadd, 1) := by decide +kernel
theorem dX9_clear_24 : decode cX9_clear 24 = .ok (.istore_n 1, 1) := by decide +kernel
theorem dX9_clear_25 : decode cX9_clear 25 = .ok (.iconst (-1), 1) := by decide +kernel
theorem dX9_clear_26 : decode cX9_clear 26 = .ok (.istore_n 2, 1) := by decide +kernel
theorem dX9_clear_27 : decode cX9_clear 27 = .ok (.iconst 0, 1) := by decide +kernel
theorem dX9_clear_28 : decode cX9_clear 28 = .ok (.istore_n 3, 1) := by decide +kernel
theorem dX9_clear_29 : decode cX9_clear 29 = .ok (.iload_n 3, 1) := by decide +kernel
theorem dX9_clear_30 : decode cX9_clear 30 = .ok (.bipush 10, 2) := by decide +kernel
theorem dX9_clear_32 : decode cX9_clear 32 = .ok (.if_icmp .ge 49, 3) := by decide +kernel
theorem dX9_clear_35 : decode cX9_clear 35 = .ok (.iload_n 2, 1) := by decide +kernel
theorem dX9_clear_36 : decode cX9_clear 36 = .ok (.ifCond .ge 45, 3) := by decide +kernel
theorem dX9_clear_39 : decode cX9_clear 39 = .ok (.iload_n 1, 1) := by decide +kernel
theorem dX9_clear_40 : decode cX9_clear 40 = .ok (.ifCond .le 41, 3) := by decide +kernel
theorem dX9_clear_43 : decode cX9_clear 43 = .ok (.aload_n 0, 1) := by decide +kernel
theorem dX9_clear_44 : decode cX9_clear 44 = .ok (.iload_n 3, 1) := by decide +kernel
theorem dX9_clear_45 : decode cX9_clear 45 = .ok (.iconst 0, 1) := by decide +kernel
theorem dX9_clear_46 : decode cX9_clear 46 = .ok (.iconst 0, 1) := by decide +kernel
theorem dX9_clear_47 : decode cX9_clear 47 = .ok (.invokevirtual 219, 3) := by decide +kernel
theorem dX9_clear_50 : decode cX9_clear 50 = .ok (.istore 4, 2) := by decide +kernel
theorem dX9_clear_52 : decode cX9_clear 52 = .ok (.iload 4, 2) := by decide +kernel
theorem dX9_clear_54 : decode cX9_clear 54 = .ok (.iload_n 1, 1) := by decide +kernel
theorem dX9_clear_55 : decode cX9_clear 55 = .ok (.if_icmp .ne 7, 3) := by decide +kernel
theorem dX9_clear_58 : decode cX9_clear 58 = .ok (.iload_n 3, 1) := by decide +kernel
theorem dX9_clear_59 : decode cX9_clear 59 = .ok (.goto 4, 3) := by decide +kernel
theorem dX9_clear_62 : decode cX9_clear 62 = .ok (.iconst (-1), 1) := by decide +kernel
theorem dX9_clear_63 : decode cX9_clear 63 = .ok (.istore_n 2, 1) := by decide +kernel
theorem dX9_clear_64 : decode cX9_clear 64 = .ok (.aload_n 0, 1) := by decide +kernel
theorem dX9_clear_65 : decode cX9_clear 65 = .ok (.getfield 16, 3) := by decide +kernel
theorem dX9_clear_68 : decode cX9_clear 68 = .ok (.aload_n 0, 1) := by decide +kernel
theorem dX9_clear_69 : decode cX9_clear 69 = .ok (.getfield 9, 3) := by decide +kernel
theorem dX9_clear_72 : decode cX9_clear 72 = .ok (.invokestatic 76, 3) := by decide +kernel
theorem dX9_clear_75 : decode cX9_clear 75 = .ok (.iinc 3 1, 3) := by decide +kernel
theorem dX9_clear_78 : decode cX9_clear 78 = .ok (.goto (-49), 3) := by decide +kernel
theorem dX9_clear_81 : decode cX9_clear 81 = .ok (.iload_n 2, 1) := by decide +kernel
theorem dX9_clear_82 : decode cX9_clear 82 = .ok (.ifCond .ge 12, 3) := by decide +kernel
theorem dX9_clear_85 : decode cX9_clear 85 = .ok (.aload_n 0, 1) := by decide +kernel
theorem dX9_clear_86 : decode cX9_clear 86 = .ok (.ldc 118, 2) := by decide +kernel
theorem dX9_clear_88 : decode cX9_clear 88 = .ok (.invokevirtual 92, 3) := by decide +kernel
theorem dX9_clear_91 : decode cX9_clear 91 = .ok (.goto 4, 3) := by decide +kernel
theorem dX9_clear_94 : decode cX9_clear 94 = .ok (.iload_n 2, 1) := by decide +kernel
theorem dX9_clear_95 : decode cX9_clear 95 = .ok (.ireturn, 1) := by decide +kernel
theorem dX9_seed_0 : decode cX9_seed 0 = .ok (.aload_n 0, 1) := by decide +kernel
theorem dX9_seed_1 : decode cX9_seed 1 = .ok (.bipush 10, 2) := by decide +kernel
theorem dX9_seed_3 : decode cX9_seed 3 = .ok (.iload_n 1, 1) := by decide +kernel
theorem dX9_seed_4 : decode cX9_seed 4 = .ok (.invokevirtual 88, 3) := by decide +kernel
theorem dX9_seed_7 : decode cX9_seed 7 = .ok (.ireturn, 1) := by decide +kernel
theorem dX9_began_0 : decode cX9_began 0 = .ok (.aload_n 0, 1) := by decide +kernel
theorem dX9_began_1 : decode cX9_began 1 = .ok (.getfield 253, 3) := by decide +kernel
theorem dX9_began_4 : decode cX9_began 4 = .ok (.bipush 40, 2) := by decide +kernel
theorem dX9_began_6 : decode cX9_began 6 = .ok (.if_icmp .ge 23, 3) := by decide +kernel
theorem dX9_began_9 : decode cX9_began 9 = .ok (.aload_n 0, 1) := by decide +kernel
theorem dX9_began_10 : decode cX9_began 10 = .ok (.getfield 51, 3) := by decide +kernel
theorem dX9_began_13 : decode cX9_began 13 = .ok (.aload_n 0, 1) := by decide +kernel
theorem dX9_began_14 : decode cX9_began 14 = .ok (.getfield 253, 3) := by decide +kernel
theorem dX9_began_17 : decode cX9_began 17 = .ok (.iload_n 1, 1) := by decide +kernel
theorem dX9_began_18 : decode cX9_began 18 = .ok (.iastore, 1) := by decide +kernel
theorem dX9_began_19 : decode cX9_began 19 = .ok (.aload_n 0, 1) := by decide +kernel
theorem dX9_began_20 : decode cX9_began 20 = .ok (.dup, 1) := by decide +kernel
theorem dX9_began_21 : decode cX9_began 21 = .ok (.getfield 253, 3) := by decide +kernel
theorem dX9_began_24 : decode cX9_began 24 = .ok (.iconst 1, 1) := by decide +kernel
theorem dX9_began_25 : decode cX9_began 25 = .ok (.iadd, 1) := by decide +kernel
theorem dX9_began_26 : decode cX9_began 26 = .ok (.putfield 253, 3) := by decide +kernel
theorem dX9_began_29 : decode cX9_began 29 = .ok (.return_, 1) := by decide +kernel
theorem dX9_hasOwn_0 : decode cX9_hasOwn 0 = .ok (.iload_n 0, 1) := by decide +kernel
theorem dX9_hasOwn_1 : decode cX9_hasOwn 1 = .ok (.tableswitch 88 0 5 #[39, 41, 52, 62, 73, 41], 39) := by decide +kernel
theorem dX9_hasOwn_40 : decode cX9_hasOwn 40 = .ok (.iconst 1, 1) := by decide +kernel
theorem dX9_hasOwn_41 : decode cX9_hasOwn 41 = .ok (.ireturn, 1) := by decide +kernel
theorem dX9_hasOwn_42 : decode cX9_hasOwn 42 = .ok (.iload_n 1, 1) := by decide +kernel
theorem dX9_hasOwn_43 : decode cX9_hasOwn 43 = .ok (.iconst 1, 1) := by decide +kernel
theorem dX9_hasOwn_44 : decode cX9_hasOwn 44 = .ok (.if_icmp .ne 7, 3) := by decide +kernel
theorem dX9_hasOwn_47 : decode cX9_hasOwn 47 = .ok (.iconst 1, 1) := by decide +kernel
theorem dX9_hasOwn_48 : decode cX9_hasOwn 48 = .ok (.goto 4, 3) := by decide +kernel
theorem dX9_hasOwn_51 : decode cX9_hasOwn 51 = .ok (.iconst 0, 1) := by decide +kernel
theorem dX9_hasOwn_52 : decode cX9_hasOwn 52 = .ok (.ireturn, 1) := by decide +kernel
theorem dX9_hasOwn_53 : decode cX9_hasOwn 53 = .ok (.iload_n 1, 1) := by decide +kernel
theorem dX9_hasOwn_54 : decode cX9_hasOwn 54 = .ok (.ifCond .ne 7, 3) := by decide +kernel
theorem dX9_hasOwn_57 : decode cX9_hasOwn 57 = .ok (.iconst 1, 1) := by decide +kernel
theorem dX9_hasOwn_58 : decode cX9_hasOwn 58 = .ok (.goto 4, 3) := by decide +kernel
theorem dX9_hasOwn_61 : decode cX9_hasOwn 61 = .ok (.iconst 0, 1) := by decide +kernel
theorem dX9_hasOwn_62 : decode cX9_hasOwn 62 = .ok (.ireturn, 1) := by decide +kernel
theorem dX9_hasOwn_63 : decode cX9_hasOwn 63 = .ok (.iload_n 1, 1) := by decide +kernel
theorem dX9_hasOwn_64 : decode cX9_hasOwn 64 = .ok (.iconst 2, 1) := by decide +kernel
theorem dX9_hasOwn_65 : decode cX9_hasOwn 65 = .ok (.if_icmp .ne 7, 3) := by decide +kernel
theorem dX9_hasOwn_68 : decode cX9_hasOwn 68 = .ok (.iconst 1, 1) := by decide +kernel
theorem dX9_hasOwn_69 : decode cX9_hasOwn 69 = .ok (.goto 4, 3) := by decide +kernel
theorem dX9_hasOwn_72 : decode cX9_hasOwn 72 = .ok (.iconst 0, 1) := by decide +kernel
theorem dX9_hasOwn_73 : decode cX9_hasOwn 73 = .ok (.ireturn, 1) := by decide +kernel
theorem dX9_hasOwn_74 : decode cX9_hasOwn 74 = .ok (.iload_n 1, 1) := by decide +kernel
theorem dX9_hasOwn_75 : decode cX9_hasOwn 75 = .ok (.ifCond .eq 8, 3) := by decide +kernel
theorem dX9_hasOwn_78 : decode cX9_hasOwn 78 = .ok (.iload_n 1, 1) := by decide +kernel
theorem dX9_hasOwn_79 : decode cX9_hasOwn 79 = .ok (.iconst 3, 1) := by decide +kernel
theorem dX9_hasOwn_80 : decode cX9_hasOwn 80 = .ok (.if_icmp .ne 7, 3) := by decide +kernel
theorem dX9_hasOwn_83 : decode cX9_hasOwn 83 = .ok (.iconst 1, 1) := by decide +kernel
theorem dX9_hasOwn_84 : decode cX9_hasOwn 84 = .ok (.goto 4, 3) := by decide +kernel
theorem dX9_hasOwn_87 : decode cX9_hasOwn 87 = .ok (.iconst 0, 1) := by decide +kernel
theorem dX9_hasOwn_88 : decode cX9_hasOwn 88 = .ok (.ireturn, 1) := by decide +kernel
theorem dX9_hasOwn_89 : decode cX9_hasOwn 89 = .ok (.iload_n 1, 1) := by decide +kernel
theorem dX9_hasOwn_90 : decode cX9_hasOwn 90 = .ok (.iconst 2, 1) := by decide +kernel
theorem dX9_hasOwn_91 : decode cX9_hasOwn 91 = .ok (.if_icmp .eq 8, 3) := by decide +kernel
theorem dX9_hasOwn_94 : decode cX9_hasOwn 94 = .ok (.iload_n 1, 1) := by decide +kernel
theorem dX9_hasOwn_95 : decode cX9_hasOwn 95 = .ok (.iconst 3, 1) := by decide +kernel
theorem dX9_hasOwn_96 : decode cX9_hasOwn 96 = .ok (.if_icmp .ne 7, 3) := by decide +kernel
theorem dX9_hasOwn_99 : decode cX9_hasOwn 99 = .ok (.iconst 1, 1) := by decide +kernel
theorem dX9_hasOwn_100 : decode cX9_hasOwn 100 = .ok (.goto 4, 3) := by decide +kernel
theorem dX9_hasOwn_103 : decode cX9_hasOwn 103 = .ok (.iconst 0, 1) := by decide +kernel
theorem dX9_hasOwn_104 : decode cX9_hasOwn 104 = .ok (.ireturn, 1) := by decide +kernel
theorem dX9_voiced_0 : decode cX9_voiced 0 = .ok (.aload_n 0, 1) := by decide +kernel
theorem dX9_voiced_1 : decode cX9_voiced 1 = .ok (.aload_n 0, 1) := by decide +kernel
theorem dX9_voiced_2 : decode cX9_voiced 2 = .ok (.aload_n 0, 1) := by decide +kernel
theorem dX9_voiced_3 : decode cX9_voiced 3 = .ok (.getfield 256, 3) := by decide +kernel
theorem dX9_voiced_6 : decode cX9_voiced 6 = .ok (.iconst 0, 1) := by decide +kernel
theorem dX9_voiced_7 : decode cX9_voiced 7 = .ok (.invokevirtual 108, 3) := by decide +kernel
theorem dX9_voiced_10 : decode cX9_voiced 10 = .ok (.iload_n 1, 1) := by decide +kernel
theorem dX9_voiced_11 : decode cX9_voiced 11 = .ok (.iload_n 2, 1) := by decide +kernel
theorem dX9_voiced_12 : decode cX9_voiced 12 = .ok (.invokevirtual 259, 3) := by decide +kernel
theorem dX9_voiced_15 : decode cX9_voiced 15 = .ok (.ireturn, 1) := by decide +kernel
theorem dX9_bodyFrom_0 : decode cX9_bodyFrom 0 = .ok (.iload_n 1, 1) := by decide +kernel
theorem dX9_bodyFrom_1 : decode cX9_bodyFrom 1 = .ok (.istore 4, 2) := by decide +kernel
theorem dX9_bodyFrom_3 : decode cX9_bodyFrom 3 = .ok (.iload 4, 2) := by decide +kernel
theorem dX9_bodyFrom_5 : decode cX9_bodyFrom 5 = .ok (.iload_n 2, 1) := by decide +kernel
theorem dX9_bodyFrom_6 : decode cX9_bodyFrom 6 = .ok (.invokestatic 262, 3) := by decide +kernel
theorem dX9_bodyFrom_9 : decode cX9_bodyFrom 9 = .ok (.ifCond .ne 13, 3) := by decide +kernel
theorem dX9_bodyFrom_12 : decode cX9_bodyFrom 12 = .ok (.iload 4, 2) := by decide +kernel
theorem dX9_bodyFrom_14 : decode cX9_bodyFrom 14 = .ok (.invokestatic 111, 3) := by decide +kernel
theorem dX9_bodyFrom_17 : decode cX9_bodyFrom 17 = .ok (.istore 4, 2) := by decide +kernel
theorem dX9_bodyFrom_19 : decode cX9_bodyFrom 19 = .ok (.goto (-16), 3) := by decide +kernel
theorem dX9_bodyFrom_22 : decode cX9_bodyFrom 22 = .ok (.aload_n 0, 1) := by decide +kernel
theorem dX9_bodyFrom_23 : decode cX9_bodyFrom 23 = .ok (.iload 4, 2) := by decide +kernel
theorem dX9_bodyFrom_25 : decode cX9_bodyFrom 25 = .ok (.iload_n 2, 1) := by decide +kernel
theorem dX9_bodyFrom_26 : decode cX9_bodyFrom 26 = .ok (.iload_n 3, 1) := by decide +kernel
theorem dX9_bodyFrom_27 : decode cX9_bodyFrom 27 = .ok (.invokevirtual 266, 3) := by decide +kernel
theorem dX9_bodyFrom_30 : decode cX9_bodyFrom 30 = .ok (.ireturn, 1) := by decide +kernel
theorem dX9_body_0 : decode cX9_body 0 = .ok (.aload_n 0, 1) := by decide +kernel
theorem dX9_body_1 : decode cX9_body 1 = .ok (.aload_n 0, 1) := by decide +kernel
theorem dX9_body_2 : decode cX9_body 2 = .ok (.getfield 256, 3) := by decide +kernel
theorem dX9_body_5 : decode cX9_body 5 = .ok (.iconst 2, 1) := by decide +kernel
theorem dX9_body_6 : decode cX9_body 6 = .ok (.invokevirtual 108, 3) := by decide +kernel
theorem dX9_body_9 : decode cX9_body 9 = .ok (.istore 4, 2) := by decide +kernel
theorem dX9_body_11 : decode cX9_body 11 = .ok (.iconst 4, 1) := by decide +kernel
theorem dX9_body_12 : decode cX9_body 12 = .ok (.iload_n 1, 1) := by decide +kernel
theorem dX9_body_13 : decode cX9_body 13 = .ok (.imul, 1) := by decide +kernel
theorem dX9_body_14 : decode cX9_body 14 = .ok (.iload_n 2, 1) := by decide +kernel
theorem dX9_body_15 : decode cX9_body 15 = .ok (.iadd, 1) := by decide +kernel
theorem dX9_body_16 : decode cX9_body 16 = .ok (.tableswitch 320 0 26 #[124, 137, 152, 163, 320, 187, 320, 320, 212, 320, 320, 320, 320, 320, 228, 320, 243, 320, 320, 259, 320, 284, 320, 320, 320, 320, 303], 124) := by decide +kernel
theorem dX9_body_140 : decode cX9_body 140 = .ok (.aload_n 0, 1) := by decide +kernel
theorem dX9_body_141 : decode cX9_body 141 = .ok (.bipush 10, 2) := by decide +kernel
theorem dX9_body_143 : decode cX9_body 143 = .ok (.invokevirtual 269, 3) := by decide +kernel
theorem dX9_body_146 : decode cX9_body 146 = .ok (.iload_n 3, 1) := by decide +kernel
theorem dX9_body_147 : decode cX9_body 147 = .ok (.aload_n 0, 1) := by decide +kernel
theorem dX9_body_148 : decode cX9_body 148 = .ok (.getfield 256, 3) := by decide +kernel
theorem dX9_body_151 : decode cX9_body 151 = .ok (.iadd, 1) := by decide +kernel
theorem dX9_body_152 : decode cX9_body 152 = .ok (.ireturn, 1) := by decide +kernel
theorem dX9_body_153 : decode cX9_body 153 = .ok (.aload_n 0, 1) := by decide +kernel
theorem dX9_body_154 : decode cX9_body 154 = .ok (.bipush 11, 2) := by decide +kernel
theorem dX9_body_156 : decode cX9_body 156 = .ok (.invokevirtual 269, 3) := by decide +kernel
theorem dX9_body_159 : decode cX9_body 159 = .ok (.aload_n 0, 1) := by decide +kernel
theorem dX9_body_160 : decode cX9_body 160 = .ok (.iconst 0, 1) := by decide +kernel
theorem dX9_body_161 : decode cX9_body 161 = .ok (.iload_n 3, 1) := by decide +kernel
theorem dX9_body_162 : decode cX9_body 162 = .ok (.invokevirtual 272, 3) := by decide +kernel
theorem dX9_body_165 : decode cX9_body 165 = .ok (.iconst 2, 1) := by decide +kernel
theorem dX9_body_166 : decode cX9_body 166 = .ok (.imul, 1) := by decide +kernel
theorem dX9_body_167 : decode cX9_body 167 = .ok (.ireturn, 1) := by decide +kernel
theorem dX9_body_168 : decode cX9_body 168 = .ok (.aload_n 0, 1) := by decide +kernel
theorem dX9_body_169 : decode cX9_body 169 = .ok (.bipush 12, 2) := by decide +kernel
theorem dX9_body_171 : decode cX9_body 171 = .ok (.invokevirtual 269, 3) := by decide +kernel
theorem dX9_body_174 : decode cX9_body 174 = .ok (.iload_n 3, 1) := by decide +kernel
theorem dX9_body_175 : decode cX9_body 175 = .ok (.iload 4, 2) := by decide +kernel
theorem dX9_body_177 : decode cX9_body 177 = .ok (.isub, 1) := by decide +kernel
theorem dX9_body_178 : decode cX9_body 178 = .ok (.ireturn, 1) := by decide +kernel
theorem dX9_body_179 : decode cX9_body 179 = .ok (.aload_n 0, 1) := by decide +kernel
theorem dX9_body_180 : decode cX9_body 180 = .ok (.bipush 13, 2) := by decide +kernel
theorem dX9_body_182 : decode cX9_body 182 = .ok (.invokevirtual 269, 3) := by decide +kernel
theorem dX9_body_185 : decode cX9_body 185 = .ok (.aload_n 0, 1) := by decide +kernel
theorem dX9_body_186 : decode cX9_body 186 = .ok (.iconst 1, 1) := by decide +kernel
theorem dX9_body_187 : decode cX9_body 187 = .ok (.iload_n 3, 1) := by decide +kernel
theorem dX9_body_188 : decode cX9_body 188 = .ok (.invokevirtual 272, 3) := by decide +kernel
theorem dX9_body_191 : decode cX9_body 191 = .ok (.istore 5, 2) := by decide +kernel
theorem dX9_body_193 : decode cX9_body 193 = .ok (.iload 5, 2) := by decide +kernel
theorem dX9_body_195 : decode cX9_body 195 = .ok (.aload_n 0, 1) := by decide +kernel
theorem dX9_body_196 : decode cX9_body 196 = .ok (.iconst 2, 1) := by decide +kernel
theorem dX9_body_197 : decode cX9_body 197 = .ok (.iload_n 3, 1) := by decide +kernel
theorem dX9_body_198 : decode cX9_body 198 = .ok (.invokevirtual 272, 3) := by decide +kernel
theorem dX9_body_201 : decode cX9_body 201 = .ok (.ixor, 1) := by decide +kernel
theorem dX9_body_202 : decode cX9_body 202 = .ok (.ireturn, 1) := by decide +kernel
theorem dX9_body_203 : decode cX9_body 203 = .ok (.aload_n 0, 1) := by decide +kernel
theorem dX9_body_204 : decode cX9_body 204 = .ok (.bipush 20, 2) := by decide +kernel
theorem dX9_body_206 : decode cX9_body 206 = .ok (.invokevirtual 269, 3) := by decide +kernel
theorem dX9_body_209 : decode cX9_body 209 = .ok (.aload_n 0, 1) := by decide +kernel
theorem dX9_body_210 : decode cX9_body 210 = .ok (.iconst 0, 1) := by decide +kernel
theorem dX9_body_211 : decode cX9_body 211 = .ok (.iconst 1, 1) := by decide +kernel
theorem dX9_body_212 : decode cX9_body 212 = .ok (.iload_n 3, 1) := by decide +kernel
theorem dX9_body_213 : decode cX9_body 213 = .ok (.invokevirtual 259, 3) := by decide +kernel
theorem dX9_body_216 : decode cX9_body 216 = .ok (.istore 5, 2) := by decide +kernel
theorem dX9_body_218 : decode cX9_body 218 = .ok (.iload 5, 2) := by decide +kernel
theorem dX9_body_220 : decode cX9_body 220 = .ok (.aload_n 0, 1) := by decide +kernel
theorem dX9_body_221 : decode cX9_body 221 = .ok (.iconst 2, 1) := by decide +kernel
theorem dX9_body_222 : decode cX9_body 222 = .ok (.iconst 1, 1) := by decide +kernel
theorem dX9_body_223 : decode cX9_body 223 = .ok (.invokevirtual 272, 3) := by decide +kernel
theorem dX9_body_226 : decode cX9_body 226 = .ok (.isub, 1) := by decide +kernel
theorem dX9_body_227 : decode cX9_body 227 = .ok (.ireturn, 1) := by decide +kernel
theorem dX9_body_228 : decode cX9_body 228 = .ok (.aload_n 0, 1) := by decide +kernel
theorem dX9_body_229 : decode cX9_body 229 = .ok (.bipush 30, 2) := by decide +kernel
theorem dX9_body_231 : decode cX9_body 231 = .ok (.invokevirtual 269, 3) := by decide +kernel
theorem dX9_body_234 : decode cX9_body 234 = .ok (.aload_n 0, 1) := by decide +kernel
theorem dX9_body_235 : decode cX9_body 235 = .ok (.iconst 1, 1) := by decide +kernel
theorem dX9_body_236 : decode cX9_body 236 = .ok (.iconst 0, 1) := by decide +kernel
theorem dX9_body_237 : decode cX9_body 237 = .ok (.iload_n 3, 1) := by decide +kernel
theorem dX9_body_238 : decode cX9_body 238 = .ok (.invokevirtual 259, 3) := by decide +kernel
theorem dX9_body_241 : decode cX9_body 241 = .ok (.iconst 3, 1) := by decide +kernel
theorem dX9_body_242 : decode cX9_body 242 = .ok (.imul, 1) := by decide +kernel
theorem dX9_body_243 : decode cX9_body 243 = .ok (.ireturn, 1) := by decide +kernel
theorem dX9_body_244 : decode cX9_body 244 = .ok (.aload_n 0, 1) := by decide +kernel
theorem dX9_body_245 : decode cX9_body 245 = .ok (.bipush 40, 2) := by decide +kernel
theorem dX9_body_247 : decode cX9_body 247 = .ok (.invokevirtual 269, 3) := by decide +kernel
theorem dX9_body_250 : decode cX9_body 250 = .ok (.aload_n 0, 1) := by decide +kernel
theorem dX9_body_251 : decode cX9_body 251 = .ok (.iconst 0, 1) := by decide +kernel
theorem dX9_body_252 : decode cX9_body 252 = .ok (.iconst 2, 1) := by decide +kernel
theorem dX9_body_253 : decode cX9_body 253 = .ok (.iload_n 3, 1) := by decide +kernel
theorem dX9_body_254 : decode cX9_body 254 = .ok (.invokevirtual 259, 3) := by decide +kernel
theorem dX9_body_257 : decode cX9_body 257 = .ok (.ineg, 1) := by decide +kernel
theorem dX9_body_258 : decode cX9_body 258 = .ok (.ireturn, 1) := by decide +kernel
theorem dX9_body_259 : decode cX9_body 259 = .ok (.aload_n 0, 1) := by decide +kernel
theorem dX9_body_260 : decode cX9_body 260 = .ok (.bipush 50, 2) := by decide +kernel
theorem dX9_body_262 : decode cX9_body 262 = .ok (.invokevirtual 269, 3) := by decide +kernel
theorem dX9_body_265 : decode cX9_body 265 = .ok (.aload_n 0, 1) := by decide +kernel
theorem dX9_body_266 : decode cX9_body 266 = .ok (.iconst 3, 1) := by decide +kernel
theorem dX9_body_267 : decode cX9_body 267 = .ok (.iconst 0, 1) := by decide +kernel
theorem dX9_body_268 : decode cX9_body 268 = .ok (.iload_n 3, 1) := by decide +kernel
theorem dX9_body_269 : decode cX9_body 269 = .ok (.iconst 1, 1) := by decide +kernel
theorem dX9_body_270 : decode cX9_body 270 = .ok (.iadd, 1) := by decide +kernel
theorem dX9_body_271 : decode cX9_body 271 = .ok (.invokevirtual 259, 3) := by decide +kernel
theorem dX9_body_274 : decode cX9_body 274 = .ok (.ireturn, 1) := by decide +kernel
theorem dX9_body_275 : decode cX9_body 275 = .ok (.aload_n 0, 1) := by decide +kernel
theorem dX9_body_276 : decode cX9_body 276 = .ok (.bipush 51, 2) := by decide +kernel
theorem dX9_body_278 : decode cX9_body 278 = .ok (.invokevirtual 269, 3) := by decide +kernel
theorem dX9_body_281 : decode cX9_body 281 = .ok (.aload_n 0, 1) := by decide +kernel
theorem dX9_body_282 : decode cX9_body 282 = .ok (.iconst 3, 1) := by decide +kernel
theorem dX9_body_283 : decode cX9_body 283 = .ok (.iconst 3, 1) := by decide +kernel
theorem dX9_body_284 : decode cX9_body 284 = .ok (.iload_n 3, 1) := by decide +kernel
theorem dX9_body_285 : decode cX9_body 285 = .ok (.invokevirtual 259, 3) := by decide +kernel
theorem dX9_body_288 : decode cX9_body 288 = .ok (.istore 5, 2) := by decide +kernel
theorem dX9_body_290 : decode cX9_body 290 = .ok (.iload 5, 2) := by decide +kernel
theorem dX9_body_292 : decode cX9_body 292 = .ok (.aload_n 0, 1) := by decide +kernel
theorem dX9_body_293 : decode cX9_body 293 = .ok (.iconst 0, 1) := by decide +kernel
theorem dX9_body_294 : decode cX9_body 294 = .ok (.iconst 2, 1) := by decide +kernel
theorem dX9_body_295 : decode cX9_body 295 = .ok (.invokevirtual 272, 3) := by decide +kernel
theorem dX9_body_298 : decode cX9_body 298 = .ok (.isub, 1) := by decide +kernel
theorem dX9_body_299 : decode cX9_body 299 = .ok (.ireturn, 1) := by decide +kernel
theorem dX9_body_300 : decode cX9_body 300 = .ok (.aload_n 0, 1) := by decide +kernel
theorem dX9_body_301 : decode cX9_body 301 = .ok (.bipush 60, 2) := by decide +kernel
theorem dX9_body_303 : decode cX9_body 303 = .ok (.invokevirtual 269, 3) := by decide +kernel
theorem dX9_body_306 : decode cX9_body 306 = .ok (.aload_n 0, 1) := by decide +kernel
theorem dX9_body_307 : decode cX9_body 307 = .ok (.iconst 0, 1) := by decide +kernel
theorem dX9_body_308 : decode cX9_body 308 = .ok (.iconst 1, 1) := by decide +kernel
theorem dX9_body_309 : decode cX9_body 309 = .ok (.iload_n 3, 1) := by decide +kernel
theorem dX9_body_310 : decode cX9_body 310 = .ok (.invokevirtual 259, 3) := by decide +kernel
theorem dX9_body_313 : decode cX9_body 313 = .ok (.aload_n 0, 1) := by decide +kernel
theorem dX9_body_314 : decode cX9_body 314 = .ok (.getfield 256, 3) := by decide +kernel
theorem dX9_body_317 : decode cX9_body 317 = .ok (.ixor, 1) := by decide +kernel
theorem dX9_body_318 : decode cX9_body 318 = .ok (.ireturn, 1) := by decide +kernel
theorem dX9_body_319 : decode cX9_body 319 = .ok (.aload_n 0, 1) := by decide +kernel
theorem dX9_body_320 : decode cX9_body 320 = .ok (.bipush 70, 2) := by decide +kernel
theorem dX9_body_322 : decode cX9_body 322 = .ok (.invokevirtual 269, 3) := by decide +kernel
theorem dX9_body_325 : decode cX9_body 325 = .ok (.aload_n 0, 1) := by decide +kernel
theorem dX9_body_326 : decode cX9_body 326 = .ok (.iconst 1, 1) := by decide +kernel
theorem dX9_body_327 : decode cX9_body 327 = .ok (.iconst 2, 1) := by decide +kernel
theorem dX9_body_328 : decode cX9_body 328 = .ok (.iload_n 3, 1) := by decide +kernel
theorem dX9_body_329 : decode cX9_body 329 = .ok (.invokevirtual 259, 3) := by decide +kernel
theorem dX9_body_332 : decode cX9_body 332 = .ok (.iload 4, 2) := by decide +kernel
theorem dX9_body_334 : decode cX9_body 334 = .ok (.iadd, 1) := by decide +kernel
theorem dX9_body_335 : decode cX9_body 335 = .ok (.ireturn, 1) := by decide +kernel
theorem dX9_body_336 : decode cX9_body 336 = .ok (.aload_n 0, 1) := by decide +kernel
theorem dX9_body_337 : decode cX9_body 337 = .ok (.bipush 71, 2) := by decide +kernel
theorem dX9_body_339 : decode cX9_body 339 = .ok (.invokevirtual 269, 3) := by decide +kernel
theorem dX9_body_342 : decode cX9_body 342 = .ok (.aload_n 0, 1) := by decide +kernel
theorem dX9_body_343 : decode cX9_body 343 = .ok (.iconst 1, 1) := by decide +kernel
theorem dX9_body_344 : decode cX9_body 344 = .ok (.iload_n 3, 1) := by decide +kernel
theorem dX9_body_345 : decode cX9_body 345 = .ok (.invokevirtual 272, 3) := by decide +kernel
theorem dX9_body_348 : decode cX9_body 348 = .ok (.istore 5, 2) := by decide +kernel
theorem dX9_body_350 : decode cX9_body 350 = .ok (.iload 5, 2) := by decide +kernel
theorem dX9_body_352 : decode cX9_body 352 = .ok (.aload_n 0, 1) := by decide +kernel
theorem dX9_body_353 : decode cX9_body 353 = .ok (.iconst 1, 1) := by decide +kernel
theorem dX9_body_354 : decode cX9_body 354 = .ok (.iconst 3, 1) := by decide +kernel
theorem dX9_body_355 : decode cX9_body 355 = .ok (.iload_n 3, 1) := by decide +kernel
theorem dX9_body_356 : decode cX9_body 356 = .ok (.invokevirtual 259, 3) := by decide +kernel
theorem dX9_body_359 : decode cX9_body 359 = .ok (.isub, 1) := by decide +kernel
theorem dX9_body_360 : decode cX9_body 360 = .ok (.ireturn, 1) := by decide +kernel
theorem dX9_voice_0 : decode cX9_voice 0 = .ok (.aload_n 0, 1) := by decide +kernel
theorem dX9_voice_1 : decode cX9_voice 1 = .ok (.iload_n 1, 1) := by decide +kernel
theorem dX9_voice_2 : decode cX9_voice 2 = .ok (.invokevirtual 105, 3) := by decide +kernel
theorem dX9_voice_5 : decode cX9_voice 5 = .ok (.ifCond .eq 12, 3) := by decide +kernel
theorem dX9_voice_8 : decode cX9_voice 8 = .ok (.iload_n 2, 1) := by decide +kernel
theorem dX9_voice_9 : decode cX9_voice 9 = .ok (.iconst 0, 1) := by decide +kernel
theorem dX9_voice_10 : decode cX9_voice 10 = .ok (.iconst 3, 1) := by decide +kernel
theorem dX9_voice_11 : decode cX9_voice 11 = .ok (.invokestatic 80, 3) := by decide +kernel
theorem dX9_voice_14 : decode cX9_voice 14 = .ok (.ifCond .ne 10, 3) := by decide +kernel
theorem dX9_voice_17 : decode cX9_voice 17 = .ok (.aload_n 0, 1) := by decide +kernel
theorem dX9_voice_18 : decode cX9_voice 18 = .ok (.ldc 91, 2) := by decide +kernel
theorem dX9_voice_20 : decode cX9_voice 20 = .ok (.invokevirtual 92, 3) := by decide +kernel
theorem dX9_voice_23 : decode cX9_voice 23 = .ok (.ireturn, 1) := by decide +kernel
theorem dX9_voice_24 : decode cX9_voice 24 = .ok (.aload_n 0, 1) := by decide +kernel
theorem dX9_voice_25 : decode cX9_voice 25 = .ok (.iconst 0, 1) := by decide +kernel
theorem dX9_voice_26 : decode cX9_voice 26 = .ok (.putfield 253, 3) := by decide +kernel
theorem dX9_voice_29 : decode cX9_voice 29 = .ok (.aload_n 0, 1) := by decide +kernel
theorem dX9_voice_30 : decode cX9_voice 30 = .ok (.iload_n 1, 1) := by decide +kernel
theorem dX9_voice_31 : decode cX9_voice 31 = .ok (.putfield 256, 3) := by decide +kernel
