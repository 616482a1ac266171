theorem dX8_move_8 : decode cX8_move 8 = .ok (.iload_n 3, 1) := by decide +kernel
theorem dX8_move_9 : decode cX8_move 9 = .ok (.invokevirtual 122, 3) := by decide +kernel
theorem dX8_move_12 : decode cX8_move 12 = .ok (.astore 7, 2) := by decide +kernel
theorem dX8_move_14 : decode cX8_move 14 = .ok (.aload 6, 2) := by decide +kernel
theorem dX8_move_16 : decode cX8_move 16 = .ok (.ifnull 8, 3) := by decide +kernel
theorem dX8_move_19 : decode cX8_move 19 = .ok (.aload 7, 2) := by decide +kernel
theorem dX8_move_21 : decode cX8_move 21 = .ok (.ifnonnull 10, 3) := by decide +kernel
theorem dX8_move_24 : decode cX8_move 24 = .ok (.aload_n 0, 1) := by decide +kernel
theorem dX8_move_25 : decode cX8_move 25 = .ok (.ldc 65, 2) := by decide +kernel
theorem dX8_move_27 : decode cX8_move 27 = .ok (.invokevirtual 66, 3) := by decide +kernel
theorem dX8_move_30 : decode cX8_move 30 = .ok (.ireturn, 1) := by decide +kernel
theorem dX8_move_31 : decode cX8_move 31 = .ok (.aload 6, 2) := by decide +kernel
theorem dX8_move_33 : decode cX8_move 33 = .ok (.invokevirtual 126, 3) := by decide +kernel
theorem dX8_move_36 : decode cX8_move 36 = .ok (.ifCond .ne 11, 3) := by decide +kernel
theorem dX8_move_39 : decode cX8_move 39 = .ok (.aload 7, 2) := by decide +kernel
theorem dX8_move_41 : decode cX8_move 41 = .ok (.invokevirtual 126, 3) := by decide +kernel
theorem dX8_move_44 : decode cX8_move 44 = .ok (.ifCond .eq 10, 3) := by decide +kernel
theorem dX8_move_47 : decode cX8_move 47 = .ok (.aload_n 0, 1) := by decide +kernel
theorem dX8_move_48 : decode cX8_move 48 = .ok (.ldc 130, 2) := by decide +kernel
theorem dX8_move_50 : decode cX8_move 50 = .ok (.invokevirtual 66, 3) := by decide +kernel
theorem dX8_move_53 : decode cX8_move 53 = .ok (.ireturn, 1) := by decide +kernel
theorem dX8_move_54 : decode cX8_move 54 = .ok (.aload 6, 2) := by decide +kernel
theorem dX8_move_56 : decode cX8_move 56 = .ok (.getfield 273, 3) := by decide +kernel
theorem dX8_move_59 : decode cX8_move 59 = .ok (.aload 7, 2) := by decide +kernel
theorem dX8_move_61 : decode cX8_move 61 = .ok (.getfield 273, 3) := by decide +kernel
theorem dX8_move_64 : decode cX8_move 64 = .ok (.if_icmp .eq 10, 3) := by decide +kernel
theorem dX8_move_67 : decode cX8_move 67 = .ok (.aload_n 0, 1) := by decide +kernel
theorem dX8_move_68 : decode cX8_move 68 = .ok (.ldc 121, 2) := by decide +kernel
theorem dX8_move_70 : decode cX8_move 70 = .ok (.invokevirtual 66, 3) := by decide +kernel
theorem dX8_move_73 : decode cX8_move 73 = .ok (.ireturn, 1) := by decide +kernel
theorem dX8_move_74 : decode cX8_move 74 = .ok (.aload 6, 2) := by decide +kernel
theorem dX8_move_76 : decode cX8_move 76 = .ok (.iload_n 2, 1) := by decide +kernel
theorem dX8_move_77 : decode cX8_move 77 = .ok (.iload 5, 2) := by decide +kernel
theorem dX8_move_79 : decode cX8_move 79 = .ok (.invokevirtual 276, 3) := by decide +kernel
theorem dX8_move_82 : decode cX8_move 82 = .ok (.ifCond .eq 15, 3) := by decide +kernel
theorem dX8_move_85 : decode cX8_move 85 = .ok (.aload 7, 2) := by decide +kernel
theorem dX8_move_87 : decode cX8_move 87 = .ok (.iload 4, 2) := by decide +kernel
theorem dX8_move_89 : decode cX8_move 89 = .ok (.iload 5, 2) := by decide +kernel
theorem dX8_move_91 : decode cX8_move 91 = .ok (.invokevirtual 276, 3) := by decide +kernel
theorem dX8_move_94 : decode cX8_move 94 = .ok (.ifCond .ne 10, 3) := by decide +kernel
theorem dX8_move_97 : decode cX8_move 97 = .ok (.aload_n 0, 1) := by decide +kernel
theorem dX8_move_98 : decode cX8_move 98 = .ok (.ldc 65, 2) := by decide +kernel
theorem dX8_move_100 : decode cX8_move 100 = .ok (.invokevirtual 66, 3) := by decide +kernel
theorem dX8_move_103 : decode cX8_move 103 = .ok (.ireturn, 1) := by decide +kernel
theorem dX8_move_104 : decode cX8_move 104 = .ok (.aload 6, 2) := by decide +kernel
theorem dX8_move_106 : decode cX8_move 106 = .ok (.getfield 279, 3) := by decide +kernel
theorem dX8_move_109 : decode cX8_move 109 = .ok (.iload_n 2, 1) := by decide +kernel
theorem dX8_move_110 : decode cX8_move 110 = .ok (.aload 7, 2) := by decide +kernel
theorem dX8_move_112 : decode cX8_move 112 = .ok (.getfield 279, 3) := by decide +kernel
theorem dX8_move_115 : decode cX8_move 115 = .ok (.iload 4, 2) := by decide +kernel
theorem dX8_move_117 : decode cX8_move 117 = .ok (.iload 5, 2) := by decide +kernel
theorem dX8_move_119 : decode cX8_move 119 = .ok (.invokestatic 282, 3) := by decide +kernel
theorem dX8_move_122 : decode cX8_move 122 = .ok (.iload 5, 2) := by decide +kernel
theorem dX8_move_124 : decode cX8_move 124 = .ok (.ireturn, 1) := by decide +kernel
theorem dX8_image_0 : decode cX8_image 0 = .ok (.aload_n 0, 1) := by decide +kernel
theorem dX8_image_1 : decode cX8_image 1 = .ok (.getfield 16, 3) := by decide +kernel
theorem dX8_image_4 : decode cX8_image 4 = .ok (.aload_n 0, 1) := by decide +kernel
theorem dX8_image_5 : decode cX8_image 5 = .ok (.getfield 12, 3) := by decide +kernel
theorem dX8_image_8 : decode cX8_image 8 = .ok (.invokevirtual 288, 3) := by decide +kernel
theorem dX8_image_11 : decode cX8_image 11 = .ok (.aload_n 0, 1) := by decide +kernel
theorem dX8_image_12 : decode cX8_image 12 = .ok (.dup, 1) := by decide +kernel
theorem dX8_image_13 : decode cX8_image 13 = .ok (.getfield 291, 3) := by decide +kernel
theorem dX8_image_16 : decode cX8_image 16 = .ok (.iconst 1, 1) := by decide +kernel
theorem dX8_image_17 : decode cX8_image 17 = .ok (.iadd, 1) := by decide +kernel
theorem dX8_image_18 : decode cX8_image 18 = .ok (.putfield 291, 3) := by decide +kernel
theorem dX8_image_21 : decode cX8_image 21 = .ok (.aload_n 0, 1) := by decide +kernel
theorem dX8_image_22 : decode cX8_image 22 = .ok (.getfield 291, 3) := by decide +kernel
theorem dX8_image_25 : decode cX8_image 25 = .ok (.ireturn, 1) := by decide +kernel
theorem dX8_restore_0 : decode cX8_restore 0 = .ok (.aload_n 0, 1) := by decide +kernel
theorem dX8_restore_1 : decode cX8_restore 1 = .ok (.getfield 291, 3) := by decide +kernel
theorem dX8_restore_4 : decode cX8_restore 4 = .ok (.ifCond .ne 10, 3) := by decide +kernel
theorem dX8_restore_7 : decode cX8_restore 7 = .ok (.aload_n 0, 1) := by decide +kernel
theorem dX8_restore_8 : decode cX8_restore 8 = .ok (.ldc 130, 2) := by decide +kernel
theorem dX8_restore_10 : decode cX8_restore 10 = .ok (.invokevirtual 66, 3) := by decide +kernel
theorem dX8_restore_13 : decode cX8_restore 13 = .ok (.ireturn, 1) := by decide +kernel
theorem dX8_restore_14 : decode cX8_restore 14 = .ok (.aload_n 0, 1) := by decide +kernel
theorem dX8_restore_15 : decode cX8_restore 15 = .ok (.getfield 12, 3) := by decide +kernel
theorem dX8_restore_18 : decode cX8_restore 18 = .ok (.aload_n 0, 1) := by decide +kernel
theorem dX8_restore_19 : decode cX8_restore 19 = .ok (.getfield 16, 3) := by decide +kernel
theorem dX8_restore_22 : decode cX8_restore 22 = .ok (.invokevirtual 288, 3) := by decide +kernel
theorem dX8_restore_25 : decode cX8_restore 25 = .ok (.aload_n 0, 1) := by decide +kernel
theorem dX8_restore_26 : decode cX8_restore 26 = .ok (.getfield 12, 3) := by decide +kernel
theorem dX8_restore_29 : decode cX8_restore 29 = .ok (.getfield 188, 3) := by decide +kernel
theorem dX8_restore_32 : decode cX8_restore 32 = .ok (.ireturn, 1) := by decide +kernel
theorem dX8_tell_0 : decode cX8_tell 0 = .ok (.aload_n 0, 1) := by decide +kernel
theorem dX8_tell_1 : decode cX8_tell 1 = .ok (.getfield 12, 3) := by decide +kernel
theorem dX8_tell_4 : decode cX8_tell 4 = .ok (.getfield 294, 3) := by decide +kernel
theorem dX8_tell_7 : decode cX8_tell 7 = .ok (.bipush 20, 2) := by decide +kernel
theorem dX8_tell_9 : decode cX8_tell 9 = .ok (.if_icmp .lt 10, 3) := by decide +kernel
theorem dX8_tell_12 : decode cX8_tell 12 = .ok (.aload_n 0, 1) := by decide +kernel
theorem dX8_tell_13 : decode cX8_tell 13 = .ok (.ldc 101, 2) := by decide +kernel
theorem dX8_tell_15 : decode cX8_tell 15 = .ok (.invokevirtual 66, 3) := by decide +kernel
theorem dX8_tell_18 : decode cX8_tell 18 = .ok (.ireturn, 1) := by decide +kernel
theorem dX8_tell_19 : decode cX8_tell 19 = .ok (.aload_n 0, 1) := by decide +kernel
theorem dX8_tell_20 : decode cX8_tell 20 = .ok (.getfield 12, 3) := by decide +kernel
theorem dX8_tell_23 : decode cX8_tell 23 = .ok (.getfield 297, 3) := by decide +kernel
theorem dX8_tell_26 : decode cX8_tell 26 = .ok (.aload_n 0, 1) := by decide +kernel
theorem dX8_tell_27 : decode cX8_tell 27 = .ok (.getfield 12, 3) := by decide +kernel
theorem dX8_tell_30 : decode cX8_tell 30 = .ok (.getfield 294, 3) := by decide +kernel
theorem dX8_tell_33 : decode cX8_tell 33 = .ok (.iload_n 1, 1) := by decide +kernel
theorem dX8_tell_34 : decode cX8_tell 34 = .ok (.iastore, 1) := by decide +kernel
theorem dX8_tell_35 : decode cX8_tell 35 = .ok (.aload_n 0, 1) := by decide +kernel
theorem dX8_tell_36 : decode cX8_tell 36 = .ok (.getfield 12, 3) := by decide +kernel
theorem dX8_tell_39 : decode cX8_tell 39 = .ok (.dup, 1) := by decide +kernel
theorem dX8_tell_40 : decode cX8_tell 40 = .ok (.getfield 294, 3) := by decide +kernel
theorem dX8_tell_43 : decode cX8_tell 43 = .ok (.iconst 1, 1) := by decide +kernel
theorem dX8_tell_44 : decode cX8_tell 44 = .ok (.iadd, 1) := by decide +kernel
theorem dX8_tell_45 : decode cX8_tell 45 = .ok (.putfield 294, 3) := by decide +kernel
theorem dX8_tell_48 : decode cX8_tell 48 = .ok (.aload_n 0, 1) := by decide +kernel
theorem dX8_tell_49 : decode cX8_tell 49 = .ok (.getfield 12, 3) := by decide +kernel
theorem dX8_tell_52 : decode cX8_tell 52 = .ok (.getfield 294, 3) := by decide +kernel
theorem dX8_tell_55 : decode cX8_tell 55 = .ok (.ireturn, 1) := by decide +kernel
theorem dX8_check_0 : decode cX8_check 0 = .ok (.aload_n 0, 1) := by decide +kernel
theorem dX8_check_1 : decode cX8_check 1 = .ok (.getfield 12, 3) := by decide +kernel
theorem dX8_check_4 : decode cX8_check 4 = .ok (.getfield 294, 3) := by decide +kernel
theorem dX8_check_7 : decode cX8_check 7 = .ok (.istore_n 2, 1) := by decide +kernel
theorem dX8_check_8 : decode cX8_check 8 = .ok (.aload_n 0, 1) := by decide +kernel
theorem dX8_check_9 : decode cX8_check 9 = .ok (.getfield 12, 3) := by decide +kernel
theorem dX8_check_12 : decode cX8_check 12 = .ok (.iconst 0, 1) := by decide +kernel
theorem dX8_check_13 : decode cX8_check 13 = .ok (.putfield 294, 3) := by decide +kernel
theorem dX8_check_16 : decode cX8_check 16 = .ok (.iload_n 1, 1) := by decide +kernel
theorem dX8_check_17 : decode cX8_check 17 = .ok (.invokestatic 57, 3) := by decide +kernel
theorem dX8_check_20 : decode cX8_check 20 = .ok (.ifCond .eq 12, 3) := by decide +kernel
theorem dX8_check_23 : decode cX8_check 23 = .ok (.aload_n 0, 1) := by decide +kernel
theorem dX8_check_24 : decode cX8_check 24 = .ok (.iload_n 1, 1) := by decide +kernel
theorem dX8_check_25 : decode cX8_check 25 = .ok (.iload_n 2, 1) := by decide +kernel
theorem dX8_check_26 : decode cX8_check 26 = .ok (.invokevirtual 300, 3) := by decide +kernel
theorem dX8_check_29 : decode cX8_check 29 = .ok (.goto 9, 3) := by decide +kernel
theorem dX8_check_32 : decode cX8_check 32 = .ok (.aload_n 0, 1) := by decide +kernel
theorem dX8_check_33 : decode cX8_check 33 = .ok (.ldc 65, 2) := by decide +kernel
theorem dX8_check_35 : decode cX8_check 35 = .ok (.invokevirtual 66, 3) := by decide +kernel
theorem dX8_check_38 : decode cX8_check 38 = .ok (.ireturn, 1) := by decide +kernel
theorem dX8_firstUnlike_0 : decode cX8_firstUnlike 0 = .ok (.aload_n 0, 1) := by decide +kernel
theorem dX8_firstUnlike_1 : decode cX8_firstUnlike 1 = .ok (.getfield 12, 3) := by decide +kernel
theorem dX8_firstUnlike_4 : decode cX8_firstUnlike 4 = .ok (.getfield 81, 3) := by decide +kernel
theorem dX8_firstUnlike_7 : decode cX8_firstUnlike 7 = .ok (.astore_n 3, 1) := by decide +kernel
theorem dX8_firstUnlike_8 : decode cX8_firstUnlike 8 = .ok (.aload_n 3, 1) := by decide +kernel
theorem dX8_firstUnlike_9 : decode cX8_firstUnlike 9 = .ok (.invokevirtual 142, 3) := by decide +kernel
theorem dX8_firstUnlike_12 : decode cX8_firstUnlike 12 = .ok (.aload_n 3, 1) := by decide +kernel
theorem dX8_firstUnlike_13 : decode cX8_firstUnlike 13 = .ok (.invokevirtual 303, 3) := by decide +kernel
theorem dX8_firstUnlike_16 : decode cX8_firstUnlike 16 = .ok (.istore 4, 2) := by decide +kernel
theorem dX8_firstUnlike_18 : decode cX8_firstUnlike 18 = .ok (.aload_n 0, 1) := by decide +kernel
theorem dX8_firstUnlike_19 : decode cX8_firstUnlike 19 = .ok (.getfield 12, 3) := by decide +kernel
theorem dX8_firstUnlike_22 : decode cX8_firstUnlike 22 = .ok (.getfield 21, 3) := by decide +kernel
theorem dX8_firstUnlike_25 : decode cX8_firstUnlike 25 = .ok (.getfield 239, 3) := by decide +kernel
theorem dX8_firstUnlike_28 : decode cX8_firstUnlike 28 = .ok (.istore 5, 2) := by decide +kernel
theorem dX8_firstUnlike_30 : decode cX8_firstUnlike 30 = .ok (.iconst 0, 1) := by decide +kernel
theorem dX8_firstUnlike_31 : decode cX8_firstUnlike 31 = .ok (.istore 6, 2) := by decide +kernel
theorem dX8_firstUnlike_33 : decode cX8_firstUnlike 33 = .ok (.iload 6, 2) := by decide +kernel
theorem dX8_firstUnlike_35 : decode cX8_firstUnlike 35 = .ok (.iload 5, 2) := by decide +kernel
theorem dX8_firstUnlike_37 : decode cX8_firstUnlike 37 = .ok (.if_icmp .ge 53, 3) := by decide +kernel
theorem dX8_firstUnlike_40 : decode cX8_firstUnlike 40 = .ok (.aload_n 3, 1) := by decide +kernel
theorem dX8_firstUnlike_41 : decode cX8_firstUnlike 41 = .ok (.iload 6, 2) := by decide +kernel
theorem dX8_firstUnlike_43 : decode cX8_firstUnlike 43 = .ok (.iload_n 1, 1) := by decide +kernel
theorem dX8_firstUnlike_44 : decode cX8_firstUnlike 44 = .ok (.iload 4, 2) := by decide +kernel
theorem dX8_firstUnlike_46 : decode cX8_firstUnlike 46 = .ok (.invokevirtual 152, 3) := by decide +kernel
theorem dX8_firstUnlike_49 : decode cX8_firstUnlike 49 = .ok (.istore 7, 2) := by decide +kernel
theorem dX8_firstUnlike_51 : decode cX8_firstUnlike 51 = .ok (.iload 6, 2) := by decide +kernel
theorem dX8_firstUnlike_53 : decode cX8_firstUnlike 53 = .ok (.iload_n 2, 1) := by decide +kernel
theorem dX8_firstUnlike_54 : decode cX8_firstUnlike 54 = .ok (.if_icmp .ge 18, 3) := by decide +kernel
theorem dX8_firstUnlike_57 : decode cX8_firstUnlike 57 = .ok (.aload_n 0, 1) := by decide +kernel
theorem dX8_firstUnlike_58 : decode cX8_firstUnlike 58 = .ok (.getfield 12, 3) := by decide +kernel
theorem dX8_firstUnlike_61 : decode cX8_firstUnlike 61 = .ok (.getfield 297, 3) := by decide +kernel
theorem dX8_firstUnlike_64 : decode cX8_firstUnlike 64 = .ok (.iload 6, 2) := by decide +kernel
theorem dX8_firstUnlike_66 : decode cX8_firstUnlike 66 = .ok (.iaload, 1) := by decide +kernel
theorem dX8_firstUnlike_67 : decode cX8_firstUnlike 67 = .ok (.iload 7, 2) := by decide +kernel
theorem dX8_firstUnlike_69 : decode cX8_firstUnlike 69 = .ok (.if_icmp .eq 8, 3) := by decide +kernel
theorem dX8_firstUnlike_72 : decode cX8_firstUnlike 72 = .ok (.iconst 1, 1) := by decide +kernel
theorem dX8_firstUnlike_73 : decode cX8_firstUnlike 73 = .ok (.iload 6, 2) := by decide +kernel
theorem dX8_firstUnlike_75 : decode cX8_firstUnlike 75 = .ok (.iadd, 1) := by decide +kernel
theorem dX8_firstUnlike_76 : decode cX8_firstUnlike 76 = .ok (.ireturn, 1) := by decide +kernel
theorem dX8_firstUnlike_77 : decode cX8_firstUnlike 77 = .ok (.iload 4, 2) := by decide +kernel
theorem dX8_firstUnlike_79 : decode cX8_firstUnlike 79 = .ok (.iload 7, 2) := by decide +kernel
theorem dX8_firstUnlike_81 : decode cX8_firstUnlike 81 = .ok (.isub, 1) := by decide +kernel
theorem dX8_firstUnlike_82 : decode cX8_firstUnlike 82 = .ok (.istore 4, 2) := by decide +kernel
theorem dX8_firstUnlike_84 : decode cX8_firstUnlike 84 = .ok (.iinc 6 1, 3) := by decide +kernel
theorem dX8_firstUnlike_87 : decode cX8_firstUnlike 87 = .ok (.goto (-54), 3) := by decide +kernel
theorem dX8_firstUnlike_90 : decode cX8_firstUnlike 90 = .ok (.iload_n 2, 1) := by decide +kernel
theorem dX8_firstUnlike_91 : decode cX8_firstUnlike 91 = .ok (.iload 5, 2) := by decide +kernel
theorem dX8_firstUnlike_93 : decode cX8_firstUnlike 93 = .ok (.if_icmp .le 10, 3) := by decide +kernel
theorem dX8_firstUnlike_96 : decode cX8_firstUnlike 96 = .ok (.iconst 1, 1) := by decide +kernel
theorem dX8_firstUnlike_97 : decode cX8_firstUnlike 97 = .ok (.iload 5, 2) := by decide +kernel
theorem dX8_firstUnlike_99 : decode cX8_firstUnlike 99 = .ok (.iadd, 1) := by decide +kernel
theorem dX8_firstUnlike_100 : decode cX8_firstUnlike 100 = .ok (.goto 4, 3) := by decide +kernel
theorem dX8_firstUnlike_103 : decode cX8_firstUnlike 103 = .ok (.iconst 0, 1) := by decide +kernel
theorem dX8_firstUnlike_104 : decode cX8_firstUnlike 104 = .ok (.ireturn, 1) := by decide +kernel
theorem dX8_count_0 : decode cX8_count 0 = .ok (.iload_n 1, 1) := by decide +kernel
theorem dX8_count_1 : decode cX8_count 1 = .ok (.tableswitch 124 0 10 #[59, 67, 78, 78, 78, 78, 78, 92, 100, 108, 116], 59) := by decide +kernel
theorem dX8_count_60 : decode cX8_count 60 = .ok (.aload_n 0, 1) := by decide +kernel
theorem dX8_count_61 : decode cX8_count 61 = .ok (.getfield 12, 3) := by decide +kernel
theorem dX8_count_64 : decode cX8_count 64 = .ok (.getfield 188, 3) := by decide +kernel
theorem dX8_count_67 : decode cX8_count 67 = .ok (.ireturn, 1) := by decide +kernel
theorem dX8_count_68 : decode cX8_count 68 = .ok (.aload_n 0, 1) := by decide +kernel
theorem dX8_count_69 : decode cX8_count 69 = .ok (.getfield 12, 3) := by decide +kernel
theorem dX8_count_72 : decode cX8_count 72 = .ok (.getfield 21, 3) := by decide +kernel
theorem dX8_count_75 : decode cX8_count 75 = .ok (.getfield 239, 3) := by decide +kernel
theorem dX8_count_78 : decode cX8_count 78 = .ok (.ireturn, 1) := by decide +kernel
theorem dX8_count_79 : decode cX8_count 79 = .ok (.aload_n 0, 1) := by decide +kernel
theorem dX8_count_80 : decode cX8_count 80 = .ok (.getfield 12, 3) := by decide +kernel
theorem dX8_count_83 : decode cX8_count 83 = .ok (.getfield 81, 3) := by decide +kernel
theorem dX8_count_86 : decode cX8_count 86 = .ok (.iload_n 1, 1) := by decide +kernel
theorem dX8_count_87 : decode cX8_count 87 = .ok (.iconst 2, 1) := by decide +kernel
theorem dX8_count_88 : decode cX8_count 88 = .ok (.isub, 1) := by decide +kernel
theorem dX8_count_89 : decode cX8_count 89 = .ok (.invokevirtual 85, 3) := by decide +kernel
theorem dX8_count_92 : decode cX8_count 92 = .ok (.ireturn, 1) := by decide +kernel
theorem dX8_count_93 : decode cX8_count 93 = .ok (.aload_n 0, 1) := by decide +kernel
theorem dX8_count_94 : decode cX8_count 94 = .ok (.getfield 12, 3) := by decide +kernel
theorem dX8_count_97 : decode cX8_count 97 = .ok (.getfield 155, 3) := by decide +kernel
theorem dX8_count_100 : decode cX8_count 100 = .ok (.ireturn, 1) := by decide +kernel
theorem dX8_count_101 : decode cX8_count 101 = .ok (.aload_n 0, 1) := by decide +kernel
theorem dX8_count_102 : decode cX8_count 102 = .ok (.getfield 12, 3) := by decide +kernel
theorem dX8_count_105 : decode cX8_count 105 = .ok (.getfield 294, 3) := by decide +kernel
theorem dX8_count_108 : decode cX8_count 108 = .ok (.ireturn, 1) := by decide +kernel
theorem dX8_count_109 : decode cX8_count 109 = .ok (.aload_n 0, 1) := by decide +kernel
theorem dX8_count_110 : decode cX8_count 110 = .ok (.getfield 35, 3) := by decide +kernel
theorem dX8_count_113 : decode cX8_count 113 = .ok (.getfield 263, 3) := by decide +kernel
theorem dX8_count_116 : decode cX8_count 116 = .ok (.ireturn, 1) := by decide +kernel
theorem dX8_count_117 : decode cX8_count 117 = .ok (.aload_n 0, 1) := by decide +kernel
theorem dX8_count_118 : decode cX8_count 118 = .ok (.getfield 12, 3) := by decide +kernel
theorem dX8_count_121 : decode cX8_count 121 = .ok (.getfield 256, 3) := by decide +kernel
theorem dX8_count_124 : decode cX8_count 124 = .ok (.ireturn, 1) := by decide +kernel
theorem dX8_count_125 : decode cX8_count 125 = .ok (.aload_n 0, 1) := by decide +kernel
theorem dX8_count_126 : decode cX8_count 126 = .ok (.ldc 65, 2) := by decide +kernel
theorem dX8_count_128 : decode cX8_count 128 = .ok (.invokevirtual 66, 3) := by decide +kernel
theorem dX8_count_131 : decode cX8_count 131 = .ok (.ireturn, 1) := by decide +kernel
theorem dX8_told_0 : decode cX8_told 0 = .ok (.iload_n 1, 1) := by decide +kernel
theorem dX8_told_1 : decode cX8_told 1 = .ok (.iconst 1, 1) := by decide +kernel
theorem dX8_told_2 : decode cX8_told 2 = .ok (.iconst 5, 1) := by decide +kernel
theorem dX8_told_3 : decode cX8_told 3 = .ok (.invokestatic 61, 3) := by decide +kernel
theorem dX8_told_6 : decode cX8_told 6 = .ok (.ifCond .eq 12, 3) := by decide +kernel
theorem dX8_told_9 : decode cX8_told 9 = .ok (.aload_n 0, 1) := by decide +kernel
theorem dX8_told_10 : decode cX8_told 10 = .ok (.getfield 52, 3) := by decide +kernel
theorem dX8_told_13 : decode cX8_told 13 = .ok (.iload_n 1, 1) := by decide +kernel
theorem dX8_told_14 : decode cX8_told 14 = .ok (.iaload, 1) := by decide +kernel
theorem dX8_told_15 : decode cX8_told 15 = .ok (.goto 9, 3) := by decide +kernel
theorem dX8_told_18 : decode cX8_told 18 = .ok (.aload_n 0, 1) := by decide +kernel
theorem dX8_told_19 : decode cX8_told 19 = .ok (.ldc 65, 2) := by decide +kernel
theorem dX8_told_21 : decode cX8_told 21 = .ok (.invokevirtual 66, 3) := by decide +kernel
theorem dX8_told_24 : decode cX8_told 24 = .ok (.ireturn, 1) := by decide +kernel
theorem dX8_fails_0 : decode cX8_fails 0 = .ok (.ldc_w 306, 3) := by decide +kernel
theorem dX8_fails_3 : decode cX8_fails 3 = .ok (.iload_n 1, 1) := by decide +kernel
theorem dX8_fails_4 : decode cX8_fails 4 = .ok (.isub, 1) := by decide +kernel
theorem dX8_fails_5 : decode cX8_fails 5 = .ok (.istore_n 2, 1) := by decide +kernel
theorem dX8_fails_6 : decode cX8_fails 6 = .ok (.iload_n 2, 1) := by decide +kernel
theorem dX8_fails_7 : decode cX8_fails 7 = .ok (.iconst 1, 1) := by decide +kernel
theorem dX8_fails_8 : decode cX8_fails 8 = .ok (.iconst 5, 1) := by decide +kernel
theorem dX8_fails_9 : decode cX8_fails 9 = .ok (.invokestatic 61, 3) := by decide +kernel
theorem dX8_fails_12 : decode cX8_fails 12 = .ok (.ifCond .eq 13, 3) := by decide +kernel
theorem dX8_fails_15 : decode cX8_fails 15 = .ok (.aload_n 0, 1) := by decide +kernel
theorem dX8_fails_16 : decode cX8_fails 16 = .ok (.getfield 52, 3) := by decide +kernel
theorem dX8_fails_19 : decode cX8_fails 19 = .ok (.iload_n 2, 1) := by decide +kernel
theorem dX8_fails_20 : decode cX8_fails 20 = .ok (.dup2, 1) := by decide +kernel
theorem dX8_fails_21 : decode cX8_fails 21 = .ok (.iaload, 1) := by decide +kernel
theorem dX8_fails_22 : decode cX8_fails 22 = .ok (.iconst 1, 1) := by decide +kernel
theorem dX8_fails_23 : decode cX8_fails 23 = .ok (.iadd, 1) := by decide +kernel
theorem dX8_fails_24 : decode cX8_fails 24 = .ok (.iastore, 1) := by decide +kernel
theorem dX8_fails_25 : decode cX8_fails 25 = .ok (.iload_n 1, 1) := by decide +kernel
theorem dX8_fails_26 : decode cX8_fails 26 = .ok (.ireturn, 1) := by decide +kernel
theorem dX8_sheetAt_0 : decode cX8_sheetAt 0 = .ok (.iload_n 1, 1) := by decide +kernel
theorem dX8_sheetAt_1 : decode cX8_sheetAt 1 = .ok (.iconst 0, 1) := by decide +kernel
theorem dX8_sheetAt_2 : decode cX8_sheetAt 2 = .ok (.iconst 3, 1) := by decide +kernel
theorem dX8_sheetAt_3 : decode cX8_sheetAt 3 = .ok (.invokestatic 61, 3) := by decide +kernel
theorem dX8_sheetAt_6 : decode cX8_sheetAt 6 = .ok (.ifCond .eq 12, 3) := by decide +kernel
theorem dX8_sheetAt_9 : decode cX8_sheetAt 9 = .ok (.aload_n 0, 1) := by decide +kernel
theorem dX8_sheetAt_10 : decode cX8_sheetAt 10 = .ok (.getfield 48, 3) := by decide +kernel
theorem dX8_sheetAt_13 : decode cX8_sheetAt 13 = .ok (.iload_n 1, 1) := by decide +kernel
theorem dX8_sheetAt_14 : decode cX8_sheetAt 14 = .ok (.aaload, 1) := by decide +kernel
theorem dX8_sheetAt_15 : decode cX8_sheetAt 15 = .ok (.goto 4, 3) := by decide +kernel
theorem dX8_sheetAt_18 : decode cX8_sheetAt 18 = .ok (.aconst_null, 1) := by decide +kernel
theorem dX8_sheetAt_19 : decode cX8_sheetAt 19 = .ok (.areturn, 1) := by decide +kernel
theorem dX8_isWithin_0 : decode cX8_isWithin 0 = .ok (.iload_n 0, 1) := by decide +kernel
theorem dX8_isWithin_1 : decode cX8_isWithin 1 = .ok (.iload_n 1, 1) := by decide +kernel
theorem dX8_isWithin_2 : decode cX8_isWithin 2 = .ok (.if_icmp .lt 12, 3) := by decide +kernel
theorem dX8_isWithin_5 : decode cX8_isWithin 5 = .ok (.iload_n 0, 1) := by decide +kernel
theorem dX8_isWithin_6 : decode cX8_isWithin 6 = .ok (.iload_n 2, 1) := by decide +kernel
theorem dX8_isWithin_7 : decode cX8_isWithin 7 = .ok (.if_icmp .gt 7, 3) := by decide +kernel
theorem dX8_isWithin_10 : decode cX8_isWithin 10 = .ok (.iconst 1, 1) := by decide +kernel
theorem dX8_isWithin_11 : decode cX8_isWithin 11 = .ok (.goto 4, 3) := by decide +kernel
theorem dX8_isWithin_14 : decode cX8_isWithin 14 = .ok (.iconst 0, 1) := by decide +kernel
theorem dX8_isWithin_15 : decode cX8_isWithin 15 = .ok (.ireturn, 1) := by decide +kernel
theorem dX8_isStep_0 : decode cX8_isStep 0 = .ok (.iload_n 0, 1) := by decide +kernel
theorem dX8_isStep_1 : decode cX8_isStep 1 = .ok (.iconst 0, 1) := by decide +kernel
theorem dX8_isStep_2 : decode cX8_isStep 2 = .ok (.bipush 9, 2) := by decide +kernel
theorem dX8_isStep_4 : decode cX8_isStep 4 = .ok (.invokestatic 61, 3) := by decide +kernel
theorem dX8_isStep_7 : decode cX8_isStep 7 = .ok (.ireturn, 1) := by decide +kernel
theorem dX8_isBuyerAsTold_0 : decode cX8_isBuyerAsTold 0 = .ok (.iload_n 0, 1) := by decide +kernel
theorem dX8_isBuyerAsTold_1 : decode cX8_isBuyerAsTold 1 = .ok (.iconst 0, 1) := by decide +kernel
theorem dX8_isBuyerAsTold_2 : decode cX8_isBuyerAsTold 2 = .ok (.bipush 6, 2) := by decide +kernel
theorem dX8_isBuyerAsTold_4 : decode cX8_isBuyerAsTold 4 = .ok (.invokestatic 61, 3) := by decide +kernel
theorem dX8_isBuyerAsTold_7 : decode cX8_isBuyerAsTold 7 = .ok (.ifCond .eq 28, 3) := by decide +kernel
theorem dX8_isBuyerAsTold_10 : decode cX8_isBuyerAsTold 10 = .ok (.iload_n 1, 1) := by decide +kernel
theorem dX8_isBuyerAsTold_11 : decode cX8_isBuyerAsTold 11 = .ok (.iconst 0, 1) := by decide +kernel
theorem dX8_isBuyerAsTold_12 : decode cX8_isBuyerAsTold 12 = .ok (.sipush 9999, 3) := by decide +kernel
theorem dX8_isBuyerAsTold_15 : decode cX8_isBuyerAsTold 15 = .ok (.invokestatic 61, 3) := by decide +kernel
theorem dX8_isBuyerAsTold_18 : decode cX8_isBuyerAsTold 18 = .ok (.ifCond .eq 17, 3) := by decide +kernel
theorem dX8_isBuyerAsTold_21 : decode cX8_isBuyerAsTold 21 = .ok (.iload_n 2, 1) := by decide +kernel
theorem dX8_isBuyerAsTold_22 : decode cX8_isBuyerAsTold 22 = .ok (.iconst 1, 1) := by decide +kernel
theorem dX8_isBuyerAsTold_23 : decode cX8_isBuyerAsTold 23 = .ok (.bipush 9, 2) := by decide +kernel
theorem dX8_isBuyerAsTold_25 : decode cX8_isBuyerAsTold 25 = .ok (.invokestatic 61, 3) := by decide +kernel
theorem dX8_isBuyerAsTold_28 : decode cX8_isBuyerAsTold 28 = .ok (.ifCond .eq 7, 3) := by decide +kernel
theorem dX8_isBuyerAsTold_31 : decode cX8_isBuyerAsTold 31 = .ok (.iconst 1, 1) := by decide +kernel
theorem dX8_isBuyerAsTold_32 : decode cX8_isBuyerAsTold 32 = .ok (.goto 4, 3) := by decide +kernel
theorem dX8_isBuyerAsTold_35 : decode cX8_isBuyerAsTold 35 = .ok (.iconst 0, 1) := by decide +kernel
theorem dX8_isBuyerAsTold_36 : decode cX8_isBuyerAsTold 36 = .ok (.ireturn, 1) := by decide +kernel
theorem dX8_held_0 : decode cX8_held 0 = .ok (.iload_n 1, 1) := by decide +kernel
theorem dX8_held_1 : decode cX8_held 1 = .ok (.iload_n 2, 1) := by decide +kernel
theorem dX8_held_2 : decode cX8_held 2 = .ok (.iload_n 0, 1) := by decide +kernel
theorem dX8_held_3 : decode cX8_held 3 = .ok (.invokestatic 307, 3) := by decide +kernel
theorem dX8_held_6 : decode cX8_held 6 = .ok (.invokestatic 312, 3) := by decide +kernel
theorem dX8_held_9 : decode cX8_held 9 = .ok (.ireturn, 1) := by decide +kernel
theorem dX8_isOf_0 : decode cX8_isOf 0 = .ok (.iload_n 0, 1) := by decide +kernel
theorem dX8_isOf_1 : decode cX8_isOf 1 = .ok (.istore_n 2, 1) := by decide +kernel
theorem dX8_isOf_2 : decode cX8_isOf 2 = .ok (.iconst 0, 1) := by decide +kernel
theorem dX8_isOf_3 : decode cX8_isOf 3 = .ok (.istore_n 3, 1) := by decide +kernel
theorem dX8_isOf_4 : decode cX8_isOf 4 = .ok (.iload_n 3, 1) := by decide +kernel
theorem dX8_isOf_5 : decode cX8_isOf 5 = .ok (.bipush 7, 2) := by decide +kernel
theorem dX8_isOf_7 : decode cX8_isOf 7 = .ok (.if_icmp .ge 32, 3) := by decide +kernel
theorem dX8_isOf_10 : decode cX8_isOf 10 = .ok (.iload_n 2, 1) := by decide +kernel
theorem dX8_isOf_11 : decode cX8_isOf 11 = .ok (.iconst 0, 1) := by decide +kernel
theorem dX8_isOf_12 : decode cX8_isOf 12 = .ok (.bipush 6, 2) := by decide +kernel
theorem dX8_isOf_14 : decode cX8_isOf 14 = .ok (.invokestatic 61, 3) := by decide +kernel
theorem dX8_isOf_17 : decode cX8_isOf 17 = .ok (.ifCond .eq 22, 3) := by decide +kernel
theorem dX8_isOf_20 : decode cX8_isOf 20 = .ok (.iload_n 2, 1) := by decide +kernel
theorem dX8_isOf_21 : decode cX8_isOf 21 = .ok (.iload_n 1, 1) := by decide +kernel
theorem dX8_isOf_22 : decode cX8_isOf 22 = .ok (.if_icmp .ne 5, 3) := by decide +kernel
theorem dX8_isOf_25 : decode cX8_isOf 25 = .ok (.iconst 1, 1) := by decide +kernel
theorem dX8_isOf_26 : decode cX8_isOf 26 = .ok (.ireturn, 1) := by decide +kernel
theorem dX8_isOf_27 : decode cX8_isOf 27 = .ok (.getstatic 315, 3) := by decide +kernel
theorem dX8_isOf_30 : decode cX8_isOf 30 = .ok (.iload_n 2, 1) := by decide +kernel
theorem dX8_isOf_31 : decode cX8_isOf 31 = .ok (.iaload, 1) := by decide +kernel
theorem dX8_isOf_32 : decode cX8_isOf 32 = .ok (.istore_n 2, 1) := by decide +kernel
theorem dX8_isOf_33 : decode cX8_isOf 33 = .ok (.iinc 3 1, 3) := by decide +kernel
theorem dX8_isOf_36 : decode cX8_isOf 36 = .ok (.goto (-32), 3) := by decide +kernel
theorem dX8_isOf_39 : decode cX8_isOf 39 = .ok (.iconst 0, 1) := by decide +kernel
theorem dX8_isOf_40 : decode cX8_isOf 40 = .ok (.ireturn, 1) := by decide +kernel
theorem dX9_init_0 : decode cX9_init 0 = .ok (.aload_n 0, 1) := by decide +kernel
theorem dX9_init_1 : decode cX9_init 1 = .ok (.invokespecial 3, 3) := by decide +kernel
theorem dX9_init_4 : decode cX9_init 4 = .ok (.aload_n 0, 1) := by decide +kernel
theorem dX9_init_5 : decode cX9_init 5 = .ok (.sipush 227, 3) := by decide +kernel
theorem dX9_init_8 : decode cX9_init 8 = .ok (.newarray .int, 2) := by decide +kernel
theorem dX9_init_10 : decode cX9_init 10 = .ok (.putfield 9, 3) := by decide +kernel
theorem dX9_init_13 : decode cX9_init 13 = .ok (.aload_n 0, 1) := by decide +kernel
theorem dX9_init_14 : decode cX9_init 14 = .ok (.sipush 227, 3) := by decide +kernel
theorem dX9_init_17 : decode cX9_init 17 = .ok (.newarray .int, 2) := by decide +kernel
theorem dX9_init_19 : decode cX9_init 19 = .ok (.putfield 13, 3) := by decide +kernel
theorem dX9_init_22 : decode cX9_init 22 = .ok (.aload_n 0, 1) := by decide +kernel
theorem dX9_init_23 : decode cX9_init 23 = .ok (.sipush 227, 3) := by decide +kernel
theorem dX9_init_26 : decode cX9_init 26 = .ok (.newarray .int, 2) := by decide +kernel
theorem dX9_init_28 : decode cX9_init 28 = .ok (.putfield 16, 3) := by decide +kernel
theorem dX9_init_31 : decode cX9_init 31 = .ok (.aload_n 0, 1) := by decide +kernel
theorem dX9_init_32 : decode cX9_init 32 = .ok (.bipush 6, 2) := by decide +kernel
theorem dX9_init_34 : decode cX9_init 34 = .ok (.newarray .int, 2) := by decide +kernel
theorem dX9_init_36 : decode cX9_init 36 = .ok (.putfield 19, 3) := by decide +kernel
theorem dX9_init_39 : decode cX9_init 39 = .ok (.aload_n 0, 1) := by decide +kernel
theorem dX9_init_40 : decode cX9_init 40 = .ok (.bipush 6, 2) := by decide +kernel
theorem dX9_init_42 : decode cX9_init 42 = .ok (.newarray .int, 2) := by decide +kernel
theorem dX9_init_44 : decode cX9_init 44 = .ok (.dup, 1) := by decide +kernel
theorem dX9_init_45 : decode cX9_init 45 = .ok (.iconst 0, 1) := by decide +kernel
theorem dX9_init_46 : decode cX9_init 46 = .ok (.bipush 9, 2) := by decide +kernel
theorem dX9_init_48 : decode cX9_init 48 = .ok (.iastore, 1) := by decide +kernel
theorem dX9_init_49 : decode cX9_init 49 = .ok (.dup, 1) := by decide +kernel
theorem dX9_init_50 : decode cX9_init 50 = .ok (.iconst 1, 1) := by decide +kernel
theorem dX9_init_51 : decode cX9_init 51 = .ok (.bipush 12, 2) := by decide +kernel
theorem dX9_init_53 : decode cX9_init 53 = .ok (.iastore, 1) := by decide +kernel
theorem dX9_init_54 : decode cX9_init 54 = .ok (.dup, 1) := by decide +kernel
theorem dX9_init_55 : decode cX9_init 55 = .ok (.iconst 2, 1) := by decide +kernel
theorem dX9_init_56 : decode cX9_init 56 = .ok (.bipush 20, 2) := by decide +kernel
theorem dX9_init_58 : decode cX9_init 58 = .ok (.iastore, 1) := by decide +kernel
theorem dX9_init_59 : decode cX9_init 59 = .ok (.dup, 1) := by decide +kernel
theorem dX9_init_60 : decode cX9_init 60 = .ok (.iconst 3, 1) := by decide +kernel
theorem dX9_init_61 : decode cX9_init 61 = .ok (.bipush 60, 2) := by decide +kernel
theorem dX9_init_63 : decode cX9_init 63 = .ok (.iastore, 1) := by decide +kernel
theorem dX9_init_64 : decode cX9_init 64 = .ok (.dup, 1) := by decide +kernel
theorem dX9_init_65 : decode cX9_init 65 = .ok (.iconst 4, 1) := by decide +kernel
theorem dX9_init_66 : decode cX9_init 66 = .ok (.ldc 22, 2) := by decide +kernel
theorem dX9_init_68 : decode cX9_init 68 = .ok (.iastore, 1) := by decide +kernel
theorem dX9_init_69 : decode cX9_init 69 = .ok (.dup, 1) := by decide +kernel
theorem dX9_init_70 : decode cX9_init 70 = .ok (.iconst 5, 1) := by decide +kernel
theorem dX9_init_71 : decode cX9_init 71 = .ok (.sipush 999, 3) := by decide +kernel
theorem dX9_init_74 : decode cX9_init 74 = .ok (.iastore, 1) := by decide +kernel
theorem dX9_init_75 : decode cX9_init 75 = .ok (.putfield 23, 3) := by decide +kernel
theorem dX9_init_78 : decode cX9_init 78 = .ok (.aload_n 0, 1) := by decide +kernel
theorem dX9_init_79 : decode cX9_init 79 = .ok (.iconst 2, 1) := by decide +kernel
theorem dX9_init_80 : decode cX9_init 80 = .ok (.anewarray 26, 3) := by decide +kernel
theorem dX9_init_83 : decode cX9_init 83 = .ok (.dup, 1) := by decide +kernel
theorem dX9_init_84 : decode cX9_init 84 = .ok (.iconst 0, 1) := by decide +kernel
theorem dX9_init_85 : decode cX9_init 85 = .ok (.ldc 28, 2) := by decide +kernel
theorem dX9_init_87 : decode cX9_init 87 = .ok (.aastore, 1) := by decide +kernel
theorem dX9_init_88 : decode cX9_init 88 = .ok (.dup, 1) := by decide +kernel
theorem dX9_init_89 : decode cX9_init 89 = .ok (.iconst 1, 1) := by decide +kernel
theorem dX9_init_90 : decode cX9_init 90 = .ok (.ldc 30, 2) := by decide +kernel
theorem dX9_init_92 : decode cX9_init 92 = .ok (.aastore, 1) := by decide +kernel
theorem dX9_init_93 : decode cX9_init 93 = .ok (.putfield 32, 3) := by decide +kernel
theorem dX9_init_96 : decode cX9_init 96 = .ok (.aload_n 0, 1) := by decide +kernel
theorem dX9_init_97 : decode cX9_init 97 = .ok (.bipush 60, 2) := by decide +kernel
theorem dX9_init_99 : decode cX9_init 99 = .ok (.newarray .int, 2) := by decide +kernel
theorem dX9_init_101 : decode cX9_init 101 = .ok (.putfield 36, 3) := by decide +kernel
theorem dX9_init_104 : decode cX9_init 104 = .ok (.aload_n 0, 1) := by decide +kernel
theorem dX9_init_105 : decode cX9_init 105 = .ok (.iconst 4, 1) := by decide +kernel
theorem dX9_init_106 : decode cX9_init 106 = .ok (.newarray .int, 2) := by decide +kernel
theorem dX9_init_108 : decode cX9_init 108 = .ok (.putfield 39, 3) := by decide +kernel
theorem dX9_init_111 : decode cX9_init 111 = .ok (.aload_n 0, 1) := by decide +kernel
theorem dX9_init_112 : decode cX9_init 112 = .ok (.bipush 60, 2) := by decide +kernel
theorem dX9_init_114 : decode cX9_init 114 = .ok (.newarray .int, 2) := by decide +kernel
theorem dX9_init_116 : decode cX9_init 116 = .ok (.putfield 42, 3) := by decide +kernel
theorem dX9_init_119 : decode cX9_init 119 = .ok (.aload_n 0, 1) := by decide +kernel
theorem dX9_init_120 : decode cX9_init 120 = .ok (.bipush 8, 2) := by decide +kernel
theorem dX9_init_122 : decode cX9_init 122 = .ok (.newarray .int, 2) := by decide +kernel
theorem dX9_init_124 : decode cX9_init 124 = .ok (.putfield 45, 3) := by decide +kernel
theorem dX9_init_127 : decode cX9_init 127 = .ok (.aload_n 0, 1) := by decide +kernel
theorem dX9_init_128 : decode cX9_init 128 = .ok (.iconst 3, 1) := by decide +kernel
theorem dX9_init_129 : decode cX9_init 129 = .ok (.newarray .int, 2) := by decide +kernel
theorem dX9_init_131 : decode cX9_init 131 = .ok (.putfield 48, 3) := by decide +kernel
theorem dX9_init_134 : decode cX9_init 134 = .ok (.aload_n 0, 1) := by decide +kernel
theorem dX9_init_135 : decode cX9_init 135 = .ok (.bipush 40, 2) := by decide +kernel
theorem dX9_init_137 : decode cX9_init 137 = .ok (.newarray .int, 2) := by decide +kernel
theorem dX9_init_139 : decode cX9_init 139 = .ok (.putfield 51, 3) := by decide +kernel
theorem dX9_init_142 : decode cX9_init 142 = .ok (.aload_n 0, 1) := by decide +kernel
theorem dX9_init_143 : decode cX9_init 143 = .ok (.iconst 4, 1) := by decide +kernel
theorem dX9_init_144 : decode cX9_init 144 = .ok (.newarray .int, 2) := by decide +kernel
theorem dX9_init_146 : decode cX9_init 146 = .ok (.putfield 54, 3) := by decide +kernel
theorem dX9_init_149 : decode cX9_init 149 = .ok (.aload_n 0, 1) := by decide +kernel
theorem dX9_init_150 : decode cX9_init 150 = .ok (.iconst 4, 1) := by decide +kernel
theorem dX9_init_151 : decode cX9_init 151 = .ok (.newarray .int, 2) := by decide +kernel
theorem dX9_init_153 : decode cX9_init 153 = .ok (.putfield 57, 3) := by decide +kernel
theorem dX9_init_156 : decode cX9_init 156 = .ok (.aload_n 0, 1) := by decide +kernel
theorem dX9_init_157 : decode cX9_init 157 = .ok (.sipush 160, 3) := by decide +kernel
theorem dX9_init_160 : decode cX9_init 160 = .ok (.newarray .int, 2) := by decide +kernel
theorem dX9_init_162 : decode cX9_init 162 = .ok (.putfield 60, 3) := by decide +kernel
theorem dX9_init_165 : decode cX9_init 165 = .ok (.aload_n 0, 1) := by decide +kernel
theorem dX9_init_166 : decode cX9_init 166 = .ok (.bipush 40, 2) := by decide +kernel
theorem dX9_init_168 : decode cX9_init 168 = .ok (.newarray .int, 2) := by decide +kernel
theorem dX9_init_170 : decode cX9_init 170 = .ok (.putfield 63, 3) := by decide +kernel
theorem dX9_init_173 : decode cX9_init 173 = .ok (.aload_n 0, 1) := by decide +kernel
theorem dX9_init_174 : decode cX9_init 174 = .ok (.getfield 9, 3) := by decide +kernel
theorem dX9_init_177 : decode cX9_init 177 = .ok (.iconst 3, 1) := by decide +kernel
theorem dX9_init_178 : decode cX9_init 178 = .ok (.bipush 6, 2) := by decide +kernel
theorem dX9_init_180 : decode cX9_init 180 = .ok (.iastore, 1) := by decide +kernel
theorem dX9_init_181 : decode cX9_init 181 = .ok (.aload_n 0, 1) := by decide +kernel
theorem dX9_init_182 : decode cX9_init 182 = .ok (.getfield 9, 3) := by decide +kernel
theorem dX9_init_185 : decode cX9_init 185 = .ok (.iconst 4, 1) := by decide +kernel
theorem dX9_init_186 : decode cX9_init 186 = .ok (.bipush 9, 2) := by decide +kernel
theorem dX9_init_188 : decode cX9_init 188 = .ok (.iastore, 1) := by decide +kernel
theorem dX9_init_189 : decode cX9_init 189 = .ok (.aload_n 0, 1) := by decide +kernel
theorem dX9_init_190 : decode cX9_init 190 = .ok (.getfield 9, 3) := by decide +kernel
theorem dX9_init_193 : decode cX9_init 193 = .ok (.bipush 10, 2) := by decide +kernel
theorem dX9_init_195 : decode cX9_init 195 = .ok (.iconst 1, 1) := by decide +kernel
theorem dX9_init_196 : decode cX9_init 196 = .ok (.iastore, 1) := by decide +kernel
theorem dX9_init_197 : decode cX9_init 197 = .ok (.iconst 0, 1) := by decide +kernel
theorem dX9_init_198 : decode cX9_init 198 = .ok (.istore_n 1, 1) := by decide +kernel
theorem dX9_init_199 : decode cX9_init 199 = .ok (.iload_n 1, 1) := by decide +kernel
theorem dX9_init_200 : decode cX9_init 200 = .ok (.bipush 10, 2) := by decide +kernel
theorem dX9_init_202 : decode cX9_init 202 = .ok (.if_icmp .ge 24, 3) := by decide +kernel
theorem dX9_init_205 : decode cX9_init 205 = .ok (.aload_n 0, 1) := by decide +kernel
theorem dX9_init_206 : decode cX9_init 206 = .ok (.getfield 9, 3) := by decide +kernel
theorem dX9_init_209 : decode cX9_init 209 = .ok (.bipush 11, 2) := by decide +kernel
theorem dX9_init_211 : decode cX9_init 211 = .ok (.iload_n 1, 1) := by decide +kernel
theorem dX9_init_212 : decode cX9_init 212 = .ok (.iadd, 1) := by decide +kernel
theorem dX9_init_213 : decode cX9_init 213 = .ok (.bipush 10, 2) := by decide +kernel
theorem dX9_init_215 : decode cX9_init 215 = .ok (.iload_n 1, 1) := by decide +kernel
theorem dX9_init_216 : decode cX9_init 216 = .ok (.iconst 1, 1) := by decide +kernel
theorem dX9_init_217 : decode cX9_init 217 = .ok (.iadd, 1) := by decide +kernel
theorem dX9_init_218 : decode cX9_init 218 = .ok (.imul, 1) := by decide +kernel
theorem dX9_init_219 : decode cX9_init 219 = .ok (.iastore, 1) := by decide +kernel
theorem dX9_init_220 : decode cX9_init 220 = .ok (.iinc 1 1, 3) := by decide +kernel
theorem dX9_init_223 : decode cX9_init 223 = .ok (.goto (-24), 3) := by decide +kernel
theorem dX9_init_226 : decode cX9_init 226 = .ok (.return_, 1) := by decide +kernel
theorem dX9_finding_0 : decode cX9_finding 0 = .ok (.aload_n 0, 1) := by decide +kernel
theorem dX9_finding_1 : decode cX9_finding 1 = .ok (.getfield 19, 3) := by decide +kernel
theorem dX9_finding_4 : decode cX9_finding 4 = .ok (.ldc 66, 2) := by decide +kernel
theorem dX9_finding_6 : decode cX9_finding 6 = .ok (.iload_n 1, 1) := by decide +kernel
theorem dX9_finding_7 : decode cX9_finding 7 = .ok (.isub, 1) := by decide +kernel
theorem dX9_finding_8 : decode cX9_finding 8 = .ok (.dup2, 1) := by decide +kernel
theorem dX9_finding_9 : decode cX9_finding 9 = .ok (.iaload, 1) := by decide +kernel
theorem dX9_finding_10 : decode cX9_finding 10 = .ok (.iconst 1, 1) := by decide +kernel
theorem dX9_finding_11 : decode cX9_finding 11 = .ok (.iadd, 1) := by decide +kernel
theorem dX9_finding_12 : decode cX9_finding 12 = .ok (.iastore, 1) := by decide +kernel
theorem dX9_finding_13 : decode cX9_finding 13 = .ok (.iload_n 1, 1) := by decide +kernel
theorem dX9_finding_14 : decode cX9_finding 14 = .ok (.ireturn, 1) := by decide +kernel
theorem dX9_within_0 : decode cX9_within 0 = .ok (.iload_n 0, 1) := by decide +kernel
theorem dX9_within_1 : decode cX9_within 1 = .ok (.iload_n 1, 1) := by decide +kernel
theorem dX9_within_2 : decode cX9_within 2 = .ok (.if_icmp .lt 12, 3) := by decide +kernel
theorem dX9_within_5 : decode cX9_within 5 = .ok (.iload_n 0, 1) := by decide +kernel
theorem dX9_within_6 : decode cX9_within 6 = .ok (.iload_n 2, 1) := by decide +kernel
theorem dX9_within_7 : decode cX9_within 7 = .ok (.if_icmp .gt 7, 3) := by decide +kernel
theorem dX9_within_10 : decode cX9_within 10 = .ok (.iconst 1, 1) := by decide +kernel
theorem dX9_within_11 : decode cX9_within 11 = .ok (.goto 4, 3) := by decide +kernel
theorem dX9_within_14 : decode cX9_within 14 = .ok (.iconst 0, 1) := by decide +kernel
theorem dX9_within_15 : decode cX9_within 15 = .ok (.ireturn, 1) := by decide +kernel
theorem dX9_held_0 : decode cX9_held 0 = .ok (.iload_n 1, 1) := by decide +kernel
theorem dX9_held_1 : decode cX9_held 1 = .ok (.iload_n 2, 1) := by decide +kernel
theorem dX9_held_2 : decode cX9_held 2 = .ok (.iload_n 0, 1) := by decide +kernel
theorem dX9_held_3 : decode cX9_held 3 = .ok (.invokestatic 67, 3) := by decide +kernel
theorem dX9_held_6 : decode cX9_held 6 = .ok (.invokestatic 73, 3) := by decide +kernel
theorem dX9_held_9 : decode cX9_held 9 = .ok (.ireturn, 1) := by decide +kernel
theorem dX9_copy_0 : decode cX9_copy 0 = .ok (.iconst 0, 1) := by decide +kernel
theorem dX9_copy_1 : decode cX9_copy 1 = .ok (.istore_n 2, 1) := by decide +kernel
theorem dX9_copy_2 : decode cX9_copy 2 = .ok (.iload_n 2, 1) := by decide +kernel
theorem dX9_copy_3 : decode cX9_copy 3 = .ok (.sipush 227, 3) := by decide +kernel
theorem dX9_copy_6 : decode cX9_copy 6 = .ok (.if_icmp .ge 15, 3) := by decide +kernel
theorem dX9_copy_9 : decode cX9_copy 9 = .ok (.aload_n 1, 1) := by decide +kernel
theorem dX9_copy_10 : decode cX9_copy 10 = .ok (.iload_n 2, 1) := by decide +kernel
theorem dX9_copy_11 : decode cX9_copy 11 = .ok (.aload_n 0, 1) := by decide +kernel
theorem dX9_copy_12 : decode cX9_copy 12 = .ok (.iload_n 2, 1) := by decide +kernel
theorem dX9_copy_13 : decode cX9_copy 13 = .ok (.iaload, 1) := by decide +kernel
theorem dX9_copy_14 : decode cX9_copy 14 = .ok (.iastore, 1) := by decide +kernel
theorem dX9_copy_15 : decode cX9_copy 15 = .ok (.iinc 2 1, 3) := by decide +kernel
theorem dX9_copy_18 : decode cX9_copy 18 = .ok (.goto (-16), 3) := by decide +kernel
theorem dX9_copy_21 : decode cX9_copy 21 = .ok (.return_, 1) := by decide +kernel
theorem dX9_become_0 : decode cX9_become 0 = .ok (.aload_n 0, 1) := by decide +kernel
theorem dX9_become_1 : decode cX9_become 1 = .ok (.getfield 9, 3) := by decide +kernel
theorem dX9_become_4 : decode cX9_become 4 = .ok (.iload_n 1, 1) := by decide +kernel
theorem dX9_become_5 : decode cX9_become 5 = .ok (.iaload, 1) := by decide +kernel
theorem dX9_become_6 : decode cX9_become 6 = .ok (.istore_n 3, 1) := by decide +kernel
theorem dX9_become_7 : decode cX9_become 7 = .ok (.aload_n 0, 1) := by decide +kernel
theorem dX9_become_8 : decode cX9_become 8 = .ok (.getfield 9, 3) := by decide +kernel
theorem dX9_become_11 : decode cX9_become 11 = .ok (.iload_n 1, 1) := by decide +kernel
theorem dX9_become_12 : decode cX9_become 12 = .ok (.iload_n 2, 1) := by decide +kernel
theorem dX9_become_13 : decode cX9_become 13 = .ok (.iastore, 1) := by decide +kernel
theorem dX9_become_14 : decode cX9_become 14 = .ok (.iload_n 3, 1) := by decide +kernel
theorem dX9_become_15 : decode cX9_become 15 = .ok (.ireturn, 1) := by decide +kernel
theorem dX9_putBack_0 : decode cX9_putBack 0 = .ok (.aload_n 0, 1) := by decide +kernel
theorem dX9_putBack_1 : decode cX9_putBack 1 = .ok (.getfield 16, 3) := by decide +kernel
theorem dX9_putBack_4 : decode cX9_putBack 4 = .ok (.aload_n 0, 1) := by decide +kernel
theorem dX9_putBack_5 : decode cX9_putBack 5 = .ok (.getfield 9, 3) := by decide +kernel
theorem dX9_putBack_8 : decode cX9_putBack 8 = .ok (.invokestatic 76, 3) := by decide +kernel
theorem dX9_putBack_11 : decode cX9_putBack 11 = .ok (.iload_n 1, 1) := by decide +kernel
theorem dX9_putBack_12 : decode cX9_putBack 12 = .ok (.ireturn, 1) := by decide +kernel
theorem dX9_isStep_0 : decode cX9_isStep 0 = .ok (.iload_n 0, 1) := by decide +kernel
theorem dX9_isStep_1 : decode cX9_isStep 1 = .ok (.iconst 0, 1) := by decide +kernel
theorem dX9_isStep_2 : decode cX9_isStep 2 = .ok (.bipush 9, 2) := by decide +kernel
theorem dX9_isStep_4 : decode cX9_isStep 4 = .ok (.invokestatic 80, 3) := by decide +kernel
theorem dX9_isStep_7 : decode cX9_isStep 7 = .ok (.ireturn, 1) := by decide +kernel
theorem dX9_coins_0 : decode cX9_coins 0 = .ok (.iload_n 1, 1) := by decide +kernel
theorem dX9_coins_1 : decode cX9_coins 1 = .ok (.invokestatic 84, 3) := by decide +kernel
theorem dX9_coins_4 : decode cX9_coins 4 = .ok (.ifCond .eq 26, 3) := by decide +kernel
theorem dX9_coins_7 : decode cX9_coins 7 = .ok (.iload_n 2, 1) := by decide +kernel
theorem dX9_coins_8 : decode cX9_coins 8 = .ok (.iconst 1, 1) := by decide +kernel
theorem dX9_coins_9 : decode cX9_coins 9 = .ok (.sipush 9999, 3) := by decide +kernel
theorem dX9_coins_12 : decode cX9_coins 12 = .ok (.invokestatic 80, 3) := by decide +kernel
theorem dX9_coins_15 : decode cX9_coins 15 = .ok (.ifCond .eq 15, 3) := by decide +kernel
theorem dX9_coins_18 : decode cX9_coins 18 = .ok (.aload_n 0, 1) := by decide +kernel
theorem dX9_coins_19 : decode cX9_coins 19 = .ok (.bipush 11, 2) := by decide +kernel
theorem dX9_coins_21 : decode cX9_coins 21 = .ok (.iload_n 1, 1) := by decide +kernel
theorem dX9_coins_22 : decode cX9_coins 22 = .ok (.iadd, 1) := by decide +kernel
theorem dX9_coins_23 : decode cX9_coins 23 = .ok (.iload_n 2, 1) := by decide +kernel
theorem dX9_coins_24 : decode cX9_coins 24 = .ok (.invokevirtual 88, 3) := by decide +kernel
theorem dX9_coins_27 : decode cX9_coins 27 = .ok (.goto 9, 3) := by decide +kernel
theorem dX9_coins_30 : decode cX9_coins 30 = .ok (.aload_n 0, 1) := by decide +kernel
theorem dX9_coins_31 : decode cX9_coins 31 = .ok (.ldc 91, 2) := by decide +kernel
theorem dX9_coins_33 : decode cX9_coins 33 = .ok (.invokevirtual 92, 3) := by decide +kernel
theorem dX9_coins_36 : decode cX9_coins 36 = .ok (.ireturn, 1) := by decide +kernel
theorem dX9_set_0 : decode cX9_set 0 = .ok (.iload_n 1, 1) := by decide +kernel
theorem dX9_set_1 : decode cX9_set 1 = .ok (.iconst 0, 1) := by decide +kernel
theorem dX9_set_2 : decode cX9_set 2 = .ok (.iconst 5, 1) := by decide +kernel
theorem dX9_set_3 : decode cX9_set 3 = .ok (.invokestatic 80, 3) := by decide +kernel
theorem dX9_set_6 : decode cX9_set 6 = .ok (.ifCond .eq 31, 3) := by decide +kernel
theorem dX9_set_9 : decode cX9_set 9 = .ok (.iload_n 2, 1) := by decide +kernel
theorem dX9_set_10 : decode cX9_set 10 = .ok (.iload_n 1, 1) := by decide +kernel
theorem dX9_set_11 : decode cX9_set 11 = .ok (.iconst 4, 1) := by decide +kernel
theorem dX9_set_12 : decode cX9_set 12 = .ok (.if_icmp .ne 8, 3) := by decide +kernel
theorem dX9_set_15 : decode cX9_set 15 = .ok (.ldc 96, 2) := by decide +kernel
theorem dX9_set_17 : decode cX9_set 17 = .ok (.goto 4, 3) := by decide +kernel
theorem dX9_set_20 : decode cX9_set 20 = .ok (.iconst 0, 1) := by decide +kernel
theorem dX9_set_21 : decode cX9_set 21 = .ok (.aload_n 0, 1) := by decide +kernel
theorem dX9_set_22 : decode cX9_set 22 = .ok (.getfield 23, 3) := by decide +kernel
theorem dX9_set_25 : decode cX9_set 25 = .ok (.iload_n 1, 1) := by decide +kernel
theorem dX9_set_26 : decode cX9_set 26 = .ok (.iaload, 1) := by decide +kernel
theorem dX9_set_27 : decode cX9_set 27 = .ok (.invokestatic 80, 3) := by decide +kernel
theorem dX9_set_30 : decode cX9_set 30 = .ok (.ifCond .eq 7, 3) := by decide +kernel
theorem dX9_set_33 : decode cX9_set 33 = .ok (.iconst 1, 1) := by decide +kernel
theorem dX9_set_34 : decode cX9_set 34 = .ok (.goto 4, 3) := by decide +kernel
theorem dX9_set_37 : decode cX9_set 37 = .ok (.iconst 0, 1) := by decide +kernel
theorem dX9_set_38 : decode cX9_set 38 = .ok (.istore_n 3, 1) := by decide +kernel
theorem dX9_set_39 : decode cX9_set 39 = .ok (.iload_n 3, 1) := by decide +kernel
theorem dX9_set_40 : decode cX9_set 40 = .ok (.ifCond .eq 14, 3) := by decide +kernel
theorem dX9_set_43 : decode cX9_set 43 = .ok (.aload_n 0, 1) := by decide +kernel
theorem dX9_set_44 : decode cX9_set 44 = .ok (.iconst 2, 1) := by decide +kernel
theorem dX9_set_45 : decode cX9_set 45 = .ok (.iload_n 1, 1) := by decide +kernel
theorem dX9_set_46 : decode cX9_set 46 = .ok (.iadd, 1) := by decide +kernel
theorem dX9_set_47 : decode cX9_set 47 = .ok (.iload_n 2, 1) := by decide +kernel
theorem dX9_set_48 : decode cX9_set 48 = .ok (.invokevirtual 88, 3) := by decide +kernel
theorem dX9_set_51 : decode cX9_set 51 = .ok (.goto 9, 3) := by decide +kernel
theorem dX9_set_54 : decode cX9_set 54 = .ok (.aload_n 0, 1) := by decide +kernel
theorem dX9_set_55 : decode cX9_set 55 = .ok (.ldc 91, 2) := by decide +kernel
theorem dX9_set_57 : decode cX9_set 57 = .ok (.invokevirtual 92, 3) := by decide +kernel
theorem dX9_set_60 : decode cX9_set 60 = .ok (.ireturn, 1) := by decide +kernel
theorem dX9_is_0 : decode cX9_is 0 = .ok (.iload_n 1, 1) := by decide +kernel
theorem dX9_is_1 : decode cX9_is 1 = .ok (.iconst 0, 1) := by decide +kernel
theorem dX9_is_2 : decode cX9_is 2 = .ok (.aload_n 0, 1) := by decide +kernel
theorem dX9_is_3 : decode cX9_is 3 = .ok (.getfield 9, 3) := by decide +kernel
theorem dX9_is_6 : decode cX9_is 6 = .ok (.iconst 1, 1) := by decide +kernel
theorem dX9_is_7 : decode cX9_is 7 = .ok (.iaload, 1) := by decide +kernel
theorem dX9_is_8 : decode cX9_is 8 = .ok (.iconst 1, 1) := by decide +kernel
theorem dX9_is_9 : decode cX9_is 9 = .ok (.isub, 1) := by decide +kernel
theorem dX9_is_10 : decode cX9_is 10 = .ok (.invokestatic 80, 3) := by decide +kernel
theorem dX9_is_13 : decode cX9_is 13 = .ok (.ireturn, 1) := by decide +kernel
theorem dX9_of_0 : decode cX9_of 0 = .ok (.aload_n 0, 1) := by decide +kernel
theorem dX9_of_1 : decode cX9_of 1 = .ok (.getfield 9, 3) := by decide +kernel
theorem dX9_of_4 : decode cX9_of 4 = .ok (.bipush 21, 2) := by decide +kernel
theorem dX9_of_6 : decode cX9_of 6 = .ok (.iconst 4, 1) := by decide +kernel
theorem dX9_of_7 : decode cX9_of 7 = .ok (.iload_n 1, 1) := by decide +kernel
theorem dX9_of_8 : decode cX9_of 8 = .ok (.imul, 1) := by decide +kernel
theorem dX9_of_9 : decode cX9_of 9 = .ok (.iadd, 1) := by decide +kernel
theorem dX9_of_10 : decode cX9_of 10 = .ok (.iload_n 2, 1) := by decide +kernel
theorem dX9_of_11 : decode cX9_of 11 = .ok (.iadd, 1) := by decide +kernel
theorem dX9_of_12 : decode cX9_of 12 = .ok (.iaload, 1) := by decide +kernel
theorem dX9_of_13 : decode cX9_of 13 = .ok (.ireturn, 1) := by decide +kernel
theorem dX9_isAsTold_0 : decode cX9_isAsTold 0 = .ok (.iload_n 0, 1) := by decide +kernel
theorem dX9_isAsTold_1 : decode cX9_isAsTold 1 = .ok (.iconst 0, 1) := by decide +kernel
theorem dX9_isAsTold_2 : decode cX9_isAsTold 2 = .ok (.bipush 6, 2) := by decide +kernel
theorem dX9_isAsTold_4 : decode cX9_isAsTold 4 = .ok (.invokestatic 80, 3) := by decide +kernel
theorem dX9_isAsTold_7 : decode cX9_isAsTold 7 = .ok (.ifCond .eq 28, 3) := by decide +kernel
theorem dX9_isAsTold_10 : decode cX9_isAsTold 10 = .ok (.iload_n 1, 1) := by decide +kernel
theorem dX9_isAsTold_11 : decode cX9_isAsTold 11 = .ok (.iconst 0, 1) := by decide +kernel
theorem dX9_isAsTold_12 : decode cX9_isAsTold 12 = .ok (.sipush 9999, 3) := by decide +kernel
theorem dX9_isAsTold_15 : decode cX9_isAsTold 15 = .ok (.invokestatic 80, 3) := by decide +kernel
theorem dX9_isAsTold_18 : decode cX9_isAsTold 18 = .ok (.ifCond .eq 17, 3) := by decide +kernel
theorem dX9_isAsTold_21 : decode cX9_isAsTold 21 = .ok (.iload_n 2, 1) := by decide +kernel
theorem dX9_isAsTold_22 : decode cX9_isAsTold 22 = .ok (.iconst 1, 1) := by decide +kernel
theorem dX9_isAsTold_23 : decode cX9_isAsTold 23 = .ok (.bipush 9, 2) := by decide +kernel
theorem dX9_isAsTold_25 : decode cX9_isAsTold 25 = .ok (.invokestatic 80, 3) := by decide +kernel
theorem dX9_isAsTold_28 : decode cX9_isAsTold 28 = .ok (.ifCond .eq 7, 3) := by decide +kernel
theorem dX9_isAsTold_31 : decode cX9_isAsTold 31 = .ok (.iconst 1, 1) := by decide +kernel
theorem dX9_isAsTold_32 : decode cX9_isAsTold 32 = .ok (.goto 4, 3) := by decide +kernel
theorem dX9_isAsTold_35 : decode cX9_isAsTold 35 = .ok (.iconst 0, 1) := by decide +kernel
theorem dX9_isAsTold_36 : decode cX9_isAsTold 36 = .ok (.ireturn, 1) := by decide +kernel
theorem dX9_comes_0 : decode cX9_comes 0 = .ok (.aload_n 0, 1) := by decide +kernel
theorem dX9_comes_1 : decode cX9_comes 1 = .ok (.getfield 9, 3) := by decide +kernel
theorem dX9_comes_4 : decode cX9_comes 4 = .ok (.iconst 1, 1) := by decide +kernel
theorem dX9_comes_5 : decode cX9_comes 5 = .ok (.iaload, 1) := by decide +kernel
theorem dX9_comes_6 : decode cX9_comes 6 = .ok (.istore 4, 2) := by decide +kernel
theorem dX9_comes_8 : decode cX9_comes 8 = .ok (.bipush 21, 2) := by decide +kernel
theorem dX9_comes_10 : decode cX9_comes 10 = .ok (.iconst 4, 1) := by decide +kernel
theorem dX9_comes_11 : decode cX9_comes 11 = .ok (.iload 4, 2) := by decide +kernel
theorem dX9_comes_13 : decode cX9_comes 13 = .ok (.imul, 1) := by decide +kernel
theorem dX9_comes_14 : decode cX9_comes 14 = .ok (.iadd, 1) := by decide +kernel
theorem dX9_comes_15 : decode cX9_comes 15 = .ok (.istore 5, 2) := by decide +kernel
theorem dX9_comes_17 : decode cX9_comes 17 = .ok (.aload_n 0, 1) := by decide +kernel
theorem dX9_comes_18 : decode cX9_comes 18 = .ok (.getfield 9, 3) := by decide +kernel
theorem dX9_comes_21 : decode cX9_comes 21 = .ok (.iload 5, 2) := by decide +kernel
theorem dX9_comes_23 : decode cX9_comes 23 = .ok (.iconst 0, 1) := by decide +kernel
theorem dX9_comes_24 : decode cX9_comes 24 = .ok (.iadd, 1) := by decide +kernel
theorem dX9_comes_25 : decode cX9_comes 25 = .ok (.iload_n 1, 1) := by decide +kernel
theorem dX9_comes_26 : decode cX9_comes 26 = .ok (.iastore, 1) := by decide +kernel
theorem dX9_comes_27 : decode cX9_comes 27 = .ok (.aload_n 0, 1) := by decide +kernel
theorem dX9_comes_28 : decode cX9_comes 28 = .ok (.getfield 9, 3) := by decide +kernel
theorem dX9_comes_31 : decode cX9_comes 31 = .ok (.iload 5, 2) := by decide +kernel
theorem dX9_comes_33 : decode cX9_comes 33 = .ok (.iconst 1, 1) := by decide +kernel
theorem dX9_comes_34 : decode cX9_comes 34 = .ok (.iadd, 1) := by decide +kernel
theorem dX9_comes_35 : decode cX9_comes 35 = .ok (.iload_n 2, 1) := by decide +kernel
theorem dX9_comes_36 : decode cX9_comes 36 = .ok (.iastore, 1) := by decide +kernel
theorem dX9_comes_37 : decode cX9_comes 37 = .ok (.aload_n 0, 1) := by decide +kernel
theorem dX9_comes_38 : decode cX9_comes 38 = .ok (.getfield 9, 3) := by decide +kernel
theorem dX9_comes_41 : decode cX9_comes 41 = .ok (.iload 5, 2) := by decide +kernel
theorem dX9_comes_43 : decode cX9_comes 43 = .ok (.iconst 2, 1) := by decide +kernel
theorem dX9_comes_44 : decode cX9_comes 44 = .ok (.iadd, 1) := by decide +kernel
theorem dX9_comes_45 : decode cX9_comes 45 = .ok (.iload_n 3, 1) := by decide +kernel
theorem dX9_comes_46 : decode cX9_comes 46 = .ok (.iastore, 1) := by decide +kernel
theorem dX9_comes_47 : decode cX9_comes 47 = .ok (.aload_n 0, 1) := by decide +kernel
theorem dX9_comes_48 : decode cX9_comes 48 = .ok (.getfield 9, 3) := by decide +kernel
theorem dX9_comes_51 : decode cX9_comes 51 = .ok (.iload 5, 2) := by decide +kernel
theorem dX9_comes_53 : decode cX9_comes 53 = .ok (.iconst 3, 1) := by decide +kernel
theorem dX9_comes_54 : decode cX9_comes 54 = .ok (.iadd, 1) := by decide +kernel
theorem dX9_comes_55 : decode cX9_comes 55 = .ok (.iconst 0, 1) := by decide +kernel
theorem dX9_comes_56 : decode cX9_comes 56 = .ok (.iastore, 1) := by decide +kernel
theorem dX9_comes_57 : decode cX9_comes 57 = .ok (.aload_n 0, 1) := by decide +kernel
theorem dX9_comes_58 : decode cX9_comes 58 = .ok (.getfield 9, 3) := by decide +kernel
theorem dX9_comes_61 : decode cX9_comes 61 = .ok (.iconst 1, 1) := by decide +kernel
theorem dX9_comes_62 : decode cX9_comes 62 = .ok (.dup2, 1) := by decide +kernel
theorem dX9_comes_63 : decode cX9_comes 63 = .ok (.iaload, 1) := by decide +kernel
theorem dX9_comes_64 : decode cX9_comes 64 = .ok (.iconst 1, 1) := by decide +kernel
theorem dX9_comes_65 : decode cX9_comes 65 = .ok (.iadd, 1) := by decide +kernel
theorem dX9_comes_66 : decode cX9_comes 66 = .ok (.iastore, 1) := by decide +kernel
theorem dX9_comes_67 : decode cX9_comes 67 = .ok (.iload 4, 2) := by decide +kernel
theorem dX9_comes_69 : decode cX9_comes 69 = .ok (.ireturn, 1) := by decide +kernel
theorem dX9_buyer_0 : decode cX9_buyer 0 = .ok (.iload_n 1, 1) := by decide +kernel
theorem dX9_buyer_1 : decode cX9_buyer 1 = .ok (.iload_n 2, 1) := by decide +kernel
theorem dX9_buyer_2 : decode cX9_buyer 2 = .ok (.iload_n 3, 1) := by decide +kernel
theorem dX9_buyer_3 : decode cX9_buyer 3 = .ok (.invokestatic 97, 3) := by decide +kernel
theorem dX9_buyer_6 : decode cX9_buyer 6 = .ok (.ifCond .ne 10, 3) := by decide +kernel
theorem dX9_buyer_9 : decode cX9_buyer 9 = .ok (.aload_n 0, 1) := by decide +kernel
theorem dX9_buyer_10 : decode cX9_buyer 10 = .ok (.ldc 91, 2) := by decide +kernel
theorem dX9_buyer_12 : decode cX9_buyer 12 = .ok (.invokevirtual 92, 3) := by decide +kernel
theorem dX9_buyer_15 : decode cX9_buyer 15 = .ok (.ireturn, 1) := by decide +kernel
theorem dX9_buyer_16 : decode cX9_buyer 16 = .ok (.aload_n 0, 1) := by decide +kernel
theorem dX9_buyer_17 : decode cX9_buyer 17 = .ok (.getfield 9, 3) := by decide +kernel
theorem dX9_buyer_20 : decode cX9_buyer 20 = .ok (.iconst 1, 1) := by decide +kernel
theorem dX9_buyer_21 : decode cX9_buyer 21 = .ok (.iaload, 1) := by decide +kernel
theorem dX9_buyer_22 : decode cX9_buyer 22 = .ok (.bipush 8, 2) := by decide +kernel
theorem dX9_buyer_24 : decode cX9_buyer 24 = .ok (.if_icmp .ne 12, 3) := by decide +kernel
theorem dX9_buyer_27 : decode cX9_buyer 27 = .ok (.aload_n 0, 1) := by decide +kernel
theorem dX9_buyer_28 : decode cX9_buyer 28 = .ok (.ldc 100, 2) := by decide +kernel
theorem dX9_buyer_30 : decode cX9_buyer 30 = .ok (.invokevirtual 92, 3) := by decide +kernel
theorem dX9_buyer_33 : decode cX9_buyer 33 = .ok (.goto 10, 3) := by decide +kernel
theorem dX9_buyer_36 : decode cX9_buyer 36 = .ok (.aload_n 0, 1) := by decide +kernel
theorem dX9_buyer_37 : decode cX9_buyer 37 = .ok (.iload_n 1, 1) := by decide +kernel
theorem dX9_buyer_38 : decode cX9_buyer 38 = .ok (.iload_n 2, 1) := by decide +kernel
theorem dX9_buyer_39 : decode cX9_buyer 39 = .ok (.iload_n 3, 1) := by decide +kernel
theorem dX9_buyer_40 : decode cX9_buyer 40 = .ok (.invokevirtual 101, 3) := by decide +kernel
theorem dX9_buyer_43 : decode cX9_buyer 43 = .ok (.ireturn, 1) := by decide +kernel
theorem dX9_ofBuyer_0 : decode cX9_ofBuyer 0 = .ok (.aload_n 0, 1) := by decide +kernel
theorem dX9_ofBuyer_1 : decode cX9_ofBuyer 1 = .ok (.iload_n 1, 1) := by decide +kernel
theorem dX9_ofBuyer_2 : decode cX9_ofBuyer 2 = .ok (.invokevirtual 105, 3) := by decide +kernel
theorem dX9_ofBuyer_5 : decode cX9_ofBuyer 5 = .ok (.ifCond .eq 21, 3) := by decide +kernel
theorem dX9_ofBuyer_8 : decode cX9_ofBuyer 8 = .ok (.iload_n 2, 1) := by decide +kernel
theorem dX9_ofBuyer_9 : decode cX9_ofBuyer 9 = .ok (.iconst 0, 1) := by decide +kernel
theorem dX9_ofBuyer_10 : decode cX9_ofBuyer 10 = .ok (.iconst 3, 1) := by decide +kernel
theorem dX9_ofBuyer_11 : decode cX9_ofBuyer 11 = .ok (.invokestatic 80, 3) := by decide +kernel
theorem dX9_ofBuyer_14 : decode cX9_ofBuyer 14 = .ok (.ifCond .eq 12, 3) := by decide +kernel
theorem dX9_ofBuyer_17 : decode cX9_ofBuyer 17 = .ok (.aload_n 0, 1) := by decide +kernel
theorem dX9_ofBuyer_18 : decode cX9_ofBuyer 18 = .ok (.iload_n 1, 1) := by decide +kernel
theorem dX9_ofBuyer_19 : decode cX9_ofBuyer 19 = .ok (.iload_n 2, 1) := by decide +kernel
theorem dX9_ofBuyer_20 : decode cX9_ofBuyer 20 = .ok (.invokevirtual 108, 3) := by decide +kernel
theorem dX9_ofBuyer_23 : decode cX9_ofBuyer 23 = .ok (.goto 9, 3) := by decide +kernel
theorem dX9_ofBuyer_26 : decode cX9_ofBuyer 26 = .ok (.aload_n 0, 1) := by decide +kernel
theorem dX9_ofBuyer_27 : decode cX9_ofBuyer 27 = .ok (.ldc 91, 2) := by decide +kernel
theorem dX9_ofBuyer_29 : decode cX9_ofBuyer 29 = .ok (.invokevirtual 92, 3) := by decide +kernel
theorem dX9_ofBuyer_32 : decode cX9_ofBuyer 32 = .ok (.ireturn, 1) := by decide +kernel
theorem dX9_above_0 : decode cX9_above 0 = .ok (.iload_n 0, 1) := by decide +kernel
theorem dX9_above_1 : decode cX9_above 1 = .ok (.ifCond .ne 7, 3) := by decide +kernel
theorem dX9_above_4 : decode cX9_above 4 = .ok (.iconst (-1), 1) := by decide +kernel
theorem dX9_above_5 : decode cX9_above 5 = .ok (.goto 28, 3) := by decide +kernel
theorem dX9_above_8 : decode cX9_above 8 = .ok (.iload_n 0, 1) := by decide +kernel
theorem dX9_above_9 : decode cX9_above 9 = .ok (.iconst 2, 1) := by decide +kernel
theorem dX9_above_10 : decode cX9_above 10 = .ok (.if_icmp .eq 9, 3) := by decide +kernel
theorem dX9_above_13 : decode cX9_above 13 = .ok (.iload_n 0, 1) := by decide +kernel
theorem dX9_above_14 : decode cX9_above 14 = .ok (.bipush 6, 2) := by decide +kernel
theorem dX9_above_16 : decode cX9_above 16 = .ok (.if_icmp .ne 7, 3) := by decide +kernel
theorem dX9_above_19 : decode cX9_above 19 = .ok (.iconst 1, 1) := by decide +kernel
theorem dX9_above_20 : decode cX9_above 20 = .ok (.goto 13, 3) := by decide +kernel
theorem dX9_above_23 : decode cX9_above 23 = .ok (.iload_n 0, 1) := by decide +kernel
theorem dX9_above_24 : decode cX9_above 24 = .ok (.iconst 4, 1) := by decide +kernel
theorem dX9_above_25 : decode cX9_above 25 = .ok (.if_icmp .ne 7, 3) := by decide +kernel
theorem dX9_above_28 : decode cX9_above 28 = .ok (.iconst 3, 1) := by decide +kernel
theorem dX9_above_29 : decode cX9_above 29 = .ok (.goto 4, 3) := by decide +kernel
theorem dX9_above_32 : decode cX9_above 32 = .ok (.iconst 0, 1) := by decide +kernel
theorem dX9_above_33 : decode cX9_above 33 = .ok (.ireturn, 1) := by decide +kernel
theorem dX9_as_0 : decode cX9_as 0 = .ok (.aload_n 0, 1) := by decide +kernel
theorem dX9_as_1 : decode cX9_as 1 = .ok (.iload_n 1, 1) := by decide +kernel
theorem dX9_as_2 : decode cX9_as 2 = .ok (.invokevirtual 105, 3) := by decide +kernel
theorem dX9_as_5 : decode cX9_as 5 = .ok (.ifCond .eq 13, 3) := by decide +kernel
theorem dX9_as_8 : decode cX9_as 8 = .ok (.iload_n 2, 1) := by decide +kernel
theorem dX9_as_9 : decode cX9_as 9 = .ok (.iconst 0, 1) := by decide +kernel
theorem dX9_as_10 : decode cX9_as 10 = .ok (.bipush 6, 2) := by decide +kernel
theorem dX9_as_12 : decode cX9_as 12 = .ok (.invokestatic 80, 3) := by decide +kernel
theorem dX9_as_15 : decode cX9_as 15 = .ok (.ifCond .ne 10, 3) := by decide +kernel
theorem dX9_as_18 : decode cX9_as 18 = .ok (.aload_n 0, 1) := by decide +kernel
theorem dX9_as_19 : decode cX9_as 19 = .ok (.ldc 91, 2) := by decide +kernel
theorem dX9_as_21 : decode cX9_as 21 = .ok (.invokevirtual 92, 3) := by decide +kernel
theorem dX9_as_24 : decode cX9_as 24 = .ok (.ireturn, 1) := by decide +kernel
theorem dX9_as_25 : decode cX9_as 25 = .ok (.aload_n 0, 1) := by decide +kernel
theorem dX9_as_26 : decode cX9_as 26 = .ok (.iload_n 1, 1) := by decide +kernel
theorem dX9_as_27 : decode cX9_as 27 = .ok (.iconst 0, 1) := by decide +kernel
theorem dX9_as_28 : decode cX9_as 28 = .ok (.invokevirtual 108, 3) := by decide +kernel
theorem dX9_as_31 : decode cX9_as 31 = .ok (.istore_n 3, 1) := by decide +kernel
theorem dX9_as_32 : decode cX9_as 32 = .ok (.iload_n 3, 1) := by decide +kernel
theorem dX9_as_33 : decode cX9_as 33 = .ok (.ifCond .lt 16, 3) := by decide +kernel
theorem dX9_as_36 : decode cX9_as 36 = .ok (.iload_n 3, 1) := by decide +kernel
theorem dX9_as_37 : decode cX9_as 37 = .ok (.iload_n 2, 1) := by decide +kernel
theorem dX9_as_38 : decode cX9_as 38 = .ok (.if_icmp .eq 11, 3) := by decide +kernel
theorem dX9_as_41 : decode cX9_as 41 = .ok (.iload_n 3, 1) := by decide +kernel
theorem dX9_as_42 : decode cX9_as 42 = .ok (.invokestatic 111, 3) := by decide +kernel
theorem dX9_as_45 : decode cX9_as 45 = .ok (.istore_n 3, 1) := by decide +kernel
theorem dX9_as_46 : decode cX9_as 46 = .ok (.goto (-14), 3) := by decide +kernel
theorem dX9_as_49 : decode cX9_as 49 = .ok (.iload_n 3, 1) := by decide +kernel
theorem dX9_as_50 : decode cX9_as 50 = .ok (.ifCond .ge 12, 3) := by decide +kernel
theorem dX9_as_53 : decode cX9_as 53 = .ok (.aload_n 0, 1) := by decide +kernel
theorem dX9_as_54 : decode cX9_as 54 = .ok (.ldc 114, 2) := by decide +kernel
theorem dX9_as_56 : decode cX9_as 56 = .ok (.invokevirtual 92, 3) := by decide +kernel
theorem dX9_as_59 : decode cX9_as 59 = .ok (.goto 9, 3) := by decide +kernel
theorem dX9_as_62 : decode cX9_as 62 = .ok (.aload_n 0, 1) := by decide +kernel
theorem dX9_as_63 : decode cX9_as 63 = .ok (.iload_n 1, 1) := by decide +kernel
theorem dX9_as_64 : decode cX9_as 64 = .ok (.iconst 2, 1) := by decide +kernel
theorem dX9_as_65 : decode cX9_as 65 = .ok (.invokevirtual 108, 3) := by decide +kernel
theorem dX9_as_68 : decode cX9_as 68 = .ok (.ireturn, 1) := by decide +kernel
theorem dX9_has_0 : decode cX9_has 0 = .ok (.aload_n 0, 1) := by decide +kernel
theorem dX9_has_1 : decode cX9_has 1 = .ok (.iload_n 1, 1) := by decide +kernel
theorem dX9_has_2 : decode cX9_has 2 = .ok (.invokevirtual 105, 3) := by decide +kernel
theorem dX9_has_5 : decode cX9_has 5 = .ok (.ifCond .eq 30, 3) := by decide +kernel
theorem dX9_has_8 : decode cX9_has 8 = .ok (.iload_n 2, 1) := by decide +kernel
theorem dX9_has_9 : decode cX9_has 9 = .ok (.iconst 0, 1) := by decide +kernel
theorem dX9_has_10 : decode cX9_has 10 = .ok (.sipush 9999, 3) := by decide +kernel
theorem dX9_has_13 : decode cX9_has 13 = .ok (.invokestatic 80, 3) := by decide +kernel
theorem dX9_has_16 : decode cX9_has 16 = .ok (.ifCond .eq 19, 3) := by decide +kernel
theorem dX9_has_19 : decode cX9_has 19 = .ok (.aload_n 0, 1) := by decide +kernel
theorem dX9_has_20 : decode cX9_has 20 = .ok (.bipush 21, 2) := by decide +kernel
theorem dX9_has_22 : decode cX9_has 22 = .ok (.iconst 4, 1) := by decide +kernel
theorem dX9_has_23 : decode cX9_has 23 = .ok (.iload_n 1, 1) := by decide +kernel
theorem dX9_has_24 : decode cX9_has 24 = .ok (.imul, 1) := by decide +kernel
theorem dX9_has_25 : decode cX9_has 25 = .ok (.iadd, 1) := by decide +kernel
theorem dX9_has_26 : decode cX9_has 26 = .ok (.iconst 3, 1) := by decide +kernel
theorem dX9_has_27 : decode cX9_has 27 = .ok (.iadd, 1) := by decide +kernel
theorem dX9_has_28 : decode cX9_has 28 = .ok (.iload_n 2, 1) := by decide +kernel
theorem dX9_has_29 : decode cX9_has 29 = .ok (.invokevirtual 88, 3) := by decide +kernel
theorem dX9_has_32 : decode cX9_has 32 = .ok (.goto 9, 3) := by decide +kernel
theorem dX9_has_35 : decode cX9_has 35 = .ok (.aload_n 0, 1) := by decide +kernel
theorem dX9_has_36 : decode cX9_has 36 = .ok (.ldc 91, 2) := by decide +kernel
theorem dX9_has_38 : decode cX9_has 38 = .ok (.invokevirtual 92, 3) := by decide +kernel
theorem dX9_has_41 : decode cX9_has 41 = .ok (.ireturn, 1) := by decide +kernel
theorem dX9_buyers_0 : decode cX9_buyers 0 = .ok (.iload_n 1, 1) := by decide +kernel
theorem dX9_buyers_1 : decode cX9_buyers 1 = .ok (.invokestatic 115, 3) := by decide +kernel
theorem dX9_buyers_4 : decode cX9_buyers 4 = .ok (.ifCond .ne 10, 3) := by decide +kernel
theorem dX9_buyers_7 : decode cX9_buyers 7 = .ok (.aload_n 0, 1) := by decide +kernel
theorem dX9_buyers_8 : decode cX9_buyers 8 = .ok (.ldc 91, 2) := by decide +kernel
theorem dX9_buyers_10 : decode cX9_buyers 10 = .ok (.invokevirtual 92, 3) := by decide +kernel
theorem dX9_buyers_13 : decode cX9_buyers 13 = .ok (.ireturn, 1) := by decide +kernel
theorem dX9_buyers_14 : decode cX9_buyers 14 = .ok (.aload_n 0, 1) := by decide +kernel
theorem dX9_buyers_15 : decode cX9_buyers 15 = .ok (.getfield 54, 3) := by decide +kernel
theorem dX9_buyers_18 : decode cX9_buyers 18 = .ok (.iload_n 1, 1) := by decide +kernel
theorem dX9_buyers_19 : decode cX9_buyers 19 = .ok (.iaload, 1) := by decide +kernel
theorem dX9_buyers_20 : decode cX9_buyers 20 = .ok (.ifCond .ne 10, 3) := by decide +kernel
theorem dX9_buyers_23 : decode cX9_buyers 23 = .ok (.aload_n 0, 1) := by decide +kernel
theorem dX9_buyers_24 : decode cX9_buyers 24 = .ok (.ldc 118, 2) := by decide +kernel
theorem dX9_buyers_26 : decode cX9_buyers 26 = .ok (.invokevirtual 92, 3) := by decide +kernel
theorem dX9_buyers_29 : decode cX9_buyers 29 = .ok (.ireturn, 1) := by decide +kernel
theorem dX9_buyers_30 : decode cX9_buyers 30 = .ok (.iconst 0, 1) := by decide +kernel
theorem dX9_buyers_31 : decode cX9_buyers 31 = .ok (.istore_n 2, 1) := by decide +kernel
theorem dX9_buyers_32 : decode cX9_buyers 32 = .ok (.bipush 40, 2) := by decide +kernel
theorem dX9_buyers_34 : decode cX9_buyers 34 = .ok (.iload_n 1, 1) := by decide +kernel
theorem dX9_buyers_35 : decode cX9_buyers 35 = .ok (.imul, 1) := by decide +kernel
theorem dX9_buyers_36 : decode cX9_buyers 36 = .ok (.istore_n 3, 1) := by decide +kernel
theorem dX9_buyers_37 : decode cX9_buyers 37 = .ok (.iconst 3, 1) := by decide +kernel
theorem dX9_buyers_38 : decode cX9_buyers 38 = .ok (.iload_n 2, 1) := by decide +kernel
theorem dX9_buyers_39 : decode cX9_buyers 39 = .ok (.imul, 1) := by decide +kernel
theorem dX9_buyers_40 : decode cX9_buyers 40 = .ok (.iconst 3, 1) := by decide +kernel
theorem dX9_buyers_41 : decode cX9_buyers 41 = .ok (.iadd, 1) := by decide +kernel
theorem dX9_buyers_42 : decode cX9_buyers 42 = .ok (.aload_n 0, 1) := by decide +kernel
theorem dX9_buyers_43 : decode cX9_buyers 43 = .ok (.getfield 57, 3) := by decide +kernel
theorem dX9_buyers_46 : decode cX9_buyers 46 = .ok (.iload_n 1, 1) := by decide +kernel
theorem dX9_buyers_47 : decode cX9_buyers 47 = .ok (.iaload, 1) := by decide +kernel
theorem dX9_buyers_48 : decode cX9_buyers 48 = .ok (.if_icmp .gt 81, 3) := by decide +kernel
theorem dX9_buyers_51 : decode cX9_buyers 51 = .ok (.aload_n 0, 1) := by decide +kernel
theorem dX9_buyers_52 : decode cX9_buyers 52 = .ok (.getfield 9, 3) := by decide +kernel
theorem dX9_buyers_55 : decode cX9_buyers 55 = .ok (.iconst 1, 1) := by decide +kernel
theorem dX9_buyers_56 : decode cX9_buyers 56 = .ok (.iaload, 1) := by decide +kernel
theorem dX9_buyers_57 : decode cX9_buyers 57 = .ok (.bipush 8, 2) := by decide +kernel
theorem dX9_buyers_59 : decode cX9_buyers 59 = .ok (.if_icmp .ge 70, 3) := by decide +kernel
theorem dX9_buyers_62 : decode cX9_buyers 62 = .ok (.aload_n 0, 1) := by decide +kernel
theorem dX9_buyers_63 : decode cX9_buyers 63 = .ok (.getfield 60, 3) := by decide +kernel
theorem dX9_buyers_66 : decode cX9_buyers 66 = .ok (.iload_n 3, 1) := by decide +kernel
theorem dX9_buyers_67 : decode cX9_buyers 67 = .ok (.iaload, 1) := by decide +kernel
theorem dX9_buyers_68 : decode cX9_buyers 68 = .ok (.aload_n 0, 1) := by decide +kernel
theorem dX9_buyers_69 : decode cX9_buyers 69 = .ok (.getfield 60, 3) := by decide +kernel
theorem dX9_buyers_72 : decode cX9_buyers 72 = .ok (.iload_n 3, 1) := by decide +kernel
theorem dX9_buyers_73 : decode cX9_buyers 73 = .ok (.iconst 1, 1) := by decide +kernel
theorem dX9_buyers_74 : decode cX9_buyers 74 = .ok (.iadd, 1) := by decide +kernel
theorem dX9_buyers_75 : decode cX9_buyers 75 = .ok (.iaload, 1) := by decide +kernel
theorem dX9_buyers_76 : decode cX9_buyers 76 = .ok (.aload_n 0, 1) := by decide +kernel
theorem dX9_buyers_77 : decode cX9_buyers 77 = .ok (.getfield 60, 3) := by decide +kernel
theorem dX9_buyers_80 : decode cX9_buyers 80 = .ok (.iload_n 3, 1) := by decide +kernel
theorem dX9_buyers_81 : decode cX9_buyers 81 = .ok (.iconst 2, 1) := by decide +kernel
theorem dX9_buyers_82 : decode cX9_buyers 82 = .ok (.iadd, 1) := by decide +kernel
theorem dX9_buyers_83 : decode cX9_buyers 83 = .ok (.iaload, 1) := by decide +kernel
theorem dX9_buyers_84 : decode cX9_buyers 84 = .ok (.invokestatic 97, 3) := by decide +kernel
theorem dX9_buyers_87 : decode cX9_buyers 87 = .ok (.ifCond .ne 5, 3) := by decide +kernel
theorem dX9_buyers_90 : decode cX9_buyers 90 = .ok (.iload_n 2, 1) := by decide +kernel
theorem dX9_buyers_91 : decode cX9_buyers 91 = .ok (.ireturn, 1) := by decide +kernel
theorem dX9_buyers_92 : decode cX9_buyers 92 = .ok (.aload_n 0, 1) := by decide +kernel
theorem dX9_buyers_93 : decode cX9_buyers 93 = .ok (.aload_n 0, 1) := by decide +kernel
theorem dX9_buyers_94 : decode cX9_buyers 94 = .ok (.getfield 60, 3) := by decide +kernel
theorem dX9_buyers_97 : decode cX9_buyers 97 = .ok (.iload_n 3, 1) := by decide +kernel
theorem dX9_buyers_98 : decode cX9_buyers 98 = .ok (.iaload, 1) := by decide +kernel
theorem dX9_buyers_99 : decode cX9_buyers 99 = .ok (.aload_n 0, 1) := by decide +kernel
theorem dX9_buyers_100 : decode cX9_buyers 100 = .ok (.getfield 60, 3) := by decide +kernel
theorem dX9_buyers_103 : decode cX9_buyers 103 = .ok (.iload_n 3, 1) := by decide +kernel
theorem dX9_buyers_104 : decode cX9_buyers 104 = .ok (.iconst 1, 1) := by decide +kernel
theorem dX9_buyers_105 : decode cX9_buyers 105 = .ok (.iadd, 1) := by decide +kernel
theorem dX9_buyers_106 : decode cX9_buyers 106 = .ok (.iaload, 1) := by decide +kernel
theorem dX9_buyers_107 : decode cX9_buyers 107 = .ok (.aload_n 0, 1) := by decide +kernel
theorem dX9_buyers_108 : decode cX9_buyers 108 = .ok (.getfield 60, 3) := by decide +kernel
theorem dX9_buyers_111 : decode cX9_buyers 111 = .ok (.iload_n 3, 1) := by decide +kernel
theorem dX9_buyers_112 : decode cX9_buyers 112 = .ok (.iconst 2, 1) := by decide +kernel
theorem dX9_buyers_113 : decode cX9_buyers 113 = .ok (.iadd, 1) := by decide +kernel
theorem dX9_buyers_114 : decode cX9_buyers 114 = .ok (.iaload, 1) := by decide +kernel
theorem dX9_buyers_115 : decode cX9_buyers 115 = .ok (.invokevirtual 101, 3) := by decide +kernel
theorem dX9_buyers_118 : decode cX9_buyers 118 = .ok (.istore 4, 2) := by decide +kernel
theorem dX9_buyers_120 : decode cX9_buyers 120 = .ok (.iinc 2 1, 3) := by decide +kernel
theorem dX9_buyers_123 : decode cX9_buyers 123 = .ok (.iinc 3 3, 3) := by decide +kernel
theorem dX9_buyers_126 : decode cX9_buyers 126 = .ok (.goto (-89), 3) := by decide +kernel
theorem dX9_buyers_129 : decode cX9_buyers 129 = .ok (.iload_n 2, 1) := by decide +kernel
theorem dX9_buyers_130 : decode cX9_buyers 130 = .ok (.ireturn, 1) := by decide +kernel
theorem dX9_plainWorth_0 : decode cX9_plainWorth 0 = .ok (.aload_n 0, 1) := by decide +kernel
theorem dX9_plainWorth_1 : decode cX9_plainWorth 1 = .ok (.iconst 0, 1) := by decide +kernel
theorem dX9_plainWorth_2 : decode cX9_plainWorth 2 = .ok (.aload_n 0, 1) := by decide +kernel
theorem dX9_plainWorth_3 : decode cX9_plainWorth 3 = .ok (.iload_n 1, 1) := by decide +kernel
theorem dX9_plainWorth_4 : decode cX9_plainWorth 4 = .ok (.iconst 1, 1) := by decide +kernel
theorem dX9_plainWorth_5 : decode cX9_plainWorth 5 = .ok (.invokevirtual 108, 3) := by decide +kernel
theorem dX9_plainWorth_8 : decode cX9_plainWorth 8 = .ok (.aload_n 0, 1) := by decide +kernel
theorem dX9_plainWorth_9 : decode cX9_plainWorth 9 = .ok (.getfield 9, 3) := by decide +kernel
theorem dX9_plainWorth_12 : decode cX9_plainWorth 12 = .ok (.iconst 3, 1) := by decide +kernel
theorem dX9_plainWorth_13 : decode cX9_plainWorth 13 = .ok (.iaload, 1) := by decide +kernel
theorem dX9_plainWorth_14 : decode cX9_plainWorth 14 = .ok (.aload_n 0, 1) := by decide +kernel
theorem dX9_plainWorth_15 : decode cX9_plainWorth 15 = .ok (.getfield 9, 3) := by decide +kernel
theorem dX9_plainWorth_18 : decode cX9_plainWorth 18 = .ok (.bipush 11, 2) := by decide +kernel
theorem dX9_plainWorth_20 : decode cX9_plainWorth 20 = .ok (.aload_n 0, 1) := by decide +kernel
theorem dX9_plainWorth_21 : decode cX9_plainWorth 21 = .ok (.getfield 9, 3) := by decide +kernel
theorem dX9_plainWorth_24 : decode cX9_plainWorth 24 = .ok (.iconst 2, 1) := by decide +kernel
theorem dX9_plainWorth_25 : decode cX9_plainWorth 25 = .ok (.iaload, 1) := by decide +kernel
theorem dX9_plainWorth_26 : decode cX9_plainWorth 26 = .ok (.iadd, 1) := by decide +kernel
theorem dX9_plainWorth_27 : decode cX9_plainWorth 27 = .ok (.iaload, 1) := by decide +kernel
theorem dX9_plainWorth_28 : decode cX9_plainWorth 28 = .ok (.aload_n 0, 1) := by decide +kernel
theorem dX9_plainWorth_29 : decode cX9_plainWorth 29 = .ok (.iload_n 1, 1) := by decide +kernel
theorem dX9_plainWorth_30 : decode cX9_plainWorth 30 = .ok (.iconst 3, 1) := by decide +kernel
theorem dX9_plainWorth_31 : decode cX9_plainWorth 31 = .ok (.invokevirtual 108, 3) := by decide +kernel
theorem dX9_plainWorth_34 : decode cX9_plainWorth 34 = .ok (.invokevirtual 119, 3) := by decide +kernel
theorem dX9_plainWorth_37 : decode cX9_plainWorth 37 = .ok (.ireturn, 1) := by decide +kernel
theorem dX9_worthOf_0 : decode cX9_worthOf 0 = .ok (.aload_n 0, 1) := by decide +kernel
theorem dX9_worthOf_1 : decode cX9_worthOf 1 = .ok (.iload_n 1, 1) := by decide +kernel
theorem dX9_worthOf_2 : decode cX9_worthOf 2 = .ok (.invokevirtual 123, 3) := by decide +kernel
theorem dX9_worthOf_5 : decode cX9_worthOf 5 = .ok (.istore_n 3, 1) := by decide +kernel
theorem dX9_worthOf_6 : decode cX9_worthOf 6 = .ok (.iload_n 3, 1) := by decide +kernel
theorem dX9_worthOf_7 : decode cX9_worthOf 7 = .ok (.iload_n 2, 1) := by decide +kernel
theorem dX9_worthOf_8 : decode cX9_worthOf 8 = .ok (.aload_n 0, 1) := by decide +kernel
theorem dX9_worthOf_9 : decode cX9_worthOf 9 = .ok (.getfield 9, 3) := by decide +kernel
theorem dX9_worthOf_12 : decode cX9_worthOf 12 = .ok (.iconst 2, 1) := by decide +kernel
theorem dX9_worthOf_13 : decode cX9_worthOf 13 = .ok (.iaload, 1) := by decide +kernel
theorem dX9_worthOf_14 : decode cX9_worthOf 14 = .ok (.if_icmp .le 9, 3) := by decide +kernel
theorem dX9_worthOf_17 : decode cX9_worthOf 17 = .ok (.iload_n 3, 1) := by decide +kernel
theorem dX9_worthOf_18 : decode cX9_worthOf 18 = .ok (.iconst 5, 1) := by decide +kernel
theorem dX9_worthOf_19 : decode cX9_worthOf 19 = .ok (.idiv, 1) := by decide +kernel
theorem dX9_worthOf_20 : decode cX9_worthOf 20 = .ok (.goto 4, 3) := by decide +kernel
theorem dX9_worthOf_23 : decode cX9_worthOf 23 = .ok (.iconst 0, 1) := by decide +kernel
theorem dX9_worthOf_24 : decode cX9_worthOf 24 = .ok (.iadd, 1) := by decide +kernel
theorem dX9_worthOf_25 : decode cX9_worthOf 25 = .ok (.istore 4, 2) := by decide +kernel
theorem dX9_worthOf_27 : decode cX9_worthOf 27 = .ok (.aload_n 0, 1) := by decide +kernel
theorem dX9_worthOf_28 : decode cX9_worthOf 28 = .ok (.iload_n 1, 1) := by decide +kernel
theorem dX9_worthOf_29 : decode cX9_worthOf 29 = .ok (.iconst 3, 1) := by decide +kernel
theorem dX9_worthOf_30 : decode cX9_worthOf 30 = .ok (.invokevirtual 108, 3) := by decide +kernel
theorem dX9_worthOf_33 : decode cX9_worthOf 33 = .ok (.bipush 6, 2) := by decide +kernel
theorem dX9_worthOf_35 : decode cX9_worthOf 35 = .ok (.if_icmp .lt 7, 3) := by decide +kernel
theorem dX9_worthOf_38 : decode cX9_worthOf 38 = .ok (.iconst 0, 1) := by decide +kernel
theorem dX9_worthOf_39 : decode cX9_worthOf 39 = .ok (.goto 4, 3) := by decide +kernel
theorem dX9_worthOf_42 : decode cX9_worthOf 42 = .ok (.iload_n 3, 1) := by decide +kernel
theorem dX9_worthOf_43 : decode cX9_worthOf 43 = .ok (.istore 5, 2) := by decide +kernel
theorem dX9_worthOf_45 : decode cX9_worthOf 45 = .ok (.aload_n 0, 1) := by decide +kernel
theorem dX9_worthOf_46 : decode cX9_worthOf 46 = .ok (.iload_n 1, 1) := by decide +kernel
theorem dX9_worthOf_47 : decode cX9_worthOf 47 = .ok (.iconst 0, 1) := by decide +kernel
theorem dX9_worthOf_48 : decode cX9_worthOf 48 = .ok (.invokevirtual 108, 3) := by decide +kernel
theorem dX9_worthOf_51 : decode cX9_worthOf 51 = .ok (.tableswitch 76 1 6 #[37, 40, 52, 55, 60, 64], 37) := by decide +kernel
theorem dX9_worthOf_88 : decode cX9_worthOf 88 = .ok (.iload 4, 2) := by decide +kernel
theorem dX9_worthOf_90 : decode cX9_worthOf 90 = .ok (.ireturn, 1) := by decide +kernel
theorem dX9_worthOf_91 : decode cX9_worthOf 91 = .ok (.iload 4, 2) := by decide +kernel
theorem dX9_worthOf_93 : decode cX9_worthOf 93 = .ok (.iconst 3, 1) := by decide +kernel
theorem dX9_worthOf_94 : decode cX9_worthOf 94 = .ok (.aload_n 0, 1) := by decide +kernel
theorem dX9_worthOf_95 : decode cX9_worthOf 95 = .ok (.iload_n 1, 1) := by decide +kernel
theorem dX9_worthOf_96 : decode cX9_worthOf 96 = .ok (.iconst 3, 1) := by decide +kernel
theorem dX9_worthOf_97 : decode cX9_worthOf 97 = .ok (.invokevirtual 108, 3) := by decide +kernel
theorem dX9_worthOf_100 : decode cX9_worthOf 100 = .ok (.imul, 1) := by decide +kernel
theorem dX9_worthOf_101 : decode cX9_worthOf 101 = .ok (.isub, 1) := by decide +kernel
theorem dX9_worthOf_102 : decode cX9_worthOf 102 = .ok (.ireturn, 1) := by decide +kernel
theorem dX9_worthOf_103 : decode cX9_worthOf 103 = .ok (.iload 5, 2) := by decide +kernel
theorem dX9_worthOf_105 : decode cX9_worthOf 105 = .ok (.ireturn, 1) := by decide +kernel
theorem dX9_worthOf_106 : decode cX9_worthOf 106 = .ok (.iconst 2, 1) := by decide +kernel
theorem dX9_worthOf_107 : decode cX9_worthOf 107 = .ok (.iload 5, 2) := by decide +kernel
theorem dX9_worthOf_109 : decode cX9_worthOf 109 = .ok (.imul, 1) := by decide +kernel
theorem dX9_worthOf_110 : decode cX9_worthOf 110 = .ok (.ireturn, 1) := by decide +kernel
theorem dX9_worthOf_111 : decode cX9_worthOf 111 = .ok (.iload_n 3, 1) := by decide +kernel
theorem dX9_worthOf_112 : decode cX9_worthOf 112 = .ok (.iconst 2, 1) := by decide +kernel
theorem dX9_worthOf_113 : decode cX9_worthOf 113 = .ok (.idiv, 1) := by decide +kernel
theorem dX9_worthOf_114 : decode cX9_worthOf 114 = .ok (.ireturn, 1) := by decide +kernel
theorem dX9_worthOf_115 : decode cX9_worthOf 115 = .ok (.iload 4, 2) := by decide +kernel
theorem dX9_worthOf_117 : decode cX9_worthOf 117 = .ok (.iconst 5, 1) := by decide +kernel
theorem dX9_worthOf_118 : decode cX9_worthOf 118 = .ok (.aload_n 0, 1) := by decide +kernel
theorem dX9_worthOf_119 : decode cX9_worthOf 119 = .ok (.getfield 9, 3) := by decide +kernel
theorem dX9_worthOf_122 : decode cX9_worthOf 122 = .ok (.iconst 3, 1) := by decide +kernel
theorem dX9_worthOf_123 : decode cX9_worthOf 123 = .ok (.iaload, 1) := by decide +kernel
theorem dX9_worthOf_124 : decode cX9_worthOf 124 = .ok (.imul, 1) := by decide +kernel
theorem dX9_worthOf_125 : decode cX9_worthOf 125 = .ok (.iadd, 1) := by decide +kernel
theorem dX9_worthOf_126 : decode cX9_worthOf 126 = .ok (.ireturn, 1) := by decide +kernel
theorem dX9_worthOf_127 : decode cX9_worthOf 127 = .ok (.iload_n 3, 1) := by decide +kernel
theorem dX9_worthOf_128 : decode cX9_worthOf 128 = .ok (.ireturn, 1) := by decide +kernel
theorem dX9_dueOf_0 : decode cX9_dueOf 0 = .ok (.aload_n 0, 1) := by decide +kernel
theorem dX9_dueOf_1 : decode cX9_dueOf 1 = .ok (.getfield 9, 3) := by decide +kernel
theorem dX9_dueOf_4 : decode cX9_dueOf 4 = .ok (.bipush 11, 2) := by decide +kernel
theorem dX9_dueOf_6 : decode cX9_dueOf 6 = .ok (.iload_n 2, 1) := by decide +kernel
theorem dX9_dueOf_7 : decode cX9_dueOf 7 = .ok (.iadd, 1) := by decide +kernel
theorem dX9_dueOf_8 : decode cX9_dueOf 8 = .ok (.iaload, 1) := by decide +kernel
theorem dX9_dueOf_9 : decode cX9_dueOf 9 = .ok (.istore_n 3, 1) := by decide +kernel
theorem dX9_dueOf_10 : decode cX9_dueOf 10 = .ok (.aload_n 0, 1) := by decide +kernel
theorem dX9_dueOf_11 : decode cX9_dueOf 11 = .ok (.iload_n 1, 1) := by decide +kernel
theorem dX9_dueOf_12 : decode cX9_dueOf 12 = .ok (.iconst 0, 1) := by decide +kernel
theorem dX9_dueOf_13 : decode cX9_dueOf 13 = .ok (.invokevirtual 108, 3) := by decide +kernel
theorem dX9_dueOf_16 : decode cX9_dueOf 16 = .ok (.istore 4, 2) := by decide +kernel
theorem dX9_dueOf_18 : decode cX9_dueOf 18 = .ok (.iload 4, 2) := by decide +kernel
theorem dX9_dueOf_20 : decode cX9_dueOf 20 = .ok (.iconst 4, 1) := by decide +kernel
theorem dX9_dueOf_21 : decode cX9_dueOf 21 = .ok (.if_icmp .ne 9, 3) := by decide +kernel
theorem dX9_dueOf_24 : decode cX9_dueOf 24 = .ok (.iload_n 3, 1) := by decide +kernel
theorem dX9_dueOf_25 : decode cX9_dueOf 25 = .ok (.iconst 2, 1) := by decide +kernel
theorem dX9_dueOf_26 : decode cX9_dueOf 26 = .ok (.idiv, 1) := by decide +kernel
theorem dX9_dueOf_27 : decode cX9_dueOf 27 = .ok (.goto 18, 3) := by decide +kernel
theorem dX9_dueOf_30 : decode cX9_dueOf 30 = .ok (.iload 4, 2) := by decide +kernel
theorem dX9_dueOf_32 : decode cX9_dueOf 32 = .ok (.iconst 5, 1) := by decide +kernel
theorem dX9_dueOf_33 : decode cX9_dueOf 33 = .ok (.if_icmp .ne 11, 3) := by decide +kernel
theorem dX9_dueOf_36 : decode cX9_dueOf 36 = .ok (.iconst 2, 1) := by decide +kernel
theorem dX9_dueOf_37 : decode cX9_dueOf 37 = .ok (.iload_n 3, 1) := by decide +kernel
theorem dX9_dueOf_38 : decode cX9_dueOf 38 = .ok (.imul, 1) := by decide +kernel
theorem dX9_dueOf_39 : decode cX9_dueOf 39 = .ok (.iconst 3, 1) := by decide +kernel
theorem dX9_dueOf_40 : decode cX9_dueOf 40 = .ok (.idiv, 1) := by decide +kernel
theorem dX9_dueOf_41 : decode cX9_dueOf 41 = .ok (.goto 4, 3) := by decide +kernel
theorem dX9_dueOf_44 : decode cX9_dueOf 44 = .ok (.iload_n 3, 1) := by decide +kernel
theorem dX9_dueOf_45 : decode cX9_dueOf 45 = .ok (.ireturn, 1) := by decide +kernel
theorem dX9_isKeeper_0 : decode cX9_isKeeper 0 = .ok (.aload_n 0, 1) := by decide +kernel
theorem dX9_isKeeper_1 : decode cX9_isKeeper 1 = .ok (.iload_n 1, 1) := by decide +kernel
theorem dX9_isKeeper_2 : decode cX9_isKeeper 2 = .ok (.iconst 0, 1) := by decide +kernel
theorem dX9_isKeeper_3 : decode cX9_isKeeper 3 = .ok (.invokevirtual 108, 3) := by decide +kernel
theorem dX9_isKeeper_6 : decode cX9_isKeeper 6 = .ok (.iconst 3, 1) := by decide +kernel
theorem dX9_isKeeper_7 : decode cX9_isKeeper 7 = .ok (.if_icmp .eq 13, 3) := by decide +kernel
theorem dX9_isKeeper_10 : decode cX9_isKeeper 10 = .ok (.aload_n 0, 1) := by decide +kernel
theorem dX9_isKeeper_11 : decode cX9_isKeeper 11 = .ok (.iload_n 1, 1) := by decide +kernel
theorem dX9_isKeeper_12 : decode cX9_isKeeper 12 = .ok (.iconst 0, 1) := by decide +kernel
theorem dX9_isKeeper_13 : decode cX9_isKeeper 13 = .ok (.invokevirtual 108, 3) := by decide +kernel
theorem dX9_isKeeper_16 : decode cX9_isKeeper 16 = .ok (.iconst 4, 1) := by decide +kernel
theorem dX9_isKeeper_17 : decode cX9_isKeeper 17 = .ok (.if_icmp .ne 7, 3) := by decide +kernel
theorem dX9_isKeeper_20 : decode cX9_isKeeper 20 = .ok (.iconst 1, 1) := by decide +kernel
theorem dX9_isKeeper_21 : decode cX9_isKeeper 21 = .ok (.goto 4, 3) := by decide +kernel
theorem dX9_isKeeper_24 : decode cX9_isKeeper 24 = .ok (.iconst 0, 1) := by decide +kernel
theorem dX9_isKeeper_25 : decode cX9_isKeeper 25 = .ok (.ireturn, 1) := by decide +kernel
theorem dX9_buysOf_0 : decode cX9_buysOf 0 = .ok (.aload_n 0, 1) := by decide +kernel
theorem dX9_buysOf_1 : decode cX9_buysOf 1 = .ok (.iload_n 1, 1) := by decide +kernel
theorem dX9_buysOf_2 : decode cX9_buysOf 2 = .ok (.iload_n 2, 1) := by decide +kernel
theorem dX9_buysOf_3 : decode cX9_buysOf 3 = .ok (.invokevirtual 126, 3) := by decide +kernel
theorem dX9_buysOf_6 : decode cX9_buysOf 6 = .ok (.aload_n 0, 1) := by decide +kernel
theorem dX9_buysOf_7 : decode cX9_buysOf 7 = .ok (.iload_n 1, 1) := by decide +kernel
theorem dX9_buysOf_8 : decode cX9_buysOf 8 = .ok (.iload_n 2, 1) := by decide +kernel
theorem dX9_buysOf_9 : decode cX9_buysOf 9 = .ok (.invokevirtual 129, 3) := by decide +kernel
theorem dX9_buysOf_12 : decode cX9_buysOf 12 = .ok (.if_icmp .le 5, 3) := by decide +kernel
theorem dX9_buysOf_15 : decode cX9_buysOf 15 = .ok (.iconst 0, 1) := by decide +kernel
theorem dX9_buysOf_16 : decode cX9_buysOf 16 = .ok (.ireturn, 1) := by decide +kernel
theorem dX9_buysOf_17 : decode cX9_buysOf 17 = .ok (.aload_n 0, 1) := by decide +kernel
theorem dX9_buysOf_18 : decode cX9_buysOf 18 = .ok (.iload_n 1, 1) := by decide +kernel
theorem dX9_buysOf_19 : decode cX9_buysOf 19 = .ok (.iconst 2, 1) := by decide +kernel
theorem dX9_buysOf_20 : decode cX9_buysOf 20 = .ok (.invokevirtual 108, 3) := by decide +kernel
theorem dX9_buysOf_23 : decode cX9_buysOf 23 = .ok (.istore 4, 2) := by decide +kernel
theorem dX9_buysOf_25 : decode cX9_buysOf 25 = .ok (.aload_n 0, 1) := by decide +kernel
theorem dX9_buysOf_26 : decode cX9_buysOf 26 = .ok (.iload_n 1, 1) := by decide +kernel
theorem dX9_buysOf_27 : decode cX9_buysOf 27 = .ok (.iconst 0, 1) := by decide +kernel
theorem dX9_buysOf_28 : decode cX9_buysOf 28 = .ok (.invokevirtual 108, 3) := by decide +kernel
theorem dX9_buysOf_31 : decode cX9_buysOf 31 = .ok (.iconst 2, 1) := by decide +kernel
theorem dX9_buysOf_32 : decode cX9_buysOf 32 = .ok (.if_icmp .ne 20, 3) := by decide +kernel
theorem dX9_buysOf_35 : decode cX9_buysOf 35 = .ok (.iload_n 2, 1) := by decide +kernel
theorem dX9_buysOf_36 : decode cX9_buysOf 36 = .ok (.aload_n 0, 1) := by decide +kernel
theorem dX9_buysOf_37 : decode cX9_buysOf 37 = .ok (.getfield 9, 3) := by decide +kernel
theorem dX9_buysOf_40 : decode cX9_buysOf 40 = .ok (.iconst 2, 1) := by decide +kernel
theorem dX9_buysOf_41 : decode cX9_buysOf 41 = .ok (.iaload, 1) := by decide +kernel
theorem dX9_buysOf_42 : decode cX9_buysOf 42 = .ok (.if_icmp .le 10, 3) := by decide +kernel
theorem dX9_buysOf_45 : decode cX9_buysOf 45 = .ok (.iconst 2, 1) := by decide +kernel
theorem dX9_buysOf_46 : decode cX9_buysOf 46 = .ok (.iload 4, 2) := by decide +kernel
theorem dX9_buysOf_48 : decode cX9_buysOf 48 = .ok (.imul, 1) := by decide +kernel
theorem dX9_buysOf_49 : decode cX9_buysOf 49 = .ok (.goto 5, 3) := by decide +kernel
theorem dX9_buysOf_52 : decode cX9_buysOf 52 = .ok (.iload 4, 2) := by decide +kernel
theorem dX9_buysOf_54 : decode cX9_buysOf 54 = .ok (.istore 4, 2) := by decide +kernel
theorem dX9_buysOf_56 : decode cX9_buysOf 56 = .ok (.aload_n 0, 1) := by decide +kernel
theorem dX9_buysOf_57 : decode cX9_buysOf 57 = .ok (.iload_n 1, 1) := by decide +kernel
theorem dX9_buysOf_58 : decode cX9_buysOf 58 = .ok (.invokevirtual 132, 3) := by decide +kernel
theorem dX9_buysOf_61 : decode cX9_buysOf 61 = .ok (.ifCond .eq 24, 3) := by decide +kernel
theorem dX9_buysOf_64 : decode cX9_buysOf 64 = .ok (.iconst 0, 1) := by decide +kernel
theorem dX9_buysOf_65 : decode cX9_buysOf 65 = .ok (.iload 4, 2) := by decide +kernel
theorem dX9_buysOf_67 : decode cX9_buysOf 67 = .ok (.bipush 6, 2) := by decide +kernel
theorem dX9_buysOf_69 : decode cX9_buysOf 69 = .ok (.aload_n 0, 1) := by decide +kernel
theorem dX9_buysOf_70 : decode cX9_buysOf 70 = .ok (.iload_n 1, 1) := by decide +kernel
theorem dX9_buysOf_71 : decode cX9_buysOf 71 = .ok (.iconst 3, 1) := by decide +kernel
theorem dX9_buysOf_72 : decode cX9_buysOf 72 = .ok (.invokevirtual 108, 3) := by decide +kernel
theorem dX9_buysOf_75 : decode cX9_buysOf 75 = .ok (.isub, 1) := by decide +kernel
theorem dX9_buysOf_76 : decode cX9_buysOf 76 = .ok (.invokestatic 67, 3) := by decide +kernel
theorem dX9_buysOf_79 : decode cX9_buysOf 79 = .ok (.invokestatic 73, 3) := by decide +kernel
theorem dX9_buysOf_82 : decode cX9_buysOf 82 = .ok (.goto 5, 3) := by decide +kernel
theorem dX9_buysOf_85 : decode cX9_buysOf 85 = .ok (.iload 4, 2) := by decide +kernel
theorem dX9_buysOf_87 : decode cX9_buysOf 87 = .ok (.istore 4, 2) := by decide +kernel
theorem dX9_buysOf_89 : decode cX9_buysOf 89 = .ok (.iload 4, 2) := by decide +kernel
theorem dX9_buysOf_91 : decode cX9_buysOf 91 = .ok (.iload_n 3, 1) := by decide +kernel
theorem dX9_buysOf_92 : decode cX9_buysOf 92 = .ok (.invokestatic 67, 3) := by decide +kernel
theorem dX9_buysOf_95 : decode cX9_buysOf 95 = .ok (.ireturn, 1) := by decide +kernel
theorem dX9_at_0 : decode cX9_at 0 = .ok (.aload_n 0, 1) := by decide +kernel
theorem dX9_at_1 : decode cX9_at 1 = .ok (.iload_n 1, 1) := by decide +kernel
theorem dX9_at_2 : decode cX9_at 2 = .ok (.invokevirtual 105, 3) := by decide +kernel
theorem dX9_at_5 : decode cX9_at 5 = .ok (.ifCond .eq 30, 3) := by decide +kernel
theorem dX9_at_8 : decode cX9_at 8 = .ok (.iload_n 2, 1) := by decide +kernel
theorem dX9_at_9 : decode cX9_at 9 = .ok (.invokestatic 84, 3) := by decide +kernel
theorem dX9_at_12 : decode cX9_at 12 = .ok (.ifCond .eq 23, 3) := by decide +kernel
theorem dX9_at_15 : decode cX9_at 15 = .ok (.iload_n 3, 1) := by decide +kernel
theorem dX9_at_16 : decode cX9_at 16 = .ok (.iconst 0, 1) := by decide +kernel
theorem dX9_at_17 : decode cX9_at 17 = .ok (.iconst 2, 1) := by decide +kernel
theorem dX9_at_18 : decode cX9_at 18 = .ok (.invokestatic 80, 3) := by decide +kernel
theorem dX9_at_21 : decode cX9_at 21 = .ok (.ifCond .eq 14, 3) := by decide +kernel
theorem dX9_at_24 : decode cX9_at 24 = .ok (.iload 4, 2) := by decide +kernel
theorem dX9_at_26 : decode cX9_at 26 = .ok (.iconst 0, 1) := by decide +kernel
theorem dX9_at_27 : decode cX9_at 27 = .ok (.bipush 99, 2) := by decide +kernel
theorem dX9_at_29 : decode cX9_at 29 = .ok (.invokestatic 80, 3) := by decide +kernel
theorem dX9_at_32 : decode cX9_at 32 = .ok (.ifCond .ne 10, 3) := by decide +kernel
theorem dX9_at_35 : decode cX9_at 35 = .ok (.aload_n 0, 1) := by decide +kernel
theorem dX9_at_36 : decode cX9_at 36 = .ok (.ldc 91, 2) := by decide +kernel
theorem dX9_at_38 : decode cX9_at 38 = .ok (.invokevirtual 92, 3) := by decide +kernel
theorem dX9_at_41 : decode cX9_at 41 = .ok (.ireturn, 1) := by decide +kernel
theorem dX9_at_42 : decode cX9_at 42 = .ok (.iload_n 3, 1) := by decide +kernel
theorem dX9_at_43 : decode cX9_at 43 = .ok (.ifCond .ne 12, 3) := by decide +kernel
theorem dX9_at_46 : decode cX9_at 46 = .ok (.aload_n 0, 1) := by decide +kernel
theorem dX9_at_47 : decode cX9_at 47 = .ok (.iload_n 1, 1) := by decide +kernel
theorem dX9_at_48 : decode cX9_at 48 = .ok (.iload_n 2, 1) := by decide +kernel
theorem dX9_at_49 : decode cX9_at 49 = .ok (.invokevirtual 129, 3) := by decide +kernel
theorem dX9_at_52 : decode cX9_at 52 = .ok (.goto 25, 3) := by decide +kernel
theorem dX9_at_55 : decode cX9_at 55 = .ok (.iload_n 3, 1) := by decide +kernel
theorem dX9_at_56 : decode cX9_at 56 = .ok (.iconst 1, 1) := by decide +kernel
theorem dX9_at_57 : decode cX9_at 57 = .ok (.if_icmp .ne 12, 3) := by decide +kernel
theorem dX9_at_60 : decode cX9_at 60 = .ok (.aload_n 0, 1) := by decide +kernel
theorem dX9_at_61 : decode cX9_at 61 = .ok (.iload_n 1, 1) := by decide +kernel
theorem dX9_at_62 : decode cX9_at 62 = .ok (.iload_n 2, 1) := by decide +kernel
theorem dX9_at_63 : decode cX9_at 63 = .ok (.invokevirtual 126, 3) := by decide +kernel
theorem dX9_at_66 : decode cX9_at 66 = .ok (.goto 11, 3) := by decide +kernel
theorem dX9_at_69 : decode cX9_at 69 = .ok (.aload_n 0, 1) := by decide +kernel
theorem dX9_at_70 : decode cX9_at 70 = .ok (.iload_n 1, 1) := by decide +kernel
theorem dX9_at_71 : decode cX9_at 71 = .ok (.iload_n 2, 1) := by decide +kernel
theorem dX9_at_72 : decode cX9_at 72 = .ok (.iload 4, 2) := by decide +kernel
theorem dX9_at_74 : decode cX9_at 74 = .ok (.invokevirtual 135, 3) := by decide +kernel
theorem dX9_at_77 : decode cX9_at 77 = .ok (.ireturn, 1) := by decide +kernel
theorem dX9_feed_0 : decode cX9_feed 0 = .ok (.iload_n 3, 1) := by decide +kernel
theorem dX9_feed_1 : decode cX9_feed 1 = .ok (.iconst 1, 1) := by decide +kernel
theorem dX9_feed_2 : decode cX9_feed 2 = .ok (.bipush 8, 2) := by decide +kernel
theorem dX9_feed_4 : decode cX9_feed 4 = .ok (.invokestatic 80, 3) := by decide +kernel
theorem dX9_feed_7 : decode cX9_feed 7 = .ok (.ifCond .ne 10, 3) := by decide +kernel
theorem dX9_feed_10 : decode cX9_feed 10 = .ok (.aload_n 0, 1) := by decide +kernel
theorem dX9_feed_11 : decode cX9_feed 11 = .ok (.ldc 91, 2) := by decide +kernel
theorem dX9_feed_13 : decode cX9_feed 13 = .ok (.invokevirtual 92, 3) := by decide +kernel
theorem dX9_feed_16 : decode cX9_feed 16 = .ok (.ireturn, 1) := by decide +kernel
theorem dX9_feed_17 : decode cX9_feed 17 = .ok (.aload_n 0, 1) := by decide +kernel
theorem dX9_feed_18 : decode cX9_feed 18 = .ok (.getfield 9, 3) := by decide +kernel
theorem dX9_feed_21 : decode cX9_feed 21 = .ok (.bipush 8, 2) := by decide +kernel
theorem dX9_feed_23 : decode cX9_feed 23 = .ok (.iaload, 1) := by decide +kernel
theorem dX9_feed_24 : decode cX9_feed 24 = .ok (.iload_n 3, 1) := by decide +kernel
theorem dX9_feed_25 : decode cX9_feed 25 = .ok (.iadd, 1) := by decide +kernel
theorem dX9_feed_26 : decode cX9_feed 26 = .ok (.bipush 50, 2) := by decide +kernel
theorem dX9_feed_28 : decode cX9_feed 28 = .ok (.if_icmp .le 10, 3) := by decide +kernel
theorem dX9_feed_31 : decode cX9_feed 31 = .ok (.aload_n 0, 1) := by decide +kernel
theorem dX9_feed_32 : decode cX9_feed 32 = .ok (.ldc 100, 2) := by decide +kernel
theorem dX9_feed_34 : decode cX9_feed 34 = .ok (.invokevirtual 92, 3) := by decide +kernel
theorem dX9_feed_37 : decode cX9_feed 37 = .ok (.ireturn, 1) := by decide +kernel
theorem dX9_feed_38 : decode cX9_feed 38 = .ok (.iconst 0, 1) := by decide +kernel
theorem dX9_feed_39 : decode cX9_feed 39 = .ok (.istore 4, 2) := by decide +kernel
theorem dX9_feed_41 : decode cX9_feed 41 = .ok (.iload 4, 2) := by decide +kernel
theorem dX9_feed_43 : decode cX9_feed 43 = .ok (.iload_n 3, 1) := by decide +kernel
theorem dX9_feed_44 : decode cX9_feed 44 = .ok (.if_icmp .ge 47, 3) := by decide +kernel
theorem dX9_feed_47 : decode cX9_feed 47 = .ok (.aload_n 0, 1) := by decide +kernel
theorem dX9_feed_48 : decode cX9_feed 48 = .ok (.getfield 9, 3) := by decide +kernel
theorem dX9_feed_51 : decode cX9_feed 51 = .ok (.bipush 53, 2) := by decide +kernel
theorem dX9_feed_53 : decode cX9_feed 53 = .ok (.aload_n 0, 1) := by decide +kernel
theorem dX9_feed_54 : decode cX9_feed 54 = .ok (.getfield 9, 3) := by decide +kernel
theorem dX9_feed_57 : decode cX9_feed 57 = .ok (.bipush 8, 2) := by decide +kernel
theorem dX9_feed_59 : decode cX9_feed 59 = .ok (.iaload, 1) := by decide +kernel
theorem dX9_feed_60 : decode cX9_feed 60 = .ok (.iadd, 1) := by decide +kernel
theorem dX9_feed_61 : decode cX9_feed 61 = .ok (.lload_n 1, 1) := by decide +kernel
theorem dX9_feed_62 : decode cX9_feed 62 = .ok (.bipush 8, 2) := by decide +kernel
theorem dX9_feed_64 : decode cX9_feed 64 = .ok (.iload 4, 2) := by decide +kernel
theorem dX9_feed_66 : decode cX9_feed 66 = .ok (.imul, 1) := by decide +kernel
theorem dX9_feed_67 : decode cX9_feed 67 = .ok (.lshr, 1) := by decide +kernel
theorem dX9_feed_68 : decode cX9_feed 68 = .ok (.ldc2_w 138, 3) := by decide +kernel
theorem dX9_feed_71 : decode cX9_feed 71 = .ok (.land, 1) := by decide +kernel
theorem dX9_feed_72 : decode cX9_feed 72 = .ok (.l2i, 1) := by decide +kernel
theorem dX9_feed_73 : decode cX9_feed 73 = .ok (.iastore, 1) := by decide +kernel
theorem dX9_feed_74 : decode cX9_feed 74 = .ok (.aload_n 0, 1) := by decide +kernel
theorem dX9_feed_75 : decode cX9_feed 75 = .ok (.getfield 9, 3) := by decide +kernel
theorem dX9_feed_78 : decode cX9_feed 78 = .ok (.bipush 8, 2) := by decide +kernel
theorem dX9_feed_80 : decode cX9_feed 80 = .ok (.dup2, 1) := by decide +kernel
theorem dX9_feed_81 : decode cX9_feed 81 = .ok (.iaload, 1) := by decide +kernel
theorem dX9_feed_82 : decode cX9_feed 82 = .ok (.iconst 1, 1) := by decide +kernel
theorem dX9_feed_83 : decode cX9_feed 83 = .ok (.iadd, 1) := by decide +kernel
theorem dX9_feed_84 : decode cX9_feed 84 = .ok (.iastore, 1) := by decide +kernel
theorem dX9_feed_85 : decode cX9_feed 85 = .ok (.iinc 4 1, 3) := by decide +kernel
theorem dX9_feed_88 : decode cX9_feed 88 = .ok (.goto (-47), 3) := by decide +kernel
theorem dX9_feed_91 : decode cX9_feed 91 = .ok (.aload_n 0, 1) := by decide +kernel
theorem dX9_feed_92 : decode cX9_feed 92 = .ok (.getfield 9, 3) := by decide +kernel
theorem dX9_feed_95 : decode cX9_feed 95 = .ok (.bipush 8, 2) := by decide +kernel
theorem dX9_feed_97 : decode cX9_feed 97 = .ok (.iaload, 1) := by decide +kernel
theorem dX9_feed_98 : decode cX9_feed 98 = .ok (.ireturn, 1) := by decide +kernel
theorem dX9_here_0 : decode cX9_here 0 = .ok (.aload_n 0, 1) := by decide +kernel
theorem dX9_here_1 : decode cX9_here 1 = .ok (.getfield 140, 3) := by decide +kernel
theorem dX9_here_4 : decode cX9_here 4 = .ok (.ifCond .ne 32, 3) := by decide +kernel
theorem dX9_here_7 : decode cX9_here 7 = .ok (.aload_n 0, 1) := by decide +kernel
theorem dX9_here_8 : decode cX9_here 8 = .ok (.getfield 144, 3) := by decide +kernel
theorem dX9_here_11 : decode cX9_here 11 = .ok (.aload_n 0, 1) := by decide +kernel
theorem dX9_here_12 : decode cX9_here 12 = .ok (.getfield 9, 3) := by decide +kernel
theorem dX9_here_15 : decode cX9_here 15 = .ok (.bipush 8, 2) := by decide +kernel
theorem dX9_here_17 : decode cX9_here 17 = .ok (.iaload, 1) := by decide +kernel
theorem dX9_here_18 : decode cX9_here 18 = .ok (.if_icmp .ge 18, 3) := by decide +kernel
theorem dX9_here_21 : decode cX9_here 21 = .ok (.aload_n 0, 1) := by decide +kernel
theorem dX9_here_22 : decode cX9_here 22 = .ok (.getfield 9, 3) := by decide +kernel
theorem dX9_here_25 : decode cX9_here 25 = .ok (.bipush 53, 2) := by decide +kernel
theorem dX9_here_27 : decode cX9_here 27 = .ok (.aload_n 0, 1) := by decide +kernel
theorem dX9_here_28 : decode cX9_here 28 = .ok (.getfield 144, 3) := by decide +kernel
theorem dX9_here_31 : decode cX9_here 31 = .ok (.iadd, 1) := by decide +kernel
theorem dX9_here_32 : decode cX9_here 32 = .ok (.iaload, 1) := by decide +kernel
theorem dX9_here_33 : decode cX9_here 33 = .ok (.goto 4, 3) := by decide +kernel
theorem dX9_here_36 : decode cX9_here 36 = .ok (.iconst (-1), 1) := by decide +kernel
theorem dX9_here_37 : decode cX9_here 37 = .ok (.ireturn, 1) := by decide +kernel
theorem dX9_takes_0 : decode cX9_takes 0 = .ok (.aload_n 0, 1) := by decide +kernel
theorem dX9_takes_1 : decode cX9_takes 1 = .ok (.invokevirtual 148, 3) := by decide +kernel
theorem dX9_takes_4 : decode cX9_takes 4 = .ok (.iload_n 1, 1) := by decide +kernel
theorem dX9_takes_5 : decode cX9_takes 5 = .ok (.if_icmp .ne 7, 3) := by decide +kernel
theorem dX9_takes_8 : decode cX9_takes 8 = .ok (.iconst 1, 1) := by decide +kernel
theorem dX9_takes_9 : decode cX9_takes 9 = .ok (.goto 4, 3) := by decide +kernel
theorem dX9_takes_12 : decode cX9_takes 12 = .ok (.iconst 0, 1) := by decide +kernel
theorem dX9_takes_13 : decode cX9_takes 13 = .ok (.istore_n 2, 1) := by decide +kernel
theorem dX9_takes_14 : decode cX9_takes 14 = .ok (.aload_n 0, 1) := by decide +kernel
theorem dX9_takes_15 : decode cX9_takes 15 = .ok (.dup, 1) := by decide +kernel
theorem dX9_takes_16 : decode cX9_takes 16 = .ok (.getfield 144, 3) := by decide +kernel
theorem dX9_takes_19 : decode cX9_takes 19 = .ok (.iload_n 2, 1) := by decide +kernel
theorem dX9_takes_20 : decode cX9_takes 20 = .ok (.ifCond .eq 7, 3) := by decide +kernel
theorem dX9_takes_23 : decode cX9_takes 23 = .ok (.iconst 1, 1) := by decide +kernel
theorem dX9_takes_24 : decode cX9_takes 24 = .ok (.goto 4, 3) := by decide +kernel
theorem dX9_takes_27 : decode cX9_takes 27 = .ok (.iconst 0, 1) := by decide +kernel
theorem dX9_takes_28 : decode cX9_takes 28 = .ok (.iadd, 1) := by decide +kernel
theorem dX9_takes_29 : decode cX9_takes 29 = .ok (.putfield 144, 3) := by decide +kernel
theorem dX9_takes_32 : decode cX9_takes 32 = .ok (.iload_n 2, 1) := by decide +kernel
theorem dX9_takes_33 : decode cX9_takes 33 = .ok (.ireturn, 1) := by decide +kernel
theorem dX9_codes_0 : decode cX9_codes 0 = .ok (.aload_n 0, 1) := by decide +kernel
theorem dX9_codes_1 : decode cX9_codes 1 = .ok (.getfield 140, 3) := by decide +kernel
theorem dX9_codes_4 : decode cX9_codes 4 = .ok (.ifCond .ne 23, 3) := by decide +kernel
theorem dX9_codes_7 : decode cX9_codes 7 = .ok (.aload_n 0, 1) := by decide +kernel
theorem dX9_codes_8 : decode cX9_codes 8 = .ok (.getfield 36, 3) := by decide +kernel
theorem dX9_codes_11 : decode cX9_codes 11 = .ok (.aload_n 0, 1) := by decide +kernel
theorem dX9_codes_12 : decode cX9_codes 12 = .ok (.getfield 152, 3) := by decide +kernel
theorem dX9_codes_15 : decode cX9_codes 15 = .ok (.iload_n 1, 1) := by decide +kernel
theorem dX9_codes_16 : decode cX9_codes 16 = .ok (.iastore, 1) := by decide +kernel
theorem dX9_codes_17 : decode cX9_codes 17 = .ok (.aload_n 0, 1) := by decide +kernel
theorem dX9_codes_18 : decode cX9_codes 18 = .ok (.dup, 1) := by decide +kernel
theorem dX9_codes_19 : decode cX9_codes 19 = .ok (.getfield 152, 3) := by decide +kernel
theorem dX9_codes_22 : decode cX9_codes 22 = .ok (.iconst 1, 1) := by decide +kernel
theorem dX9_codes_23 : decode cX9_codes 23 = .ok (.iadd, 1) := by decide +kernel
theorem dX9_codes_24 : decode cX9_codes 24 = .ok (.putfield 152, 3) := by decide +kernel
theorem dX9_codes_27 : decode cX9_codes 27 = .ok (.return_, 1) := by decide +kernel
theorem dX9_either_0 : decode cX9_either 0 = .ok (.aload_n 0, 1) := by decide +kernel
theorem dX9_either_1 : decode cX9_either 1 = .ok (.invokevirtual 155, 3) := by decide +kernel
theorem dX9_either_4 : decode cX9_either 4 = .ok (.aload_n 0, 1) := by decide +kernel
theorem dX9_either_5 : decode cX9_either 5 = .ok (.bipush 124, 2) := by decide +kernel
theorem dX9_either_7 : decode cX9_either 7 = .ok (.invokevirtual 158, 3) := by decide +kernel
theorem dX9_either_10 : decode cX9_either 10 = .ok (.ifCond .eq 17, 3) := by decide +kernel
theorem dX9_either_13 : decode cX9_either 13 = .ok (.aload_n 0, 1) := by decide +kernel
theorem dX9_either_14 : decode cX9_either 14 = .ok (.invokevirtual 155, 3) := by decide +kernel
theorem dX9_either_17 : decode cX9_either 17 = .ok (.aload_n 0, 1) := by decide +kernel
theorem dX9_either_18 : decode cX9_either 18 = .ok (.sipush 20000, 3) := by decide +kernel
theorem dX9_either_21 : decode cX9_either 21 = .ok (.invokevirtual 161, 3) := by decide +kernel
theorem dX9_either_24 : decode cX9_either 24 = .ok (.goto (-20), 3) := by decide +kernel
theorem dX9_either_27 : decode cX9_either 27 = .ok (.return_, 1) := by decide +kernel
theorem dX9_both_0 : decode cX9_both 0 = .ok (.aload_n 0, 1) := by decide +kernel
theorem dX9_both_1 : decode cX9_both 1 = .ok (.invokevirtual 165, 3) := by decide +kernel
theorem dX9_both_4 : decode cX9_both 4 = .ok (.aload_n 0, 1) := by decide +kernel
theorem dX9_both_5 : decode cX9_both 5 = .ok (.bipush 38, 2) := by decide +kernel
theorem dX9_both_7 : decode cX9_both 7 = .ok (.invokevirtual 158, 3) := by decide +kernel
theorem dX9_both_10 : decode cX9_both 10 = .ok (.ifCond .eq 17, 3) := by decide +kernel
theorem dX9_both_13 : decode cX9_both 13 = .ok (.aload_n 0, 1) := by decide +kernel
theorem dX9_both_14 : decode cX9_both 14 = .ok (.invokevirtual 165, 3) := by decide +kernel
theorem dX9_both_17 : decode cX9_both 17 = .ok (.aload_n 0, 1) := by decide +kernel
theorem dX9_both_18 : decode cX9_both 18 = .ok (.sipush 20001, 3) := by decide +kernel
theorem dX9_both_21 : decode cX9_both 21 = .ok (.invokevirtual 161, 3) := by decide +kernel
theorem dX9_both_24 : decode cX9_both 24 = .ok (.goto (-20), 3) := by decide +kernel
theorem dX9_both_27 : decode cX9_both 27 = .ok (.return_, 1) := by decide +kernel
theorem dX9_compared_0 : decode cX9_compared 0 = .ok (.aload_n 0, 1) := by decide +kernel
theorem dX9_compared_1 : decode cX9_compared 1 = .ok (.invokevirtual 168, 3) := by decide +kernel
theorem dX9_compared_4 : decode cX9_compared 4 = .ok (.aload_n 0, 1) := by decide +kernel
theorem dX9_compared_5 : decode cX9_compared 5 = .ok (.bipush 60, 2) := by decide +kernel
theorem dX9_compared_7 : decode cX9_compared 7 = .ok (.invokevirtual 158, 3) := by decide +kernel
theorem dX9_compared_10 : decode cX9_compared 10 = .ok (.ifCond .eq 9, 3) := by decide +kernel
theorem dX9_compared_13 : decode cX9_compared 13 = .ok (.sipush 20002, 3) := by decide +kernel
theorem dX9_compared_16 : decode cX9_compared 16 = .ok (.goto 34, 3) := by decide +kernel
theorem dX9_compared_19 : decode cX9_compared 19 = .ok (.aload_n 0, 1) := by decide +kernel
theorem dX9_compared_20 : decode cX9_compared 20 = .ok (.bipush 61, 2) := by decide +kernel
theorem dX9_compared_22 : decode cX9_compared 22 = .ok (.invokevirtual 158, 3) := by decide +kernel
theorem dX9_compared_25 : decode cX9_compared 25 = .ok (.ifCond .eq 9, 3) := by decide +kernel
theorem dX9_compared_28 : decode cX9_compared 28 = .ok (.sipush 20003, 3) := by decide +kernel
theorem dX9_compared_31 : decode cX9_compared 31 = .ok (.goto 19, 3) := by decide +kernel
theorem dX9_compared_34 : decode cX9_compared 34 = .ok (.aload_n 0, 1) := by decide +kernel
theorem dX9_compared_35 : decode cX9_compared 35 = .ok (.bipush 62, 2) := by decide +kernel
theorem dX9_compared_37 : decode cX9_compared 37 = .ok (.invokevirtual 158, 3) := by decide +kernel
theorem dX9_compared_40 : decode cX9_compared 40 = .ok (.ifCond .eq 9, 3) := by decide +kernel
theorem dX9_compared_43 : decode cX9_compared 43 = .ok (.sipush 20004, 3) := by decide +kernel
theorem dX9_compared_46 : decode cX9_compared 46 = .ok (.goto 4, 3) := by decide +kernel
theorem dX9_compared_49 : decode cX9_compared 49 = .ok (.iconst 0, 1) := by decide +kernel
theorem dX9_compared_50 : decode cX9_compared 50 = .ok (.istore_n 1, 1) := by decide +kernel
theorem dX9_compared_51 : decode cX9_compared 51 = .ok (.iload_n 1, 1) := by decide +kernel
theorem dX9_compared_52 : decode cX9_compared 52 = .ok (.ifCond .le 12, 3) := by decide +kernel
theorem dX9_compared_55 : decode cX9_compared 55 = .ok (.aload_n 0, 1) := by decide +kernel
theorem dX9_compared_56 : decode cX9_compared 56 = .ok (.invokevirtual 168, 3) := by decide +kernel
theorem dX9_compared_59 : decode cX9_compared 59 = .ok (.aload_n 0, 1) := by decide +kernel
theorem dX9_compared_60 : decode cX9_compared 60 = .ok (.iload_n 1, 1) := by decide +kernel
theorem dX9_compared_61 : decode cX9_compared 61 = .ok (.invokevirtual 161, 3) := by decide +kernel
theorem dX9_compared_64 : decode cX9_compared 64 = .ok (.return_, 1) := by decide +kernel
theorem dX9_sum_0 : decode cX9_sum 0 = .ok (.aload_n 0, 1) := by decide +kernel
theorem dX9_sum_1 : decode cX9_sum 1 = .ok (.invokevirtual 171, 3) := by decide +kernel
theorem dX9_sum_4 : decode cX9_sum 4 = .ok (.aload_n 0, 1) := by decide +kernel
theorem dX9_sum_5 : decode cX9_sum 5 = .ok (.bipush 43, 2) := by decide +kernel
theorem dX9_sum_7 : decode cX9_sum 7 = .ok (.invokevirtual 158, 3) := by decide +kernel
theorem dX9_sum_10 : decode cX9_sum 10 = .ok (.ifCond .eq 9, 3) := by decide +kernel
theorem dX9_sum_13 : decode cX9_sum 13 = .ok (.sipush 20005, 3) := by decide +kernel
theorem dX9_sum_16 : decode cX9_sum 16 = .ok (.goto 19, 3) := by decide +kernel
theorem dX9_sum_19 : decode cX9_sum 19 = .ok (.aload_n 0, 1) := by decide +kernel
theorem dX9_sum_20 : decode cX9_sum 20 = .ok (.bipush 45, 2) := by decide +kernel
theorem dX9_sum_22 : decode cX9_sum 22 = .ok (.invokevirtual 158, 3) := by decide +kernel
theorem dX9_sum_25 : decode cX9_sum 25 = .ok (.ifCond .eq 9, 3) := by decide +kernel
theorem dX9_sum_28 : decode cX9_sum 28 = .ok (.sipush 20006, 3) := by decide +kernel
theorem dX9_sum_31 : decode cX9_sum 31 = .ok (.goto 4, 3) := by decide +kernel
theorem dX9_sum_34 : decode cX9_sum 34 = .ok (.iconst 0, 1) := by decide +kernel
theorem dX9_sum_35 : decode cX9_sum 35 = .ok (.istore_n 1, 1) := by decide +kernel
theorem dX9_sum_36 : decode cX9_sum 36 = .ok (.iload_n 1, 1) := by decide +kernel
theorem dX9_sum_37 : decode cX9_sum 37 = .ok (.ifCond .le 47, 3) := by decide +kernel
theorem dX9_sum_40 : decode cX9_sum 40 = .ok (.aload_n 0, 1) := by decide +kernel
theorem dX9_sum_41 : decode cX9_sum 41 = .ok (.invokevirtual 171, 3) := by decide +kernel
theorem dX9_sum_44 : decode cX9_sum 44 = .ok (.aload_n 0, 1) := by decide +kernel
theorem dX9_sum_45 : decode cX9_sum 45 = .ok (.iload_n 1, 1) := by decide +kernel
theorem dX9_sum_46 : decode cX9_sum 46 = .ok (.invokevirtual 161, 3) := by decide +kernel
theorem dX9_sum_49 : decode cX9_sum 49 = .ok (.aload_n 0, 1) := by decide +kernel
theorem dX9_sum_50 : decode cX9_sum 50 = .ok (.bipush 43, 2) := by decide +kernel
theorem dX9_sum_52 : decode cX9_sum 52 = .ok (.invokevirtual 158, 3) := by decide +kernel
theorem dX9_sum_55 : decode cX9_sum 55 = .ok (.ifCond .eq 9, 3) := by decide +kernel
theorem dX9_sum_58 : decode cX9_sum 58 = .ok (.sipush 20005, 3) := by decide +kernel
theorem dX9_sum_61 : decode cX9_sum 61 = .ok (.goto 19, 3) := by decide +kernel
theorem dX9_sum_64 : decode cX9_sum 64 = .ok (.aload_n 0, 1) := by decide +kernel
theorem dX9_sum_65 : decode cX9_sum 65 = .ok (.bipush 45, 2) := by decide +kernel
theorem dX9_sum_67 : decode cX9_sum 67 = .ok (.invokevirtual 158, 3) := by decide +kernel
theorem dX9_sum_70 : decode cX9_sum 70 = .ok (.ifCond .eq 9, 3) := by decide +kernel
theorem dX9_sum_73 : decode cX9_sum 73 = .ok (.sipush 20006, 3) := by decide +kernel
theorem dX9_sum_76 : decode cX9_sum 76 = .ok (.goto 4, 3) := by decide +kernel
theorem dX9_sum_79 : decode cX9_sum 79 = .ok (.iconst 0, 1) := by decide +kernel
theorem dX9_sum_80 : decode cX9_sum 80 = .ok (.istore_n 1, 1) := by decide +kernel
theorem dX9_sum_81 : decode cX9_sum 81 = .ok (.goto (-45), 3) := by decide +kernel
theorem dX9_sum_84 : decode cX9_sum 84 = .ok (.return_, 1) := by decide +kernel
theorem dX9_product_0 : decode cX9_product 0 = .ok (.aload_n 0, 1) := by decide +kernel
theorem dX9_product_1 : decode cX9_product 1 = .ok (.invokevirtual 174, 3) := by decide +kernel
theorem dX9_product_4 : decode cX9_product 4 = .ok (.aload_n 0, 1) := by decide +kernel
theorem dX9_product_5 : decode cX9_product 5 = .ok (.bipush 42, 2) := by decide +kernel
theorem dX9_product_7 : decode cX9_product 7 = .ok (.invokevirtual 158, 3) := by decide +kernel
theorem dX9_product_10 : decode cX9_product 10 = .ok (.ifCond .eq 9, 3) := by decide +kernel
theorem dX9_product_13 : decode cX9_product 13 = .ok (.sipush 20007, 3) := by decide +kernel
theorem dX9_product_16 : decode cX9_product 16 = .ok (.goto 34, 3) := by decide +kernel
theorem dX9_product_19 : decode cX9_product 19 = .ok (.aload_n 0, 1) := by decide +kernel
theorem dX9_product_20 : decode cX9_product 20 = .ok (.bipush 47, 2) := by decide +kernel
theorem dX9_product_22 : decode cX9_product 22 = .ok (.invokevirtual 158, 3) := by decide +kernel
theorem dX9_product_25 : decode cX9_product 25 = .ok (.ifCond .eq 9, 3) := by decide +kernel
theorem dX9_product_28 : decode cX9_product 28 = .ok (.sipush 20008, 3) := by decide +kernel
theorem dX9_product_31 : decode cX9_product 31 = .ok (.goto 19, 3) := by decide +kernel
theorem dX9_product_34 : decode cX9_product 34 = .ok (.aload_n 0, 1) := by decide +kernel
theorem dX9_product_35 : decode cX9_product 35 = .ok (.bipush 37, 2) := by decide +kernel
theorem dX9_product_37 : decode cX9_product 37 = .ok (.invokevirtual 158, 3) := by decide +kernel
theorem dX9_product_40 : decode cX9_product 40 = .ok (.ifCond .eq 9, 3) := by decide +kernel
theorem dX9_product_43 : decode cX9_product 43 = .ok (.sipush 20009, 3) := by decide +kernel
theorem dX9_product_46 : decode cX9_product 46 = .ok (.goto 4, 3) := by decide +kernel
theorem dX9_product_49 : decode cX9_product 49 = .ok (.iconst 0, 1) := by decide +kernel
theorem dX9_product_50 : decode cX9_product 50 = .ok (.istore_n 1, 1) := by decide +kernel
theorem dX9_product_51 : decode cX9_product 51 = .ok (.iload_n 1, 1) := by decide +kernel
theorem dX9_product_52 : decode cX9_product 52 = .ok (.ifCond .le 62, 3) := by decide +kernel
theorem dX9_product_55 : decode cX9_product 55 = .ok (.aload_n 0, 1) := by decide +kernel
theorem dX9_product_56 : decode cX9_product 56 = .ok (.invokevirtual 174, 3) := by decide +kernel
theorem dX9_product_59 : decode cX9_product 59 = .ok (.aload_n 0, 1) := by decide +kernel
theorem dX9_product_60 : decode cX9_product 60 = .ok (.iload_n 1, 1) := by decide +kernel
theorem dX9_product_61 : decode cX9_product 61 = .ok (.invokevirtual 161, 3) := by decide +kernel
theorem dX9_product_64 : decode cX9_product 64 = .ok (.aload_n 0, 1) := by decide +kernel
theorem dX9_product_65 : decode cX9_product 65 = .ok (.bipush 42, 2) := by decide +kernel
theorem dX9_product_67 : decode cX9_product 67 = .ok (.invokevirtual 158, 3) := by decide +kernel
theorem dX9_product_70 : decode cX9_product 70 = .ok (.ifCond .eq 9, 3) := by decide +kernel
theorem dX9_product_73 : decode cX9_product 73 = .ok (.sipush 20007, 3) := by decide +kernel
theorem dX9_product_76 : decode cX9_product 76 = .ok (.goto 34, 3) := by decide +kernel
theorem dX9_product_79 : decode cX9_product 79 = .ok (.aload_n 0, 1) := by decide +kernel
theorem dX9_product_80 : decode cX9_product 80 = .ok (.bipush 47, 2) := by decide +kernel
theorem dX9_product_82 : decode cX9_product 82 = .ok (.invokevirtual 158, 3) := by decide +kernel
theorem dX9_product_85 : decode cX9_product 85 = .ok (.ifCond .eq 9, 3) := by decide +kernel
theorem dX9_product_88 : decode cX9_product 88 = .ok (.sipush 20008, 3) := by decide +kernel
theorem dX9_product_91 : decode cX9_product 91 = .ok (.goto 19, 3) := by decide +kernel
theorem dX9_product_94 : decode cX9_product 94 = .ok (.aload_n 0, 1) := by decide +kernel
theorem dX9_product_95 : decode cX9_product 95 = .ok (.bipush 37, 2) := by decide +kernel
theorem dX9_product_97 : decode cX9_product 97 = .ok (.invokevirtual 158, 3) := by decide +kernel
theorem dX9_product_100 : decode cX9_product 100 = .ok (.ifCond .eq 9, 3) := by decide +kernel
theorem dX9_product_103 : decode cX9_product 103 = .ok (.sipush 20009, 3) := by decide +kernel
theorem dX9_product_106 : decode cX9_product 106 = .ok (.goto 4, 3) := by decide +kernel
theorem dX9_product_109 : decode cX9_product 109 = .ok (.iconst 0, 1) := by decide +kernel
theorem dX9_product_110 : decode cX9_product 110 = .ok (.istore_n 1, 1) := by decide +kernel
theorem dX9_product_111 : decode cX9_product 111 = .ok (.goto (-60), 3) := by decide +kernel
theorem dX9_product_114 : decode cX9_product 114 = .ok (.return_, 1) := by decide +kernel
theorem dX9_nameOf_0 : decode cX9_nameOf 0 = .ok (.iconst (-1), 1) := by decide +kernel
theorem dX9_nameOf_1 : decode cX9_nameOf 1 = .ok (.istore_n 2, 1) := by decide +kernel
theorem dX9_nameOf_2 : decode cX9_nameOf 2 = .ok (.iconst 0, 1) := by decide +kernel
theorem dX9_nameOf_3 : decode cX9_nameOf 3 = .ok (.istore_n 3, 1) := by decide +kernel
theorem dX9_nameOf_4 : decode cX9_nameOf 4 = .ok (.iload_n 3, 1) := by decide +kernel
theorem dX9_nameOf_5 : decode cX9_nameOf 5 = .ok (.aload_n 0, 1) := by decide +kernel
theorem dX9_nameOf_6 : decode cX9_nameOf 6 = .ok (.getfield 32, 3) := by decide +kernel
theorem dX9_nameOf_9 : decode cX9_nameOf 9 = .ok (.aload_n 0, 1) := by decide +kernel
theorem dX9_nameOf_10 : decode cX9_nameOf 10 = .ok (.getfield 177, 3) := by decide +kernel
theorem dX9_nameOf_13 : decode cX9_nameOf 13 = .ok (.aaload, 1) := by decide +kernel
theorem dX9_nameOf_14 : decode cX9_nameOf 14 = .ok (.invokevirtual 180, 3) := by decide +kernel
theorem dX9_nameOf_17 : decode cX9_nameOf 17 = .ok (.if_icmp .ge 32, 3) := by decide +kernel
theorem dX9_nameOf_20 : decode cX9_nameOf 20 = .ok (.aload_n 0, 1) := by decide +kernel
theorem dX9_nameOf_21 : decode cX9_nameOf 21 = .ok (.getfield 32, 3) := by decide +kernel
theorem dX9_nameOf_24 : decode cX9_nameOf 24 = .ok (.aload_n 0, 1) := by decide +kernel
theorem dX9_nameOf_25 : decode cX9_nameOf 25 = .ok (.getfield 177, 3) := by decide +kernel
theorem dX9_nameOf_28 : decode cX9_nameOf 28 = .ok (.aaload, 1) := by decide +kernel
theorem dX9_nameOf_29 : decode cX9_nameOf 29 = .ok (.iload_n 3, 1) := by decide +kernel
theorem dX9_nameOf_30 : decode cX9_nameOf 30 = .ok (.invokevirtual 183, 3) := by decide +kernel
theorem dX9_nameOf_33 : decode cX9_nameOf 33 = .ok (.iload_n 1, 1) := by decide +kernel
theorem dX9_nameOf_34 : decode cX9_nameOf 34 = .ok (.if_icmp .ne 7, 3) := by decide +kernel
theorem dX9_nameOf_37 : decode cX9_nameOf 37 = .ok (.iload_n 3, 1) := by decide +kernel
theorem dX9_nameOf_38 : decode cX9_nameOf 38 = .ok (.goto 4, 3) := by decide +kernel
theorem dX9_nameOf_41 : decode cX9_nameOf 41 = .ok (.iload_n 2, 1) := by decide +kernel
theorem dX9_nameOf_42 : decode cX9_nameOf 42 = .ok (.istore_n 2, 1) := by decide +kernel
theorem dX9_nameOf_43 : decode cX9_nameOf 43 = .ok (.iinc 3 1, 3) := by decide +kernel
theorem dX9_nameOf_46 : decode cX9_nameOf 46 = .ok (.goto (-42), 3) := by decide +kernel
theorem dX9_nameOf_49 : decode cX9_nameOf 49 = .ok (.iload_n 2, 1) := by decide +kernel
theorem dX9_nameOf_50 : decode cX9_nameOf 50 = .ok (.ireturn, 1) := by decide +kernel
theorem dX9_one_0 : decode cX9_one 0 = .ok (.aload_n 0, 1) := by decide +kernel
theorem dX9_one_1 : decode cX9_one 1 = .ok (.invokevirtual 148, 3) := by decide +kernel
theorem dX9_one_4 : decode cX9_one 4 = .ok (.istore_n 1, 1) := by decide +kernel
theorem dX9_one_5 : decode cX9_one 5 = .ok (.iload_n 1, 1) := by decide +kernel
theorem dX9_one_6 : decode cX9_one 6 = .ok (.bipush 33, 2) := by decide +kernel
theorem dX9_one_8 : decode cX9_one 8 = .ok (.if_icmp .eq 9, 3) := by decide +kernel
theorem dX9_one_11 : decode cX9_one 11 = .ok (.iload_n 1, 1) := by decide +kernel
theorem dX9_one_12 : decode cX9_one 12 = .ok (.bipush 40, 2) := by decide +kernel
theorem dX9_one_14 : decode cX9_one 14 = .ok (.if_icmp .ne 102, 3) := by decide +kernel
theorem dX9_one_17 : decode cX9_one 17 = .ok (.aload_n 0, 1) := by decide +kernel
theorem dX9_one_18 : decode cX9_one 18 = .ok (.aload_n 0, 1) := by decide +kernel
theorem dX9_one_19 : decode cX9_one 19 = .ok (.getfield 187, 3) := by decide +kernel
theorem dX9_one_22 : decode cX9_one 22 = .ok (.iconst 5, 1) := by decide +kernel
theorem dX9_one_23 : decode cX9_one 23 = .ok (.if_icmp .ne 7, 3) := by decide +kernel
theorem dX9_one_26 : decode cX9_one 26 = .ok (.iconst 1, 1) := by decide +kernel
theorem dX9_one_27 : decode cX9_one 27 = .ok (.goto 4, 3) := by decide +kernel
theorem dX9_one_30 : decode cX9_one 30 = .ok (.iconst 0, 1) := by decide +kernel
theorem dX9_one_31 : decode cX9_one 31 = .ok (.putfield 140, 3) := by decide +kernel
theorem dX9_one_34 : decode cX9_one 34 = .ok (.aload_n 0, 1) := by decide +kernel
theorem dX9_one_35 : decode cX9_one 35 = .ok (.getfield 140, 3) := by decide +kernel
theorem dX9_one_38 : decode cX9_one 38 = .ok (.ifCond .ne 209, 3) := by decide +kernel
theorem dX9_one_41 : decode cX9_one 41 = .ok (.aload_n 0, 1) := by decide +kernel
theorem dX9_one_42 : decode cX9_one 42 = .ok (.dup, 1) := by decide +kernel
theorem dX9_one_43 : decode cX9_one 43 = .ok (.getfield 187, 3) := by decide +kernel
theorem dX9_one_46 : decode cX9_one 46 = .ok (.iconst 1, 1) := by decide +kernel
theorem dX9_one_47 : decode cX9_one 47 = .ok (.iadd, 1) := by decide +kernel
theorem dX9_one_48 : decode cX9_one 48 = .ok (.putfield 187, 3) := by decide +kernel
theorem dX9_one_51 : decode cX9_one 51 = .ok (.aload_n 0, 1) := by decide +kernel
theorem dX9_one_52 : decode cX9_one 52 = .ok (.dup, 1) := by decide +kernel
theorem dX9_one_53 : decode cX9_one 53 = .ok (.getfield 144, 3) := by decide +kernel
theorem dX9_one_56 : decode cX9_one 56 = .ok (.iconst 1, 1) := by decide +kernel
theorem dX9_one_57 : decode cX9_one 57 = .ok (.iadd, 1) := by decide +kernel
theorem dX9_one_58 : decode cX9_one 58 = .ok (.putfield 144, 3) := by decide +kernel
theorem dX9_one_61 : decode cX9_one 61 = .ok (.iload_n 1, 1) := by decide +kernel
theorem dX9_one_62 : decode cX9_one 62 = .ok (.bipush 33, 2) := by decide +kernel
theorem dX9_one_64 : decode cX9_one 64 = .ok (.if_icmp .ne 17, 3) := by decide +kernel
theorem dX9_one_67 : decode cX9_one 67 = .ok (.aload_n 0, 1) := by decide +kernel
theorem dX9_one_68 : decode cX9_one 68 = .ok (.invokevirtual 174, 3) := by decide +kernel
theorem dX9_one_71 : decode cX9_one 71 = .ok (.aload_n 0, 1) := by decide +kernel
theorem dX9_one_72 : decode cX9_one 72 = .ok (.sipush 20010, 3) := by decide +kernel
theorem dX9_one_75 : decode cX9_one 75 = .ok (.invokevirtual 161, 3) := by decide +kernel
theorem dX9_one_78 : decode cX9_one 78 = .ok (.goto 25, 3) := by decide +kernel
theorem dX9_one_81 : decode cX9_one 81 = .ok (.aload_n 0, 1) := by decide +kernel
theorem dX9_one_82 : decode cX9_one 82 = .ok (.invokevirtual 190, 3) := by decide +kernel
theorem dX9_one_85 : decode cX9_one 85 = .ok (.aload_n 0, 1) := by decide +kernel
theorem dX9_one_86 : decode cX9_one 86 = .ok (.aload_n 0, 1) := by decide +kernel
theorem dX9_one_87 : decode cX9_one 87 = .ok (.bipush 41, 2) := by decide +kernel
theorem dX9_one_89 : decode cX9_one 89 = .ok (.invokevirtual 158, 3) := by decide +kernel
theorem dX9_one_92 : decode cX9_one 92 = .ok (.ifCond .ne 7, 3) := by decide +kernel
theorem dX9_one_95 : decode cX9_one 95 = .ok (.iconst 1, 1) := by decide +kernel
theorem dX9_one_96 : decode cX9_one 96 = .ok (.goto 4, 3) := by decide +kernel
theorem dX9_one_99 : decode cX9_one 99 = .ok (.iconst 0, 1) := by decide +kernel
theorem dX9_one_100 : decode cX9_one 100 = .ok (.putfield 140, 3) := by decide +kernel
theorem dX9_one_103 : decode cX9_one 103 = .ok (.aload_n 0, 1) := by decide +kernel
theorem dX9_one_104 : decode cX9_one 104 = .ok (.dup, 1) := by decide +kernel
theorem dX9_one_105 : decode cX9_one 105 = .ok (.getfield 187, 3) := by decide +kernel
theorem dX9_one_108 : decode cX9_one 108 = .ok (.iconst 1, 1) := by decide +kernel
theorem dX9_one_109 : decode cX9_one 109 = .ok (.isub, 1) := by decide +kernel
theorem dX9_one_110 : decode cX9_one 110 = .ok (.putfield 187, 3) := by decide +kernel
theorem dX9_one_113 : decode cX9_one 113 = .ok (.goto 134, 3) := by decide +kernel
theorem dX9_one_116 : decode cX9_one 116 = .ok (.iload_n 1, 1) := by decide +kernel
theorem dX9_one_117 : decode cX9_one 117 = .ok (.bipush 48, 2) := by decide +kernel
theorem dX9_one_119 : decode cX9_one 119 = .ok (.bipush 57, 2) := by decide +kernel
theorem dX9_one_121 : decode cX9_one 121 = .ok (.invokestatic 80, 3) := by decide +kernel
theorem dX9_one_124 : decode cX9_one 124 = .ok (.ifCond .eq 63, 3) := by decide +kernel
theorem dX9_one_127 : decode cX9_one 127 = .ok (.iconst 0, 1) := by decide +kernel
theorem dX9_one_128 : decode cX9_one 128 = .ok (.istore_n 2, 1) := by decide +kernel
theorem dX9_one_129 : decode cX9_one 129 = .ok (.iconst 0, 1) := by decide +kernel
theorem dX9_one_130 : decode cX9_one 130 = .ok (.istore_n 3, 1) := by decide +kernel
theorem dX9_one_131 : decode cX9_one 131 = .ok (.iload_n 3, 1) := by decide +kernel
theorem dX9_one_132 : decode cX9_one 132 = .ok (.iconst 4, 1) := by decide +kernel
theorem dX9_one_133 : decode cX9_one 133 = .ok (.if_icmp .ge 46, 3) := by decide +kernel
theorem dX9_one_136 : decode cX9_one 136 = .ok (.aload_n 0, 1) := by decide +kernel
theorem dX9_one_137 : decode cX9_one 137 = .ok (.invokevirtual 148, 3) := by decide +kernel
theorem dX9_one_140 : decode cX9_one 140 = .ok (.bipush 48, 2) := by decide +kernel
theorem dX9_one_142 : decode cX9_one 142 = .ok (.bipush 57, 2) := by decide +kernel
theorem dX9_one_144 : decode cX9_one 144 = .ok (.invokestatic 80, 3) := by decide +kernel
theorem dX9_one_147 : decode cX9_one 147 = .ok (.ifCond .eq 32, 3) := by decide +kernel
theorem dX9_one_150 : decode cX9_one 150 = .ok (.bipush 10, 2) := by decide +kernel
theorem dX9_one_152 : decode cX9_one 152 = .ok (.iload_n 2, 1) := by decide +kernel
theorem dX9_one_153 : decode cX9_one 153 = .ok (.imul, 1) := by decide +kernel
theorem dX9_one_154 : decode cX9_one 154 = .ok (.aload_n 0, 1) := by decide +kernel
theorem dX9_one_155 : decode cX9_one 155 = .ok (.invokevirtual 148, 3) := by decide +kernel
theorem dX9_one_158 : decode cX9_one 158 = .ok (.iadd, 1) := by decide +kernel
theorem dX9_one_159 : decode cX9_one 159 = .ok (.bipush 48, 2) := by decide +kernel
theorem dX9_one_161 : decode cX9_one 161 = .ok (.isub, 1) := by decide +kernel
theorem dX9_one_162 : decode cX9_one 162 = .ok (.istore_n 2, 1) := by decide +kernel
theorem dX9_one_163 : decode cX9_one 163 = .ok (.aload_n 0, 1) := by decide +kernel
theorem dX9_one_164 : decode cX9_one 164 = .ok (.dup, 1) := by decide +kernel
theorem dX9_one_165 : decode cX9_one 165 = .ok (.getfield 144, 3) := by decide +kernel
theorem dX9_one_168 : decode cX9_one 168 = .ok (.iconst 1, 1) := by decide +kernel
theorem dX9_one_169 : decode cX9_one 169 = .ok (.iadd, 1) := by decide +kernel
theorem dX9_one_170 : decode cX9_one 170 = .ok (.putfield 144, 3) := by decide +kernel
theorem dX9_one_173 : decode cX9_one 173 = .ok (.iinc 3 1, 3) := by decide +kernel
theorem dX9_one_176 : decode cX9_one 176 = .ok (.goto (-45), 3) := by decide +kernel
theorem dX9_one_179 : decode cX9_one 179 = .ok (.aload_n 0, 1) := by decide +kernel
theorem dX9_one_180 : decode cX9_one 180 = .ok (.iload_n 2, 1) := by decide +kernel
theorem dX9_one_181 : decode cX9_one 181 = .ok (.invokevirtual 161, 3) := by decide +kernel
theorem dX9_one_184 : decode cX9_one 184 = .ok (.goto 63, 3) := by decide +kernel
theorem dX9_one_187 : decode cX9_one 187 = .ok (.iload_n 1, 1) := by decide +kernel
theorem dX9_one_188 : decode cX9_one 188 = .ok (.ifCond .ge 7, 3) := by decide +kernel
theorem dX9_one_191 : decode cX9_one 191 = .ok (.iconst (-1), 1) := by decide +kernel
theorem dX9_one_192 : decode cX9_one 192 = .ok (.goto 8, 3) := by decide +kernel
theorem dX9_one_195 : decode cX9_one 195 = .ok (.aload_n 0, 1) := by decide +kernel
theorem dX9_one_196 : decode cX9_one 196 = .ok (.iload_n 1, 1) := by decide +kernel
theorem dX9_one_197 : decode cX9_one 197 = .ok (.invokevirtual 193, 3) := by decide +kernel
theorem dX9_one_200 : decode cX9_one 200 = .ok (.istore_n 2, 1) := by decide +kernel
theorem dX9_one_201 : decode cX9_one 201 = .ok (.aload_n 0, 1) := by decide +kernel
theorem dX9_one_202 : decode cX9_one 202 = .ok (.aload_n 0, 1) := by decide +kernel
theorem dX9_one_203 : decode cX9_one 203 = .ok (.getfield 140, 3) := by decide +kernel
theorem dX9_one_206 : decode cX9_one 206 = .ok (.ifCond .ne 7, 3) := by decide +kernel
theorem dX9_one_209 : decode cX9_one 209 = .ok (.iload_n 2, 1) := by decide +kernel
theorem dX9_one_210 : decode cX9_one 210 = .ok (.ifCond .ge 7, 3) := by decide +kernel
theorem dX9_one_213 : decode cX9_one 213 = .ok (.iconst 1, 1) := by decide +kernel
theorem dX9_one_214 : decode cX9_one 214 = .ok (.goto 4, 3) := by decide +kernel
theorem dX9_one_217 : decode cX9_one 217 = .ok (.iconst 0, 1) := by decide +kernel
theorem dX9_one_218 : decode cX9_one 218 = .ok (.putfield 140, 3) := by decide +kernel
theorem dX9_one_221 : decode cX9_one 221 = .ok (.aload_n 0, 1) := by decide +kernel
theorem dX9_one_222 : decode cX9_one 222 = .ok (.getfield 140, 3) := by decide +kernel
theorem dX9_one_225 : decode cX9_one 225 = .ok (.ifCond .ne 22, 3) := by decide +kernel
theorem dX9_one_228 : decode cX9_one 228 = .ok (.aload_n 0, 1) := by decide +kernel
theorem dX9_one_229 : decode cX9_one 229 = .ok (.sipush 10000, 3) := by decide +kernel
theorem dX9_one_232 : decode cX9_one 232 = .ok (.iload_n 2, 1) := by decide +kernel
theorem dX9_one_233 : decode cX9_one 233 = .ok (.iadd, 1) := by decide +kernel
theorem dX9_one_234 : decode cX9_one 234 = .ok (.invokevirtual 161, 3) := by decide +kernel
theorem dX9_one_237 : decode cX9_one 237 = .ok (.aload_n 0, 1) := by decide +kernel
theorem dX9_one_238 : decode cX9_one 238 = .ok (.dup, 1) := by decide +kernel
theorem dX9_one_239 : decode cX9_one 239 = .ok (.getfield 144, 3) := by decide +kernel
theorem dX9_one_242 : decode cX9_one 242 = .ok (.iconst 1, 1) := by decide +kernel
theorem dX9_one_243 : decode cX9_one 243 = .ok (.iadd, 1) := by decide +kernel
theorem dX9_one_244 : decode cX9_one 244 = .ok (.putfield 144, 3) := by decide +kernel
theorem dX9_one_247 : decode cX9_one 247 = .ok (.return_, 1) := by decide +kernel
theorem dX9_text_0 : decode cX9_text 0 = .ok (.iload_n 1, 1) := by decide +kernel
theorem dX9_text_1 : decode cX9_text 1 = .ok (.iconst 0, 1) := by decide +kernel
theorem dX9_text_2 : decode cX9_text 2 = .ok (.iconst 1, 1) := by decide +kernel
theorem dX9_text_3 : decode cX9_text 3 = .ok (.invokestatic 80, 3) := by decide +kernel
theorem dX9_text_6 : decode cX9_text 6 = .ok (.ifCond .ne 10, 3) := by decide +kernel
theorem dX9_text_9 : decode cX9_text 9 = .ok (.aload_n 0, 1) := by decide +kernel
theorem dX9_text_10 : decode cX9_text 10 = .ok (.ldc 91, 2) := by decide +kernel
theorem dX9_text_12 : decode cX9_text 12 = .ok (.invokevirtual 92, 3) := by decide +kernel
theorem dX9_text_15 : decode cX9_text 15 = .ok (.ireturn, 1) := by decide +kernel
theorem dX9_text_16 : decode cX9_text 16 = .ok (.aload_n 0, 1) := by decide +kernel
theorem dX9_text_17 : decode cX9_text 17 = .ok (.iload_n 1, 1) := by decide +kernel
theorem dX9_text_18 : decode cX9_text 18 = .ok (.putfield 177, 3) := by decide +kernel
theorem dX9_text_21 : decode cX9_text 21 = .ok (.aload_n 0, 1) := by decide +kernel
theorem dX9_text_22 : decode cX9_text 22 = .ok (.iconst 0, 1) := by decide +kernel
theorem dX9_text_23 : decode cX9_text 23 = .ok (.putfield 144, 3) := by decide +kernel
theorem dX9_text_26 : decode cX9_text 26 = .ok (.aload_n 0, 1) := by decide +kernel
theorem dX9_text_27 : decode cX9_text 27 = .ok (.iconst 0, 1) := by decide +kernel
theorem dX9_text_28 : decode cX9_text 28 = .ok (.putfield 187, 3) := by decide +kernel
theorem dX9_text_31 : decode cX9_text 31 = .ok (.aload_n 0, 1) := by decide +kernel
theorem dX9_text_32 : decode cX9_text 32 = .ok (.iconst 0, 1) := by decide +kernel
theorem dX9_text_33 : decode cX9_text 33 = .ok (.putfield 140, 3) := by decide +kernel
theorem dX9_text_36 : decode cX9_text 36 = .ok (.aload_n 0, 1) := by decide +kernel
theorem dX9_text_37 : decode cX9_text 37 = .ok (.iconst 0, 1) := by decide +kernel
theorem dX9_text_38 : decode cX9_text 38 = .ok (.putfield 152, 3) := by decide +kernel
theorem dX9_text_41 : decode cX9_text 41 = .ok (.aload_n 0, 1) := by decide +kernel
theorem dX9_text_42 : decode cX9_text 42 = .ok (.invokevirtual 190, 3) := by decide +kernel
theorem dX9_text_45 : decode cX9_text 45 = .ok (.aload_n 0, 1) := by decide +kernel
theorem dX9_text_46 : decode cX9_text 46 = .ok (.aload_n 0, 1) := by decide +kernel
theorem dX9_text_47 : decode cX9_text 47 = .ok (.getfield 140, 3) := by decide +kernel
theorem dX9_text_50 : decode cX9_text 50 = .ok (.ifCond .ne 17, 3) := by decide +kernel
theorem dX9_text_53 : decode cX9_text 53 = .ok (.aload_n 0, 1) := by decide +kernel
theorem dX9_text_54 : decode cX9_text 54 = .ok (.getfield 144, 3) := by decide +kernel
theorem dX9_text_57 : decode cX9_text 57 = .ok (.aload_n 0, 1) := by decide +kernel
theorem dX9_text_58 : decode cX9_text 58 = .ok (.getfield 9, 3) := by decide +kernel
theorem dX9_text_61 : decode cX9_text 61 = .ok (.bipush 8, 2) := by decide +kernel
theorem dX9_text_63 : decode cX9_text 63 = .ok (.iaload, 1) := by decide +kernel
theorem dX9_text_64 : decode cX9_text 64 = .ok (.if_icmp .ge 7, 3) := by decide +kernel
theorem dX9_text_67 : decode cX9_text 67 = .ok (.iconst 1, 1) := by decide +kernel
theorem dX9_text_68 : decode cX9_text 68 = .ok (.goto 4, 3) := by decide +kernel
theorem dX9_text_71 : decode cX9_text 71 = .ok (.iconst 0, 1) := by decide +kernel
theorem dX9_text_72 : decode cX9_text 72 = .ok (.putfield 140, 3) := by decide +kernel
theorem dX9_text_75 : decode cX9_text 75 = .ok (.aload_n 0, 1) := by decide +kernel
theorem dX9_text_76 : decode cX9_text 76 = .ok (.getfield 9, 3) := by decide +kernel
theorem dX9_text_79 : decode cX9_text 79 = .ok (.bipush 8, 2) := by decide +kernel
theorem dX9_text_81 : decode cX9_text 81 = .ok (.iconst 0, 1) := by decide +kernel
theorem dX9_text_82 : decode cX9_text 82 = .ok (.iastore, 1) := by decide +kernel
theorem dX9_text_83 : decode cX9_text 83 = .ok (.aload_n 0, 1) := by decide +kernel
theorem dX9_text_84 : decode cX9_text 84 = .ok (.getfield 140, 3) := by decide +kernel
theorem dX9_text_87 : decode cX9_text 87 = .ok (.ifCond .eq 11, 3) := by decide +kernel
theorem dX9_text_90 : decode cX9_text 90 = .ok (.bipush (-10), 2) := by decide +kernel
theorem dX9_text_92 : decode cX9_text 92 = .ok (.aload_n 0, 1) := by decide +kernel
theorem dX9_text_93 : decode cX9_text 93 = .ok (.getfield 144, 3) := by decide +kernel
theorem dX9_text_96 : decode cX9_text 96 = .ok (.isub, 1) := by decide +kernel
theorem dX9_text_97 : decode cX9_text 97 = .ok (.ireturn, 1) := by decide +kernel
theorem dX9_text_98 : decode cX9_text 98 = .ok (.aload_n 0, 1) := by decide +kernel
theorem dX9_text_99 : decode cX9_text 99 = .ok (.getfield 9, 3) := by decide +kernel
theorem dX9_text_102 : decode cX9_text 102 = .ok (.bipush 123, 2) := by decide +kernel
theorem dX9_text_104 : decode cX9_text 104 = .ok (.bipush 52, 2) := by decide +kernel
theorem dX9_text_106 : decode cX9_text 106 = .ok (.aload_n 0, 1) := by decide +kernel
theorem dX9_text_107 : decode cX9_text 107 = .ok (.getfield 177, 3) := by decide +kernel
theorem dX9_text_110 : decode cX9_text 110 = .ok (.imul, 1) := by decide +kernel
theorem dX9_text_111 : decode cX9_text 111 = .ok (.iadd, 1) := by decide +kernel
theorem dX9_text_112 : decode cX9_text 112 = .ok (.aload_n 0, 1) := by decide +kernel
theorem dX9_text_113 : decode cX9_text 113 = .ok (.getfield 152, 3) := by decide +kernel
theorem dX9_text_116 : decode cX9_text 116 = .ok (.iastore, 1) := by decide +kernel
theorem dX9_text_117 : decode cX9_text 117 = .ok (.iconst 0, 1) := by decide +kernel
theorem dX9_text_118 : decode cX9_text 118 = .ok (.istore_n 2, 1) := by decide +kernel
theorem dX9_text_119 : decode cX9_text 119 = .ok (.iload_n 2, 1) := by decide +kernel
theorem dX9_text_120 : decode cX9_text 120 = .ok (.aload_n 0, 1) := by decide +kernel
theorem dX9_text_121 : decode cX9_text 121 = .ok (.getfield 152, 3) := by decide +kernel
theorem dX9_text_124 : decode cX9_text 124 = .ok (.if_icmp .ge 34, 3) := by decide +kernel
theorem dX9_text_127 : decode cX9_text 127 = .ok (.aload_n 0, 1) := by decide +kernel
theorem dX9_text_128 : decode cX9_text 128 = .ok (.getfield 9, 3) := by decide +kernel
theorem dX9_text_131 : decode cX9_text 131 = .ok (.bipush 123, 2) := by decide +kernel
theorem dX9_text_133 : decode cX9_text 133 = .ok (.bipush 52, 2) := by decide +kernel
theorem dX9_text_135 : decode cX9_text 135 = .ok (.aload_n 0, 1) := by decide +kernel
