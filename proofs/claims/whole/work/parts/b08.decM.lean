-- decode rows, as printed
theorem dX6_init_0 : decode cX6_init 0 = .ok (.aload_n 0, 1) := by decide +kernel
theorem dX6_init_1 : decode cX6_init 1 = .ok (.invokespecial 1, 3) := by decide +kernel
theorem dX6_init_4 : decode cX6_init 4 = .ok (.aload_n 0, 1) := by decide +kernel
theorem dX6_init_5 : decode cX6_init 5 = .ok (.sipush 159, 3) := by decide +kernel
theorem dX6_init_8 : decode cX6_init 8 = .ok (.newarray .int, 2) := by decide +kernel
theorem dX6_init_10 : decode cX6_init 10 = .ok (.putfield 7, 3) := by decide +kernel
theorem dX6_init_13 : decode cX6_init 13 = .ok (.aload_n 0, 1) := by decide +kernel
theorem dX6_init_14 : decode cX6_init 14 = .ok (.sipush 159, 3) := by decide +kernel
theorem dX6_init_17 : decode cX6_init 17 = .ok (.newarray .int, 2) := by decide +kernel
theorem dX6_init_19 : decode cX6_init 19 = .ok (.putfield 13, 3) := by decide +kernel
theorem dX6_init_22 : decode cX6_init 22 = .ok (.aload_n 0, 1) := by decide +kernel
theorem dX6_init_23 : decode cX6_init 23 = .ok (.sipush 1272, 3) := by decide +kernel
theorem dX6_init_26 : decode cX6_init 26 = .ok (.newarray .int, 2) := by decide +kernel
theorem dX6_init_28 : decode cX6_init 28 = .ok (.putfield 16, 3) := by decide +kernel
theorem dX6_init_31 : decode cX6_init 31 = .ok (.aload_n 0, 1) := by decide +kernel
theorem dX6_init_32 : decode cX6_init 32 = .ok (.sipush 159, 3) := by decide +kernel
theorem dX6_init_35 : decode cX6_init 35 = .ok (.newarray .int, 2) := by decide +kernel
theorem dX6_init_37 : decode cX6_init 37 = .ok (.putfield 19, 3) := by decide +kernel
theorem dX6_init_40 : decode cX6_init 40 = .ok (.aload_n 0, 1) := by decide +kernel
theorem dX6_init_41 : decode cX6_init 41 = .ok (.bipush 60, 2) := by decide +kernel
theorem dX6_init_43 : decode cX6_init 43 = .ok (.newarray .char, 2) := by decide +kernel
theorem dX6_init_45 : decode cX6_init 45 = .ok (.putfield 22, 3) := by decide +kernel
theorem dX6_init_48 : decode cX6_init 48 = .ok (.aload_n 0, 1) := by decide +kernel
theorem dX6_init_49 : decode cX6_init 49 = .ok (.iconst (-1), 1) := by decide +kernel
theorem dX6_init_50 : decode cX6_init 50 = .ok (.putfield 26, 3) := by decide +kernel
theorem dX6_init_53 : decode cX6_init 53 = .ok (.aload_n 0, 1) := by decide +kernel
theorem dX6_init_54 : decode cX6_init 54 = .ok (.iconst (-1), 1) := by decide +kernel
theorem dX6_init_55 : decode cX6_init 55 = .ok (.putfield 30, 3) := by decide +kernel
theorem dX6_init_58 : decode cX6_init 58 = .ok (.aload_n 0, 1) := by decide +kernel
theorem dX6_init_59 : decode cX6_init 59 = .ok (.bipush 60, 2) := by decide +kernel
theorem dX6_init_61 : decode cX6_init 61 = .ok (.newarray .char, 2) := by decide +kernel
theorem dX6_init_63 : decode cX6_init 63 = .ok (.putfield 33, 3) := by decide +kernel
theorem dX6_init_66 : decode cX6_init 66 = .ok (.aload_n 0, 1) := by decide +kernel
theorem dX6_init_67 : decode cX6_init 67 = .ok (.sipush 240, 3) := by decide +kernel
theorem dX6_init_70 : decode cX6_init 70 = .ok (.newarray .int, 2) := by decide +kernel
theorem dX6_init_72 : decode cX6_init 72 = .ok (.putfield 36, 3) := by decide +kernel
theorem dX6_init_75 : decode cX6_init 75 = .ok (.aload_n 0, 1) := by decide +kernel
theorem dX6_init_76 : decode cX6_init 76 = .ok (.getfield 7, 3) := by decide +kernel
theorem dX6_init_79 : decode cX6_init 79 = .ok (.iconst 3, 1) := by decide +kernel
theorem dX6_init_80 : decode cX6_init 80 = .ok (.bipush 50, 2) := by decide +kernel
theorem dX6_init_82 : decode cX6_init 82 = .ok (.iastore, 1) := by decide +kernel
theorem dX6_init_83 : decode cX6_init 83 = .ok (.aload_n 0, 1) := by decide +kernel
theorem dX6_init_84 : decode cX6_init 84 = .ok (.getfield 7, 3) := by decide +kernel
theorem dX6_init_87 : decode cX6_init 87 = .ok (.iconst 4, 1) := by decide +kernel
theorem dX6_init_88 : decode cX6_init 88 = .ok (.iconst 2, 1) := by decide +kernel
theorem dX6_init_89 : decode cX6_init 89 = .ok (.iastore, 1) := by decide +kernel
theorem dX6_init_90 : decode cX6_init 90 = .ok (.return_, 1) := by decide +kernel
theorem dX6_thrown_0 : decode cX6_thrown 0 = .ok (.aload_n 0, 1) := by decide +kernel
theorem dX6_thrown_1 : decode cX6_thrown 1 = .ok (.getfield 39, 3) := by decide +kernel
theorem dX6_thrown_4 : decode cX6_thrown 4 = .ok (.ireturn, 1) := by decide +kernel
theorem dX6_in_0 : decode cX6_in 0 = .ok (.iload_n 0, 1) := by decide +kernel
theorem dX6_in_1 : decode cX6_in 1 = .ok (.iload_n 1, 1) := by decide +kernel
theorem dX6_in_2 : decode cX6_in 2 = .ok (.if_icmp .lt 12, 3) := by decide +kernel
theorem dX6_in_5 : decode cX6_in 5 = .ok (.iload_n 0, 1) := by decide +kernel
theorem dX6_in_6 : decode cX6_in 6 = .ok (.iload_n 2, 1) := by decide +kernel
theorem dX6_in_7 : decode cX6_in 7 = .ok (.if_icmp .gt 7, 3) := by decide +kernel
theorem dX6_in_10 : decode cX6_in 10 = .ok (.iconst 1, 1) := by decide +kernel
theorem dX6_in_11 : decode cX6_in 11 = .ok (.goto 4, 3) := by decide +kernel
theorem dX6_in_14 : decode cX6_in 14 = .ok (.iconst 0, 1) := by decide +kernel
theorem dX6_in_15 : decode cX6_in 15 = .ok (.ireturn, 1) := by decide +kernel
theorem dX6_done_0 : decode cX6_done 0 = .ok (.aload_n 0, 1) := by decide +kernel
theorem dX6_done_1 : decode cX6_done 1 = .ok (.iconst 0, 1) := by decide +kernel
theorem dX6_done_2 : decode cX6_done 2 = .ok (.putfield 39, 3) := by decide +kernel
theorem dX6_done_5 : decode cX6_done 5 = .ok (.iload_n 1, 1) := by decide +kernel
theorem dX6_done_6 : decode cX6_done 6 = .ok (.ireturn, 1) := by decide +kernel
theorem dX6_fails_0 : decode cX6_fails 0 = .ok (.aload_n 0, 1) := by decide +kernel
theorem dX6_fails_1 : decode cX6_fails 1 = .ok (.iload_n 1, 1) := by decide +kernel
theorem dX6_fails_2 : decode cX6_fails 2 = .ok (.putfield 39, 3) := by decide +kernel
theorem dX6_fails_5 : decode cX6_fails 5 = .ok (.iconst 0, 1) := by decide +kernel
theorem dX6_fails_6 : decode cX6_fails 6 = .ok (.ireturn, 1) := by decide +kernel
theorem dX6_copy_0 : decode cX6_copy 0 = .ok (.iconst 0, 1) := by decide +kernel
theorem dX6_copy_1 : decode cX6_copy 1 = .ok (.istore 4, 2) := by decide +kernel
theorem dX6_copy_3 : decode cX6_copy 3 = .ok (.iload 4, 2) := by decide +kernel
theorem dX6_copy_5 : decode cX6_copy 5 = .ok (.sipush 159, 3) := by decide +kernel
theorem dX6_copy_8 : decode cX6_copy 8 = .ok (.if_icmp .ge 21, 3) := by decide +kernel
theorem dX6_copy_11 : decode cX6_copy 11 = .ok (.aload_n 2, 1) := by decide +kernel
theorem dX6_copy_12 : decode cX6_copy 12 = .ok (.iload_n 3, 1) := by decide +kernel
theorem dX6_copy_13 : decode cX6_copy 13 = .ok (.iload 4, 2) := by decide +kernel
theorem dX6_copy_15 : decode cX6_copy 15 = .ok (.iadd, 1) := by decide +kernel
theorem dX6_copy_16 : decode cX6_copy 16 = .ok (.aload_n 0, 1) := by decide +kernel
theorem dX6_copy_17 : decode cX6_copy 17 = .ok (.iload_n 1, 1) := by decide +kernel
theorem dX6_copy_18 : decode cX6_copy 18 = .ok (.iload 4, 2) := by decide +kernel
theorem dX6_copy_20 : decode cX6_copy 20 = .ok (.iadd, 1) := by decide +kernel
theorem dX6_copy_21 : decode cX6_copy 21 = .ok (.iaload, 1) := by decide +kernel
theorem dX6_copy_22 : decode cX6_copy 22 = .ok (.iastore, 1) := by decide +kernel
theorem dX6_copy_23 : decode cX6_copy 23 = .ok (.iinc 4 1, 3) := by decide +kernel
theorem dX6_copy_26 : decode cX6_copy 26 = .ok (.goto (-23), 3) := by decide +kernel
theorem dX6_copy_29 : decode cX6_copy 29 = .ok (.return_, 1) := by decide +kernel
theorem dX6_begin_0 : decode cX6_begin 0 = .ok (.aload_n 0, 1) := by decide +kernel
theorem dX6_begin_1 : decode cX6_begin 1 = .ok (.getfield 7, 3) := by decide +kernel
theorem dX6_begin_4 : decode cX6_begin 4 = .ok (.iconst 0, 1) := by decide +kernel
theorem dX6_begin_5 : decode cX6_begin 5 = .ok (.aload_n 0, 1) := by decide +kernel
theorem dX6_begin_6 : decode cX6_begin 6 = .ok (.getfield 13, 3) := by decide +kernel
theorem dX6_begin_9 : decode cX6_begin 9 = .ok (.iconst 0, 1) := by decide +kernel
theorem dX6_begin_10 : decode cX6_begin 10 = .ok (.invokestatic 42, 3) := by decide +kernel
theorem dX6_begin_13 : decode cX6_begin 13 = .ok (.return_, 1) := by decide +kernel
theorem dX6_kept_0 : decode cX6_kept 0 = .ok (.aload_n 0, 1) := by decide +kernel
theorem dX6_kept_1 : decode cX6_kept 1 = .ok (.getfield 39, 3) := by decide +kernel
theorem dX6_kept_4 : decode cX6_kept 4 = .ok (.ifCond .eq 18, 3) := by decide +kernel
theorem dX6_kept_7 : decode cX6_kept 7 = .ok (.aload_n 0, 1) := by decide +kernel
theorem dX6_kept_8 : decode cX6_kept 8 = .ok (.getfield 13, 3) := by decide +kernel
theorem dX6_kept_11 : decode cX6_kept 11 = .ok (.iconst 0, 1) := by decide +kernel
theorem dX6_kept_12 : decode cX6_kept 12 = .ok (.aload_n 0, 1) := by decide +kernel
theorem dX6_kept_13 : decode cX6_kept 13 = .ok (.getfield 7, 3) := by decide +kernel
theorem dX6_kept_16 : decode cX6_kept 16 = .ok (.iconst 0, 1) := by decide +kernel
theorem dX6_kept_17 : decode cX6_kept 17 = .ok (.invokestatic 42, 3) := by decide +kernel
theorem dX6_kept_20 : decode cX6_kept 20 = .ok (.iconst 0, 1) := by decide +kernel
theorem dX6_kept_21 : decode cX6_kept 21 = .ok (.ireturn, 1) := by decide +kernel
theorem dX6_kept_22 : decode cX6_kept 22 = .ok (.aload_n 0, 1) := by decide +kernel
theorem dX6_kept_23 : decode cX6_kept 23 = .ok (.getfield 46, 3) := by decide +kernel
theorem dX6_kept_26 : decode cX6_kept 26 = .ok (.bipush 8, 2) := by decide +kernel
theorem dX6_kept_28 : decode cX6_kept 28 = .ok (.if_icmp .ne 44, 3) := by decide +kernel
theorem dX6_kept_31 : decode cX6_kept 31 = .ok (.iconst 0, 1) := by decide +kernel
theorem dX6_kept_32 : decode cX6_kept 32 = .ok (.istore_n 2, 1) := by decide +kernel
theorem dX6_kept_33 : decode cX6_kept 33 = .ok (.iload_n 2, 1) := by decide +kernel
theorem dX6_kept_34 : decode cX6_kept 34 = .ok (.sipush 1113, 3) := by decide +kernel
theorem dX6_kept_37 : decode cX6_kept 37 = .ok (.if_icmp .ge 25, 3) := by decide +kernel
theorem dX6_kept_40 : decode cX6_kept 40 = .ok (.aload_n 0, 1) := by decide +kernel
theorem dX6_kept_41 : decode cX6_kept 41 = .ok (.getfield 16, 3) := by decide +kernel
theorem dX6_kept_44 : decode cX6_kept 44 = .ok (.iload_n 2, 1) := by decide +kernel
theorem dX6_kept_45 : decode cX6_kept 45 = .ok (.aload_n 0, 1) := by decide +kernel
theorem dX6_kept_46 : decode cX6_kept 46 = .ok (.getfield 16, 3) := by decide +kernel
theorem dX6_kept_49 : decode cX6_kept 49 = .ok (.iload_n 2, 1) := by decide +kernel
theorem dX6_kept_50 : decode cX6_kept 50 = .ok (.sipush 159, 3) := by decide +kernel
theorem dX6_kept_53 : decode cX6_kept 53 = .ok (.iadd, 1) := by decide +kernel
theorem dX6_kept_54 : decode cX6_kept 54 = .ok (.iaload, 1) := by decide +kernel
theorem dX6_kept_55 : decode cX6_kept 55 = .ok (.iastore, 1) := by decide +kernel
theorem dX6_kept_56 : decode cX6_kept 56 = .ok (.iinc 2 1, 3) := by decide +kernel
theorem dX6_kept_59 : decode cX6_kept 59 = .ok (.goto (-26), 3) := by decide +kernel
theorem dX6_kept_62 : decode cX6_kept 62 = .ok (.aload_n 0, 1) := by decide +kernel
theorem dX6_kept_63 : decode cX6_kept 63 = .ok (.dup, 1) := by decide +kernel
theorem dX6_kept_64 : decode cX6_kept 64 = .ok (.getfield 46, 3) := by decide +kernel
theorem dX6_kept_67 : decode cX6_kept 67 = .ok (.iconst 1, 1) := by decide +kernel
theorem dX6_kept_68 : decode cX6_kept 68 = .ok (.isub, 1) := by decide +kernel
theorem dX6_kept_69 : decode cX6_kept 69 = .ok (.putfield 46, 3) := by decide +kernel
theorem dX6_kept_72 : decode cX6_kept 72 = .ok (.aload_n 0, 1) := by decide +kernel
theorem dX6_kept_73 : decode cX6_kept 73 = .ok (.getfield 13, 3) := by decide +kernel
theorem dX6_kept_76 : decode cX6_kept 76 = .ok (.iconst 0, 1) := by decide +kernel
theorem dX6_kept_77 : decode cX6_kept 77 = .ok (.aload_n 0, 1) := by decide +kernel
theorem dX6_kept_78 : decode cX6_kept 78 = .ok (.getfield 16, 3) := by decide +kernel
theorem dX6_kept_81 : decode cX6_kept 81 = .ok (.aload_n 0, 1) := by decide +kernel
theorem dX6_kept_82 : decode cX6_kept 82 = .ok (.getfield 46, 3) := by decide +kernel
theorem dX6_kept_85 : decode cX6_kept 85 = .ok (.sipush 159, 3) := by decide +kernel
theorem dX6_kept_88 : decode cX6_kept 88 = .ok (.imul, 1) := by decide +kernel
theorem dX6_kept_89 : decode cX6_kept 89 = .ok (.invokestatic 42, 3) := by decide +kernel
theorem dX6_kept_92 : decode cX6_kept 92 = .ok (.aload_n 0, 1) := by decide +kernel
theorem dX6_kept_93 : decode cX6_kept 93 = .ok (.dup, 1) := by decide +kernel
theorem dX6_kept_94 : decode cX6_kept 94 = .ok (.getfield 46, 3) := by decide +kernel
theorem dX6_kept_97 : decode cX6_kept 97 = .ok (.iconst 1, 1) := by decide +kernel
theorem dX6_kept_98 : decode cX6_kept 98 = .ok (.iadd, 1) := by decide +kernel
theorem dX6_kept_99 : decode cX6_kept 99 = .ok (.putfield 46, 3) := by decide +kernel
theorem dX6_kept_102 : decode cX6_kept 102 = .ok (.iload_n 1, 1) := by decide +kernel
theorem dX6_kept_103 : decode cX6_kept 103 = .ok (.ireturn, 1) := by decide +kernel
theorem dX6_isMetal_0 : decode cX6_isMetal 0 = .ok (.iload_n 0, 1) := by decide +kernel
theorem dX6_isMetal_1 : decode cX6_isMetal 1 = .ok (.iconst 0, 1) := by decide +kernel
theorem dX6_isMetal_2 : decode cX6_isMetal 2 = .ok (.iconst 2, 1) := by decide +kernel
theorem dX6_isMetal_3 : decode cX6_isMetal 3 = .ok (.invokestatic 49, 3) := by decide +kernel
theorem dX6_isMetal_6 : decode cX6_isMetal 6 = .ok (.ireturn, 1) := by decide +kernel
theorem dX6_isAlloy_0 : decode cX6_isAlloy 0 = .ok (.iload_n 1, 1) := by decide +kernel
theorem dX6_isAlloy_1 : decode cX6_isAlloy 1 = .ok (.iconst 0, 1) := by decide +kernel
theorem dX6_isAlloy_2 : decode cX6_isAlloy 2 = .ok (.aload_n 0, 1) := by decide +kernel
theorem dX6_isAlloy_3 : decode cX6_isAlloy 3 = .ok (.getfield 7, 3) := by decide +kernel
theorem dX6_isAlloy_6 : decode cX6_isAlloy 6 = .ok (.iconst 5, 1) := by decide +kernel
theorem dX6_isAlloy_7 : decode cX6_isAlloy 7 = .ok (.iaload, 1) := by decide +kernel
theorem dX6_isAlloy_8 : decode cX6_isAlloy 8 = .ok (.iconst 1, 1) := by decide +kernel
theorem dX6_isAlloy_9 : decode cX6_isAlloy 9 = .ok (.isub, 1) := by decide +kernel
theorem dX6_isAlloy_10 : decode cX6_isAlloy 10 = .ok (.invokestatic 49, 3) := by decide +kernel
theorem dX6_isAlloy_13 : decode cX6_isAlloy 13 = .ok (.ireturn, 1) := by decide +kernel
theorem dX6_isMould_0 : decode cX6_isMould 0 = .ok (.iload_n 1, 1) := by decide +kernel
theorem dX6_isMould_1 : decode cX6_isMould 1 = .ok (.iconst 0, 1) := by decide +kernel
theorem dX6_isMould_2 : decode cX6_isMould 2 = .ok (.aload_n 0, 1) := by decide +kernel
theorem dX6_isMould_3 : decode cX6_isMould 3 = .ok (.getfield 7, 3) := by decide +kernel
theorem dX6_isMould_6 : decode cX6_isMould 6 = .ok (.bipush 6, 2) := by decide +kernel
theorem dX6_isMould_8 : decode cX6_isMould 8 = .ok (.iaload, 1) := by decide +kernel
theorem dX6_isMould_9 : decode cX6_isMould 9 = .ok (.iconst 1, 1) := by decide +kernel
theorem dX6_isMould_10 : decode cX6_isMould 10 = .ok (.isub, 1) := by decide +kernel
theorem dX6_isMould_11 : decode cX6_isMould 11 = .ok (.invokestatic 49, 3) := by decide +kernel
theorem dX6_isMould_14 : decode cX6_isMould 14 = .ok (.ireturn, 1) := by decide +kernel
theorem dX6_part_0 : decode cX6_part 0 = .ok (.aload_n 0, 1) := by decide +kernel
theorem dX6_part_1 : decode cX6_part 1 = .ok (.getfield 7, 3) := by decide +kernel
theorem dX6_part_4 : decode cX6_part 4 = .ok (.bipush 21, 2) := by decide +kernel
theorem dX6_part_6 : decode cX6_part 6 = .ok (.iconst 3, 1) := by decide +kernel
theorem dX6_part_7 : decode cX6_part 7 = .ok (.iload_n 1, 1) := by decide +kernel
theorem dX6_part_8 : decode cX6_part 8 = .ok (.imul, 1) := by decide +kernel
theorem dX6_part_9 : decode cX6_part 9 = .ok (.iadd, 1) := by decide +kernel
theorem dX6_part_10 : decode cX6_part 10 = .ok (.iload_n 2, 1) := by decide +kernel
theorem dX6_part_11 : decode cX6_part 11 = .ok (.iadd, 1) := by decide +kernel
theorem dX6_part_12 : decode cX6_part 12 = .ok (.iaload, 1) := by decide +kernel
theorem dX6_part_13 : decode cX6_part 13 = .ok (.ireturn, 1) := by decide +kernel
theorem dX6_placeOf_0 : decode cX6_placeOf 0 = .ok (.iconst 0, 1) := by decide +kernel
theorem dX6_placeOf_1 : decode cX6_placeOf 1 = .ok (.istore_n 2, 1) := by decide +kernel
theorem dX6_placeOf_2 : decode cX6_placeOf 2 = .ok (.iload_n 2, 1) := by decide +kernel
theorem dX6_placeOf_3 : decode cX6_placeOf 3 = .ok (.aload_n 0, 1) := by decide +kernel
theorem dX6_placeOf_4 : decode cX6_placeOf 4 = .ok (.getfield 7, 3) := by decide +kernel
theorem dX6_placeOf_7 : decode cX6_placeOf 7 = .ok (.bipush 7, 2) := by decide +kernel
theorem dX6_placeOf_9 : decode cX6_placeOf 9 = .ok (.iaload, 1) := by decide +kernel
theorem dX6_placeOf_10 : decode cX6_placeOf 10 = .ok (.if_icmp .ge 24, 3) := by decide +kernel
theorem dX6_placeOf_13 : decode cX6_placeOf 13 = .ok (.aload_n 0, 1) := by decide +kernel
theorem dX6_placeOf_14 : decode cX6_placeOf 14 = .ok (.getfield 7, 3) := by decide +kernel
theorem dX6_placeOf_17 : decode cX6_placeOf 17 = .ok (.bipush 47, 2) := by decide +kernel
theorem dX6_placeOf_19 : decode cX6_placeOf 19 = .ok (.iload_n 2, 1) := by decide +kernel
theorem dX6_placeOf_20 : decode cX6_placeOf 20 = .ok (.iadd, 1) := by decide +kernel
theorem dX6_placeOf_21 : decode cX6_placeOf 21 = .ok (.iaload, 1) := by decide +kernel
theorem dX6_placeOf_22 : decode cX6_placeOf 22 = .ok (.iload_n 1, 1) := by decide +kernel
theorem dX6_placeOf_23 : decode cX6_placeOf 23 = .ok (.if_icmp .ne 5, 3) := by decide +kernel
theorem dX6_placeOf_26 : decode cX6_placeOf 26 = .ok (.iload_n 2, 1) := by decide +kernel
theorem dX6_placeOf_27 : decode cX6_placeOf 27 = .ok (.ireturn, 1) := by decide +kernel
theorem dX6_placeOf_28 : decode cX6_placeOf 28 = .ok (.iinc 2 1, 3) := by decide +kernel
theorem dX6_placeOf_31 : decode cX6_placeOf 31 = .ok (.goto (-29), 3) := by decide +kernel
theorem dX6_placeOf_34 : decode cX6_placeOf 34 = .ok (.iconst (-1), 1) := by decide +kernel
theorem dX6_placeOf_35 : decode cX6_placeOf 35 = .ok (.ireturn, 1) := by decide +kernel
theorem dX6_placeWith_0 : decode cX6_placeWith 0 = .ok (.iconst 0, 1) := by decide +kernel
theorem dX6_placeWith_1 : decode cX6_placeWith 1 = .ok (.istore_n 2, 1) := by decide +kernel
theorem dX6_placeWith_2 : decode cX6_placeWith 2 = .ok (.iload_n 2, 1) := by decide +kernel
theorem dX6_placeWith_3 : decode cX6_placeWith 3 = .ok (.aload_n 0, 1) := by decide +kernel
theorem dX6_placeWith_4 : decode cX6_placeWith 4 = .ok (.getfield 7, 3) := by decide +kernel
theorem dX6_placeWith_7 : decode cX6_placeWith 7 = .ok (.bipush 7, 2) := by decide +kernel
theorem dX6_placeWith_9 : decode cX6_placeWith 9 = .ok (.iaload, 1) := by decide +kernel
theorem dX6_placeWith_10 : decode cX6_placeWith 10 = .ok (.if_icmp .ge 40, 3) := by decide +kernel
theorem dX6_placeWith_13 : decode cX6_placeWith 13 = .ok (.iload_n 1, 1) := by decide +kernel
theorem dX6_placeWith_14 : decode cX6_placeWith 14 = .ok (.aload_n 0, 1) := by decide +kernel
theorem dX6_placeWith_15 : decode cX6_placeWith 15 = .ok (.getfield 7, 3) := by decide +kernel
theorem dX6_placeWith_18 : decode cX6_placeWith 18 = .ok (.bipush 71, 2) := by decide +kernel
theorem dX6_placeWith_20 : decode cX6_placeWith 20 = .ok (.iload_n 2, 1) := by decide +kernel
theorem dX6_placeWith_21 : decode cX6_placeWith 21 = .ok (.iadd, 1) := by decide +kernel
theorem dX6_placeWith_22 : decode cX6_placeWith 22 = .ok (.iaload, 1) := by decide +kernel
theorem dX6_placeWith_23 : decode cX6_placeWith 23 = .ok (.isub, 1) := by decide +kernel
theorem dX6_placeWith_24 : decode cX6_placeWith 24 = .ok (.iconst 0, 1) := by decide +kernel
theorem dX6_placeWith_25 : decode cX6_placeWith 25 = .ok (.aload_n 0, 1) := by decide +kernel
theorem dX6_placeWith_26 : decode cX6_placeWith 26 = .ok (.getfield 7, 3) := by decide +kernel
theorem dX6_placeWith_29 : decode cX6_placeWith 29 = .ok (.bipush 63, 2) := by decide +kernel
theorem dX6_placeWith_31 : decode cX6_placeWith 31 = .ok (.iload_n 2, 1) := by decide +kernel
theorem dX6_placeWith_32 : decode cX6_placeWith 32 = .ok (.iadd, 1) := by decide +kernel
theorem dX6_placeWith_33 : decode cX6_placeWith 33 = .ok (.iaload, 1) := by decide +kernel
theorem dX6_placeWith_34 : decode cX6_placeWith 34 = .ok (.iconst 1, 1) := by decide +kernel
theorem dX6_placeWith_35 : decode cX6_placeWith 35 = .ok (.isub, 1) := by decide +kernel
theorem dX6_placeWith_36 : decode cX6_placeWith 36 = .ok (.invokestatic 49, 3) := by decide +kernel
theorem dX6_placeWith_39 : decode cX6_placeWith 39 = .ok (.ifCond .eq 5, 3) := by decide +kernel
theorem dX6_placeWith_42 : decode cX6_placeWith 42 = .ok (.iload_n 2, 1) := by decide +kernel
theorem dX6_placeWith_43 : decode cX6_placeWith 43 = .ok (.ireturn, 1) := by decide +kernel
theorem dX6_placeWith_44 : decode cX6_placeWith 44 = .ok (.iinc 2 1, 3) := by decide +kernel
theorem dX6_placeWith_47 : decode cX6_placeWith 47 = .ok (.goto (-45), 3) := by decide +kernel
theorem dX6_placeWith_50 : decode cX6_placeWith 50 = .ok (.iconst (-1), 1) := by decide +kernel
theorem dX6_placeWith_51 : decode cX6_placeWith 51 = .ok (.ireturn, 1) := by decide +kernel
theorem dX6_squeakAt_0 : decode cX6_squeakAt 0 = .ok (.aload_n 0, 1) := by decide +kernel
theorem dX6_squeakAt_1 : decode cX6_squeakAt 1 = .ok (.getfield 7, 3) := by decide +kernel
theorem dX6_squeakAt_4 : decode cX6_squeakAt 4 = .ok (.bipush 87, 2) := by decide +kernel
theorem dX6_squeakAt_6 : decode cX6_squeakAt 6 = .ok (.bipush 9, 2) := by decide +kernel
theorem dX6_squeakAt_8 : decode cX6_squeakAt 8 = .ok (.iload_n 1, 1) := by decide +kernel
theorem dX6_squeakAt_9 : decode cX6_squeakAt 9 = .ok (.imul, 1) := by decide +kernel
theorem dX6_squeakAt_10 : decode cX6_squeakAt 10 = .ok (.iadd, 1) := by decide +kernel
theorem dX6_squeakAt_11 : decode cX6_squeakAt 11 = .ok (.iload_n 2, 1) := by decide +kernel
theorem dX6_squeakAt_12 : decode cX6_squeakAt 12 = .ok (.iadd, 1) := by decide +kernel
theorem dX6_squeakAt_13 : decode cX6_squeakAt 13 = .ok (.iaload, 1) := by decide +kernel
theorem dX6_squeakAt_14 : decode cX6_squeakAt 14 = .ok (.ireturn, 1) := by decide +kernel
theorem dX6_squeakOf_0 : decode cX6_squeakOf 0 = .ok (.bipush 7, 2) := by decide +kernel
theorem dX6_squeakOf_2 : decode cX6_squeakOf 2 = .ok (.aload_n 0, 1) := by decide +kernel
theorem dX6_squeakOf_3 : decode cX6_squeakOf 3 = .ok (.iload_n 1, 1) := by decide +kernel
theorem dX6_squeakOf_4 : decode cX6_squeakOf 4 = .ok (.iconst 0, 1) := by decide +kernel
theorem dX6_squeakOf_5 : decode cX6_squeakOf 5 = .ok (.invokevirtual 53, 3) := by decide +kernel
theorem dX6_squeakOf_8 : decode cX6_squeakOf 8 = .ok (.imul, 1) := by decide +kernel
theorem dX6_squeakOf_9 : decode cX6_squeakOf 9 = .ok (.bipush 11, 2) := by decide +kernel
theorem dX6_squeakOf_11 : decode cX6_squeakOf 11 = .ok (.aload_n 0, 1) := by decide +kernel
theorem dX6_squeakOf_12 : decode cX6_squeakOf 12 = .ok (.iload_n 1, 1) := by decide +kernel
theorem dX6_squeakOf_13 : decode cX6_squeakOf 13 = .ok (.iconst 1, 1) := by decide +kernel
theorem dX6_squeakOf_14 : decode cX6_squeakOf 14 = .ok (.invokevirtual 53, 3) := by decide +kernel
theorem dX6_squeakOf_17 : decode cX6_squeakOf 17 = .ok (.imul, 1) := by decide +kernel
theorem dX6_squeakOf_18 : decode cX6_squeakOf 18 = .ok (.iadd, 1) := by decide +kernel
theorem dX6_squeakOf_19 : decode cX6_squeakOf 19 = .ok (.iconst 3, 1) := by decide +kernel
theorem dX6_squeakOf_20 : decode cX6_squeakOf 20 = .ok (.aload_n 0, 1) := by decide +kernel
theorem dX6_squeakOf_21 : decode cX6_squeakOf 21 = .ok (.iload_n 1, 1) := by decide +kernel
theorem dX6_squeakOf_22 : decode cX6_squeakOf 22 = .ok (.iconst 2, 1) := by decide +kernel
theorem dX6_squeakOf_23 : decode cX6_squeakOf 23 = .ok (.invokevirtual 53, 3) := by decide +kernel
theorem dX6_squeakOf_26 : decode cX6_squeakOf 26 = .ok (.imul, 1) := by decide +kernel
theorem dX6_squeakOf_27 : decode cX6_squeakOf 27 = .ok (.iadd, 1) := by decide +kernel
theorem dX6_squeakOf_28 : decode cX6_squeakOf 28 = .ok (.iconst 5, 1) := by decide +kernel
theorem dX6_squeakOf_29 : decode cX6_squeakOf 29 = .ok (.aload_n 0, 1) := by decide +kernel
theorem dX6_squeakOf_30 : decode cX6_squeakOf 30 = .ok (.getfield 7, 3) := by decide +kernel
theorem dX6_squeakOf_33 : decode cX6_squeakOf 33 = .ok (.bipush 39, 2) := by decide +kernel
theorem dX6_squeakOf_35 : decode cX6_squeakOf 35 = .ok (.iload_n 2, 1) := by decide +kernel
theorem dX6_squeakOf_36 : decode cX6_squeakOf 36 = .ok (.iadd, 1) := by decide +kernel
theorem dX6_squeakOf_37 : decode cX6_squeakOf 37 = .ok (.iaload, 1) := by decide +kernel
theorem dX6_squeakOf_38 : decode cX6_squeakOf 38 = .ok (.imul, 1) := by decide +kernel
theorem dX6_squeakOf_39 : decode cX6_squeakOf 39 = .ok (.iadd, 1) := by decide +kernel
theorem dX6_squeakOf_40 : decode cX6_squeakOf 40 = .ok (.bipush 13, 2) := by decide +kernel
theorem dX6_squeakOf_42 : decode cX6_squeakOf 42 = .ok (.aload_n 0, 1) := by decide +kernel
theorem dX6_squeakOf_43 : decode cX6_squeakOf 43 = .ok (.getfield 7, 3) := by decide +kernel
theorem dX6_squeakOf_46 : decode cX6_squeakOf 46 = .ok (.bipush 43, 2) := by decide +kernel
theorem dX6_squeakOf_48 : decode cX6_squeakOf 48 = .ok (.iload_n 2, 1) := by decide +kernel
theorem dX6_squeakOf_49 : decode cX6_squeakOf 49 = .ok (.iadd, 1) := by decide +kernel
theorem dX6_squeakOf_50 : decode cX6_squeakOf 50 = .ok (.iaload, 1) := by decide +kernel
theorem dX6_squeakOf_51 : decode cX6_squeakOf 51 = .ok (.imul, 1) := by decide +kernel
theorem dX6_squeakOf_52 : decode cX6_squeakOf 52 = .ok (.iadd, 1) := by decide +kernel
theorem dX6_squeakOf_53 : decode cX6_squeakOf 53 = .ok (.istore_n 3, 1) := by decide +kernel
theorem dX6_squeakOf_54 : decode cX6_squeakOf 54 = .ok (.iload_n 3, 1) := by decide +kernel
theorem dX6_squeakOf_55 : decode cX6_squeakOf 55 = .ok (.bipush 100, 2) := by decide +kernel
theorem dX6_squeakOf_57 : decode cX6_squeakOf 57 = .ok (.irem, 1) := by decide +kernel
theorem dX6_squeakOf_58 : decode cX6_squeakOf 58 = .ok (.ireturn, 1) := by decide +kernel
theorem dX6_sampled_0 : decode cX6_sampled 0 = .ok (.aload_n 0, 1) := by decide +kernel
theorem dX6_sampled_1 : decode cX6_sampled 1 = .ok (.getfield 7, 3) := by decide +kernel
theorem dX6_sampled_4 : decode cX6_sampled 4 = .ok (.bipush 63, 2) := by decide +kernel
theorem dX6_sampled_6 : decode cX6_sampled 6 = .ok (.iload_n 1, 1) := by decide +kernel
theorem dX6_sampled_7 : decode cX6_sampled 7 = .ok (.iadd, 1) := by decide +kernel
theorem dX6_sampled_8 : decode cX6_sampled 8 = .ok (.iaload, 1) := by decide +kernel
theorem dX6_sampled_9 : decode cX6_sampled 9 = .ok (.aload_n 0, 1) := by decide +kernel
theorem dX6_sampled_10 : decode cX6_sampled 10 = .ok (.getfield 7, 3) := by decide +kernel
theorem dX6_sampled_13 : decode cX6_sampled 13 = .ok (.iconst 4, 1) := by decide +kernel
theorem dX6_sampled_14 : decode cX6_sampled 14 = .ok (.iaload, 1) := by decide +kernel
theorem dX6_sampled_15 : decode cX6_sampled 15 = .ok (.iadd, 1) := by decide +kernel
theorem dX6_sampled_16 : decode cX6_sampled 16 = .ok (.iconst 1, 1) := by decide +kernel
theorem dX6_sampled_17 : decode cX6_sampled 17 = .ok (.isub, 1) := by decide +kernel
theorem dX6_sampled_18 : decode cX6_sampled 18 = .ok (.aload_n 0, 1) := by decide +kernel
theorem dX6_sampled_19 : decode cX6_sampled 19 = .ok (.getfield 7, 3) := by decide +kernel
theorem dX6_sampled_22 : decode cX6_sampled 22 = .ok (.iconst 4, 1) := by decide +kernel
theorem dX6_sampled_23 : decode cX6_sampled 23 = .ok (.iaload, 1) := by decide +kernel
theorem dX6_sampled_24 : decode cX6_sampled 24 = .ok (.idiv, 1) := by decide +kernel
theorem dX6_sampled_25 : decode cX6_sampled 25 = .ok (.ireturn, 1) := by decide +kernel
theorem dX6_goodOnes_0 : decode cX6_goodOnes 0 = .ok (.iconst 0, 1) := by decide +kernel
theorem dX6_goodOnes_1 : decode cX6_goodOnes 1 = .ok (.istore_n 3, 1) := by decide +kernel
theorem dX6_goodOnes_2 : decode cX6_goodOnes 2 = .ok (.iconst 0, 1) := by decide +kernel
theorem dX6_goodOnes_3 : decode cX6_goodOnes 3 = .ok (.istore 4, 2) := by decide +kernel
theorem dX6_goodOnes_5 : decode cX6_goodOnes 5 = .ok (.iload 4, 2) := by decide +kernel
theorem dX6_goodOnes_7 : decode cX6_goodOnes 7 = .ok (.aload_n 0, 1) := by decide +kernel
theorem dX6_goodOnes_8 : decode cX6_goodOnes 8 = .ok (.getfield 7, 3) := by decide +kernel
theorem dX6_goodOnes_11 : decode cX6_goodOnes 11 = .ok (.bipush 63, 2) := by decide +kernel
theorem dX6_goodOnes_13 : decode cX6_goodOnes 13 = .ok (.iload_n 1, 1) := by decide +kernel
theorem dX6_goodOnes_14 : decode cX6_goodOnes 14 = .ok (.iadd, 1) := by decide +kernel
theorem dX6_goodOnes_15 : decode cX6_goodOnes 15 = .ok (.iaload, 1) := by decide +kernel
theorem dX6_goodOnes_16 : decode cX6_goodOnes 16 = .ok (.if_icmp .ge 36, 3) := by decide +kernel
theorem dX6_goodOnes_19 : decode cX6_goodOnes 19 = .ok (.iload_n 3, 1) := by decide +kernel
theorem dX6_goodOnes_20 : decode cX6_goodOnes 20 = .ok (.aload_n 0, 1) := by decide +kernel
theorem dX6_goodOnes_21 : decode cX6_goodOnes 21 = .ok (.iload_n 1, 1) := by decide +kernel
theorem dX6_goodOnes_22 : decode cX6_goodOnes 22 = .ok (.iload 4, 2) := by decide +kernel
theorem dX6_goodOnes_24 : decode cX6_goodOnes 24 = .ok (.invokevirtual 57, 3) := by decide +kernel
theorem dX6_goodOnes_27 : decode cX6_goodOnes 27 = .ok (.iload_n 2, 1) := by decide +kernel
theorem dX6_goodOnes_28 : decode cX6_goodOnes 28 = .ok (.if_icmp .gt 7, 3) := by decide +kernel
theorem dX6_goodOnes_31 : decode cX6_goodOnes 31 = .ok (.iconst 1, 1) := by decide +kernel
theorem dX6_goodOnes_32 : decode cX6_goodOnes 32 = .ok (.goto 4, 3) := by decide +kernel
theorem dX6_goodOnes_35 : decode cX6_goodOnes 35 = .ok (.iconst 0, 1) := by decide +kernel
theorem dX6_goodOnes_36 : decode cX6_goodOnes 36 = .ok (.iadd, 1) := by decide +kernel
theorem dX6_goodOnes_37 : decode cX6_goodOnes 37 = .ok (.istore_n 3, 1) := by decide +kernel
theorem dX6_goodOnes_38 : decode cX6_goodOnes 38 = .ok (.iload 4, 2) := by decide +kernel
theorem dX6_goodOnes_40 : decode cX6_goodOnes 40 = .ok (.aload_n 0, 1) := by decide +kernel
theorem dX6_goodOnes_41 : decode cX6_goodOnes 41 = .ok (.getfield 7, 3) := by decide +kernel
theorem dX6_goodOnes_44 : decode cX6_goodOnes 44 = .ok (.iconst 4, 1) := by decide +kernel
theorem dX6_goodOnes_45 : decode cX6_goodOnes 45 = .ok (.iaload, 1) := by decide +kernel
theorem dX6_goodOnes_46 : decode cX6_goodOnes 46 = .ok (.iadd, 1) := by decide +kernel
theorem dX6_goodOnes_47 : decode cX6_goodOnes 47 = .ok (.istore 4, 2) := by decide +kernel
theorem dX6_goodOnes_49 : decode cX6_goodOnes 49 = .ok (.goto (-44), 3) := by decide +kernel
theorem dX6_goodOnes_52 : decode cX6_goodOnes 52 = .ok (.iload_n 3, 1) := by decide +kernel
theorem dX6_goodOnes_53 : decode cX6_goodOnes 53 = .ok (.ireturn, 1) := by decide +kernel
theorem dX6_passes_0 : decode cX6_passes 0 = .ok (.iconst 2, 1) := by decide +kernel
theorem dX6_passes_1 : decode cX6_passes 1 = .ok (.aload_n 0, 1) := by decide +kernel
theorem dX6_passes_2 : decode cX6_passes 2 = .ok (.iload_n 1, 1) := by decide +kernel
theorem dX6_passes_3 : decode cX6_passes 3 = .ok (.iload_n 2, 1) := by decide +kernel
theorem dX6_passes_4 : decode cX6_passes 4 = .ok (.invokevirtual 60, 3) := by decide +kernel
theorem dX6_passes_7 : decode cX6_passes 7 = .ok (.imul, 1) := by decide +kernel
theorem dX6_passes_8 : decode cX6_passes 8 = .ok (.aload_n 0, 1) := by decide +kernel
theorem dX6_passes_9 : decode cX6_passes 9 = .ok (.iload_n 1, 1) := by decide +kernel
theorem dX6_passes_10 : decode cX6_passes 10 = .ok (.invokevirtual 63, 3) := by decide +kernel
theorem dX6_passes_13 : decode cX6_passes 13 = .ok (.if_icmp .le 7, 3) := by decide +kernel
theorem dX6_passes_16 : decode cX6_passes 16 = .ok (.iconst 1, 1) := by decide +kernel
theorem dX6_passes_17 : decode cX6_passes 17 = .ok (.goto 4, 3) := by decide +kernel
theorem dX6_passes_20 : decode cX6_passes 20 = .ok (.iconst 0, 1) := by decide +kernel
theorem dX6_passes_21 : decode cX6_passes 21 = .ok (.ireturn, 1) := by decide +kernel
theorem dX6_addsAlloy_0 : decode cX6_addsAlloy 0 = .ok (.iload_n 1, 1) := by decide +kernel
theorem dX6_addsAlloy_1 : decode cX6_addsAlloy 1 = .ok (.iconst 0, 1) := by decide +kernel
theorem dX6_addsAlloy_2 : decode cX6_addsAlloy 2 = .ok (.bipush 9, 2) := by decide +kernel
theorem dX6_addsAlloy_4 : decode cX6_addsAlloy 4 = .ok (.invokestatic 49, 3) := by decide +kernel
theorem dX6_addsAlloy_7 : decode cX6_addsAlloy 7 = .ok (.ifCond .eq 31, 3) := by decide +kernel
theorem dX6_addsAlloy_10 : decode cX6_addsAlloy 10 = .ok (.iload_n 2, 1) := by decide +kernel
theorem dX6_addsAlloy_11 : decode cX6_addsAlloy 11 = .ok (.iconst 0, 1) := by decide +kernel
theorem dX6_addsAlloy_12 : decode cX6_addsAlloy 12 = .ok (.bipush 9, 2) := by decide +kernel
theorem dX6_addsAlloy_14 : decode cX6_addsAlloy 14 = .ok (.invokestatic 49, 3) := by decide +kernel
theorem dX6_addsAlloy_17 : decode cX6_addsAlloy 17 = .ok (.ifCond .eq 21, 3) := by decide +kernel
theorem dX6_addsAlloy_20 : decode cX6_addsAlloy 20 = .ok (.iload_n 3, 1) := by decide +kernel
theorem dX6_addsAlloy_21 : decode cX6_addsAlloy 21 = .ok (.iconst 0, 1) := by decide +kernel
theorem dX6_addsAlloy_22 : decode cX6_addsAlloy 22 = .ok (.bipush 9, 2) := by decide +kernel
theorem dX6_addsAlloy_24 : decode cX6_addsAlloy 24 = .ok (.invokestatic 49, 3) := by decide +kernel
theorem dX6_addsAlloy_27 : decode cX6_addsAlloy 27 = .ok (.ifCond .eq 11, 3) := by decide +kernel
theorem dX6_addsAlloy_30 : decode cX6_addsAlloy 30 = .ok (.iload_n 1, 1) := by decide +kernel
theorem dX6_addsAlloy_31 : decode cX6_addsAlloy 31 = .ok (.iload_n 2, 1) := by decide +kernel
theorem dX6_addsAlloy_32 : decode cX6_addsAlloy 32 = .ok (.iadd, 1) := by decide +kernel
theorem dX6_addsAlloy_33 : decode cX6_addsAlloy 33 = .ok (.iload_n 3, 1) := by decide +kernel
theorem dX6_addsAlloy_34 : decode cX6_addsAlloy 34 = .ok (.iadd, 1) := by decide +kernel
theorem dX6_addsAlloy_35 : decode cX6_addsAlloy 35 = .ok (.ifCond .ne 9, 3) := by decide +kernel
theorem dX6_addsAlloy_38 : decode cX6_addsAlloy 38 = .ok (.aload_n 0, 1) := by decide +kernel
theorem dX6_addsAlloy_39 : decode cX6_addsAlloy 39 = .ok (.iconst 1, 1) := by decide +kernel
theorem dX6_addsAlloy_40 : decode cX6_addsAlloy 40 = .ok (.invokevirtual 67, 3) := by decide +kernel
theorem dX6_addsAlloy_43 : decode cX6_addsAlloy 43 = .ok (.ireturn, 1) := by decide +kernel
theorem dX6_addsAlloy_44 : decode cX6_addsAlloy 44 = .ok (.aload_n 0, 1) := by decide +kernel
theorem dX6_addsAlloy_45 : decode cX6_addsAlloy 45 = .ok (.getfield 7, 3) := by decide +kernel
theorem dX6_addsAlloy_48 : decode cX6_addsAlloy 48 = .ok (.iconst 5, 1) := by decide +kernel
theorem dX6_addsAlloy_49 : decode cX6_addsAlloy 49 = .ok (.iaload, 1) := by decide +kernel
theorem dX6_addsAlloy_50 : decode cX6_addsAlloy 50 = .ok (.istore 4, 2) := by decide +kernel
theorem dX6_addsAlloy_52 : decode cX6_addsAlloy 52 = .ok (.iload 4, 2) := by decide +kernel
theorem dX6_addsAlloy_54 : decode cX6_addsAlloy 54 = .ok (.bipush 6, 2) := by decide +kernel
theorem dX6_addsAlloy_56 : decode cX6_addsAlloy 56 = .ok (.if_icmp .ne 9, 3) := by decide +kernel
theorem dX6_addsAlloy_59 : decode cX6_addsAlloy 59 = .ok (.aload_n 0, 1) := by decide +kernel
theorem dX6_addsAlloy_60 : decode cX6_addsAlloy 60 = .ok (.iconst 2, 1) := by decide +kernel
theorem dX6_addsAlloy_61 : decode cX6_addsAlloy 61 = .ok (.invokevirtual 67, 3) := by decide +kernel
theorem dX6_addsAlloy_64 : decode cX6_addsAlloy 64 = .ok (.ireturn, 1) := by decide +kernel
theorem dX6_addsAlloy_65 : decode cX6_addsAlloy 65 = .ok (.aload_n 0, 1) := by decide +kernel
theorem dX6_addsAlloy_66 : decode cX6_addsAlloy 66 = .ok (.getfield 7, 3) := by decide +kernel
theorem dX6_addsAlloy_69 : decode cX6_addsAlloy 69 = .ok (.bipush 21, 2) := by decide +kernel
theorem dX6_addsAlloy_71 : decode cX6_addsAlloy 71 = .ok (.iconst 3, 1) := by decide +kernel
theorem dX6_addsAlloy_72 : decode cX6_addsAlloy 72 = .ok (.iload 4, 2) := by decide +kernel
theorem dX6_addsAlloy_74 : decode cX6_addsAlloy 74 = .ok (.imul, 1) := by decide +kernel
theorem dX6_addsAlloy_75 : decode cX6_addsAlloy 75 = .ok (.iadd, 1) := by decide +kernel
theorem dX6_addsAlloy_76 : decode cX6_addsAlloy 76 = .ok (.iload_n 1, 1) := by decide +kernel
theorem dX6_addsAlloy_77 : decode cX6_addsAlloy 77 = .ok (.iastore, 1) := by decide +kernel
theorem dX6_addsAlloy_78 : decode cX6_addsAlloy 78 = .ok (.aload_n 0, 1) := by decide +kernel
theorem dX6_addsAlloy_79 : decode cX6_addsAlloy 79 = .ok (.getfield 7, 3) := by decide +kernel
theorem dX6_addsAlloy_82 : decode cX6_addsAlloy 82 = .ok (.bipush 21, 2) := by decide +kernel
theorem dX6_addsAlloy_84 : decode cX6_addsAlloy 84 = .ok (.iconst 3, 1) := by decide +kernel
theorem dX6_addsAlloy_85 : decode cX6_addsAlloy 85 = .ok (.iload 4, 2) := by decide +kernel
theorem dX6_addsAlloy_87 : decode cX6_addsAlloy 87 = .ok (.imul, 1) := by decide +kernel
theorem dX6_addsAlloy_88 : decode cX6_addsAlloy 88 = .ok (.iadd, 1) := by decide +kernel
theorem dX6_addsAlloy_89 : decode cX6_addsAlloy 89 = .ok (.iconst 1, 1) := by decide +kernel
theorem dX6_addsAlloy_90 : decode cX6_addsAlloy 90 = .ok (.iadd, 1) := by decide +kernel
theorem dX6_addsAlloy_91 : decode cX6_addsAlloy 91 = .ok (.iload_n 2, 1) := by decide +kernel
theorem dX6_addsAlloy_92 : decode cX6_addsAlloy 92 = .ok (.iastore, 1) := by decide +kernel
theorem dX6_addsAlloy_93 : decode cX6_addsAlloy 93 = .ok (.aload_n 0, 1) := by decide +kernel
theorem dX6_addsAlloy_94 : decode cX6_addsAlloy 94 = .ok (.getfield 7, 3) := by decide +kernel
theorem dX6_addsAlloy_97 : decode cX6_addsAlloy 97 = .ok (.bipush 21, 2) := by decide +kernel
theorem dX6_addsAlloy_99 : decode cX6_addsAlloy 99 = .ok (.iconst 3, 1) := by decide +kernel
theorem dX6_addsAlloy_100 : decode cX6_addsAlloy 100 = .ok (.iload 4, 2) := by decide +kernel
theorem dX6_addsAlloy_102 : decode cX6_addsAlloy 102 = .ok (.imul, 1) := by decide +kernel
theorem dX6_addsAlloy_103 : decode cX6_addsAlloy 103 = .ok (.iadd, 1) := by decide +kernel
theorem dX6_addsAlloy_104 : decode cX6_addsAlloy 104 = .ok (.iconst 2, 1) := by decide +kernel
theorem dX6_addsAlloy_105 : decode cX6_addsAlloy 105 = .ok (.iadd, 1) := by decide +kernel
theorem dX6_addsAlloy_106 : decode cX6_addsAlloy 106 = .ok (.iload_n 3, 1) := by decide +kernel
theorem dX6_addsAlloy_107 : decode cX6_addsAlloy 107 = .ok (.iastore, 1) := by decide +kernel
theorem dX6_addsAlloy_108 : decode cX6_addsAlloy 108 = .ok (.aload_n 0, 1) := by decide +kernel
theorem dX6_addsAlloy_109 : decode cX6_addsAlloy 109 = .ok (.getfield 7, 3) := by decide +kernel
theorem dX6_addsAlloy_112 : decode cX6_addsAlloy 112 = .ok (.iconst 5, 1) := by decide +kernel
theorem dX6_addsAlloy_113 : decode cX6_addsAlloy 113 = .ok (.dup2, 1) := by decide +kernel
theorem dX6_addsAlloy_114 : decode cX6_addsAlloy 114 = .ok (.iaload, 1) := by decide +kernel
theorem dX6_addsAlloy_115 : decode cX6_addsAlloy 115 = .ok (.iconst 1, 1) := by decide +kernel
theorem dX6_addsAlloy_116 : decode cX6_addsAlloy 116 = .ok (.iadd, 1) := by decide +kernel
theorem dX6_addsAlloy_117 : decode cX6_addsAlloy 117 = .ok (.iastore, 1) := by decide +kernel
theorem dX6_addsAlloy_118 : decode cX6_addsAlloy 118 = .ok (.aload_n 0, 1) := by decide +kernel
theorem dX6_addsAlloy_119 : decode cX6_addsAlloy 119 = .ok (.iload 4, 2) := by decide +kernel
theorem dX6_addsAlloy_121 : decode cX6_addsAlloy 121 = .ok (.invokevirtual 70, 3) := by decide +kernel
theorem dX6_addsAlloy_124 : decode cX6_addsAlloy 124 = .ok (.ireturn, 1) := by decide +kernel
theorem dX6_addAlloy_0 : decode cX6_addAlloy 0 = .ok (.aload_n 0, 1) := by decide +kernel
theorem dX6_addAlloy_1 : decode cX6_addAlloy 1 = .ok (.invokevirtual 73, 3) := by decide +kernel
theorem dX6_addAlloy_4 : decode cX6_addAlloy 4 = .ok (.aload_n 0, 1) := by decide +kernel
theorem dX6_addAlloy_5 : decode cX6_addAlloy 5 = .ok (.aload_n 0, 1) := by decide +kernel
theorem dX6_addAlloy_6 : decode cX6_addAlloy 6 = .ok (.iload_n 1, 1) := by decide +kernel
theorem dX6_addAlloy_7 : decode cX6_addAlloy 7 = .ok (.iload_n 2, 1) := by decide +kernel
theorem dX6_addAlloy_8 : decode cX6_addAlloy 8 = .ok (.iload_n 3, 1) := by decide +kernel
theorem dX6_addAlloy_9 : decode cX6_addAlloy 9 = .ok (.invokevirtual 76, 3) := by decide +kernel
theorem dX6_addAlloy_12 : decode cX6_addAlloy 12 = .ok (.invokevirtual 80, 3) := by decide +kernel
theorem dX6_addAlloy_15 : decode cX6_addAlloy 15 = .ok (.ireturn, 1) := by decide +kernel
theorem dX6_addsMould_0 : decode cX6_addsMould 0 = .ok (.iload_n 1, 1) := by decide +kernel
theorem dX6_addsMould_1 : decode cX6_addsMould 1 = .ok (.iconst 1, 1) := by decide +kernel
theorem dX6_addsMould_2 : decode cX6_addsMould 2 = .ok (.bipush 50, 2) := by decide +kernel
theorem dX6_addsMould_4 : decode cX6_addsMould 4 = .ok (.invokestatic 49, 3) := by decide +kernel
theorem dX6_addsMould_7 : decode cX6_addsMould 7 = .ok (.ifCond .ne 9, 3) := by decide +kernel
theorem dX6_addsMould_10 : decode cX6_addsMould 10 = .ok (.aload_n 0, 1) := by decide +kernel
theorem dX6_addsMould_11 : decode cX6_addsMould 11 = .ok (.iconst 1, 1) := by decide +kernel
theorem dX6_addsMould_12 : decode cX6_addsMould 12 = .ok (.invokevirtual 67, 3) := by decide +kernel
theorem dX6_addsMould_15 : decode cX6_addsMould 15 = .ok (.ireturn, 1) := by decide +kernel
theorem dX6_addsMould_16 : decode cX6_addsMould 16 = .ok (.aload_n 0, 1) := by decide +kernel
theorem dX6_addsMould_17 : decode cX6_addsMould 17 = .ok (.getfield 7, 3) := by decide +kernel
theorem dX6_addsMould_20 : decode cX6_addsMould 20 = .ok (.bipush 6, 2) := by decide +kernel
theorem dX6_addsMould_22 : decode cX6_addsMould 22 = .ok (.iaload, 1) := by decide +kernel
theorem dX6_addsMould_23 : decode cX6_addsMould 23 = .ok (.istore_n 2, 1) := by decide +kernel
theorem dX6_addsMould_24 : decode cX6_addsMould 24 = .ok (.iload_n 2, 1) := by decide +kernel
theorem dX6_addsMould_25 : decode cX6_addsMould 25 = .ok (.iconst 4, 1) := by decide +kernel
theorem dX6_addsMould_26 : decode cX6_addsMould 26 = .ok (.if_icmp .ne 9, 3) := by decide +kernel
theorem dX6_addsMould_29 : decode cX6_addsMould 29 = .ok (.aload_n 0, 1) := by decide +kernel
theorem dX6_addsMould_30 : decode cX6_addsMould 30 = .ok (.iconst 2, 1) := by decide +kernel
theorem dX6_addsMould_31 : decode cX6_addsMould 31 = .ok (.invokevirtual 67, 3) := by decide +kernel
theorem dX6_addsMould_34 : decode cX6_addsMould 34 = .ok (.ireturn, 1) := by decide +kernel
theorem dX6_addsMould_35 : decode cX6_addsMould 35 = .ok (.aload_n 0, 1) := by decide +kernel
theorem dX6_addsMould_36 : decode cX6_addsMould 36 = .ok (.getfield 7, 3) := by decide +kernel
theorem dX6_addsMould_39 : decode cX6_addsMould 39 = .ok (.bipush 39, 2) := by decide +kernel
theorem dX6_addsMould_41 : decode cX6_addsMould 41 = .ok (.iload_n 2, 1) := by decide +kernel
theorem dX6_addsMould_42 : decode cX6_addsMould 42 = .ok (.iadd, 1) := by decide +kernel
theorem dX6_addsMould_43 : decode cX6_addsMould 43 = .ok (.iload_n 1, 1) := by decide +kernel
theorem dX6_addsMould_44 : decode cX6_addsMould 44 = .ok (.iastore, 1) := by decide +kernel
theorem dX6_addsMould_45 : decode cX6_addsMould 45 = .ok (.aload_n 0, 1) := by decide +kernel
theorem dX6_addsMould_46 : decode cX6_addsMould 46 = .ok (.getfield 7, 3) := by decide +kernel
theorem dX6_addsMould_49 : decode cX6_addsMould 49 = .ok (.bipush 6, 2) := by decide +kernel
theorem dX6_addsMould_51 : decode cX6_addsMould 51 = .ok (.dup2, 1) := by decide +kernel
theorem dX6_addsMould_52 : decode cX6_addsMould 52 = .ok (.iaload, 1) := by decide +kernel
theorem dX6_addsMould_53 : decode cX6_addsMould 53 = .ok (.iconst 1, 1) := by decide +kernel
theorem dX6_addsMould_54 : decode cX6_addsMould 54 = .ok (.iadd, 1) := by decide +kernel
theorem dX6_addsMould_55 : decode cX6_addsMould 55 = .ok (.iastore, 1) := by decide +kernel
theorem dX6_addsMould_56 : decode cX6_addsMould 56 = .ok (.aload_n 0, 1) := by decide +kernel
theorem dX6_addsMould_57 : decode cX6_addsMould 57 = .ok (.iload_n 2, 1) := by decide +kernel
theorem dX6_addsMould_58 : decode cX6_addsMould 58 = .ok (.invokevirtual 70, 3) := by decide +kernel
theorem dX6_addsMould_61 : decode cX6_addsMould 61 = .ok (.ireturn, 1) := by decide +kernel
theorem dX6_addMould_0 : decode cX6_addMould 0 = .ok (.aload_n 0, 1) := by decide +kernel
theorem dX6_addMould_1 : decode cX6_addMould 1 = .ok (.invokevirtual 73, 3) := by decide +kernel
theorem dX6_addMould_4 : decode cX6_addMould 4 = .ok (.aload_n 0, 1) := by decide +kernel
theorem dX6_addMould_5 : decode cX6_addMould 5 = .ok (.aload_n 0, 1) := by decide +kernel
theorem dX6_addMould_6 : decode cX6_addMould 6 = .ok (.iload_n 1, 1) := by decide +kernel
theorem dX6_addMould_7 : decode cX6_addMould 7 = .ok (.invokevirtual 83, 3) := by decide +kernel
theorem dX6_addMould_10 : decode cX6_addMould 10 = .ok (.invokevirtual 80, 3) := by decide +kernel
theorem dX6_addMould_13 : decode cX6_addMould 13 = .ok (.ireturn, 1) := by decide +kernel
theorem dX6_buys_0 : decode cX6_buys 0 = .ok (.iload_n 1, 1) := by decide +kernel
theorem dX6_buys_1 : decode cX6_buys 1 = .ok (.invokestatic 86, 3) := by decide +kernel
theorem dX6_buys_4 : decode cX6_buys 4 = .ok (.ifCond .ne 9, 3) := by decide +kernel
theorem dX6_buys_7 : decode cX6_buys 7 = .ok (.aload_n 0, 1) := by decide +kernel
theorem dX6_buys_8 : decode cX6_buys 8 = .ok (.iconst 1, 1) := by decide +kernel
theorem dX6_buys_9 : decode cX6_buys 9 = .ok (.invokevirtual 67, 3) := by decide +kernel
theorem dX6_buys_12 : decode cX6_buys 12 = .ok (.ireturn, 1) := by decide +kernel
theorem dX6_buys_13 : decode cX6_buys 13 = .ok (.iload_n 2, 1) := by decide +kernel
theorem dX6_buys_14 : decode cX6_buys 14 = .ok (.iconst 1, 1) := by decide +kernel
theorem dX6_buys_15 : decode cX6_buys 15 = .ok (.bipush 99, 2) := by decide +kernel
theorem dX6_buys_17 : decode cX6_buys 17 = .ok (.invokestatic 49, 3) := by decide +kernel
theorem dX6_buys_20 : decode cX6_buys 20 = .ok (.ifCond .ne 9, 3) := by decide +kernel
theorem dX6_buys_23 : decode cX6_buys 23 = .ok (.aload_n 0, 1) := by decide +kernel
theorem dX6_buys_24 : decode cX6_buys 24 = .ok (.iconst 2, 1) := by decide +kernel
theorem dX6_buys_25 : decode cX6_buys 25 = .ok (.invokevirtual 67, 3) := by decide +kernel
theorem dX6_buys_28 : decode cX6_buys 28 = .ok (.ireturn, 1) := by decide +kernel
theorem dX6_buys_29 : decode cX6_buys 29 = .ok (.aload_n 0, 1) := by decide +kernel
theorem dX6_buys_30 : decode cX6_buys 30 = .ok (.getfield 7, 3) := by decide +kernel
theorem dX6_buys_33 : decode cX6_buys 33 = .ok (.iconst 0, 1) := by decide +kernel
theorem dX6_buys_34 : decode cX6_buys 34 = .ok (.iload_n 1, 1) := by decide +kernel
theorem dX6_buys_35 : decode cX6_buys 35 = .ok (.iadd, 1) := by decide +kernel
theorem dX6_buys_36 : decode cX6_buys 36 = .ok (.iaload, 1) := by decide +kernel
theorem dX6_buys_37 : decode cX6_buys 37 = .ok (.iload_n 2, 1) := by decide +kernel
theorem dX6_buys_38 : decode cX6_buys 38 = .ok (.iadd, 1) := by decide +kernel
theorem dX6_buys_39 : decode cX6_buys 39 = .ok (.sipush 999, 3) := by decide +kernel
theorem dX6_buys_42 : decode cX6_buys 42 = .ok (.if_icmp .le 9, 3) := by decide +kernel
theorem dX6_buys_45 : decode cX6_buys 45 = .ok (.aload_n 0, 1) := by decide +kernel
theorem dX6_buys_46 : decode cX6_buys 46 = .ok (.iconst 3, 1) := by decide +kernel
theorem dX6_buys_47 : decode cX6_buys 47 = .ok (.invokevirtual 67, 3) := by decide +kernel
theorem dX6_buys_50 : decode cX6_buys 50 = .ok (.ireturn, 1) := by decide +kernel
theorem dX6_buys_51 : decode cX6_buys 51 = .ok (.aload_n 0, 1) := by decide +kernel
theorem dX6_buys_52 : decode cX6_buys 52 = .ok (.getfield 7, 3) := by decide +kernel
theorem dX6_buys_55 : decode cX6_buys 55 = .ok (.iconst 0, 1) := by decide +kernel
theorem dX6_buys_56 : decode cX6_buys 56 = .ok (.iload_n 1, 1) := by decide +kernel
theorem dX6_buys_57 : decode cX6_buys 57 = .ok (.iadd, 1) := by decide +kernel
theorem dX6_buys_58 : decode cX6_buys 58 = .ok (.dup2, 1) := by decide +kernel
theorem dX6_buys_59 : decode cX6_buys 59 = .ok (.iaload, 1) := by decide +kernel
theorem dX6_buys_60 : decode cX6_buys 60 = .ok (.iload_n 2, 1) := by decide +kernel
theorem dX6_buys_61 : decode cX6_buys 61 = .ok (.iadd, 1) := by decide +kernel
theorem dX6_buys_62 : decode cX6_buys 62 = .ok (.iastore, 1) := by decide +kernel
theorem dX6_buys_63 : decode cX6_buys 63 = .ok (.aload_n 0, 1) := by decide +kernel
theorem dX6_buys_64 : decode cX6_buys 64 = .ok (.getfield 7, 3) := by decide +kernel
theorem dX6_buys_67 : decode cX6_buys 67 = .ok (.bipush 12, 2) := by decide +kernel
theorem dX6_buys_69 : decode cX6_buys 69 = .ok (.iload_n 1, 1) := by decide +kernel
theorem dX6_buys_70 : decode cX6_buys 70 = .ok (.iadd, 1) := by decide +kernel
theorem dX6_buys_71 : decode cX6_buys 71 = .ok (.dup2, 1) := by decide +kernel
theorem dX6_buys_72 : decode cX6_buys 72 = .ok (.iaload, 1) := by decide +kernel
theorem dX6_buys_73 : decode cX6_buys 73 = .ok (.iload_n 2, 1) := by decide +kernel
theorem dX6_buys_74 : decode cX6_buys 74 = .ok (.iadd, 1) := by decide +kernel
theorem dX6_buys_75 : decode cX6_buys 75 = .ok (.iastore, 1) := by decide +kernel
theorem dX6_buys_76 : decode cX6_buys 76 = .ok (.aload_n 0, 1) := by decide +kernel
theorem dX6_buys_77 : decode cX6_buys 77 = .ok (.aload_n 0, 1) := by decide +kernel
theorem dX6_buys_78 : decode cX6_buys 78 = .ok (.getfield 7, 3) := by decide +kernel
theorem dX6_buys_81 : decode cX6_buys 81 = .ok (.iconst 0, 1) := by decide +kernel
theorem dX6_buys_82 : decode cX6_buys 82 = .ok (.iload_n 1, 1) := by decide +kernel
theorem dX6_buys_83 : decode cX6_buys 83 = .ok (.iadd, 1) := by decide +kernel
theorem dX6_buys_84 : decode cX6_buys 84 = .ok (.iaload, 1) := by decide +kernel
theorem dX6_buys_85 : decode cX6_buys 85 = .ok (.invokevirtual 70, 3) := by decide +kernel
theorem dX6_buys_88 : decode cX6_buys 88 = .ok (.ireturn, 1) := by decide +kernel
theorem dX6_buy_0 : decode cX6_buy 0 = .ok (.aload_n 0, 1) := by decide +kernel
theorem dX6_buy_1 : decode cX6_buy 1 = .ok (.invokevirtual 73, 3) := by decide +kernel
theorem dX6_buy_4 : decode cX6_buy 4 = .ok (.aload_n 0, 1) := by decide +kernel
theorem dX6_buy_5 : decode cX6_buy 5 = .ok (.aload_n 0, 1) := by decide +kernel
theorem dX6_buy_6 : decode cX6_buy 6 = .ok (.iload_n 1, 1) := by decide +kernel
theorem dX6_buy_7 : decode cX6_buy 7 = .ok (.iload_n 2, 1) := by decide +kernel
theorem dX6_buy_8 : decode cX6_buy 8 = .ok (.invokevirtual 90, 3) := by decide +kernel
theorem dX6_buy_11 : decode cX6_buy 11 = .ok (.invokevirtual 80, 3) := by decide +kernel
theorem dX6_buy_14 : decode cX6_buy 14 = .ok (.ireturn, 1) := by decide +kernel
theorem dX6_hasMetal_0 : decode cX6_hasMetal 0 = .ok (.iconst 1, 1) := by decide +kernel
theorem dX6_hasMetal_1 : decode cX6_hasMetal 1 = .ok (.istore_n 3, 1) := by decide +kernel
theorem dX6_hasMetal_2 : decode cX6_hasMetal 2 = .ok (.iconst 0, 1) := by decide +kernel
theorem dX6_hasMetal_3 : decode cX6_hasMetal 3 = .ok (.istore 4, 2) := by decide +kernel
theorem dX6_hasMetal_5 : decode cX6_hasMetal 5 = .ok (.iload 4, 2) := by decide +kernel
theorem dX6_hasMetal_7 : decode cX6_hasMetal 7 = .ok (.iconst 3, 1) := by decide +kernel
theorem dX6_hasMetal_8 : decode cX6_hasMetal 8 = .ok (.if_icmp .ge 40, 3) := by decide +kernel
theorem dX6_hasMetal_11 : decode cX6_hasMetal 11 = .ok (.iload_n 3, 1) := by decide +kernel
theorem dX6_hasMetal_12 : decode cX6_hasMetal 12 = .ok (.ifCond .eq 28, 3) := by decide +kernel
theorem dX6_hasMetal_15 : decode cX6_hasMetal 15 = .ok (.aload_n 0, 1) := by decide +kernel
theorem dX6_hasMetal_16 : decode cX6_hasMetal 16 = .ok (.getfield 7, 3) := by decide +kernel
theorem dX6_hasMetal_19 : decode cX6_hasMetal 19 = .ok (.iconst 0, 1) := by decide +kernel
theorem dX6_hasMetal_20 : decode cX6_hasMetal 20 = .ok (.iload 4, 2) := by decide +kernel
theorem dX6_hasMetal_22 : decode cX6_hasMetal 22 = .ok (.iadd, 1) := by decide +kernel
theorem dX6_hasMetal_23 : decode cX6_hasMetal 23 = .ok (.iaload, 1) := by decide +kernel
theorem dX6_hasMetal_24 : decode cX6_hasMetal 24 = .ok (.iload_n 2, 1) := by decide +kernel
theorem dX6_hasMetal_25 : decode cX6_hasMetal 25 = .ok (.aload_n 0, 1) := by decide +kernel
theorem dX6_hasMetal_26 : decode cX6_hasMetal 26 = .ok (.iload_n 1, 1) := by decide +kernel
theorem dX6_hasMetal_27 : decode cX6_hasMetal 27 = .ok (.iload 4, 2) := by decide +kernel
theorem dX6_hasMetal_29 : decode cX6_hasMetal 29 = .ok (.invokevirtual 53, 3) := by decide +kernel
theorem dX6_hasMetal_32 : decode cX6_hasMetal 32 = .ok (.imul, 1) := by decide +kernel
theorem dX6_hasMetal_33 : decode cX6_hasMetal 33 = .ok (.if_icmp .lt 7, 3) := by decide +kernel
theorem dX6_hasMetal_36 : decode cX6_hasMetal 36 = .ok (.iconst 1, 1) := by decide +kernel
theorem dX6_hasMetal_37 : decode cX6_hasMetal 37 = .ok (.goto 4, 3) := by decide +kernel
theorem dX6_hasMetal_40 : decode cX6_hasMetal 40 = .ok (.iconst 0, 1) := by decide +kernel
theorem dX6_hasMetal_41 : decode cX6_hasMetal 41 = .ok (.istore_n 3, 1) := by decide +kernel
theorem dX6_hasMetal_42 : decode cX6_hasMetal 42 = .ok (.iinc 4 1, 3) := by decide +kernel
theorem dX6_hasMetal_45 : decode cX6_hasMetal 45 = .ok (.goto (-40), 3) := by decide +kernel
theorem dX6_hasMetal_48 : decode cX6_hasMetal 48 = .ok (.iload_n 3, 1) := by decide +kernel
theorem dX6_hasMetal_49 : decode cX6_hasMetal 49 = .ok (.ireturn, 1) := by decide +kernel
theorem dX6_casts_0 : decode cX6_casts 0 = .ok (.aload_n 0, 1) := by decide +kernel
theorem dX6_casts_1 : decode cX6_casts 1 = .ok (.iload_n 1, 1) := by decide +kernel
theorem dX6_casts_2 : decode cX6_casts 2 = .ok (.invokevirtual 93, 3) := by decide +kernel
theorem dX6_casts_5 : decode cX6_casts 5 = .ok (.ifCond .eq 11, 3) := by decide +kernel
theorem dX6_casts_8 : decode cX6_casts 8 = .ok (.aload_n 0, 1) := by decide +kernel
theorem dX6_casts_9 : decode cX6_casts 9 = .ok (.iload_n 2, 1) := by decide +kernel
theorem dX6_casts_10 : decode cX6_casts 10 = .ok (.invokevirtual 96, 3) := by decide +kernel
theorem dX6_casts_13 : decode cX6_casts 13 = .ok (.ifCond .ne 9, 3) := by decide +kernel
theorem dX6_casts_16 : decode cX6_casts 16 = .ok (.aload_n 0, 1) := by decide +kernel
theorem dX6_casts_17 : decode cX6_casts 17 = .ok (.iconst 1, 1) := by decide +kernel
theorem dX6_casts_18 : decode cX6_casts 18 = .ok (.invokevirtual 67, 3) := by decide +kernel
theorem dX6_casts_21 : decode cX6_casts 21 = .ok (.ireturn, 1) := by decide +kernel
theorem dX6_casts_22 : decode cX6_casts 22 = .ok (.iload_n 3, 1) := by decide +kernel
theorem dX6_casts_23 : decode cX6_casts 23 = .ok (.iconst 1, 1) := by decide +kernel
theorem dX6_casts_24 : decode cX6_casts 24 = .ok (.bipush 9, 2) := by decide +kernel
theorem dX6_casts_26 : decode cX6_casts 26 = .ok (.invokestatic 49, 3) := by decide +kernel
theorem dX6_casts_29 : decode cX6_casts 29 = .ok (.ifCond .ne 9, 3) := by decide +kernel
theorem dX6_casts_32 : decode cX6_casts 32 = .ok (.aload_n 0, 1) := by decide +kernel
theorem dX6_casts_33 : decode cX6_casts 33 = .ok (.iconst 2, 1) := by decide +kernel
theorem dX6_casts_34 : decode cX6_casts 34 = .ok (.invokevirtual 67, 3) := by decide +kernel
theorem dX6_casts_37 : decode cX6_casts 37 = .ok (.ireturn, 1) := by decide +kernel
theorem dX6_casts_38 : decode cX6_casts 38 = .ok (.aload_n 0, 1) := by decide +kernel
theorem dX6_casts_39 : decode cX6_casts 39 = .ok (.getfield 7, 3) := by decide +kernel
theorem dX6_casts_42 : decode cX6_casts 42 = .ok (.bipush 7, 2) := by decide +kernel
theorem dX6_casts_44 : decode cX6_casts 44 = .ok (.iaload, 1) := by decide +kernel
theorem dX6_casts_45 : decode cX6_casts 45 = .ok (.istore 4, 2) := by decide +kernel
theorem dX6_casts_47 : decode cX6_casts 47 = .ok (.iload 4, 2) := by decide +kernel
theorem dX6_casts_49 : decode cX6_casts 49 = .ok (.bipush 8, 2) := by decide +kernel
theorem dX6_casts_51 : decode cX6_casts 51 = .ok (.if_icmp .eq 19, 3) := by decide +kernel
theorem dX6_casts_54 : decode cX6_casts 54 = .ok (.aload_n 0, 1) := by decide +kernel
theorem dX6_casts_55 : decode cX6_casts 55 = .ok (.getfield 7, 3) := by decide +kernel
theorem dX6_casts_58 : decode cX6_casts 58 = .ok (.bipush 43, 2) := by decide +kernel
theorem dX6_casts_60 : decode cX6_casts 60 = .ok (.iload_n 2, 1) := by decide +kernel
theorem dX6_casts_61 : decode cX6_casts 61 = .ok (.iadd, 1) := by decide +kernel
theorem dX6_casts_62 : decode cX6_casts 62 = .ok (.iaload, 1) := by decide +kernel
theorem dX6_casts_63 : decode cX6_casts 63 = .ok (.iload_n 3, 1) := by decide +kernel
theorem dX6_casts_64 : decode cX6_casts 64 = .ok (.iadd, 1) := by decide +kernel
theorem dX6_casts_65 : decode cX6_casts 65 = .ok (.bipush 20, 2) := by decide +kernel
theorem dX6_casts_67 : decode cX6_casts 67 = .ok (.if_icmp .le 9, 3) := by decide +kernel
theorem dX6_casts_70 : decode cX6_casts 70 = .ok (.aload_n 0, 1) := by decide +kernel
theorem dX6_casts_71 : decode cX6_casts 71 = .ok (.iconst 3, 1) := by decide +kernel
theorem dX6_casts_72 : decode cX6_casts 72 = .ok (.invokevirtual 67, 3) := by decide +kernel
theorem dX6_casts_75 : decode cX6_casts 75 = .ok (.ireturn, 1) := by decide +kernel
theorem dX6_casts_76 : decode cX6_casts 76 = .ok (.aload_n 0, 1) := by decide +kernel
theorem dX6_casts_77 : decode cX6_casts 77 = .ok (.iload_n 1, 1) := by decide +kernel
theorem dX6_casts_78 : decode cX6_casts 78 = .ok (.iload_n 3, 1) := by decide +kernel
theorem dX6_casts_79 : decode cX6_casts 79 = .ok (.invokevirtual 99, 3) := by decide +kernel
theorem dX6_casts_82 : decode cX6_casts 82 = .ok (.ifCond .ne 9, 3) := by decide +kernel
theorem dX6_casts_85 : decode cX6_casts 85 = .ok (.aload_n 0, 1) := by decide +kernel
theorem dX6_casts_86 : decode cX6_casts 86 = .ok (.iconst 4, 1) := by decide +kernel
theorem dX6_casts_87 : decode cX6_casts 87 = .ok (.invokevirtual 67, 3) := by decide +kernel
theorem dX6_casts_90 : decode cX6_casts 90 = .ok (.ireturn, 1) := by decide +kernel
theorem dX6_casts_91 : decode cX6_casts 91 = .ok (.iconst 0, 1) := by decide +kernel
theorem dX6_casts_92 : decode cX6_casts 92 = .ok (.istore 5, 2) := by decide +kernel
theorem dX6_casts_94 : decode cX6_casts 94 = .ok (.iload 5, 2) := by decide +kernel
theorem dX6_casts_96 : decode cX6_casts 96 = .ok (.iconst 3, 1) := by decide +kernel
theorem dX6_casts_97 : decode cX6_casts 97 = .ok (.if_icmp .ge 30, 3) := by decide +kernel
theorem dX6_casts_100 : decode cX6_casts 100 = .ok (.aload_n 0, 1) := by decide +kernel
theorem dX6_casts_101 : decode cX6_casts 101 = .ok (.getfield 7, 3) := by decide +kernel
theorem dX6_casts_104 : decode cX6_casts 104 = .ok (.iconst 0, 1) := by decide +kernel
theorem dX6_casts_105 : decode cX6_casts 105 = .ok (.iload 5, 2) := by decide +kernel
theorem dX6_casts_107 : decode cX6_casts 107 = .ok (.iadd, 1) := by decide +kernel
theorem dX6_casts_108 : decode cX6_casts 108 = .ok (.dup2, 1) := by decide +kernel
theorem dX6_casts_109 : decode cX6_casts 109 = .ok (.iaload, 1) := by decide +kernel
theorem dX6_casts_110 : decode cX6_casts 110 = .ok (.iload_n 3, 1) := by decide +kernel
theorem dX6_casts_111 : decode cX6_casts 111 = .ok (.aload_n 0, 1) := by decide +kernel
theorem dX6_casts_112 : decode cX6_casts 112 = .ok (.iload_n 1, 1) := by decide +kernel
theorem dX6_casts_113 : decode cX6_casts 113 = .ok (.iload 5, 2) := by decide +kernel
theorem dX6_casts_115 : decode cX6_casts 115 = .ok (.invokevirtual 53, 3) := by decide +kernel
theorem dX6_casts_118 : decode cX6_casts 118 = .ok (.imul, 1) := by decide +kernel
theorem dX6_casts_119 : decode cX6_casts 119 = .ok (.isub, 1) := by decide +kernel
theorem dX6_casts_120 : decode cX6_casts 120 = .ok (.iastore, 1) := by decide +kernel
theorem dX6_casts_121 : decode cX6_casts 121 = .ok (.iinc 5 1, 3) := by decide +kernel
theorem dX6_casts_124 : decode cX6_casts 124 = .ok (.goto (-30), 3) := by decide +kernel
theorem dX6_casts_127 : decode cX6_casts 127 = .ok (.iconst 0, 1) := by decide +kernel
theorem dX6_casts_128 : decode cX6_casts 128 = .ok (.istore 5, 2) := by decide +kernel
theorem dX6_casts_130 : decode cX6_casts 130 = .ok (.iload 5, 2) := by decide +kernel
theorem dX6_casts_132 : decode cX6_casts 132 = .ok (.iload_n 3, 1) := by decide +kernel
theorem dX6_casts_133 : decode cX6_casts 133 = .ok (.if_icmp .ge 44, 3) := by decide +kernel
theorem dX6_casts_136 : decode cX6_casts 136 = .ok (.aload_n 0, 1) := by decide +kernel
theorem dX6_casts_137 : decode cX6_casts 137 = .ok (.getfield 7, 3) := by decide +kernel
theorem dX6_casts_140 : decode cX6_casts 140 = .ok (.bipush 87, 2) := by decide +kernel
theorem dX6_casts_142 : decode cX6_casts 142 = .ok (.bipush 9, 2) := by decide +kernel
theorem dX6_casts_144 : decode cX6_casts 144 = .ok (.iload 4, 2) := by decide +kernel
theorem dX6_casts_146 : decode cX6_casts 146 = .ok (.imul, 1) := by decide +kernel
theorem dX6_casts_147 : decode cX6_casts 147 = .ok (.iadd, 1) := by decide +kernel
theorem dX6_casts_148 : decode cX6_casts 148 = .ok (.iload 5, 2) := by decide +kernel
theorem dX6_casts_150 : decode cX6_casts 150 = .ok (.iadd, 1) := by decide +kernel
theorem dX6_casts_151 : decode cX6_casts 151 = .ok (.aload_n 0, 1) := by decide +kernel
theorem dX6_casts_152 : decode cX6_casts 152 = .ok (.iload_n 1, 1) := by decide +kernel
theorem dX6_casts_153 : decode cX6_casts 153 = .ok (.iload_n 2, 1) := by decide +kernel
theorem dX6_casts_154 : decode cX6_casts 154 = .ok (.invokevirtual 103, 3) := by decide +kernel
theorem dX6_casts_157 : decode cX6_casts 157 = .ok (.iastore, 1) := by decide +kernel
theorem dX6_casts_158 : decode cX6_casts 158 = .ok (.aload_n 0, 1) := by decide +kernel
theorem dX6_casts_159 : decode cX6_casts 159 = .ok (.getfield 7, 3) := by decide +kernel
theorem dX6_casts_162 : decode cX6_casts 162 = .ok (.bipush 43, 2) := by decide +kernel
theorem dX6_casts_164 : decode cX6_casts 164 = .ok (.iload_n 2, 1) := by decide +kernel
theorem dX6_casts_165 : decode cX6_casts 165 = .ok (.iadd, 1) := by decide +kernel
theorem dX6_casts_166 : decode cX6_casts 166 = .ok (.dup2, 1) := by decide +kernel
theorem dX6_casts_167 : decode cX6_casts 167 = .ok (.iaload, 1) := by decide +kernel
theorem dX6_casts_168 : decode cX6_casts 168 = .ok (.iconst 1, 1) := by decide +kernel
theorem dX6_casts_169 : decode cX6_casts 169 = .ok (.iadd, 1) := by decide +kernel
theorem dX6_casts_170 : decode cX6_casts 170 = .ok (.iastore, 1) := by decide +kernel
theorem dX6_casts_171 : decode cX6_casts 171 = .ok (.iinc 5 1, 3) := by decide +kernel
theorem dX6_casts_174 : decode cX6_casts 174 = .ok (.goto (-44), 3) := by decide +kernel
theorem dX6_casts_177 : decode cX6_casts 177 = .ok (.aload_n 0, 1) := by decide +kernel
theorem dX6_casts_178 : decode cX6_casts 178 = .ok (.getfield 7, 3) := by decide +kernel
theorem dX6_casts_181 : decode cX6_casts 181 = .ok (.bipush 47, 2) := by decide +kernel
theorem dX6_casts_183 : decode cX6_casts 183 = .ok (.iload 4, 2) := by decide +kernel
theorem dX6_casts_185 : decode cX6_casts 185 = .ok (.iadd, 1) := by decide +kernel
theorem dX6_casts_186 : decode cX6_casts 186 = .ok (.aload_n 0, 1) := by decide +kernel
theorem dX6_casts_187 : decode cX6_casts 187 = .ok (.getfield 7, 3) := by decide +kernel
theorem dX6_casts_190 : decode cX6_casts 190 = .ok (.bipush 8, 2) := by decide +kernel
theorem dX6_casts_192 : decode cX6_casts 192 = .ok (.iaload, 1) := by decide +kernel
theorem dX6_casts_193 : decode cX6_casts 193 = .ok (.iastore, 1) := by decide +kernel
theorem dX6_casts_194 : decode cX6_casts 194 = .ok (.aload_n 0, 1) := by decide +kernel
theorem dX6_casts_195 : decode cX6_casts 195 = .ok (.getfield 7, 3) := by decide +kernel
theorem dX6_casts_198 : decode cX6_casts 198 = .ok (.bipush 55, 2) := by decide +kernel
theorem dX6_casts_200 : decode cX6_casts 200 = .ok (.iload 4, 2) := by decide +kernel
theorem dX6_casts_202 : decode cX6_casts 202 = .ok (.iadd, 1) := by decide +kernel
theorem dX6_casts_203 : decode cX6_casts 203 = .ok (.iload_n 1, 1) := by decide +kernel
theorem dX6_casts_204 : decode cX6_casts 204 = .ok (.iastore, 1) := by decide +kernel
theorem dX6_casts_205 : decode cX6_casts 205 = .ok (.aload_n 0, 1) := by decide +kernel
theorem dX6_casts_206 : decode cX6_casts 206 = .ok (.getfield 7, 3) := by decide +kernel
theorem dX6_casts_209 : decode cX6_casts 209 = .ok (.bipush 63, 2) := by decide +kernel
theorem dX6_casts_211 : decode cX6_casts 211 = .ok (.iload 4, 2) := by decide +kernel
theorem dX6_casts_213 : decode cX6_casts 213 = .ok (.iadd, 1) := by decide +kernel
theorem dX6_casts_214 : decode cX6_casts 214 = .ok (.iload_n 3, 1) := by decide +kernel
theorem dX6_casts_215 : decode cX6_casts 215 = .ok (.iastore, 1) := by decide +kernel
theorem dX6_casts_216 : decode cX6_casts 216 = .ok (.aload_n 0, 1) := by decide +kernel
theorem dX6_casts_217 : decode cX6_casts 217 = .ok (.getfield 7, 3) := by decide +kernel
theorem dX6_casts_220 : decode cX6_casts 220 = .ok (.bipush 71, 2) := by decide +kernel
theorem dX6_casts_222 : decode cX6_casts 222 = .ok (.iload 4, 2) := by decide +kernel
theorem dX6_casts_224 : decode cX6_casts 224 = .ok (.iadd, 1) := by decide +kernel
theorem dX6_casts_225 : decode cX6_casts 225 = .ok (.aload_n 0, 1) := by decide +kernel
theorem dX6_casts_226 : decode cX6_casts 226 = .ok (.getfield 7, 3) := by decide +kernel
theorem dX6_casts_229 : decode cX6_casts 229 = .ok (.bipush 9, 2) := by decide +kernel
theorem dX6_casts_231 : decode cX6_casts 231 = .ok (.iaload, 1) := by decide +kernel
theorem dX6_casts_232 : decode cX6_casts 232 = .ok (.iastore, 1) := by decide +kernel
theorem dX6_casts_233 : decode cX6_casts 233 = .ok (.aload_n 0, 1) := by decide +kernel
theorem dX6_casts_234 : decode cX6_casts 234 = .ok (.getfield 7, 3) := by decide +kernel
theorem dX6_casts_237 : decode cX6_casts 237 = .ok (.bipush 79, 2) := by decide +kernel
theorem dX6_casts_239 : decode cX6_casts 239 = .ok (.iload 4, 2) := by decide +kernel
theorem dX6_casts_241 : decode cX6_casts 241 = .ok (.iadd, 1) := by decide +kernel
theorem dX6_casts_242 : decode cX6_casts 242 = .ok (.iconst 0, 1) := by decide +kernel
theorem dX6_casts_243 : decode cX6_casts 243 = .ok (.iastore, 1) := by decide +kernel
theorem dX6_casts_244 : decode cX6_casts 244 = .ok (.aload_n 0, 1) := by decide +kernel
theorem dX6_casts_245 : decode cX6_casts 245 = .ok (.getfield 7, 3) := by decide +kernel
theorem dX6_casts_248 : decode cX6_casts 248 = .ok (.bipush 7, 2) := by decide +kernel
theorem dX6_casts_250 : decode cX6_casts 250 = .ok (.dup2, 1) := by decide +kernel
theorem dX6_casts_251 : decode cX6_casts 251 = .ok (.iaload, 1) := by decide +kernel
theorem dX6_casts_252 : decode cX6_casts 252 = .ok (.iconst 1, 1) := by decide +kernel
theorem dX6_casts_253 : decode cX6_casts 253 = .ok (.iadd, 1) := by decide +kernel
theorem dX6_casts_254 : decode cX6_casts 254 = .ok (.iastore, 1) := by decide +kernel
theorem dX6_casts_255 : decode cX6_casts 255 = .ok (.aload_n 0, 1) := by decide +kernel
theorem dX6_casts_256 : decode cX6_casts 256 = .ok (.getfield 7, 3) := by decide +kernel
theorem dX6_casts_259 : decode cX6_casts 259 = .ok (.bipush 8, 2) := by decide +kernel
theorem dX6_casts_261 : decode cX6_casts 261 = .ok (.dup2, 1) := by decide +kernel
theorem dX6_casts_262 : decode cX6_casts 262 = .ok (.iaload, 1) := by decide +kernel
theorem dX6_casts_263 : decode cX6_casts 263 = .ok (.iconst 1, 1) := by decide +kernel
theorem dX6_casts_264 : decode cX6_casts 264 = .ok (.iadd, 1) := by decide +kernel
theorem dX6_casts_265 : decode cX6_casts 265 = .ok (.iastore, 1) := by decide +kernel
theorem dX6_casts_266 : decode cX6_casts 266 = .ok (.aload_n 0, 1) := by decide +kernel
theorem dX6_casts_267 : decode cX6_casts 267 = .ok (.getfield 7, 3) := by decide +kernel
theorem dX6_casts_270 : decode cX6_casts 270 = .ok (.bipush 9, 2) := by decide +kernel
theorem dX6_casts_272 : decode cX6_casts 272 = .ok (.dup2, 1) := by decide +kernel
theorem dX6_casts_273 : decode cX6_casts 273 = .ok (.iaload, 1) := by decide +kernel
theorem dX6_casts_274 : decode cX6_casts 274 = .ok (.iload_n 3, 1) := by decide +kernel
theorem dX6_casts_275 : decode cX6_casts 275 = .ok (.iadd, 1) := by decide +kernel
theorem dX6_casts_276 : decode cX6_casts 276 = .ok (.iastore, 1) := by decide +kernel
theorem dX6_casts_277 : decode cX6_casts 277 = .ok (.aload_n 0, 1) := by decide +kernel
theorem dX6_casts_278 : decode cX6_casts 278 = .ok (.aload_n 0, 1) := by decide +kernel
theorem dX6_casts_279 : decode cX6_casts 279 = .ok (.getfield 7, 3) := by decide +kernel
theorem dX6_casts_282 : decode cX6_casts 282 = .ok (.bipush 47, 2) := by decide +kernel
theorem dX6_casts_284 : decode cX6_casts 284 = .ok (.iload 4, 2) := by decide +kernel
theorem dX6_casts_286 : decode cX6_casts 286 = .ok (.iadd, 1) := by decide +kernel
theorem dX6_casts_287 : decode cX6_casts 287 = .ok (.iaload, 1) := by decide +kernel
theorem dX6_casts_288 : decode cX6_casts 288 = .ok (.invokevirtual 70, 3) := by decide +kernel
theorem dX6_casts_291 : decode cX6_casts 291 = .ok (.ireturn, 1) := by decide +kernel
theorem dX6_cast_0 : decode cX6_cast 0 = .ok (.aload_n 0, 1) := by decide +kernel
theorem dX6_cast_1 : decode cX6_cast 1 = .ok (.invokevirtual 73, 3) := by decide +kernel
theorem dX6_cast_4 : decode cX6_cast 4 = .ok (.aload_n 0, 1) := by decide +kernel
theorem dX6_cast_5 : decode cX6_cast 5 = .ok (.aload_n 0, 1) := by decide +kernel
theorem dX6_cast_6 : decode cX6_cast 6 = .ok (.iload_n 1, 1) := by decide +kernel
theorem dX6_cast_7 : decode cX6_cast 7 = .ok (.iload_n 2, 1) := by decide +kernel
theorem dX6_cast_8 : decode cX6_cast 8 = .ok (.iload_n 3, 1) := by decide +kernel
theorem dX6_cast_9 : decode cX6_cast 9 = .ok (.invokevirtual 106, 3) := by decide +kernel
theorem dX6_cast_12 : decode cX6_cast 12 = .ok (.invokevirtual 80, 3) := by decide +kernel
theorem dX6_cast_15 : decode cX6_cast 15 = .ok (.ireturn, 1) := by decide +kernel
theorem dX6_drops_0 : decode cX6_drops 0 = .ok (.bipush 47, 2) := by decide +kernel
theorem dX6_drops_2 : decode cX6_drops 2 = .ok (.istore_n 2, 1) := by decide +kernel
theorem dX6_drops_3 : decode cX6_drops 3 = .ok (.iload_n 2, 1) := by decide +kernel
theorem dX6_drops_4 : decode cX6_drops 4 = .ok (.bipush 87, 2) := by decide +kernel
theorem dX6_drops_6 : decode cX6_drops 6 = .ok (.if_icmp .ge 41, 3) := by decide +kernel
theorem dX6_drops_9 : decode cX6_drops 9 = .ok (.iload_n 1, 1) := by decide +kernel
theorem dX6_drops_10 : decode cX6_drops 10 = .ok (.istore_n 3, 1) := by decide +kernel
theorem dX6_drops_11 : decode cX6_drops 11 = .ok (.iload_n 3, 1) := by decide +kernel
theorem dX6_drops_12 : decode cX6_drops 12 = .ok (.bipush 7, 2) := by decide +kernel
theorem dX6_drops_14 : decode cX6_drops 14 = .ok (.if_icmp .ge 27, 3) := by decide +kernel
theorem dX6_drops_17 : decode cX6_drops 17 = .ok (.aload_n 0, 1) := by decide +kernel
theorem dX6_drops_18 : decode cX6_drops 18 = .ok (.getfield 7, 3) := by decide +kernel
theorem dX6_drops_21 : decode cX6_drops 21 = .ok (.iload_n 2, 1) := by decide +kernel
theorem dX6_drops_22 : decode cX6_drops 22 = .ok (.iload_n 3, 1) := by decide +kernel
theorem dX6_drops_23 : decode cX6_drops 23 = .ok (.iadd, 1) := by decide +kernel
theorem dX6_drops_24 : decode cX6_drops 24 = .ok (.aload_n 0, 1) := by decide +kernel
theorem dX6_drops_25 : decode cX6_drops 25 = .ok (.getfield 7, 3) := by decide +kernel
theorem dX6_drops_28 : decode cX6_drops 28 = .ok (.iload_n 2, 1) := by decide +kernel
theorem dX6_drops_29 : decode cX6_drops 29 = .ok (.iload_n 3, 1) := by decide +kernel
theorem dX6_drops_30 : decode cX6_drops 30 = .ok (.iadd, 1) := by decide +kernel
theorem dX6_drops_31 : decode cX6_drops 31 = .ok (.iconst 1, 1) := by decide +kernel
theorem dX6_drops_32 : decode cX6_drops 32 = .ok (.iadd, 1) := by decide +kernel
theorem dX6_drops_33 : decode cX6_drops 33 = .ok (.iaload, 1) := by decide +kernel
theorem dX6_drops_34 : decode cX6_drops 34 = .ok (.iastore, 1) := by decide +kernel
theorem dX6_drops_35 : decode cX6_drops 35 = .ok (.iinc 3 1, 3) := by decide +kernel
theorem dX6_drops_38 : decode cX6_drops 38 = .ok (.goto (-27), 3) := by decide +kernel
theorem dX6_drops_41 : decode cX6_drops 41 = .ok (.iinc 2 8, 3) := by decide +kernel
theorem dX6_drops_44 : decode cX6_drops 44 = .ok (.goto (-41), 3) := by decide +kernel
theorem dX6_drops_47 : decode cX6_drops 47 = .ok (.bipush 9, 2) := by decide +kernel
theorem dX6_drops_49 : decode cX6_drops 49 = .ok (.iload_n 1, 1) := by decide +kernel
theorem dX6_drops_50 : decode cX6_drops 50 = .ok (.imul, 1) := by decide +kernel
theorem dX6_drops_51 : decode cX6_drops 51 = .ok (.istore_n 2, 1) := by decide +kernel
theorem dX6_drops_52 : decode cX6_drops 52 = .ok (.iload_n 2, 1) := by decide +kernel
theorem dX6_drops_53 : decode cX6_drops 53 = .ok (.bipush 63, 2) := by decide +kernel
theorem dX6_drops_55 : decode cX6_drops 55 = .ok (.if_icmp .ge 30, 3) := by decide +kernel
theorem dX6_drops_58 : decode cX6_drops 58 = .ok (.aload_n 0, 1) := by decide +kernel
theorem dX6_drops_59 : decode cX6_drops 59 = .ok (.getfield 7, 3) := by decide +kernel
theorem dX6_drops_62 : decode cX6_drops 62 = .ok (.bipush 87, 2) := by decide +kernel
theorem dX6_drops_64 : decode cX6_drops 64 = .ok (.iload_n 2, 1) := by decide +kernel
theorem dX6_drops_65 : decode cX6_drops 65 = .ok (.iadd, 1) := by decide +kernel
theorem dX6_drops_66 : decode cX6_drops 66 = .ok (.aload_n 0, 1) := by decide +kernel
theorem dX6_drops_67 : decode cX6_drops 67 = .ok (.getfield 7, 3) := by decide +kernel
theorem dX6_drops_70 : decode cX6_drops 70 = .ok (.bipush 87, 2) := by decide +kernel
theorem dX6_drops_72 : decode cX6_drops 72 = .ok (.iload_n 2, 1) := by decide +kernel
theorem dX6_drops_73 : decode cX6_drops 73 = .ok (.iadd, 1) := by decide +kernel
theorem dX6_drops_74 : decode cX6_drops 74 = .ok (.bipush 9, 2) := by decide +kernel
theorem dX6_drops_76 : decode cX6_drops 76 = .ok (.iadd, 1) := by decide +kernel
theorem dX6_drops_77 : decode cX6_drops 77 = .ok (.iaload, 1) := by decide +kernel
theorem dX6_drops_78 : decode cX6_drops 78 = .ok (.iastore, 1) := by decide +kernel
theorem dX6_drops_79 : decode cX6_drops 79 = .ok (.iinc 2 1, 3) := by decide +kernel
theorem dX6_drops_82 : decode cX6_drops 82 = .ok (.goto (-30), 3) := by decide +kernel
theorem dX6_drops_85 : decode cX6_drops 85 = .ok (.aload_n 0, 1) := by decide +kernel
theorem dX6_drops_86 : decode cX6_drops 86 = .ok (.getfield 7, 3) := by decide +kernel
theorem dX6_drops_89 : decode cX6_drops 89 = .ok (.bipush 7, 2) := by decide +kernel
theorem dX6_drops_91 : decode cX6_drops 91 = .ok (.dup2, 1) := by decide +kernel
theorem dX6_drops_92 : decode cX6_drops 92 = .ok (.iaload, 1) := by decide +kernel
theorem dX6_drops_93 : decode cX6_drops 93 = .ok (.iconst 1, 1) := by decide +kernel
theorem dX6_drops_94 : decode cX6_drops 94 = .ok (.isub, 1) := by decide +kernel
theorem dX6_drops_95 : decode cX6_drops 95 = .ok (.iastore, 1) := by decide +kernel
theorem dX6_drops_96 : decode cX6_drops 96 = .ok (.return_, 1) := by decide +kernel
theorem dX6_sells_0 : decode cX6_sells 0 = .ok (.aload_n 0, 1) := by decide +kernel
theorem dX6_sells_1 : decode cX6_sells 1 = .ok (.getfield 7, 3) := by decide +kernel
theorem dX6_sells_4 : decode cX6_sells 4 = .ok (.bipush 10, 2) := by decide +kernel
theorem dX6_sells_6 : decode cX6_sells 6 = .ok (.dup2, 1) := by decide +kernel
theorem dX6_sells_7 : decode cX6_sells 7 = .ok (.iaload, 1) := by decide +kernel
theorem dX6_sells_8 : decode cX6_sells 8 = .ok (.aload_n 0, 1) := by decide +kernel
theorem dX6_sells_9 : decode cX6_sells 9 = .ok (.getfield 7, 3) := by decide +kernel
theorem dX6_sells_12 : decode cX6_sells 12 = .ok (.bipush 63, 2) := by decide +kernel
theorem dX6_sells_14 : decode cX6_sells 14 = .ok (.iload_n 1, 1) := by decide +kernel
theorem dX6_sells_15 : decode cX6_sells 15 = .ok (.iadd, 1) := by decide +kernel
theorem dX6_sells_16 : decode cX6_sells 16 = .ok (.iaload, 1) := by decide +kernel
theorem dX6_sells_17 : decode cX6_sells 17 = .ok (.iadd, 1) := by decide +kernel
theorem dX6_sells_18 : decode cX6_sells 18 = .ok (.iastore, 1) := by decide +kernel
theorem dX6_sells_19 : decode cX6_sells 19 = .ok (.iconst 0, 1) := by decide +kernel
theorem dX6_sells_20 : decode cX6_sells 20 = .ok (.istore_n 2, 1) := by decide +kernel
theorem dX6_sells_21 : decode cX6_sells 21 = .ok (.iload_n 2, 1) := by decide +kernel
theorem dX6_sells_22 : decode cX6_sells 22 = .ok (.iconst 3, 1) := by decide +kernel
theorem dX6_sells_23 : decode cX6_sells 23 = .ok (.if_icmp .ge 45, 3) := by decide +kernel
theorem dX6_sells_26 : decode cX6_sells 26 = .ok (.aload_n 0, 1) := by decide +kernel
theorem dX6_sells_27 : decode cX6_sells 27 = .ok (.getfield 7, 3) := by decide +kernel
theorem dX6_sells_30 : decode cX6_sells 30 = .ok (.bipush 15, 2) := by decide +kernel
theorem dX6_sells_32 : decode cX6_sells 32 = .ok (.iload_n 2, 1) := by decide +kernel
theorem dX6_sells_33 : decode cX6_sells 33 = .ok (.iadd, 1) := by decide +kernel
theorem dX6_sells_34 : decode cX6_sells 34 = .ok (.dup2, 1) := by decide +kernel
theorem dX6_sells_35 : decode cX6_sells 35 = .ok (.iaload, 1) := by decide +kernel
theorem dX6_sells_36 : decode cX6_sells 36 = .ok (.aload_n 0, 1) := by decide +kernel
theorem dX6_sells_37 : decode cX6_sells 37 = .ok (.getfield 7, 3) := by decide +kernel
theorem dX6_sells_40 : decode cX6_sells 40 = .ok (.bipush 63, 2) := by decide +kernel
theorem dX6_sells_42 : decode cX6_sells 42 = .ok (.iload_n 1, 1) := by decide +kernel
theorem dX6_sells_43 : decode cX6_sells 43 = .ok (.iadd, 1) := by decide +kernel
theorem dX6_sells_44 : decode cX6_sells 44 = .ok (.iaload, 1) := by decide +kernel
theorem dX6_sells_45 : decode cX6_sells 45 = .ok (.aload_n 0, 1) := by decide +kernel
theorem dX6_sells_46 : decode cX6_sells 46 = .ok (.aload_n 0, 1) := by decide +kernel
theorem dX6_sells_47 : decode cX6_sells 47 = .ok (.getfield 7, 3) := by decide +kernel
theorem dX6_sells_50 : decode cX6_sells 50 = .ok (.bipush 55, 2) := by decide +kernel
theorem dX6_sells_52 : decode cX6_sells 52 = .ok (.iload_n 1, 1) := by decide +kernel
theorem dX6_sells_53 : decode cX6_sells 53 = .ok (.iadd, 1) := by decide +kernel
theorem dX6_sells_54 : decode cX6_sells 54 = .ok (.iaload, 1) := by decide +kernel
theorem dX6_sells_55 : decode cX6_sells 55 = .ok (.iload_n 2, 1) := by decide +kernel
theorem dX6_sells_56 : decode cX6_sells 56 = .ok (.invokevirtual 53, 3) := by decide +kernel
theorem dX6_sells_59 : decode cX6_sells 59 = .ok (.imul, 1) := by decide +kernel
theorem dX6_sells_60 : decode cX6_sells 60 = .ok (.iadd, 1) := by decide +kernel
theorem dX6_sells_61 : decode cX6_sells 61 = .ok (.iastore, 1) := by decide +kernel
theorem dX6_sells_62 : decode cX6_sells 62 = .ok (.iinc 2 1, 3) := by decide +kernel
theorem dX6_sells_65 : decode cX6_sells 65 = .ok (.goto (-44), 3) := by decide +kernel
theorem dX6_sells_68 : decode cX6_sells 68 = .ok (.aload_n 0, 1) := by decide +kernel
theorem dX6_sells_69 : decode cX6_sells 69 = .ok (.iload_n 1, 1) := by decide +kernel
theorem dX6_sells_70 : decode cX6_sells 70 = .ok (.invokevirtual 109, 3) := by decide +kernel
theorem dX6_sells_73 : decode cX6_sells 73 = .ok (.return_, 1) := by decide +kernel
theorem dX6_inspects_0 : decode cX6_inspects 0 = .ok (.aload_n 0, 1) := by decide +kernel
theorem dX6_inspects_1 : decode cX6_inspects 1 = .ok (.iload_n 1, 1) := by decide +kernel
theorem dX6_inspects_2 : decode cX6_inspects 2 = .ok (.invokevirtual 113, 3) := by decide +kernel
theorem dX6_inspects_5 : decode cX6_inspects 5 = .ok (.istore_n 2, 1) := by decide +kernel
theorem dX6_inspects_6 : decode cX6_inspects 6 = .ok (.iload_n 2, 1) := by decide +kernel
theorem dX6_inspects_7 : decode cX6_inspects 7 = .ok (.iconst (-1), 1) := by decide +kernel
theorem dX6_inspects_8 : decode cX6_inspects 8 = .ok (.if_icmp .ne 9, 3) := by decide +kernel
theorem dX6_inspects_11 : decode cX6_inspects 11 = .ok (.aload_n 0, 1) := by decide +kernel
theorem dX6_inspects_12 : decode cX6_inspects 12 = .ok (.iconst 1, 1) := by decide +kernel
theorem dX6_inspects_13 : decode cX6_inspects 13 = .ok (.invokevirtual 67, 3) := by decide +kernel
theorem dX6_inspects_16 : decode cX6_inspects 16 = .ok (.ireturn, 1) := by decide +kernel
theorem dX6_inspects_17 : decode cX6_inspects 17 = .ok (.aload_n 0, 1) := by decide +kernel
theorem dX6_inspects_18 : decode cX6_inspects 18 = .ok (.getfield 7, 3) := by decide +kernel
theorem dX6_inspects_21 : decode cX6_inspects 21 = .ok (.bipush 79, 2) := by decide +kernel
theorem dX6_inspects_23 : decode cX6_inspects 23 = .ok (.iload_n 2, 1) := by decide +kernel
theorem dX6_inspects_24 : decode cX6_inspects 24 = .ok (.iadd, 1) := by decide +kernel
theorem dX6_inspects_25 : decode cX6_inspects 25 = .ok (.iaload, 1) := by decide +kernel
theorem dX6_inspects_26 : decode cX6_inspects 26 = .ok (.iconst 1, 1) := by decide +kernel
theorem dX6_inspects_27 : decode cX6_inspects 27 = .ok (.if_icmp .ne 9, 3) := by decide +kernel
theorem dX6_inspects_30 : decode cX6_inspects 30 = .ok (.aload_n 0, 1) := by decide +kernel
theorem dX6_inspects_31 : decode cX6_inspects 31 = .ok (.iconst 2, 1) := by decide +kernel
theorem dX6_inspects_32 : decode cX6_inspects 32 = .ok (.invokevirtual 67, 3) := by decide +kernel
theorem dX6_inspects_35 : decode cX6_inspects 35 = .ok (.ireturn, 1) := by decide +kernel
theorem dX6_inspects_36 : decode cX6_inspects 36 = .ok (.aload_n 0, 1) := by decide +kernel
theorem dX6_inspects_37 : decode cX6_inspects 37 = .ok (.iload_n 2, 1) := by decide +kernel
theorem dX6_inspects_38 : decode cX6_inspects 38 = .ok (.aload_n 0, 1) := by decide +kernel
theorem dX6_inspects_39 : decode cX6_inspects 39 = .ok (.getfield 7, 3) := by decide +kernel
theorem dX6_inspects_42 : decode cX6_inspects 42 = .ok (.iconst 3, 1) := by decide +kernel
theorem dX6_inspects_43 : decode cX6_inspects 43 = .ok (.iaload, 1) := by decide +kernel
theorem dX6_inspects_44 : decode cX6_inspects 44 = .ok (.invokevirtual 116, 3) := by decide +kernel
theorem dX6_inspects_47 : decode cX6_inspects 47 = .ok (.istore_n 3, 1) := by decide +kernel
theorem dX6_inspects_48 : decode cX6_inspects 48 = .ok (.iload_n 3, 1) := by decide +kernel
theorem dX6_inspects_49 : decode cX6_inspects 49 = .ok (.ifCond .eq 11, 3) := by decide +kernel
theorem dX6_inspects_52 : decode cX6_inspects 52 = .ok (.aload_n 0, 1) := by decide +kernel
theorem dX6_inspects_53 : decode cX6_inspects 53 = .ok (.iload_n 2, 1) := by decide +kernel
theorem dX6_inspects_54 : decode cX6_inspects 54 = .ok (.invokevirtual 119, 3) := by decide +kernel
theorem dX6_inspects_57 : decode cX6_inspects 57 = .ok (.goto 13, 3) := by decide +kernel
theorem dX6_inspects_60 : decode cX6_inspects 60 = .ok (.aload_n 0, 1) := by decide +kernel
theorem dX6_inspects_61 : decode cX6_inspects 61 = .ok (.getfield 7, 3) := by decide +kernel
theorem dX6_inspects_64 : decode cX6_inspects 64 = .ok (.bipush 79, 2) := by decide +kernel
theorem dX6_inspects_66 : decode cX6_inspects 66 = .ok (.iload_n 2, 1) := by decide +kernel
theorem dX6_inspects_67 : decode cX6_inspects 67 = .ok (.iadd, 1) := by decide +kernel
theorem dX6_inspects_68 : decode cX6_inspects 68 = .ok (.iconst 1, 1) := by decide +kernel
theorem dX6_inspects_69 : decode cX6_inspects 69 = .ok (.iastore, 1) := by decide +kernel
theorem dX6_inspects_70 : decode cX6_inspects 70 = .ok (.aload_n 0, 1) := by decide +kernel
theorem dX6_inspects_71 : decode cX6_inspects 71 = .ok (.iload_n 3, 1) := by decide +kernel
theorem dX6_inspects_72 : decode cX6_inspects 72 = .ok (.ifCond .eq 7, 3) := by decide +kernel
theorem dX6_inspects_75 : decode cX6_inspects 75 = .ok (.iconst 1, 1) := by decide +kernel
theorem dX6_inspects_76 : decode cX6_inspects 76 = .ok (.goto 4, 3) := by decide +kernel
theorem dX6_inspects_79 : decode cX6_inspects 79 = .ok (.iconst 0, 1) := by decide +kernel
theorem dX6_inspects_80 : decode cX6_inspects 80 = .ok (.invokevirtual 70, 3) := by decide +kernel
theorem dX6_inspects_83 : decode cX6_inspects 83 = .ok (.ireturn, 1) := by decide +kernel
theorem dX6_inspect_0 : decode cX6_inspect 0 = .ok (.aload_n 0, 1) := by decide +kernel
theorem dX6_inspect_1 : decode cX6_inspect 1 = .ok (.invokevirtual 73, 3) := by decide +kernel
theorem dX6_inspect_4 : decode cX6_inspect 4 = .ok (.aload_n 0, 1) := by decide +kernel
theorem dX6_inspect_5 : decode cX6_inspect 5 = .ok (.aload_n 0, 1) := by decide +kernel
theorem dX6_inspect_6 : decode cX6_inspect 6 = .ok (.iload_n 1, 1) := by decide +kernel
theorem dX6_inspect_7 : decode cX6_inspect 7 = .ok (.invokevirtual 122, 3) := by decide +kernel
theorem dX6_inspect_10 : decode cX6_inspect 10 = .ok (.invokevirtual 80, 3) := by decide +kernel
theorem dX6_inspect_13 : decode cX6_inspect 13 = .ok (.iconst 1, 1) := by decide +kernel
theorem dX6_inspect_14 : decode cX6_inspect 14 = .ok (.if_icmp .ne 7, 3) := by decide +kernel
theorem dX6_inspect_17 : decode cX6_inspect 17 = .ok (.iconst 1, 1) := by decide +kernel
theorem dX6_inspect_18 : decode cX6_inspect 18 = .ok (.goto 4, 3) := by decide +kernel
theorem dX6_inspect_21 : decode cX6_inspect 21 = .ok (.iconst 0, 1) := by decide +kernel
theorem dX6_inspect_22 : decode cX6_inspect 22 = .ok (.ireturn, 1) := by decide +kernel
theorem dX6_melts_0 : decode cX6_melts 0 = .ok (.aload_n 0, 1) := by decide +kernel
theorem dX6_melts_1 : decode cX6_melts 1 = .ok (.iload_n 1, 1) := by decide +kernel
theorem dX6_melts_2 : decode cX6_melts 2 = .ok (.invokevirtual 113, 3) := by decide +kernel
theorem dX6_melts_5 : decode cX6_melts 5 = .ok (.istore_n 2, 1) := by decide +kernel
theorem dX6_melts_6 : decode cX6_melts 6 = .ok (.iload_n 2, 1) := by decide +kernel
theorem dX6_melts_7 : decode cX6_melts 7 = .ok (.iconst (-1), 1) := by decide +kernel
theorem dX6_melts_8 : decode cX6_melts 8 = .ok (.if_icmp .ne 9, 3) := by decide +kernel
theorem dX6_melts_11 : decode cX6_melts 11 = .ok (.aload_n 0, 1) := by decide +kernel
theorem dX6_melts_12 : decode cX6_melts 12 = .ok (.iconst 1, 1) := by decide +kernel
theorem dX6_melts_13 : decode cX6_melts 13 = .ok (.invokevirtual 67, 3) := by decide +kernel
theorem dX6_melts_16 : decode cX6_melts 16 = .ok (.ireturn, 1) := by decide +kernel
theorem dX6_melts_17 : decode cX6_melts 17 = .ok (.aload_n 0, 1) := by decide +kernel
theorem dX6_melts_18 : decode cX6_melts 18 = .ok (.getfield 7, 3) := by decide +kernel
theorem dX6_melts_21 : decode cX6_melts 21 = .ok (.bipush 79, 2) := by decide +kernel
theorem dX6_melts_23 : decode cX6_melts 23 = .ok (.iload_n 2, 1) := by decide +kernel
theorem dX6_melts_24 : decode cX6_melts 24 = .ok (.iadd, 1) := by decide +kernel
theorem dX6_melts_25 : decode cX6_melts 25 = .ok (.iaload, 1) := by decide +kernel
theorem dX6_melts_26 : decode cX6_melts 26 = .ok (.ifCond .ne 9, 3) := by decide +kernel
theorem dX6_melts_29 : decode cX6_melts 29 = .ok (.aload_n 0, 1) := by decide +kernel
theorem dX6_melts_30 : decode cX6_melts 30 = .ok (.iconst 2, 1) := by decide +kernel
theorem dX6_melts_31 : decode cX6_melts 31 = .ok (.invokevirtual 67, 3) := by decide +kernel
theorem dX6_melts_34 : decode cX6_melts 34 = .ok (.ireturn, 1) := by decide +kernel
theorem dX6_melts_35 : decode cX6_melts 35 = .ok (.iconst 0, 1) := by decide +kernel
theorem dX6_melts_36 : decode cX6_melts 36 = .ok (.istore_n 3, 1) := by decide +kernel
theorem dX6_melts_37 : decode cX6_melts 37 = .ok (.iconst 0, 1) := by decide +kernel
theorem dX6_melts_38 : decode cX6_melts 38 = .ok (.istore 4, 2) := by decide +kernel
theorem dX6_melts_40 : decode cX6_melts 40 = .ok (.iload 4, 2) := by decide +kernel
theorem dX6_melts_42 : decode cX6_melts 42 = .ok (.iconst 3, 1) := by decide +kernel
theorem dX6_melts_43 : decode cX6_melts 43 = .ok (.if_icmp .ge 108, 3) := by decide +kernel
theorem dX6_melts_46 : decode cX6_melts 46 = .ok (.aload_n 0, 1) := by decide +kernel
theorem dX6_melts_47 : decode cX6_melts 47 = .ok (.aload_n 0, 1) := by decide +kernel
theorem dX6_melts_48 : decode cX6_melts 48 = .ok (.getfield 7, 3) := by decide +kernel
theorem dX6_melts_51 : decode cX6_melts 51 = .ok (.bipush 55, 2) := by decide +kernel
theorem dX6_melts_53 : decode cX6_melts 53 = .ok (.iload_n 2, 1) := by decide +kernel
theorem dX6_melts_54 : decode cX6_melts 54 = .ok (.iadd, 1) := by decide +kernel
theorem dX6_melts_55 : decode cX6_melts 55 = .ok (.iaload, 1) := by decide +kernel
theorem dX6_melts_56 : decode cX6_melts 56 = .ok (.iload 4, 2) := by decide +kernel
theorem dX6_melts_58 : decode cX6_melts 58 = .ok (.invokevirtual 53, 3) := by decide +kernel
theorem dX6_melts_61 : decode cX6_melts 61 = .ok (.istore 5, 2) := by decide +kernel
theorem dX6_melts_63 : decode cX6_melts 63 = .ok (.iload 5, 2) := by decide +kernel
theorem dX6_melts_65 : decode cX6_melts 65 = .ok (.ifCond .le 10, 3) := by decide +kernel
theorem dX6_melts_68 : decode cX6_melts 68 = .ok (.iload 5, 2) := by decide +kernel
theorem dX6_melts_70 : decode cX6_melts 70 = .ok (.iconst 1, 1) := by decide +kernel
theorem dX6_melts_71 : decode cX6_melts 71 = .ok (.isub, 1) := by decide +kernel
theorem dX6_melts_72 : decode cX6_melts 72 = .ok (.goto 4, 3) := by decide +kernel
theorem dX6_melts_75 : decode cX6_melts 75 = .ok (.iconst 0, 1) := by decide +kernel
theorem dX6_melts_76 : decode cX6_melts 76 = .ok (.istore 6, 2) := by decide +kernel
theorem dX6_melts_78 : decode cX6_melts 78 = .ok (.aload_n 0, 1) := by decide +kernel
theorem dX6_melts_79 : decode cX6_melts 79 = .ok (.getfield 7, 3) := by decide +kernel
theorem dX6_melts_82 : decode cX6_melts 82 = .ok (.iconst 0, 1) := by decide +kernel
theorem dX6_melts_83 : decode cX6_melts 83 = .ok (.iload 4, 2) := by decide +kernel
theorem dX6_melts_85 : decode cX6_melts 85 = .ok (.iadd, 1) := by decide +kernel
theorem dX6_melts_86 : decode cX6_melts 86 = .ok (.dup2, 1) := by decide +kernel
theorem dX6_melts_87 : decode cX6_melts 87 = .ok (.iaload, 1) := by decide +kernel
theorem dX6_melts_88 : decode cX6_melts 88 = .ok (.aload_n 0, 1) := by decide +kernel
theorem dX6_melts_89 : decode cX6_melts 89 = .ok (.getfield 7, 3) := by decide +kernel
theorem dX6_melts_92 : decode cX6_melts 92 = .ok (.bipush 63, 2) := by decide +kernel
theorem dX6_melts_94 : decode cX6_melts 94 = .ok (.iload_n 2, 1) := by decide +kernel
theorem dX6_melts_95 : decode cX6_melts 95 = .ok (.iadd, 1) := by decide +kernel
theorem dX6_melts_96 : decode cX6_melts 96 = .ok (.iaload, 1) := by decide +kernel
theorem dX6_melts_97 : decode cX6_melts 97 = .ok (.iload 6, 2) := by decide +kernel
theorem dX6_melts_99 : decode cX6_melts 99 = .ok (.imul, 1) := by decide +kernel
theorem dX6_melts_100 : decode cX6_melts 100 = .ok (.iadd, 1) := by decide +kernel
theorem dX6_melts_101 : decode cX6_melts 101 = .ok (.iastore, 1) := by decide +kernel
theorem dX6_melts_102 : decode cX6_melts 102 = .ok (.aload_n 0, 1) := by decide +kernel
theorem dX6_melts_103 : decode cX6_melts 103 = .ok (.getfield 7, 3) := by decide +kernel
theorem dX6_melts_106 : decode cX6_melts 106 = .ok (.bipush 18, 2) := by decide +kernel
theorem dX6_melts_108 : decode cX6_melts 108 = .ok (.iload 4, 2) := by decide +kernel
theorem dX6_melts_110 : decode cX6_melts 110 = .ok (.iadd, 1) := by decide +kernel
theorem dX6_melts_111 : decode cX6_melts 111 = .ok (.dup2, 1) := by decide +kernel
theorem dX6_melts_112 : decode cX6_melts 112 = .ok (.iaload, 1) := by decide +kernel
theorem dX6_melts_113 : decode cX6_melts 113 = .ok (.aload_n 0, 1) := by decide +kernel
theorem dX6_melts_114 : decode cX6_melts 114 = .ok (.getfield 7, 3) := by decide +kernel
theorem dX6_melts_117 : decode cX6_melts 117 = .ok (.bipush 63, 2) := by decide +kernel
theorem dX6_melts_119 : decode cX6_melts 119 = .ok (.iload_n 2, 1) := by decide +kernel
theorem dX6_melts_120 : decode cX6_melts 120 = .ok (.iadd, 1) := by decide +kernel
theorem dX6_melts_121 : decode cX6_melts 121 = .ok (.iaload, 1) := by decide +kernel
theorem dX6_melts_122 : decode cX6_melts 122 = .ok (.iload 5, 2) := by decide +kernel
theorem dX6_melts_124 : decode cX6_melts 124 = .ok (.iload 6, 2) := by decide +kernel
theorem dX6_melts_126 : decode cX6_melts 126 = .ok (.isub, 1) := by decide +kernel
theorem dX6_melts_127 : decode cX6_melts 127 = .ok (.imul, 1) := by decide +kernel
theorem dX6_melts_128 : decode cX6_melts 128 = .ok (.iadd, 1) := by decide +kernel
theorem dX6_melts_129 : decode cX6_melts 129 = .ok (.iastore, 1) := by decide +kernel
theorem dX6_melts_130 : decode cX6_melts 130 = .ok (.iload_n 3, 1) := by decide +kernel
theorem dX6_melts_131 : decode cX6_melts 131 = .ok (.aload_n 0, 1) := by decide +kernel
theorem dX6_melts_132 : decode cX6_melts 132 = .ok (.getfield 7, 3) := by decide +kernel
theorem dX6_melts_135 : decode cX6_melts 135 = .ok (.bipush 63, 2) := by decide +kernel
theorem dX6_melts_137 : decode cX6_melts 137 = .ok (.iload_n 2, 1) := by decide +kernel
theorem dX6_melts_138 : decode cX6_melts 138 = .ok (.iadd, 1) := by decide +kernel
theorem dX6_melts_139 : decode cX6_melts 139 = .ok (.iaload, 1) := by decide +kernel
theorem dX6_melts_140 : decode cX6_melts 140 = .ok (.iload 6, 2) := by decide +kernel
theorem dX6_melts_142 : decode cX6_melts 142 = .ok (.imul, 1) := by decide +kernel
theorem dX6_melts_143 : decode cX6_melts 143 = .ok (.iadd, 1) := by decide +kernel
theorem dX6_melts_144 : decode cX6_melts 144 = .ok (.istore_n 3, 1) := by decide +kernel
theorem dX6_melts_145 : decode cX6_melts 145 = .ok (.iinc 4 1, 3) := by decide +kernel
theorem dX6_melts_148 : decode cX6_melts 148 = .ok (.goto (-108), 3) := by decide +kernel
theorem dX6_melts_151 : decode cX6_melts 151 = .ok (.aload_n 0, 1) := by decide +kernel
theorem dX6_melts_152 : decode cX6_melts 152 = .ok (.getfield 7, 3) := by decide +kernel
theorem dX6_melts_155 : decode cX6_melts 155 = .ok (.bipush 11, 2) := by decide +kernel
theorem dX6_melts_157 : decode cX6_melts 157 = .ok (.dup2, 1) := by decide +kernel
theorem dX6_melts_158 : decode cX6_melts 158 = .ok (.iaload, 1) := by decide +kernel
theorem dX6_melts_159 : decode cX6_melts 159 = .ok (.aload_n 0, 1) := by decide +kernel
theorem dX6_melts_160 : decode cX6_melts 160 = .ok (.getfield 7, 3) := by decide +kernel
theorem dX6_melts_163 : decode cX6_melts 163 = .ok (.bipush 63, 2) := by decide +kernel
theorem dX6_melts_165 : decode cX6_melts 165 = .ok (.iload_n 2, 1) := by decide +kernel
theorem dX6_melts_166 : decode cX6_melts 166 = .ok (.iadd, 1) := by decide +kernel
theorem dX6_melts_167 : decode cX6_melts 167 = .ok (.iaload, 1) := by decide +kernel
theorem dX6_melts_168 : decode cX6_melts 168 = .ok (.iadd, 1) := by decide +kernel
theorem dX6_melts_169 : decode cX6_melts 169 = .ok (.iastore, 1) := by decide +kernel
theorem dX6_melts_170 : decode cX6_melts 170 = .ok (.aload_n 0, 1) := by decide +kernel
theorem dX6_melts_171 : decode cX6_melts 171 = .ok (.iload_n 2, 1) := by decide +kernel
theorem dX6_melts_172 : decode cX6_melts 172 = .ok (.invokevirtual 109, 3) := by decide +kernel
theorem dX6_melts_175 : decode cX6_melts 175 = .ok (.aload_n 0, 1) := by decide +kernel
theorem dX6_melts_176 : decode cX6_melts 176 = .ok (.iload_n 3, 1) := by decide +kernel
theorem dX6_melts_177 : decode cX6_melts 177 = .ok (.invokevirtual 70, 3) := by decide +kernel
theorem dX6_melts_180 : decode cX6_melts 180 = .ok (.ireturn, 1) := by decide +kernel
theorem dX6_melt_0 : decode cX6_melt 0 = .ok (.aload_n 0, 1) := by decide +kernel
theorem dX6_melt_1 : decode cX6_melt 1 = .ok (.invokevirtual 73, 3) := by decide +kernel
theorem dX6_melt_4 : decode cX6_melt 4 = .ok (.aload_n 0, 1) := by decide +kernel
theorem dX6_melt_5 : decode cX6_melt 5 = .ok (.aload_n 0, 1) := by decide +kernel
theorem dX6_melt_6 : decode cX6_melt 6 = .ok (.iload_n 1, 1) := by decide +kernel
theorem dX6_melt_7 : decode cX6_melt 7 = .ok (.invokevirtual 125, 3) := by decide +kernel
theorem dX6_melt_10 : decode cX6_melt 10 = .ok (.invokevirtual 80, 3) := by decide +kernel
theorem dX6_melt_13 : decode cX6_melt 13 = .ok (.ireturn, 1) := by decide +kernel
theorem dX6_renews_0 : decode cX6_renews 0 = .ok (.aload_n 0, 1) := by decide +kernel
theorem dX6_renews_1 : decode cX6_renews 1 = .ok (.iload_n 1, 1) := by decide +kernel
theorem dX6_renews_2 : decode cX6_renews 2 = .ok (.invokevirtual 96, 3) := by decide +kernel
theorem dX6_renews_5 : decode cX6_renews 5 = .ok (.ifCond .ne 9, 3) := by decide +kernel
theorem dX6_renews_8 : decode cX6_renews 8 = .ok (.aload_n 0, 1) := by decide +kernel
theorem dX6_renews_9 : decode cX6_renews 9 = .ok (.iconst 1, 1) := by decide +kernel
theorem dX6_renews_10 : decode cX6_renews 10 = .ok (.invokevirtual 67, 3) := by decide +kernel
theorem dX6_renews_13 : decode cX6_renews 13 = .ok (.ireturn, 1) := by decide +kernel
theorem dX6_renews_14 : decode cX6_renews 14 = .ok (.aload_n 0, 1) := by decide +kernel
theorem dX6_renews_15 : decode cX6_renews 15 = .ok (.getfield 7, 3) := by decide +kernel
theorem dX6_renews_18 : decode cX6_renews 18 = .ok (.bipush 43, 2) := by decide +kernel
theorem dX6_renews_20 : decode cX6_renews 20 = .ok (.iload_n 1, 1) := by decide +kernel
theorem dX6_renews_21 : decode cX6_renews 21 = .ok (.iadd, 1) := by decide +kernel
theorem dX6_renews_22 : decode cX6_renews 22 = .ok (.iaload, 1) := by decide +kernel
theorem dX6_renews_23 : decode cX6_renews 23 = .ok (.istore_n 2, 1) := by decide +kernel
theorem dX6_renews_24 : decode cX6_renews 24 = .ok (.aload_n 0, 1) := by decide +kernel
theorem dX6_renews_25 : decode cX6_renews 25 = .ok (.getfield 7, 3) := by decide +kernel
theorem dX6_renews_28 : decode cX6_renews 28 = .ok (.bipush 43, 2) := by decide +kernel
theorem dX6_renews_30 : decode cX6_renews 30 = .ok (.iload_n 1, 1) := by decide +kernel
theorem dX6_renews_31 : decode cX6_renews 31 = .ok (.iadd, 1) := by decide +kernel
theorem dX6_renews_32 : decode cX6_renews 32 = .ok (.iconst 0, 1) := by decide +kernel
theorem dX6_renews_33 : decode cX6_renews 33 = .ok (.iastore, 1) := by decide +kernel
theorem dX6_renews_34 : decode cX6_renews 34 = .ok (.aload_n 0, 1) := by decide +kernel
theorem dX6_renews_35 : decode cX6_renews 35 = .ok (.iload_n 2, 1) := by decide +kernel
theorem dX6_renews_36 : decode cX6_renews 36 = .ok (.invokevirtual 70, 3) := by decide +kernel
theorem dX6_renews_39 : decode cX6_renews 39 = .ok (.ireturn, 1) := by decide +kernel
theorem dX6_renewMould_0 : decode cX6_renewMould 0 = .ok (.aload_n 0, 1) := by decide +kernel
theorem dX6_renewMould_1 : decode cX6_renewMould 1 = .ok (.invokevirtual 73, 3) := by decide +kernel
theorem dX6_renewMould_4 : decode cX6_renewMould 4 = .ok (.aload_n 0, 1) := by decide +kernel
theorem dX6_renewMould_5 : decode cX6_renewMould 5 = .ok (.aload_n 0, 1) := by decide +kernel
theorem dX6_renewMould_6 : decode cX6_renewMould 6 = .ok (.iload_n 1, 1) := by decide +kernel
theorem dX6_renewMould_7 : decode cX6_renewMould 7 = .ok (.invokevirtual 128, 3) := by decide +kernel
theorem dX6_renewMould_10 : decode cX6_renewMould 10 = .ok (.invokevirtual 80, 3) := by decide +kernel
theorem dX6_renewMould_13 : decode cX6_renewMould 13 = .ok (.ireturn, 1) := by decide +kernel
theorem dX6_sets_0 : decode cX6_sets 0 = .ok (.iload_n 2, 1) := by decide +kernel
theorem dX6_sets_1 : decode cX6_sets 1 = .ok (.iload_n 3, 1) := by decide +kernel
theorem dX6_sets_2 : decode cX6_sets 2 = .ok (.iload 4, 2) := by decide +kernel
theorem dX6_sets_4 : decode cX6_sets 4 = .ok (.invokestatic 49, 3) := by decide +kernel
theorem dX6_sets_7 : decode cX6_sets 7 = .ok (.ifCond .ne 9, 3) := by decide +kernel
theorem dX6_sets_10 : decode cX6_sets 10 = .ok (.aload_n 0, 1) := by decide +kernel
theorem dX6_sets_11 : decode cX6_sets 11 = .ok (.iconst 1, 1) := by decide +kernel
theorem dX6_sets_12 : decode cX6_sets 12 = .ok (.invokevirtual 67, 3) := by decide +kernel
theorem dX6_sets_15 : decode cX6_sets 15 = .ok (.ireturn, 1) := by decide +kernel
theorem dX6_sets_16 : decode cX6_sets 16 = .ok (.aload_n 0, 1) := by decide +kernel
theorem dX6_sets_17 : decode cX6_sets 17 = .ok (.getfield 7, 3) := by decide +kernel
theorem dX6_sets_20 : decode cX6_sets 20 = .ok (.iload_n 1, 1) := by decide +kernel
theorem dX6_sets_21 : decode cX6_sets 21 = .ok (.iaload, 1) := by decide +kernel
theorem dX6_sets_22 : decode cX6_sets 22 = .ok (.istore 5, 2) := by decide +kernel
theorem dX6_sets_24 : decode cX6_sets 24 = .ok (.aload_n 0, 1) := by decide +kernel
theorem dX6_sets_25 : decode cX6_sets 25 = .ok (.getfield 7, 3) := by decide +kernel
theorem dX6_sets_28 : decode cX6_sets 28 = .ok (.iload_n 1, 1) := by decide +kernel
theorem dX6_sets_29 : decode cX6_sets 29 = .ok (.iload_n 2, 1) := by decide +kernel
theorem dX6_sets_30 : decode cX6_sets 30 = .ok (.iastore, 1) := by decide +kernel
theorem dX6_sets_31 : decode cX6_sets 31 = .ok (.aload_n 0, 1) := by decide +kernel
theorem dX6_sets_32 : decode cX6_sets 32 = .ok (.iload 5, 2) := by decide +kernel
theorem dX6_sets_34 : decode cX6_sets 34 = .ok (.invokevirtual 70, 3) := by decide +kernel
theorem dX6_sets_37 : decode cX6_sets 37 = .ok (.ireturn, 1) := by decide +kernel
theorem dX6_setTolerance_0 : decode cX6_setTolerance 0 = .ok (.aload_n 0, 1) := by decide +kernel
theorem dX6_setTolerance_1 : decode cX6_setTolerance 1 = .ok (.invokevirtual 73, 3) := by decide +kernel
theorem dX6_setTolerance_4 : decode cX6_setTolerance 4 = .ok (.aload_n 0, 1) := by decide +kernel
theorem dX6_setTolerance_5 : decode cX6_setTolerance 5 = .ok (.aload_n 0, 1) := by decide +kernel
theorem dX6_setTolerance_6 : decode cX6_setTolerance 6 = .ok (.iconst 3, 1) := by decide +kernel
theorem dX6_setTolerance_7 : decode cX6_setTolerance 7 = .ok (.iload_n 1, 1) := by decide +kernel
theorem dX6_setTolerance_8 : decode cX6_setTolerance 8 = .ok (.iconst 0, 1) := by decide +kernel
theorem dX6_setTolerance_9 : decode cX6_setTolerance 9 = .ok (.bipush 99, 2) := by decide +kernel
theorem dX6_setTolerance_11 : decode cX6_setTolerance 11 = .ok (.invokevirtual 131, 3) := by decide +kernel
theorem dX6_setTolerance_14 : decode cX6_setTolerance 14 = .ok (.invokevirtual 80, 3) := by decide +kernel
theorem dX6_setTolerance_17 : decode cX6_setTolerance 17 = .ok (.ireturn, 1) := by decide +kernel
theorem dX6_setStep_0 : decode cX6_setStep 0 = .ok (.aload_n 0, 1) := by decide +kernel
theorem dX6_setStep_1 : decode cX6_setStep 1 = .ok (.invokevirtual 73, 3) := by decide +kernel
theorem dX6_setStep_4 : decode cX6_setStep 4 = .ok (.aload_n 0, 1) := by decide +kernel
theorem dX6_setStep_5 : decode cX6_setStep 5 = .ok (.aload_n 0, 1) := by decide +kernel
theorem dX6_setStep_6 : decode cX6_setStep 6 = .ok (.iconst 4, 1) := by decide +kernel
theorem dX6_setStep_7 : decode cX6_setStep 7 = .ok (.iload_n 1, 1) := by decide +kernel
theorem dX6_setStep_8 : decode cX6_setStep 8 = .ok (.iconst 1, 1) := by decide +kernel
theorem dX6_setStep_9 : decode cX6_setStep 9 = .ok (.iconst 5, 1) := by decide +kernel
theorem dX6_setStep_10 : decode cX6_setStep 10 = .ok (.invokevirtual 131, 3) := by decide +kernel
theorem dX6_setStep_13 : decode cX6_setStep 13 = .ok (.invokevirtual 80, 3) := by decide +kernel
theorem dX6_setStep_16 : decode cX6_setStep 16 = .ok (.ireturn, 1) := by decide +kernel
theorem dX6_alloyCount_0 : decode cX6_alloyCount 0 = .ok (.aload_n 0, 1) := by decide +kernel
theorem dX6_alloyCount_1 : decode cX6_alloyCount 1 = .ok (.aload_n 0, 1) := by decide +kernel
theorem dX6_alloyCount_2 : decode cX6_alloyCount 2 = .ok (.getfield 7, 3) := by decide +kernel
theorem dX6_alloyCount_5 : decode cX6_alloyCount 5 = .ok (.iconst 5, 1) := by decide +kernel
theorem dX6_alloyCount_6 : decode cX6_alloyCount 6 = .ok (.iaload, 1) := by decide +kernel
theorem dX6_alloyCount_7 : decode cX6_alloyCount 7 = .ok (.invokevirtual 70, 3) := by decide +kernel
theorem dX6_alloyCount_10 : decode cX6_alloyCount 10 = .ok (.ireturn, 1) := by decide +kernel
theorem dX6_parts_0 : decode cX6_parts 0 = .ok (.aload_n 0, 1) := by decide +kernel
theorem dX6_parts_1 : decode cX6_parts 1 = .ok (.iload_n 1, 1) := by decide +kernel
theorem dX6_parts_2 : decode cX6_parts 2 = .ok (.invokevirtual 93, 3) := by decide +kernel
theorem dX6_parts_5 : decode cX6_parts 5 = .ok (.ifCond .eq 23, 3) := by decide +kernel
theorem dX6_parts_8 : decode cX6_parts 8 = .ok (.iload_n 2, 1) := by decide +kernel
theorem dX6_parts_9 : decode cX6_parts 9 = .ok (.invokestatic 86, 3) := by decide +kernel
theorem dX6_parts_12 : decode cX6_parts 12 = .ok (.ifCond .eq 16, 3) := by decide +kernel
theorem dX6_parts_15 : decode cX6_parts 15 = .ok (.aload_n 0, 1) := by decide +kernel
theorem dX6_parts_16 : decode cX6_parts 16 = .ok (.aload_n 0, 1) := by decide +kernel
theorem dX6_parts_17 : decode cX6_parts 17 = .ok (.iload_n 1, 1) := by decide +kernel
theorem dX6_parts_18 : decode cX6_parts 18 = .ok (.iload_n 2, 1) := by decide +kernel
theorem dX6_parts_19 : decode cX6_parts 19 = .ok (.invokevirtual 53, 3) := by decide +kernel
theorem dX6_parts_22 : decode cX6_parts 22 = .ok (.invokevirtual 70, 3) := by decide +kernel
theorem dX6_parts_25 : decode cX6_parts 25 = .ok (.goto 8, 3) := by decide +kernel
theorem dX6_parts_28 : decode cX6_parts 28 = .ok (.aload_n 0, 1) := by decide +kernel
theorem dX6_parts_29 : decode cX6_parts 29 = .ok (.iconst 1, 1) := by decide +kernel
theorem dX6_parts_30 : decode cX6_parts 30 = .ok (.invokevirtual 67, 3) := by decide +kernel
theorem dX6_parts_33 : decode cX6_parts 33 = .ok (.ireturn, 1) := by decide +kernel
theorem dX6_mouldCount_0 : decode cX6_mouldCount 0 = .ok (.aload_n 0, 1) := by decide +kernel
theorem dX6_mouldCount_1 : decode cX6_mouldCount 1 = .ok (.aload_n 0, 1) := by decide +kernel
theorem dX6_mouldCount_2 : decode cX6_mouldCount 2 = .ok (.getfield 7, 3) := by decide +kernel
theorem dX6_mouldCount_5 : decode cX6_mouldCount 5 = .ok (.bipush 6, 2) := by decide +kernel
theorem dX6_mouldCount_7 : decode cX6_mouldCount 7 = .ok (.iaload, 1) := by decide +kernel
theorem dX6_mouldCount_8 : decode cX6_mouldCount 8 = .ok (.invokevirtual 70, 3) := by decide +kernel
theorem dX6_mouldCount_11 : decode cX6_mouldCount 11 = .ok (.ireturn, 1) := by decide +kernel
theorem dX6_mouldLength_0 : decode cX6_mouldLength 0 = .ok (.aload_n 0, 1) := by decide +kernel
theorem dX6_mouldLength_1 : decode cX6_mouldLength 1 = .ok (.iload_n 1, 1) := by decide +kernel
theorem dX6_mouldLength_2 : decode cX6_mouldLength 2 = .ok (.invokevirtual 96, 3) := by decide +kernel
theorem dX6_mouldLength_5 : decode cX6_mouldLength 5 = .ok (.ifCond .eq 19, 3) := by decide +kernel
theorem dX6_mouldLength_8 : decode cX6_mouldLength 8 = .ok (.aload_n 0, 1) := by decide +kernel
theorem dX6_mouldLength_9 : decode cX6_mouldLength 9 = .ok (.aload_n 0, 1) := by decide +kernel
theorem dX6_mouldLength_10 : decode cX6_mouldLength 10 = .ok (.getfield 7, 3) := by decide +kernel
theorem dX6_mouldLength_13 : decode cX6_mouldLength 13 = .ok (.bipush 39, 2) := by decide +kernel
theorem dX6_mouldLength_15 : decode cX6_mouldLength 15 = .ok (.iload_n 1, 1) := by decide +kernel
theorem dX6_mouldLength_16 : decode cX6_mouldLength 16 = .ok (.iadd, 1) := by decide +kernel
theorem dX6_mouldLength_17 : decode cX6_mouldLength 17 = .ok (.iaload, 1) := by decide +kernel
theorem dX6_mouldLength_18 : decode cX6_mouldLength 18 = .ok (.invokevirtual 70, 3) := by decide +kernel
theorem dX6_mouldLength_21 : decode cX6_mouldLength 21 = .ok (.goto 8, 3) := by decide +kernel
theorem dX6_mouldLength_24 : decode cX6_mouldLength 24 = .ok (.aload_n 0, 1) := by decide +kernel
theorem dX6_mouldLength_25 : decode cX6_mouldLength 25 = .ok (.iconst 1, 1) := by decide +kernel
theorem dX6_mouldLength_26 : decode cX6_mouldLength 26 = .ok (.invokevirtual 67, 3) := by decide +kernel
theorem dX6_mouldLength_29 : decode cX6_mouldLength 29 = .ok (.ireturn, 1) := by decide +kernel
theorem dX6_uses_0 : decode cX6_uses 0 = .ok (.aload_n 0, 1) := by decide +kernel
theorem dX6_uses_1 : decode cX6_uses 1 = .ok (.iload_n 1, 1) := by decide +kernel
theorem dX6_uses_2 : decode cX6_uses 2 = .ok (.invokevirtual 96, 3) := by decide +kernel
theorem dX6_uses_5 : decode cX6_uses 5 = .ok (.ifCond .eq 19, 3) := by decide +kernel
theorem dX6_uses_8 : decode cX6_uses 8 = .ok (.aload_n 0, 1) := by decide +kernel
theorem dX6_uses_9 : decode cX6_uses 9 = .ok (.aload_n 0, 1) := by decide +kernel
theorem dX6_uses_10 : decode cX6_uses 10 = .ok (.getfield 7, 3) := by decide +kernel
theorem dX6_uses_13 : decode cX6_uses 13 = .ok (.bipush 43, 2) := by decide +kernel
theorem dX6_uses_15 : decode cX6_uses 15 = .ok (.iload_n 1, 1) := by decide +kernel
theorem dX6_uses_16 : decode cX6_uses 16 = .ok (.iadd, 1) := by decide +kernel
theorem dX6_uses_17 : decode cX6_uses 17 = .ok (.iaload, 1) := by decide +kernel
theorem dX6_uses_18 : decode cX6_uses 18 = .ok (.invokevirtual 70, 3) := by decide +kernel
theorem dX6_uses_21 : decode cX6_uses 21 = .ok (.goto 8, 3) := by decide +kernel
theorem dX6_uses_24 : decode cX6_uses 24 = .ok (.aload_n 0, 1) := by decide +kernel
theorem dX6_uses_25 : decode cX6_uses 25 = .ok (.iconst 1, 1) := by decide +kernel
theorem dX6_uses_26 : decode cX6_uses 26 = .ok (.invokevirtual 67, 3) := by decide +kernel
theorem dX6_uses_29 : decode cX6_uses 29 = .ok (.ireturn, 1) := by decide +kernel
theorem dX6_stock_0 : decode cX6_stock 0 = .ok (.iload_n 1, 1) := by decide +kernel
theorem dX6_stock_1 : decode cX6_stock 1 = .ok (.invokestatic 86, 3) := by decide +kernel
theorem dX6_stock_4 : decode cX6_stock 4 = .ok (.ifCond .eq 18, 3) := by decide +kernel
theorem dX6_stock_7 : decode cX6_stock 7 = .ok (.aload_n 0, 1) := by decide +kernel
theorem dX6_stock_8 : decode cX6_stock 8 = .ok (.aload_n 0, 1) := by decide +kernel
theorem dX6_stock_9 : decode cX6_stock 9 = .ok (.getfield 7, 3) := by decide +kernel
theorem dX6_stock_12 : decode cX6_stock 12 = .ok (.iconst 0, 1) := by decide +kernel
theorem dX6_stock_13 : decode cX6_stock 13 = .ok (.iload_n 1, 1) := by decide +kernel
theorem dX6_stock_14 : decode cX6_stock 14 = .ok (.iadd, 1) := by decide +kernel
theorem dX6_stock_15 : decode cX6_stock 15 = .ok (.iaload, 1) := by decide +kernel
theorem dX6_stock_16 : decode cX6_stock 16 = .ok (.invokevirtual 70, 3) := by decide +kernel
theorem dX6_stock_19 : decode cX6_stock 19 = .ok (.goto 8, 3) := by decide +kernel
theorem dX6_stock_22 : decode cX6_stock 22 = .ok (.aload_n 0, 1) := by decide +kernel
theorem dX6_stock_23 : decode cX6_stock 23 = .ok (.iconst 1, 1) := by decide +kernel
theorem dX6_stock_24 : decode cX6_stock 24 = .ok (.invokevirtual 67, 3) := by decide +kernel
theorem dX6_stock_27 : decode cX6_stock 27 = .ok (.ireturn, 1) := by decide +kernel
theorem dX6_tolerance_0 : decode cX6_tolerance 0 = .ok (.aload_n 0, 1) := by decide +kernel
theorem dX6_tolerance_1 : decode cX6_tolerance 1 = .ok (.aload_n 0, 1) := by decide +kernel
theorem dX6_tolerance_2 : decode cX6_tolerance 2 = .ok (.getfield 7, 3) := by decide +kernel
theorem dX6_tolerance_5 : decode cX6_tolerance 5 = .ok (.iconst 3, 1) := by decide +kernel
theorem dX6_tolerance_6 : decode cX6_tolerance 6 = .ok (.iaload, 1) := by decide +kernel
theorem dX6_tolerance_7 : decode cX6_tolerance 7 = .ok (.invokevirtual 70, 3) := by decide +kernel
theorem dX6_tolerance_10 : decode cX6_tolerance 10 = .ok (.ireturn, 1) := by decide +kernel
theorem dX6_step_0 : decode cX6_step 0 = .ok (.aload_n 0, 1) := by decide +kernel
theorem dX6_step_1 : decode cX6_step 1 = .ok (.aload_n 0, 1) := by decide +kernel
theorem dX6_step_2 : decode cX6_step 2 = .ok (.getfield 7, 3) := by decide +kernel
theorem dX6_step_5 : decode cX6_step 5 = .ok (.iconst 4, 1) := by decide +kernel
theorem dX6_step_6 : decode cX6_step 6 = .ok (.iaload, 1) := by decide +kernel
theorem dX6_step_7 : decode cX6_step 7 = .ok (.invokevirtual 70, 3) := by decide +kernel
theorem dX6_step_10 : decode cX6_step 10 = .ok (.ireturn, 1) := by decide +kernel
theorem dX6_batchCount_0 : decode cX6_batchCount 0 = .ok (.aload_n 0, 1) := by decide +kernel
theorem dX6_batchCount_1 : decode cX6_batchCount 1 = .ok (.aload_n 0, 1) := by decide +kernel
theorem dX6_batchCount_2 : decode cX6_batchCount 2 = .ok (.getfield 7, 3) := by decide +kernel
theorem dX6_batchCount_5 : decode cX6_batchCount 5 = .ok (.bipush 7, 2) := by decide +kernel
theorem dX6_batchCount_7 : decode cX6_batchCount 7 = .ok (.iaload, 1) := by decide +kernel
theorem dX6_batchCount_8 : decode cX6_batchCount 8 = .ok (.invokevirtual 70, 3) := by decide +kernel
theorem dX6_batchCount_11 : decode cX6_batchCount 11 = .ok (.ireturn, 1) := by decide +kernel
theorem dX6_batchAt_0 : decode cX6_batchAt 0 = .ok (.iload_n 1, 1) := by decide +kernel
theorem dX6_batchAt_1 : decode cX6_batchAt 1 = .ok (.iconst 0, 1) := by decide +kernel
theorem dX6_batchAt_2 : decode cX6_batchAt 2 = .ok (.aload_n 0, 1) := by decide +kernel
theorem dX6_batchAt_3 : decode cX6_batchAt 3 = .ok (.getfield 7, 3) := by decide +kernel
theorem dX6_batchAt_6 : decode cX6_batchAt 6 = .ok (.bipush 7, 2) := by decide +kernel
theorem dX6_batchAt_8 : decode cX6_batchAt 8 = .ok (.iaload, 1) := by decide +kernel
theorem dX6_batchAt_9 : decode cX6_batchAt 9 = .ok (.iconst 1, 1) := by decide +kernel
theorem dX6_batchAt_10 : decode cX6_batchAt 10 = .ok (.isub, 1) := by decide +kernel
theorem dX6_batchAt_11 : decode cX6_batchAt 11 = .ok (.invokestatic 49, 3) := by decide +kernel
theorem dX6_batchAt_14 : decode cX6_batchAt 14 = .ok (.ifCond .eq 19, 3) := by decide +kernel
theorem dX6_batchAt_17 : decode cX6_batchAt 17 = .ok (.aload_n 0, 1) := by decide +kernel
theorem dX6_batchAt_18 : decode cX6_batchAt 18 = .ok (.aload_n 0, 1) := by decide +kernel
theorem dX6_batchAt_19 : decode cX6_batchAt 19 = .ok (.getfield 7, 3) := by decide +kernel
theorem dX6_batchAt_22 : decode cX6_batchAt 22 = .ok (.bipush 47, 2) := by decide +kernel
theorem dX6_batchAt_24 : decode cX6_batchAt 24 = .ok (.iload_n 1, 1) := by decide +kernel
theorem dX6_batchAt_25 : decode cX6_batchAt 25 = .ok (.iadd, 1) := by decide +kernel
theorem dX6_batchAt_26 : decode cX6_batchAt 26 = .ok (.iaload, 1) := by decide +kernel
theorem dX6_batchAt_27 : decode cX6_batchAt 27 = .ok (.invokevirtual 70, 3) := by decide +kernel
theorem dX6_batchAt_30 : decode cX6_batchAt 30 = .ok (.goto 8, 3) := by decide +kernel
theorem dX6_batchAt_33 : decode cX6_batchAt 33 = .ok (.aload_n 0, 1) := by decide +kernel
theorem dX6_batchAt_34 : decode cX6_batchAt 34 = .ok (.iconst 1, 1) := by decide +kernel
theorem dX6_batchAt_35 : decode cX6_batchAt 35 = .ok (.invokevirtual 67, 3) := by decide +kernel
theorem dX6_batchAt_38 : decode cX6_batchAt 38 = .ok (.ireturn, 1) := by decide +kernel
theorem dX6_batchNumber_0 : decode cX6_batchNumber 0 = .ok (.aload_n 0, 1) := by decide +kernel
theorem dX6_batchNumber_1 : decode cX6_batchNumber 1 = .ok (.iload_n 2, 1) := by decide +kernel
theorem dX6_batchNumber_2 : decode cX6_batchNumber 2 = .ok (.invokevirtual 113, 3) := by decide +kernel
theorem dX6_batchNumber_5 : decode cX6_batchNumber 5 = .ok (.istore_n 3, 1) := by decide +kernel
theorem dX6_batchNumber_6 : decode cX6_batchNumber 6 = .ok (.iload_n 3, 1) := by decide +kernel
theorem dX6_batchNumber_7 : decode cX6_batchNumber 7 = .ok (.iconst (-1), 1) := by decide +kernel
theorem dX6_batchNumber_8 : decode cX6_batchNumber 8 = .ok (.if_icmp .ne 11, 3) := by decide +kernel
theorem dX6_batchNumber_11 : decode cX6_batchNumber 11 = .ok (.aload_n 0, 1) := by decide +kernel
theorem dX6_batchNumber_12 : decode cX6_batchNumber 12 = .ok (.iconst 1, 1) := by decide +kernel
theorem dX6_batchNumber_13 : decode cX6_batchNumber 13 = .ok (.invokevirtual 67, 3) := by decide +kernel
theorem dX6_batchNumber_16 : decode cX6_batchNumber 16 = .ok (.goto 15, 3) := by decide +kernel
theorem dX6_batchNumber_19 : decode cX6_batchNumber 19 = .ok (.aload_n 0, 1) := by decide +kernel
theorem dX6_batchNumber_20 : decode cX6_batchNumber 20 = .ok (.aload_n 0, 1) := by decide +kernel
theorem dX6_batchNumber_21 : decode cX6_batchNumber 21 = .ok (.getfield 7, 3) := by decide +kernel
theorem dX6_batchNumber_24 : decode cX6_batchNumber 24 = .ok (.iload_n 1, 1) := by decide +kernel
theorem dX6_batchNumber_25 : decode cX6_batchNumber 25 = .ok (.iload_n 3, 1) := by decide +kernel
theorem dX6_batchNumber_26 : decode cX6_batchNumber 26 = .ok (.iadd, 1) := by decide +kernel
theorem dX6_batchNumber_27 : decode cX6_batchNumber 27 = .ok (.iaload, 1) := by decide +kernel
theorem dX6_batchNumber_28 : decode cX6_batchNumber 28 = .ok (.invokevirtual 70, 3) := by decide +kernel
theorem dX6_batchNumber_31 : decode cX6_batchNumber 31 = .ok (.ireturn, 1) := by decide +kernel
theorem dX6_isFailed_0 : decode cX6_isFailed 0 = .ok (.aload_n 0, 1) := by decide +kernel
theorem dX6_isFailed_1 : decode cX6_isFailed 1 = .ok (.bipush 79, 2) := by decide +kernel
theorem dX6_isFailed_3 : decode cX6_isFailed 3 = .ok (.iload_n 1, 1) := by decide +kernel
theorem dX6_isFailed_4 : decode cX6_isFailed 4 = .ok (.invokevirtual 135, 3) := by decide +kernel
theorem dX6_isFailed_7 : decode cX6_isFailed 7 = .ok (.iconst 1, 1) := by decide +kernel
theorem dX6_isFailed_8 : decode cX6_isFailed 8 = .ok (.if_icmp .ne 7, 3) := by decide +kernel
theorem dX6_isFailed_11 : decode cX6_isFailed 11 = .ok (.iconst 1, 1) := by decide +kernel
theorem dX6_isFailed_12 : decode cX6_isFailed 12 = .ok (.goto 4, 3) := by decide +kernel
theorem dX6_isFailed_15 : decode cX6_isFailed 15 = .ok (.iconst 0, 1) := by decide +kernel
theorem dX6_isFailed_16 : decode cX6_isFailed 16 = .ok (.ireturn, 1) := by decide +kernel
theorem dX6_batchSize_0 : decode cX6_batchSize 0 = .ok (.aload_n 0, 1) := by decide +kernel
theorem dX6_batchSize_1 : decode cX6_batchSize 1 = .ok (.bipush 63, 2) := by decide +kernel
theorem dX6_batchSize_3 : decode cX6_batchSize 3 = .ok (.iload_n 1, 1) := by decide +kernel
theorem dX6_batchSize_4 : decode cX6_batchSize 4 = .ok (.invokevirtual 135, 3) := by decide +kernel
theorem dX6_batchSize_7 : decode cX6_batchSize 7 = .ok (.ireturn, 1) := by decide +kernel
theorem dX6_firstBow_0 : decode cX6_firstBow 0 = .ok (.aload_n 0, 1) := by decide +kernel
theorem dX6_firstBow_1 : decode cX6_firstBow 1 = .ok (.bipush 71, 2) := by decide +kernel
theorem dX6_firstBow_3 : decode cX6_firstBow 3 = .ok (.iload_n 1, 1) := by decide +kernel
theorem dX6_firstBow_4 : decode cX6_firstBow 4 = .ok (.invokevirtual 135, 3) := by decide +kernel
theorem dX6_firstBow_7 : decode cX6_firstBow 7 = .ok (.ireturn, 1) := by decide +kernel
theorem dX6_squeak_0 : decode cX6_squeak 0 = .ok (.aload_n 0, 1) := by decide +kernel
theorem dX6_squeak_1 : decode cX6_squeak 1 = .ok (.iload_n 1, 1) := by decide +kernel
theorem dX6_squeak_2 : decode cX6_squeak 2 = .ok (.invokevirtual 138, 3) := by decide +kernel
theorem dX6_squeak_5 : decode cX6_squeak 5 = .ok (.istore_n 2, 1) := by decide +kernel
theorem dX6_squeak_6 : decode cX6_squeak 6 = .ok (.iload_n 2, 1) := by decide +kernel
theorem dX6_squeak_7 : decode cX6_squeak 7 = .ok (.iconst (-1), 1) := by decide +kernel
theorem dX6_squeak_8 : decode cX6_squeak 8 = .ok (.if_icmp .ne 11, 3) := by decide +kernel
theorem dX6_squeak_11 : decode cX6_squeak 11 = .ok (.aload_n 0, 1) := by decide +kernel
theorem dX6_squeak_12 : decode cX6_squeak 12 = .ok (.iconst 1, 1) := by decide +kernel
theorem dX6_squeak_13 : decode cX6_squeak 13 = .ok (.invokevirtual 67, 3) := by decide +kernel
theorem dX6_squeak_16 : decode cX6_squeak 16 = .ok (.goto 23, 3) := by decide +kernel
theorem dX6_squeak_19 : decode cX6_squeak 19 = .ok (.aload_n 0, 1) := by decide +kernel
theorem dX6_squeak_20 : decode cX6_squeak 20 = .ok (.aload_n 0, 1) := by decide +kernel
theorem dX6_squeak_21 : decode cX6_squeak 21 = .ok (.iload_n 2, 1) := by decide +kernel
theorem dX6_squeak_22 : decode cX6_squeak 22 = .ok (.iload_n 1, 1) := by decide +kernel
theorem dX6_squeak_23 : decode cX6_squeak 23 = .ok (.aload_n 0, 1) := by decide +kernel
theorem dX6_squeak_24 : decode cX6_squeak 24 = .ok (.getfield 7, 3) := by decide +kernel
theorem dX6_squeak_27 : decode cX6_squeak 27 = .ok (.bipush 71, 2) := by decide +kernel
theorem dX6_squeak_29 : decode cX6_squeak 29 = .ok (.iload_n 2, 1) := by decide +kernel
theorem dX6_squeak_30 : decode cX6_squeak 30 = .ok (.iadd, 1) := by decide +kernel
theorem dX6_squeak_31 : decode cX6_squeak 31 = .ok (.iaload, 1) := by decide +kernel
theorem dX6_squeak_32 : decode cX6_squeak 32 = .ok (.isub, 1) := by decide +kernel
theorem dX6_squeak_33 : decode cX6_squeak 33 = .ok (.invokevirtual 57, 3) := by decide +kernel
theorem dX6_squeak_36 : decode cX6_squeak 36 = .ok (.invokevirtual 70, 3) := by decide +kernel
theorem dX6_squeak_39 : decode cX6_squeak 39 = .ok (.ireturn, 1) := by decide +kernel
theorem dX6_isGood_0 : decode cX6_isGood 0 = .ok (.aload_n 0, 1) := by decide +kernel
theorem dX6_isGood_1 : decode cX6_isGood 1 = .ok (.iload_n 1, 1) := by decide +kernel
theorem dX6_isGood_2 : decode cX6_isGood 2 = .ok (.invokevirtual 141, 3) := by decide +kernel
theorem dX6_isGood_5 : decode cX6_isGood 5 = .ok (.istore_n 2, 1) := by decide +kernel
theorem dX6_isGood_6 : decode cX6_isGood 6 = .ok (.aload_n 0, 1) := by decide +kernel
theorem dX6_isGood_7 : decode cX6_isGood 7 = .ok (.getfield 39, 3) := by decide +kernel
theorem dX6_isGood_10 : decode cX6_isGood 10 = .ok (.ifCond .ne 17, 3) := by decide +kernel
theorem dX6_isGood_13 : decode cX6_isGood 13 = .ok (.iload_n 2, 1) := by decide +kernel
theorem dX6_isGood_14 : decode cX6_isGood 14 = .ok (.aload_n 0, 1) := by decide +kernel
theorem dX6_isGood_15 : decode cX6_isGood 15 = .ok (.getfield 7, 3) := by decide +kernel
theorem dX6_isGood_18 : decode cX6_isGood 18 = .ok (.iconst 3, 1) := by decide +kernel
theorem dX6_isGood_19 : decode cX6_isGood 19 = .ok (.iaload, 1) := by decide +kernel
theorem dX6_isGood_20 : decode cX6_isGood 20 = .ok (.if_icmp .gt 7, 3) := by decide +kernel
theorem dX6_isGood_23 : decode cX6_isGood 23 = .ok (.iconst 1, 1) := by decide +kernel
theorem dX6_isGood_24 : decode cX6_isGood 24 = .ok (.goto 4, 3) := by decide +kernel
theorem dX6_isGood_27 : decode cX6_isGood 27 = .ok (.iconst 0, 1) := by decide +kernel
theorem dX6_isGood_28 : decode cX6_isGood 28 = .ok (.ireturn, 1) := by decide +kernel
theorem dX6_batchOf_0 : decode cX6_batchOf 0 = .ok (.aload_n 0, 1) := by decide +kernel
theorem dX6_batchOf_1 : decode cX6_batchOf 1 = .ok (.iload_n 1, 1) := by decide +kernel
theorem dX6_batchOf_2 : decode cX6_batchOf 2 = .ok (.invokevirtual 138, 3) := by decide +kernel
theorem dX6_batchOf_5 : decode cX6_batchOf 5 = .ok (.istore_n 2, 1) := by decide +kernel
theorem dX6_batchOf_6 : decode cX6_batchOf 6 = .ok (.iload_n 2, 1) := by decide +kernel
theorem dX6_batchOf_7 : decode cX6_batchOf 7 = .ok (.iconst (-1), 1) := by decide +kernel
theorem dX6_batchOf_8 : decode cX6_batchOf 8 = .ok (.if_icmp .ne 11, 3) := by decide +kernel
theorem dX6_batchOf_11 : decode cX6_batchOf 11 = .ok (.aload_n 0, 1) := by decide +kernel
theorem dX6_batchOf_12 : decode cX6_batchOf 12 = .ok (.iconst 1, 1) := by decide +kernel
theorem dX6_batchOf_13 : decode cX6_batchOf 13 = .ok (.invokevirtual 67, 3) := by decide +kernel
theorem dX6_batchOf_16 : decode cX6_batchOf 16 = .ok (.goto 16, 3) := by decide +kernel
theorem dX6_batchOf_19 : decode cX6_batchOf 19 = .ok (.aload_n 0, 1) := by decide +kernel
theorem dX6_batchOf_20 : decode cX6_batchOf 20 = .ok (.aload_n 0, 1) := by decide +kernel
theorem dX6_batchOf_21 : decode cX6_batchOf 21 = .ok (.getfield 7, 3) := by decide +kernel
theorem dX6_batchOf_24 : decode cX6_batchOf 24 = .ok (.bipush 47, 2) := by decide +kernel
theorem dX6_batchOf_26 : decode cX6_batchOf 26 = .ok (.iload_n 2, 1) := by decide +kernel
theorem dX6_batchOf_27 : decode cX6_batchOf 27 = .ok (.iadd, 1) := by decide +kernel
theorem dX6_batchOf_28 : decode cX6_batchOf 28 = .ok (.iaload, 1) := by decide +kernel
theorem dX6_batchOf_29 : decode cX6_batchOf 29 = .ok (.invokevirtual 70, 3) := by decide +kernel
theorem dX6_batchOf_32 : decode cX6_batchOf 32 = .ok (.ireturn, 1) := by decide +kernel
theorem dX6_goodBows_0 : decode cX6_goodBows 0 = .ok (.aload_n 0, 1) := by decide +kernel
theorem dX6_goodBows_1 : decode cX6_goodBows 1 = .ok (.iload_n 1, 1) := by decide +kernel
theorem dX6_goodBows_2 : decode cX6_goodBows 2 = .ok (.invokevirtual 113, 3) := by decide +kernel
theorem dX6_goodBows_5 : decode cX6_goodBows 5 = .ok (.istore_n 2, 1) := by decide +kernel
theorem dX6_goodBows_6 : decode cX6_goodBows 6 = .ok (.iload_n 2, 1) := by decide +kernel
theorem dX6_goodBows_7 : decode cX6_goodBows 7 = .ok (.iconst (-1), 1) := by decide +kernel
theorem dX6_goodBows_8 : decode cX6_goodBows 8 = .ok (.if_icmp .ne 9, 3) := by decide +kernel
theorem dX6_goodBows_11 : decode cX6_goodBows 11 = .ok (.aload_n 0, 1) := by decide +kernel
theorem dX6_goodBows_12 : decode cX6_goodBows 12 = .ok (.iconst 1, 1) := by decide +kernel
theorem dX6_goodBows_13 : decode cX6_goodBows 13 = .ok (.invokevirtual 67, 3) := by decide +kernel
theorem dX6_goodBows_16 : decode cX6_goodBows 16 = .ok (.ireturn, 1) := by decide +kernel
theorem dX6_goodBows_17 : decode cX6_goodBows 17 = .ok (.iconst 0, 1) := by decide +kernel
theorem dX6_goodBows_18 : decode cX6_goodBows 18 = .ok (.istore_n 3, 1) := by decide +kernel
theorem dX6_goodBows_19 : decode cX6_goodBows 19 = .ok (.iconst 0, 1) := by decide +kernel
theorem dX6_goodBows_20 : decode cX6_goodBows 20 = .ok (.istore 4, 2) := by decide +kernel
theorem dX6_goodBows_22 : decode cX6_goodBows 22 = .ok (.iload 4, 2) := by decide +kernel
theorem dX6_goodBows_24 : decode cX6_goodBows 24 = .ok (.aload_n 0, 1) := by decide +kernel
theorem dX6_goodBows_25 : decode cX6_goodBows 25 = .ok (.getfield 7, 3) := by decide +kernel
theorem dX6_goodBows_28 : decode cX6_goodBows 28 = .ok (.bipush 63, 2) := by decide +kernel
theorem dX6_goodBows_30 : decode cX6_goodBows 30 = .ok (.iload_n 2, 1) := by decide +kernel
theorem dX6_goodBows_31 : decode cX6_goodBows 31 = .ok (.iadd, 1) := by decide +kernel
theorem dX6_goodBows_32 : decode cX6_goodBows 32 = .ok (.iaload, 1) := by decide +kernel
theorem dX6_goodBows_33 : decode cX6_goodBows 33 = .ok (.if_icmp .ge 33, 3) := by decide +kernel
theorem dX6_goodBows_36 : decode cX6_goodBows 36 = .ok (.iload_n 3, 1) := by decide +kernel
theorem dX6_goodBows_37 : decode cX6_goodBows 37 = .ok (.aload_n 0, 1) := by decide +kernel
theorem dX6_goodBows_38 : decode cX6_goodBows 38 = .ok (.iload_n 2, 1) := by decide +kernel
theorem dX6_goodBows_39 : decode cX6_goodBows 39 = .ok (.iload 4, 2) := by decide +kernel
theorem dX6_goodBows_41 : decode cX6_goodBows 41 = .ok (.invokevirtual 57, 3) := by decide +kernel
theorem dX6_goodBows_44 : decode cX6_goodBows 44 = .ok (.aload_n 0, 1) := by decide +kernel
theorem dX6_goodBows_45 : decode cX6_goodBows 45 = .ok (.getfield 7, 3) := by decide +kernel
theorem dX6_goodBows_48 : decode cX6_goodBows 48 = .ok (.iconst 3, 1) := by decide +kernel
theorem dX6_goodBows_49 : decode cX6_goodBows 49 = .ok (.iaload, 1) := by decide +kernel
theorem dX6_goodBows_50 : decode cX6_goodBows 50 = .ok (.if_icmp .gt 7, 3) := by decide +kernel
theorem dX6_goodBows_53 : decode cX6_goodBows 53 = .ok (.iconst 1, 1) := by decide +kernel
theorem dX6_goodBows_54 : decode cX6_goodBows 54 = .ok (.goto 4, 3) := by decide +kernel
theorem dX6_goodBows_57 : decode cX6_goodBows 57 = .ok (.iconst 0, 1) := by decide +kernel
theorem dX6_goodBows_58 : decode cX6_goodBows 58 = .ok (.iadd, 1) := by decide +kernel
theorem dX6_goodBows_59 : decode cX6_goodBows 59 = .ok (.istore_n 3, 1) := by decide +kernel
theorem dX6_goodBows_60 : decode cX6_goodBows 60 = .ok (.iinc 4 1, 3) := by decide +kernel
theorem dX6_goodBows_63 : decode cX6_goodBows 63 = .ok (.goto (-41), 3) := by decide +kernel
theorem dX6_goodBows_66 : decode cX6_goodBows 66 = .ok (.aload_n 0, 1) := by decide +kernel
theorem dX6_goodBows_67 : decode cX6_goodBows 67 = .ok (.iload_n 3, 1) := by decide +kernel
theorem dX6_goodBows_68 : decode cX6_goodBows 68 = .ok (.invokevirtual 70, 3) := by decide +kernel
theorem dX6_goodBows_71 : decode cX6_goodBows 71 = .ok (.ireturn, 1) := by decide +kernel
theorem dX6_sampleSize_0 : decode cX6_sampleSize 0 = .ok (.aload_n 0, 1) := by decide +kernel
theorem dX6_sampleSize_1 : decode cX6_sampleSize 1 = .ok (.iload_n 1, 1) := by decide +kernel
theorem dX6_sampleSize_2 : decode cX6_sampleSize 2 = .ok (.invokevirtual 113, 3) := by decide +kernel
theorem dX6_sampleSize_5 : decode cX6_sampleSize 5 = .ok (.istore_n 2, 1) := by decide +kernel
theorem dX6_sampleSize_6 : decode cX6_sampleSize 6 = .ok (.iload_n 2, 1) := by decide +kernel
theorem dX6_sampleSize_7 : decode cX6_sampleSize 7 = .ok (.iconst (-1), 1) := by decide +kernel
theorem dX6_sampleSize_8 : decode cX6_sampleSize 8 = .ok (.if_icmp .ne 11, 3) := by decide +kernel
theorem dX6_sampleSize_11 : decode cX6_sampleSize 11 = .ok (.aload_n 0, 1) := by decide +kernel
theorem dX6_sampleSize_12 : decode cX6_sampleSize 12 = .ok (.iconst 1, 1) := by decide +kernel
theorem dX6_sampleSize_13 : decode cX6_sampleSize 13 = .ok (.invokevirtual 67, 3) := by decide +kernel
theorem dX6_sampleSize_16 : decode cX6_sampleSize 16 = .ok (.goto 12, 3) := by decide +kernel
theorem dX6_sampleSize_19 : decode cX6_sampleSize 19 = .ok (.aload_n 0, 1) := by decide +kernel
theorem dX6_sampleSize_20 : decode cX6_sampleSize 20 = .ok (.aload_n 0, 1) := by decide +kernel
theorem dX6_sampleSize_21 : decode cX6_sampleSize 21 = .ok (.iload_n 2, 1) := by decide +kernel
theorem dX6_sampleSize_22 : decode cX6_sampleSize 22 = .ok (.invokevirtual 63, 3) := by decide +kernel
theorem dX6_sampleSize_25 : decode cX6_sampleSize 25 = .ok (.invokevirtual 70, 3) := by decide +kernel
theorem dX6_sampleSize_28 : decode cX6_sampleSize 28 = .ok (.ireturn, 1) := by decide +kernel
theorem dX6_wouldPass_0 : decode cX6_wouldPass 0 = .ok (.aload_n 0, 1) := by decide +kernel
theorem dX6_wouldPass_1 : decode cX6_wouldPass 1 = .ok (.iload_n 1, 1) := by decide +kernel
theorem dX6_wouldPass_2 : decode cX6_wouldPass 2 = .ok (.invokevirtual 113, 3) := by decide +kernel
theorem dX6_wouldPass_5 : decode cX6_wouldPass 5 = .ok (.istore_n 2, 1) := by decide +kernel
theorem dX6_wouldPass_6 : decode cX6_wouldPass 6 = .ok (.aload_n 0, 1) := by decide +kernel
theorem dX6_wouldPass_7 : decode cX6_wouldPass 7 = .ok (.iload_n 2, 1) := by decide +kernel
theorem dX6_wouldPass_8 : decode cX6_wouldPass 8 = .ok (.iconst (-1), 1) := by decide +kernel
theorem dX6_wouldPass_9 : decode cX6_wouldPass 9 = .ok (.if_icmp .ne 7, 3) := by decide +kernel
theorem dX6_wouldPass_12 : decode cX6_wouldPass 12 = .ok (.iconst 1, 1) := by decide +kernel
theorem dX6_wouldPass_13 : decode cX6_wouldPass 13 = .ok (.goto 4, 3) := by decide +kernel
theorem dX6_wouldPass_16 : decode cX6_wouldPass 16 = .ok (.iconst 0, 1) := by decide +kernel
theorem dX6_wouldPass_17 : decode cX6_wouldPass 17 = .ok (.putfield 39, 3) := by decide +kernel
theorem dX6_wouldPass_20 : decode cX6_wouldPass 20 = .ok (.aload_n 0, 1) := by decide +kernel
theorem dX6_wouldPass_21 : decode cX6_wouldPass 21 = .ok (.getfield 39, 3) := by decide +kernel
theorem dX6_wouldPass_24 : decode cX6_wouldPass 24 = .ok (.ifCond .ne 21, 3) := by decide +kernel
theorem dX6_wouldPass_27 : decode cX6_wouldPass 27 = .ok (.aload_n 0, 1) := by decide +kernel
theorem dX6_wouldPass_28 : decode cX6_wouldPass 28 = .ok (.iload_n 2, 1) := by decide +kernel
theorem dX6_wouldPass_29 : decode cX6_wouldPass 29 = .ok (.aload_n 0, 1) := by decide +kernel
theorem dX6_wouldPass_30 : decode cX6_wouldPass 30 = .ok (.getfield 7, 3) := by decide +kernel
theorem dX6_wouldPass_33 : decode cX6_wouldPass 33 = .ok (.iconst 3, 1) := by decide +kernel
theorem dX6_wouldPass_34 : decode cX6_wouldPass 34 = .ok (.iaload, 1) := by decide +kernel
theorem dX6_wouldPass_35 : decode cX6_wouldPass 35 = .ok (.invokevirtual 116, 3) := by decide +kernel
theorem dX6_wouldPass_38 : decode cX6_wouldPass 38 = .ok (.ifCond .eq 7, 3) := by decide +kernel
theorem dX6_wouldPass_41 : decode cX6_wouldPass 41 = .ok (.iconst 1, 1) := by decide +kernel
theorem dX6_wouldPass_42 : decode cX6_wouldPass 42 = .ok (.goto 4, 3) := by decide +kernel
theorem dX6_wouldPass_45 : decode cX6_wouldPass 45 = .ok (.iconst 0, 1) := by decide +kernel
theorem dX6_wouldPass_46 : decode cX6_wouldPass 46 = .ok (.ireturn, 1) := by decide +kernel
theorem dX6_neededTolerance_0 : decode cX6_neededTolerance 0 = .ok (.aload_n 0, 1) := by decide +kernel
theorem dX6_neededTolerance_1 : decode cX6_neededTolerance 1 = .ok (.iload_n 1, 1) := by decide +kernel
theorem dX6_neededTolerance_2 : decode cX6_neededTolerance 2 = .ok (.invokevirtual 113, 3) := by decide +kernel
theorem dX6_neededTolerance_5 : decode cX6_neededTolerance 5 = .ok (.istore_n 2, 1) := by decide +kernel
theorem dX6_neededTolerance_6 : decode cX6_neededTolerance 6 = .ok (.iload_n 2, 1) := by decide +kernel
theorem dX6_neededTolerance_7 : decode cX6_neededTolerance 7 = .ok (.iconst (-1), 1) := by decide +kernel
theorem dX6_neededTolerance_8 : decode cX6_neededTolerance 8 = .ok (.if_icmp .ne 9, 3) := by decide +kernel
theorem dX6_neededTolerance_11 : decode cX6_neededTolerance 11 = .ok (.aload_n 0, 1) := by decide +kernel
theorem dX6_neededTolerance_12 : decode cX6_neededTolerance 12 = .ok (.iconst 1, 1) := by decide +kernel
theorem dX6_neededTolerance_13 : decode cX6_neededTolerance 13 = .ok (.invokevirtual 67, 3) := by decide +kernel
theorem dX6_neededTolerance_16 : decode cX6_neededTolerance 16 = .ok (.ireturn, 1) := by decide +kernel
theorem dX6_neededTolerance_17 : decode cX6_neededTolerance 17 = .ok (.iconst 0, 1) := by decide +kernel
theorem dX6_neededTolerance_18 : decode cX6_neededTolerance 18 = .ok (.istore_n 3, 1) := by decide +kernel
theorem dX6_neededTolerance_19 : decode cX6_neededTolerance 19 = .ok (.aload_n 0, 1) := by decide +kernel
theorem dX6_neededTolerance_20 : decode cX6_neededTolerance 20 = .ok (.iload_n 2, 1) := by decide +kernel
theorem dX6_neededTolerance_21 : decode cX6_neededTolerance 21 = .ok (.iload_n 3, 1) := by decide +kernel
theorem dX6_neededTolerance_22 : decode cX6_neededTolerance 22 = .ok (.invokevirtual 116, 3) := by decide +kernel
theorem dX6_neededTolerance_25 : decode cX6_neededTolerance 25 = .ok (.ifCond .ne 9, 3) := by decide +kernel
theorem dX6_neededTolerance_28 : decode cX6_neededTolerance 28 = .ok (.iinc 3 1, 3) := by decide +kernel
theorem dX6_neededTolerance_31 : decode cX6_neededTolerance 31 = .ok (.goto (-12), 3) := by decide +kernel
theorem dX6_neededTolerance_34 : decode cX6_neededTolerance 34 = .ok (.aload_n 0, 1) := by decide +kernel
theorem dX6_neededTolerance_35 : decode cX6_neededTolerance 35 = .ok (.iload_n 3, 1) := by decide +kernel
theorem dX6_neededTolerance_36 : decode cX6_neededTolerance 36 = .ok (.invokevirtual 70, 3) := by decide +kernel
theorem dX6_neededTolerance_39 : decode cX6_neededTolerance 39 = .ok (.ireturn, 1) := by decide +kernel
theorem dX6_neededToleranceByTrying_0 : decode cX6_neededToleranceByTrying 0 = .ok (.aload_n 0, 1) := by decide +kernel
theorem dX6_neededToleranceByTrying_1 : decode cX6_neededToleranceByTrying 1 = .ok (.iload_n 1, 1) := by decide +kernel
theorem dX6_neededToleranceByTrying_2 : decode cX6_neededToleranceByTrying 2 = .ok (.invokevirtual 144, 3) := by decide +kernel
theorem dX6_neededToleranceByTrying_5 : decode cX6_neededToleranceByTrying 5 = .ok (.ireturn, 1) := by decide +kernel
theorem dX6_nextSqueak_0 : decode cX6_nextSqueak 0 = .ok (.aload_n 0, 1) := by decide +kernel
theorem dX6_nextSqueak_1 : decode cX6_nextSqueak 1 = .ok (.iload_n 1, 1) := by decide +kernel
theorem dX6_nextSqueak_2 : decode cX6_nextSqueak 2 = .ok (.invokevirtual 93, 3) := by decide +kernel
theorem dX6_nextSqueak_5 : decode cX6_nextSqueak 5 = .ok (.ifCond .eq 24, 3) := by decide +kernel
theorem dX6_nextSqueak_8 : decode cX6_nextSqueak 8 = .ok (.aload_n 0, 1) := by decide +kernel
theorem dX6_nextSqueak_9 : decode cX6_nextSqueak 9 = .ok (.iload_n 2, 1) := by decide +kernel
theorem dX6_nextSqueak_10 : decode cX6_nextSqueak 10 = .ok (.invokevirtual 96, 3) := by decide +kernel
theorem dX6_nextSqueak_13 : decode cX6_nextSqueak 13 = .ok (.ifCond .eq 16, 3) := by decide +kernel
theorem dX6_nextSqueak_16 : decode cX6_nextSqueak 16 = .ok (.aload_n 0, 1) := by decide +kernel
theorem dX6_nextSqueak_17 : decode cX6_nextSqueak 17 = .ok (.aload_n 0, 1) := by decide +kernel
theorem dX6_nextSqueak_18 : decode cX6_nextSqueak 18 = .ok (.iload_n 1, 1) := by decide +kernel
theorem dX6_nextSqueak_19 : decode cX6_nextSqueak 19 = .ok (.iload_n 2, 1) := by decide +kernel
theorem dX6_nextSqueak_20 : decode cX6_nextSqueak 20 = .ok (.invokevirtual 103, 3) := by decide +kernel
theorem dX6_nextSqueak_23 : decode cX6_nextSqueak 23 = .ok (.invokevirtual 70, 3) := by decide +kernel
theorem dX6_nextSqueak_26 : decode cX6_nextSqueak 26 = .ok (.goto 8, 3) := by decide +kernel
theorem dX6_nextSqueak_29 : decode cX6_nextSqueak 29 = .ok (.aload_n 0, 1) := by decide +kernel
theorem dX6_nextSqueak_30 : decode cX6_nextSqueak 30 = .ok (.iconst 1, 1) := by decide +kernel
theorem dX6_nextSqueak_31 : decode cX6_nextSqueak 31 = .ok (.invokevirtual 67, 3) := by decide +kernel
theorem dX6_nextSqueak_34 : decode cX6_nextSqueak 34 = .ok (.ireturn, 1) := by decide +kernel
theorem dX6_possibleBows_0 : decode cX6_possibleBows 0 = .ok (.aload_n 0, 1) := by decide +kernel
theorem dX6_possibleBows_1 : decode cX6_possibleBows 1 = .ok (.iload_n 1, 1) := by decide +kernel
theorem dX6_possibleBows_2 : decode cX6_possibleBows 2 = .ok (.invokevirtual 93, 3) := by decide +kernel
theorem dX6_possibleBows_5 : decode cX6_possibleBows 5 = .ok (.ifCond .ne 9, 3) := by decide +kernel
theorem dX6_possibleBows_8 : decode cX6_possibleBows 8 = .ok (.aload_n 0, 1) := by decide +kernel
theorem dX6_possibleBows_9 : decode cX6_possibleBows 9 = .ok (.iconst 1, 1) := by decide +kernel
theorem dX6_possibleBows_10 : decode cX6_possibleBows 10 = .ok (.invokevirtual 67, 3) := by decide +kernel
theorem dX6_possibleBows_13 : decode cX6_possibleBows 13 = .ok (.ireturn, 1) := by decide +kernel
theorem dX6_possibleBows_14 : decode cX6_possibleBows 14 = .ok (.iconst 0, 1) := by decide +kernel
theorem dX6_possibleBows_15 : decode cX6_possibleBows 15 = .ok (.istore_n 2, 1) := by decide +kernel
theorem dX6_possibleBows_16 : decode cX6_possibleBows 16 = .ok (.aload_n 0, 1) := by decide +kernel
theorem dX6_possibleBows_17 : decode cX6_possibleBows 17 = .ok (.iload_n 1, 1) := by decide +kernel
theorem dX6_possibleBows_18 : decode cX6_possibleBows 18 = .ok (.iload_n 2, 1) := by decide +kernel
theorem dX6_possibleBows_19 : decode cX6_possibleBows 19 = .ok (.iconst 1, 1) := by decide +kernel
theorem dX6_possibleBows_20 : decode cX6_possibleBows 20 = .ok (.iadd, 1) := by decide +kernel
theorem dX6_possibleBows_21 : decode cX6_possibleBows 21 = .ok (.invokevirtual 99, 3) := by decide +kernel
theorem dX6_possibleBows_24 : decode cX6_possibleBows 24 = .ok (.ifCond .eq 9, 3) := by decide +kernel
theorem dX6_possibleBows_27 : decode cX6_possibleBows 27 = .ok (.iinc 2 1, 3) := by decide +kernel
theorem dX6_possibleBows_30 : decode cX6_possibleBows 30 = .ok (.goto (-14), 3) := by decide +kernel
theorem dX6_possibleBows_33 : decode cX6_possibleBows 33 = .ok (.aload_n 0, 1) := by decide +kernel
theorem dX6_possibleBows_34 : decode cX6_possibleBows 34 = .ok (.iload_n 2, 1) := by decide +kernel
theorem dX6_possibleBows_35 : decode cX6_possibleBows 35 = .ok (.invokevirtual 70, 3) := by decide +kernel
theorem dX6_possibleBows_38 : decode cX6_possibleBows 38 = .ok (.ireturn, 1) := by decide +kernel
theorem dX6_metalInBatches_0 : decode cX6_metalInBatches 0 = .ok (.iload_n 1, 1) := by decide +kernel
theorem dX6_metalInBatches_1 : decode cX6_metalInBatches 1 = .ok (.invokestatic 86, 3) := by decide +kernel
theorem dX6_metalInBatches_4 : decode cX6_metalInBatches 4 = .ok (.ifCond .ne 9, 3) := by decide +kernel
theorem dX6_metalInBatches_7 : decode cX6_metalInBatches 7 = .ok (.aload_n 0, 1) := by decide +kernel
theorem dX6_metalInBatches_8 : decode cX6_metalInBatches 8 = .ok (.iconst 1, 1) := by decide +kernel
theorem dX6_metalInBatches_9 : decode cX6_metalInBatches 9 = .ok (.invokevirtual 67, 3) := by decide +kernel
theorem dX6_metalInBatches_12 : decode cX6_metalInBatches 12 = .ok (.ireturn, 1) := by decide +kernel
theorem dX6_metalInBatches_13 : decode cX6_metalInBatches 13 = .ok (.iconst 0, 1) := by decide +kernel
theorem dX6_metalInBatches_14 : decode cX6_metalInBatches 14 = .ok (.istore_n 2, 1) := by decide +kernel
theorem dX6_metalInBatches_15 : decode cX6_metalInBatches 15 = .ok (.iconst 0, 1) := by decide +kernel
theorem dX6_metalInBatches_16 : decode cX6_metalInBatches 16 = .ok (.istore_n 3, 1) := by decide +kernel
theorem dX6_metalInBatches_17 : decode cX6_metalInBatches 17 = .ok (.iload_n 3, 1) := by decide +kernel
theorem dX6_metalInBatches_18 : decode cX6_metalInBatches 18 = .ok (.aload_n 0, 1) := by decide +kernel
theorem dX6_metalInBatches_19 : decode cX6_metalInBatches 19 = .ok (.getfield 7, 3) := by decide +kernel
theorem dX6_metalInBatches_22 : decode cX6_metalInBatches 22 = .ok (.bipush 7, 2) := by decide +kernel
theorem dX6_metalInBatches_24 : decode cX6_metalInBatches 24 = .ok (.iaload, 1) := by decide +kernel
theorem dX6_metalInBatches_25 : decode cX6_metalInBatches 25 = .ok (.if_icmp .ge 36, 3) := by decide +kernel
theorem dX6_metalInBatches_28 : decode cX6_metalInBatches 28 = .ok (.iload_n 2, 1) := by decide +kernel
theorem dX6_metalInBatches_29 : decode cX6_metalInBatches 29 = .ok (.aload_n 0, 1) := by decide +kernel
theorem dX6_metalInBatches_30 : decode cX6_metalInBatches 30 = .ok (.getfield 7, 3) := by decide +kernel
theorem dX6_metalInBatches_33 : decode cX6_metalInBatches 33 = .ok (.bipush 63, 2) := by decide +kernel
theorem dX6_metalInBatches_35 : decode cX6_metalInBatches 35 = .ok (.iload_n 3, 1) := by decide +kernel
theorem dX6_metalInBatches_36 : decode cX6_metalInBatches 36 = .ok (.iadd, 1) := by decide +kernel
theorem dX6_metalInBatches_37 : decode cX6_metalInBatches 37 = .ok (.iaload, 1) := by decide +kernel
theorem dX6_metalInBatches_38 : decode cX6_metalInBatches 38 = .ok (.aload_n 0, 1) := by decide +kernel
theorem dX6_metalInBatches_39 : decode cX6_metalInBatches 39 = .ok (.aload_n 0, 1) := by decide +kernel
theorem dX6_metalInBatches_40 : decode cX6_metalInBatches 40 = .ok (.getfield 7, 3) := by decide +kernel
theorem dX6_metalInBatches_43 : decode cX6_metalInBatches 43 = .ok (.bipush 55, 2) := by decide +kernel
theorem dX6_metalInBatches_45 : decode cX6_metalInBatches 45 = .ok (.iload_n 3, 1) := by decide +kernel
theorem dX6_metalInBatches_46 : decode cX6_metalInBatches 46 = .ok (.iadd, 1) := by decide +kernel
theorem dX6_metalInBatches_47 : decode cX6_metalInBatches 47 = .ok (.iaload, 1) := by decide +kernel
theorem dX6_metalInBatches_48 : decode cX6_metalInBatches 48 = .ok (.iload_n 1, 1) := by decide +kernel
theorem dX6_metalInBatches_49 : decode cX6_metalInBatches 49 = .ok (.invokevirtual 53, 3) := by decide +kernel
theorem dX6_metalInBatches_52 : decode cX6_metalInBatches 52 = .ok (.imul, 1) := by decide +kernel
theorem dX6_metalInBatches_53 : decode cX6_metalInBatches 53 = .ok (.iadd, 1) := by decide +kernel
theorem dX6_metalInBatches_54 : decode cX6_metalInBatches 54 = .ok (.istore_n 2, 1) := by decide +kernel
theorem dX6_metalInBatches_55 : decode cX6_metalInBatches 55 = .ok (.iinc 3 1, 3) := by decide +kernel
theorem dX6_metalInBatches_58 : decode cX6_metalInBatches 58 = .ok (.goto (-41), 3) := by decide +kernel
theorem dX6_metalInBatches_61 : decode cX6_metalInBatches 61 = .ok (.aload_n 0, 1) := by decide +kernel
theorem dX6_metalInBatches_62 : decode cX6_metalInBatches 62 = .ok (.iload_n 2, 1) := by decide +kernel
theorem dX6_metalInBatches_63 : decode cX6_metalInBatches 63 = .ok (.invokevirtual 70, 3) := by decide +kernel
theorem dX6_metalInBatches_66 : decode cX6_metalInBatches 66 = .ok (.ireturn, 1) := by decide +kernel
theorem dX6_metalByAccounts_0 : decode cX6_metalByAccounts 0 = .ok (.aload_n 0, 1) := by decide +kernel
theorem dX6_metalByAccounts_1 : decode cX6_metalByAccounts 1 = .ok (.iload_n 1, 1) := by decide +kernel
theorem dX6_metalByAccounts_2 : decode cX6_metalByAccounts 2 = .ok (.invokevirtual 147, 3) := by decide +kernel
theorem dX6_metalByAccounts_5 : decode cX6_metalByAccounts 5 = .ok (.ireturn, 1) := by decide +kernel
theorem dX6_sumOf_0 : decode cX6_sumOf 0 = .ok (.iconst 0, 1) := by decide +kernel
theorem dX6_sumOf_1 : decode cX6_sumOf 1 = .ok (.istore_n 2, 1) := by decide +kernel
theorem dX6_sumOf_2 : decode cX6_sumOf 2 = .ok (.iconst 0, 1) := by decide +kernel
theorem dX6_sumOf_3 : decode cX6_sumOf 3 = .ok (.istore_n 3, 1) := by decide +kernel
theorem dX6_sumOf_4 : decode cX6_sumOf 4 = .ok (.iload_n 3, 1) := by decide +kernel
theorem dX6_sumOf_5 : decode cX6_sumOf 5 = .ok (.aload_n 0, 1) := by decide +kernel
theorem dX6_sumOf_6 : decode cX6_sumOf 6 = .ok (.getfield 7, 3) := by decide +kernel
theorem dX6_sumOf_9 : decode cX6_sumOf 9 = .ok (.bipush 63, 2) := by decide +kernel
theorem dX6_sumOf_11 : decode cX6_sumOf 11 = .ok (.iload_n 1, 1) := by decide +kernel
theorem dX6_sumOf_12 : decode cX6_sumOf 12 = .ok (.iadd, 1) := by decide +kernel
theorem dX6_sumOf_13 : decode cX6_sumOf 13 = .ok (.iaload, 1) := by decide +kernel
theorem dX6_sumOf_14 : decode cX6_sumOf 14 = .ok (.if_icmp .ge 18, 3) := by decide +kernel
theorem dX6_sumOf_17 : decode cX6_sumOf 17 = .ok (.iload_n 2, 1) := by decide +kernel
theorem dX6_sumOf_18 : decode cX6_sumOf 18 = .ok (.aload_n 0, 1) := by decide +kernel
theorem dX6_sumOf_19 : decode cX6_sumOf 19 = .ok (.iload_n 1, 1) := by decide +kernel
theorem dX6_sumOf_20 : decode cX6_sumOf 20 = .ok (.iload_n 3, 1) := by decide +kernel
theorem dX6_sumOf_21 : decode cX6_sumOf 21 = .ok (.invokevirtual 57, 3) := by decide +kernel
theorem dX6_sumOf_24 : decode cX6_sumOf 24 = .ok (.iadd, 1) := by decide +kernel
theorem dX6_sumOf_25 : decode cX6_sumOf 25 = .ok (.istore_n 2, 1) := by decide +kernel
theorem dX6_sumOf_26 : decode cX6_sumOf 26 = .ok (.iinc 3 1, 3) := by decide +kernel
theorem dX6_sumOf_29 : decode cX6_sumOf 29 = .ok (.goto (-25), 3) := by decide +kernel
theorem dX6_sumOf_32 : decode cX6_sumOf 32 = .ok (.iload_n 2, 1) := by decide +kernel
theorem dX6_sumOf_33 : decode cX6_sumOf 33 = .ok (.ireturn, 1) := by decide +kernel
theorem dX6_batchBySqueak_0 : decode cX6_batchBySqueak 0 = .ok (.iconst 0, 1) := by decide +kernel
theorem dX6_batchBySqueak_1 : decode cX6_batchBySqueak 1 = .ok (.istore_n 2, 1) := by decide +kernel
theorem dX6_batchBySqueak_2 : decode cX6_batchBySqueak 2 = .ok (.iload_n 2, 1) := by decide +kernel
theorem dX6_batchBySqueak_3 : decode cX6_batchBySqueak 3 = .ok (.aload_n 0, 1) := by decide +kernel
theorem dX6_batchBySqueak_4 : decode cX6_batchBySqueak 4 = .ok (.getfield 7, 3) := by decide +kernel
theorem dX6_batchBySqueak_7 : decode cX6_batchBySqueak 7 = .ok (.bipush 7, 2) := by decide +kernel
theorem dX6_batchBySqueak_9 : decode cX6_batchBySqueak 9 = .ok (.iaload, 1) := by decide +kernel
theorem dX6_batchBySqueak_10 : decode cX6_batchBySqueak 10 = .ok (.if_icmp .ge 93, 3) := by decide +kernel
theorem dX6_batchBySqueak_13 : decode cX6_batchBySqueak 13 = .ok (.iconst 0, 1) := by decide +kernel
theorem dX6_batchBySqueak_14 : decode cX6_batchBySqueak 14 = .ok (.istore_n 3, 1) := by decide +kernel
theorem dX6_batchBySqueak_15 : decode cX6_batchBySqueak 15 = .ok (.iconst 0, 1) := by decide +kernel
theorem dX6_batchBySqueak_16 : decode cX6_batchBySqueak 16 = .ok (.istore 4, 2) := by decide +kernel
theorem dX6_batchBySqueak_18 : decode cX6_batchBySqueak 18 = .ok (.iload 4, 2) := by decide +kernel
theorem dX6_batchBySqueak_20 : decode cX6_batchBySqueak 20 = .ok (.aload_n 0, 1) := by decide +kernel
theorem dX6_batchBySqueak_21 : decode cX6_batchBySqueak 21 = .ok (.getfield 7, 3) := by decide +kernel
theorem dX6_batchBySqueak_24 : decode cX6_batchBySqueak 24 = .ok (.bipush 7, 2) := by decide +kernel
theorem dX6_batchBySqueak_26 : decode cX6_batchBySqueak 26 = .ok (.iaload, 1) := by decide +kernel
theorem dX6_batchBySqueak_27 : decode cX6_batchBySqueak 27 = .ok (.if_icmp .ge 51, 3) := by decide +kernel
theorem dX6_batchBySqueak_30 : decode cX6_batchBySqueak 30 = .ok (.iload_n 3, 1) := by decide +kernel
theorem dX6_batchBySqueak_31 : decode cX6_batchBySqueak 31 = .ok (.aload_n 0, 1) := by decide +kernel
theorem dX6_batchBySqueak_32 : decode cX6_batchBySqueak 32 = .ok (.iload 4, 2) := by decide +kernel
theorem dX6_batchBySqueak_34 : decode cX6_batchBySqueak 34 = .ok (.invokevirtual 150, 3) := by decide +kernel
theorem dX6_batchBySqueak_37 : decode cX6_batchBySqueak 37 = .ok (.aload_n 0, 1) := by decide +kernel
theorem dX6_batchBySqueak_38 : decode cX6_batchBySqueak 38 = .ok (.iload_n 2, 1) := by decide +kernel
theorem dX6_batchBySqueak_39 : decode cX6_batchBySqueak 39 = .ok (.invokevirtual 150, 3) := by decide +kernel
theorem dX6_batchBySqueak_42 : decode cX6_batchBySqueak 42 = .ok (.if_icmp .lt 23, 3) := by decide +kernel
theorem dX6_batchBySqueak_45 : decode cX6_batchBySqueak 45 = .ok (.aload_n 0, 1) := by decide +kernel
theorem dX6_batchBySqueak_46 : decode cX6_batchBySqueak 46 = .ok (.iload 4, 2) := by decide +kernel
theorem dX6_batchBySqueak_48 : decode cX6_batchBySqueak 48 = .ok (.invokevirtual 150, 3) := by decide +kernel
theorem dX6_batchBySqueak_51 : decode cX6_batchBySqueak 51 = .ok (.aload_n 0, 1) := by decide +kernel
theorem dX6_batchBySqueak_52 : decode cX6_batchBySqueak 52 = .ok (.iload_n 2, 1) := by decide +kernel
theorem dX6_batchBySqueak_53 : decode cX6_batchBySqueak 53 = .ok (.invokevirtual 150, 3) := by decide +kernel
theorem dX6_batchBySqueak_56 : decode cX6_batchBySqueak 56 = .ok (.if_icmp .ne 13, 3) := by decide +kernel
theorem dX6_batchBySqueak_59 : decode cX6_batchBySqueak 59 = .ok (.iload 4, 2) := by decide +kernel
theorem dX6_batchBySqueak_61 : decode cX6_batchBySqueak 61 = .ok (.iload_n 2, 1) := by decide +kernel
theorem dX6_batchBySqueak_62 : decode cX6_batchBySqueak 62 = .ok (.if_icmp .ge 7, 3) := by decide +kernel
theorem dX6_batchBySqueak_65 : decode cX6_batchBySqueak 65 = .ok (.iconst 1, 1) := by decide +kernel
theorem dX6_batchBySqueak_66 : decode cX6_batchBySqueak 66 = .ok (.goto 4, 3) := by decide +kernel
theorem dX6_batchBySqueak_69 : decode cX6_batchBySqueak 69 = .ok (.iconst 0, 1) := by decide +kernel
theorem dX6_batchBySqueak_70 : decode cX6_batchBySqueak 70 = .ok (.iadd, 1) := by decide +kernel
theorem dX6_batchBySqueak_71 : decode cX6_batchBySqueak 71 = .ok (.istore_n 3, 1) := by decide +kernel
theorem dX6_batchBySqueak_72 : decode cX6_batchBySqueak 72 = .ok (.iinc 4 1, 3) := by decide +kernel
theorem dX6_batchBySqueak_75 : decode cX6_batchBySqueak 75 = .ok (.goto (-57), 3) := by decide +kernel
theorem dX6_batchBySqueak_78 : decode cX6_batchBySqueak 78 = .ok (.iload_n 3, 1) := by decide +kernel
theorem dX6_batchBySqueak_79 : decode cX6_batchBySqueak 79 = .ok (.iload_n 1, 1) := by decide +kernel
theorem dX6_batchBySqueak_80 : decode cX6_batchBySqueak 80 = .ok (.if_icmp .ne 17, 3) := by decide +kernel
theorem dX6_batchBySqueak_83 : decode cX6_batchBySqueak 83 = .ok (.aload_n 0, 1) := by decide +kernel
theorem dX6_batchBySqueak_84 : decode cX6_batchBySqueak 84 = .ok (.aload_n 0, 1) := by decide +kernel
theorem dX6_batchBySqueak_85 : decode cX6_batchBySqueak 85 = .ok (.getfield 7, 3) := by decide +kernel
theorem dX6_batchBySqueak_88 : decode cX6_batchBySqueak 88 = .ok (.bipush 47, 2) := by decide +kernel
theorem dX6_batchBySqueak_90 : decode cX6_batchBySqueak 90 = .ok (.iload_n 2, 1) := by decide +kernel
theorem dX6_batchBySqueak_91 : decode cX6_batchBySqueak 91 = .ok (.iadd, 1) := by decide +kernel
theorem dX6_batchBySqueak_92 : decode cX6_batchBySqueak 92 = .ok (.iaload, 1) := by decide +kernel
theorem dX6_batchBySqueak_93 : decode cX6_batchBySqueak 93 = .ok (.invokevirtual 70, 3) := by decide +kernel
theorem dX6_batchBySqueak_96 : decode cX6_batchBySqueak 96 = .ok (.ireturn, 1) := by decide +kernel
theorem dX6_batchBySqueak_97 : decode cX6_batchBySqueak 97 = .ok (.iinc 2 1, 3) := by decide +kernel
theorem dX6_batchBySqueak_100 : decode cX6_batchBySqueak 100 = .ok (.goto (-98), 3) := by decide +kernel
theorem dX6_batchBySqueak_103 : decode cX6_batchBySqueak 103 = .ok (.aload_n 0, 1) := by decide +kernel
theorem dX6_batchBySqueak_104 : decode cX6_batchBySqueak 104 = .ok (.iconst 1, 1) := by decide +kernel
theorem dX6_batchBySqueak_105 : decode cX6_batchBySqueak 105 = .ok (.invokevirtual 67, 3) := by decide +kernel
theorem dX6_batchBySqueak_108 : decode cX6_batchBySqueak 108 = .ok (.ireturn, 1) := by decide +kernel
theorem dX6_castTotal_0 : decode cX6_castTotal 0 = .ok (.aload_n 0, 1) := by decide +kernel
theorem dX6_castTotal_1 : decode cX6_castTotal 1 = .ok (.aload_n 0, 1) := by decide +kernel
theorem dX6_castTotal_2 : decode cX6_castTotal 2 = .ok (.getfield 7, 3) := by decide +kernel
theorem dX6_castTotal_5 : decode cX6_castTotal 5 = .ok (.bipush 9, 2) := by decide +kernel
theorem dX6_castTotal_7 : decode cX6_castTotal 7 = .ok (.iaload, 1) := by decide +kernel
theorem dX6_castTotal_8 : decode cX6_castTotal 8 = .ok (.invokevirtual 70, 3) := by decide +kernel
theorem dX6_castTotal_11 : decode cX6_castTotal 11 = .ok (.ireturn, 1) := by decide +kernel
theorem dX6_soldTotal_0 : decode cX6_soldTotal 0 = .ok (.aload_n 0, 1) := by decide +kernel
theorem dX6_soldTotal_1 : decode cX6_soldTotal 1 = .ok (.aload_n 0, 1) := by decide +kernel
theorem dX6_soldTotal_2 : decode cX6_soldTotal 2 = .ok (.getfield 7, 3) := by decide +kernel
theorem dX6_soldTotal_5 : decode cX6_soldTotal 5 = .ok (.bipush 10, 2) := by decide +kernel
theorem dX6_soldTotal_7 : decode cX6_soldTotal 7 = .ok (.iaload, 1) := by decide +kernel
theorem dX6_soldTotal_8 : decode cX6_soldTotal 8 = .ok (.invokevirtual 70, 3) := by decide +kernel
theorem dX6_soldTotal_11 : decode cX6_soldTotal 11 = .ok (.ireturn, 1) := by decide +kernel
theorem dX6_meltedTotal_0 : decode cX6_meltedTotal 0 = .ok (.aload_n 0, 1) := by decide +kernel
theorem dX6_meltedTotal_1 : decode cX6_meltedTotal 1 = .ok (.aload_n 0, 1) := by decide +kernel
theorem dX6_meltedTotal_2 : decode cX6_meltedTotal 2 = .ok (.getfield 7, 3) := by decide +kernel
theorem dX6_meltedTotal_5 : decode cX6_meltedTotal 5 = .ok (.bipush 11, 2) := by decide +kernel
theorem dX6_meltedTotal_7 : decode cX6_meltedTotal 7 = .ok (.iaload, 1) := by decide +kernel
theorem dX6_meltedTotal_8 : decode cX6_meltedTotal 8 = .ok (.invokevirtual 70, 3) := by decide +kernel
theorem dX6_meltedTotal_11 : decode cX6_meltedTotal 11 = .ok (.ireturn, 1) := by decide +kernel
theorem dX6_lostGrams_0 : decode cX6_lostGrams 0 = .ok (.iload_n 1, 1) := by decide +kernel
theorem dX6_lostGrams_1 : decode cX6_lostGrams 1 = .ok (.invokestatic 86, 3) := by decide +kernel
theorem dX6_lostGrams_4 : decode cX6_lostGrams 4 = .ok (.ifCond .eq 19, 3) := by decide +kernel
theorem dX6_lostGrams_7 : decode cX6_lostGrams 7 = .ok (.aload_n 0, 1) := by decide +kernel
theorem dX6_lostGrams_8 : decode cX6_lostGrams 8 = .ok (.aload_n 0, 1) := by decide +kernel
theorem dX6_lostGrams_9 : decode cX6_lostGrams 9 = .ok (.getfield 7, 3) := by decide +kernel
theorem dX6_lostGrams_12 : decode cX6_lostGrams 12 = .ok (.bipush 18, 2) := by decide +kernel
theorem dX6_lostGrams_14 : decode cX6_lostGrams 14 = .ok (.iload_n 1, 1) := by decide +kernel
theorem dX6_lostGrams_15 : decode cX6_lostGrams 15 = .ok (.iadd, 1) := by decide +kernel
theorem dX6_lostGrams_16 : decode cX6_lostGrams 16 = .ok (.iaload, 1) := by decide +kernel
theorem dX6_lostGrams_17 : decode cX6_lostGrams 17 = .ok (.invokevirtual 70, 3) := by decide +kernel
theorem dX6_lostGrams_20 : decode cX6_lostGrams 20 = .ok (.goto 8, 3) := by decide +kernel
theorem dX6_lostGrams_23 : decode cX6_lostGrams 23 = .ok (.aload_n 0, 1) := by decide +kernel
theorem dX6_lostGrams_24 : decode cX6_lostGrams 24 = .ok (.iconst 1, 1) := by decide +kernel
theorem dX6_lostGrams_25 : decode cX6_lostGrams 25 = .ok (.invokevirtual 67, 3) := by decide +kernel
theorem dX6_lostGrams_28 : decode cX6_lostGrams 28 = .ok (.ireturn, 1) := by decide +kernel
theorem dX6_meanSqueak_0 : decode cX6_meanSqueak 0 = .ok (.iconst 0, 1) := by decide +kernel
theorem dX6_meanSqueak_1 : decode cX6_meanSqueak 1 = .ok (.istore_n 1, 1) := by decide +kernel
theorem dX6_meanSqueak_2 : decode cX6_meanSqueak 2 = .ok (.iconst 0, 1) := by decide +kernel
theorem dX6_meanSqueak_3 : decode cX6_meanSqueak 3 = .ok (.istore_n 2, 1) := by decide +kernel
theorem dX6_meanSqueak_4 : decode cX6_meanSqueak 4 = .ok (.iconst 0, 1) := by decide +kernel
theorem dX6_meanSqueak_5 : decode cX6_meanSqueak 5 = .ok (.istore_n 3, 1) := by decide +kernel
theorem dX6_meanSqueak_6 : decode cX6_meanSqueak 6 = .ok (.iload_n 3, 1) := by decide +kernel
theorem dX6_meanSqueak_7 : decode cX6_meanSqueak 7 = .ok (.aload_n 0, 1) := by decide +kernel
theorem dX6_meanSqueak_8 : decode cX6_meanSqueak 8 = .ok (.getfield 7, 3) := by decide +kernel
theorem dX6_meanSqueak_11 : decode cX6_meanSqueak 11 = .ok (.bipush 7, 2) := by decide +kernel
theorem dX6_meanSqueak_13 : decode cX6_meanSqueak 13 = .ok (.iaload, 1) := by decide +kernel
theorem dX6_meanSqueak_14 : decode cX6_meanSqueak 14 = .ok (.if_icmp .ge 29, 3) := by decide +kernel
theorem dX6_meanSqueak_17 : decode cX6_meanSqueak 17 = .ok (.iload_n 1, 1) := by decide +kernel
theorem dX6_meanSqueak_18 : decode cX6_meanSqueak 18 = .ok (.aload_n 0, 1) := by decide +kernel
theorem dX6_meanSqueak_19 : decode cX6_meanSqueak 19 = .ok (.iload_n 3, 1) := by decide +kernel
theorem dX6_meanSqueak_20 : decode cX6_meanSqueak 20 = .ok (.invokevirtual 150, 3) := by decide +kernel
theorem dX6_meanSqueak_23 : decode cX6_meanSqueak 23 = .ok (.iadd, 1) := by decide +kernel
theorem dX6_meanSqueak_24 : decode cX6_meanSqueak 24 = .ok (.istore_n 1, 1) := by decide +kernel
theorem dX6_meanSqueak_25 : decode cX6_meanSqueak 25 = .ok (.iload_n 2, 1) := by decide +kernel
theorem dX6_meanSqueak_26 : decode cX6_meanSqueak 26 = .ok (.aload_n 0, 1) := by decide +kernel
theorem dX6_meanSqueak_27 : decode cX6_meanSqueak 27 = .ok (.getfield 7, 3) := by decide +kernel
theorem dX6_meanSqueak_30 : decode cX6_meanSqueak 30 = .ok (.bipush 63, 2) := by decide +kernel
theorem dX6_meanSqueak_32 : decode cX6_meanSqueak 32 = .ok (.iload_n 3, 1) := by decide +kernel
theorem dX6_meanSqueak_33 : decode cX6_meanSqueak 33 = .ok (.iadd, 1) := by decide +kernel
theorem dX6_meanSqueak_34 : decode cX6_meanSqueak 34 = .ok (.iaload, 1) := by decide +kernel
theorem dX6_meanSqueak_35 : decode cX6_meanSqueak 35 = .ok (.iadd, 1) := by decide +kernel
theorem dX6_meanSqueak_36 : decode cX6_meanSqueak 36 = .ok (.istore_n 2, 1) := by decide +kernel
theorem dX6_meanSqueak_37 : decode cX6_meanSqueak 37 = .ok (.iinc 3 1, 3) := by decide +kernel
theorem dX6_meanSqueak_40 : decode cX6_meanSqueak 40 = .ok (.goto (-34), 3) := by decide +kernel
theorem dX6_meanSqueak_43 : decode cX6_meanSqueak 43 = .ok (.aload_n 0, 1) := by decide +kernel
theorem dX6_meanSqueak_44 : decode cX6_meanSqueak 44 = .ok (.iload_n 2, 1) := by decide +kernel
theorem dX6_meanSqueak_45 : decode cX6_meanSqueak 45 = .ok (.ifCond .ne 7, 3) := by decide +kernel
theorem dX6_meanSqueak_48 : decode cX6_meanSqueak 48 = .ok (.iconst 1, 1) := by decide +kernel
theorem dX6_meanSqueak_49 : decode cX6_meanSqueak 49 = .ok (.goto 4, 3) := by decide +kernel
theorem dX6_meanSqueak_52 : decode cX6_meanSqueak 52 = .ok (.iconst 0, 1) := by decide +kernel
theorem dX6_meanSqueak_53 : decode cX6_meanSqueak 53 = .ok (.putfield 39, 3) := by decide +kernel
theorem dX6_meanSqueak_56 : decode cX6_meanSqueak 56 = .ok (.aload_n 0, 1) := by decide +kernel
theorem dX6_meanSqueak_57 : decode cX6_meanSqueak 57 = .ok (.getfield 39, 3) := by decide +kernel
theorem dX6_meanSqueak_60 : decode cX6_meanSqueak 60 = .ok (.ifCond .ne 11, 3) := by decide +kernel
theorem dX6_meanSqueak_63 : decode cX6_meanSqueak 63 = .ok (.iload_n 1, 1) := by decide +kernel
theorem dX6_meanSqueak_64 : decode cX6_meanSqueak 64 = .ok (.i2d, 1) := by decide +kernel
theorem dX6_meanSqueak_65 : decode cX6_meanSqueak 65 = .ok (.iload_n 2, 1) := by decide +kernel
theorem dX6_meanSqueak_66 : decode cX6_meanSqueak 66 = .ok (.i2d, 1) := by decide +kernel
theorem dX6_meanSqueak_67 : decode cX6_meanSqueak 67 = .ok (.ddiv, 1) := by decide +kernel
theorem dX6_meanSqueak_68 : decode cX6_meanSqueak 68 = .ok (.goto 4, 3) := by decide +kernel
theorem dX6_meanSqueak_71 : decode cX6_meanSqueak 71 = .ok (.dconst 0, 1) := by decide +kernel
theorem dX6_meanSqueak_72 : decode cX6_meanSqueak 72 = .ok (.dreturn, 1) := by decide +kernel
theorem dX6_soldShare_0 : decode cX6_soldShare 0 = .ok (.aload_n 0, 1) := by decide +kernel
theorem dX6_soldShare_1 : decode cX6_soldShare 1 = .ok (.aload_n 0, 1) := by decide +kernel
theorem dX6_soldShare_2 : decode cX6_soldShare 2 = .ok (.getfield 7, 3) := by decide +kernel
theorem dX6_soldShare_5 : decode cX6_soldShare 5 = .ok (.bipush 9, 2) := by decide +kernel
theorem dX6_soldShare_7 : decode cX6_soldShare 7 = .ok (.iaload, 1) := by decide +kernel
theorem dX6_soldShare_8 : decode cX6_soldShare 8 = .ok (.ifCond .ne 7, 3) := by decide +kernel
theorem dX6_soldShare_11 : decode cX6_soldShare 11 = .ok (.iconst 1, 1) := by decide +kernel
theorem dX6_soldShare_12 : decode cX6_soldShare 12 = .ok (.goto 4, 3) := by decide +kernel
theorem dX6_soldShare_15 : decode cX6_soldShare 15 = .ok (.iconst 0, 1) := by decide +kernel
theorem dX6_soldShare_16 : decode cX6_soldShare 16 = .ok (.putfield 39, 3) := by decide +kernel
theorem dX6_soldShare_19 : decode cX6_soldShare 19 = .ok (.aload_n 0, 1) := by decide +kernel
theorem dX6_soldShare_20 : decode cX6_soldShare 20 = .ok (.getfield 39, 3) := by decide +kernel
theorem dX6_soldShare_23 : decode cX6_soldShare 23 = .ok (.ifCond .ne 23, 3) := by decide +kernel
theorem dX6_soldShare_26 : decode cX6_soldShare 26 = .ok (.aload_n 0, 1) := by decide +kernel
theorem dX6_soldShare_27 : decode cX6_soldShare 27 = .ok (.getfield 7, 3) := by decide +kernel
theorem dX6_soldShare_30 : decode cX6_soldShare 30 = .ok (.bipush 10, 2) := by decide +kernel
theorem dX6_soldShare_32 : decode cX6_soldShare 32 = .ok (.iaload, 1) := by decide +kernel
theorem dX6_soldShare_33 : decode cX6_soldShare 33 = .ok (.i2f, 1) := by decide +kernel
theorem dX6_soldShare_34 : decode cX6_soldShare 34 = .ok (.aload_n 0, 1) := by decide +kernel
theorem dX6_soldShare_35 : decode cX6_soldShare 35 = .ok (.getfield 7, 3) := by decide +kernel
theorem dX6_soldShare_38 : decode cX6_soldShare 38 = .ok (.bipush 9, 2) := by decide +kernel
theorem dX6_soldShare_40 : decode cX6_soldShare 40 = .ok (.iaload, 1) := by decide +kernel
theorem dX6_soldShare_41 : decode cX6_soldShare 41 = .ok (.i2f, 1) := by decide +kernel
theorem dX6_soldShare_42 : decode cX6_soldShare 42 = .ok (.fdiv, 1) := by decide +kernel
theorem dX6_soldShare_43 : decode cX6_soldShare 43 = .ok (.goto 4, 3) := by decide +kernel
theorem dX6_soldShare_46 : decode cX6_soldShare 46 = .ok (.fconst 0, 1) := by decide +kernel
theorem dX6_soldShare_47 : decode cX6_soldShare 47 = .ok (.freturn, 1) := by decide +kernel
theorem dX6_isConsistent_0 : decode cX6_isConsistent 0 = .ok (.aload_n 0, 1) := by decide +kernel
theorem dX6_isConsistent_1 : decode cX6_isConsistent 1 = .ok (.iconst 0, 1) := by decide +kernel
theorem dX6_isConsistent_2 : decode cX6_isConsistent 2 = .ok (.putfield 39, 3) := by decide +kernel
theorem dX6_isConsistent_5 : decode cX6_isConsistent 5 = .ok (.iconst 1, 1) := by decide +kernel
theorem dX6_isConsistent_6 : decode cX6_isConsistent 6 = .ok (.ireturn, 1) := by decide +kernel
theorem dX6_writes_0 : decode cX6_writes 0 = .ok (.aload_n 0, 1) := by decide +kernel
theorem dX6_writes_1 : decode cX6_writes 1 = .ok (.getfield 33, 3) := by decide +kernel
theorem dX6_writes_4 : decode cX6_writes 4 = .ok (.aload_n 0, 1) := by decide +kernel
theorem dX6_writes_5 : decode cX6_writes 5 = .ok (.getfield 153, 3) := by decide +kernel
theorem dX6_writes_8 : decode cX6_writes 8 = .ok (.iload_n 1, 1) := by decide +kernel
theorem dX6_writes_9 : decode cX6_writes 9 = .ok (.i2c, 1) := by decide +kernel
theorem dX6_writes_10 : decode cX6_writes 10 = .ok (.castore, 1) := by decide +kernel
theorem dX6_writes_11 : decode cX6_writes 11 = .ok (.aload_n 0, 1) := by decide +kernel
theorem dX6_writes_12 : decode cX6_writes 12 = .ok (.dup, 1) := by decide +kernel
theorem dX6_writes_13 : decode cX6_writes 13 = .ok (.getfield 153, 3) := by decide +kernel
theorem dX6_writes_16 : decode cX6_writes 16 = .ok (.iconst 1, 1) := by decide +kernel
theorem dX6_writes_17 : decode cX6_writes 17 = .ok (.iadd, 1) := by decide +kernel
theorem dX6_writes_18 : decode cX6_writes 18 = .ok (.putfield 153, 3) := by decide +kernel
theorem dX6_writes_21 : decode cX6_writes 21 = .ok (.return_, 1) := by decide +kernel
theorem dX6_writesNumber_0 : decode cX6_writesNumber 0 = .ok (.sipush 10000, 3) := by decide +kernel
theorem dX6_writesNumber_3 : decode cX6_writesNumber 3 = .ok (.istore_n 2, 1) := by decide +kernel
theorem dX6_writesNumber_4 : decode cX6_writesNumber 4 = .ok (.iload_n 2, 1) := by decide +kernel
theorem dX6_writesNumber_5 : decode cX6_writesNumber 5 = .ok (.iconst 1, 1) := by decide +kernel
theorem dX6_writesNumber_6 : decode cX6_writesNumber 6 = .ok (.if_icmp .le 16, 3) := by decide +kernel
theorem dX6_writesNumber_9 : decode cX6_writesNumber 9 = .ok (.iload_n 1, 1) := by decide +kernel
theorem dX6_writesNumber_10 : decode cX6_writesNumber 10 = .ok (.iload_n 2, 1) := by decide +kernel
theorem dX6_writesNumber_11 : decode cX6_writesNumber 11 = .ok (.if_icmp .ge 11, 3) := by decide +kernel
theorem dX6_writesNumber_14 : decode cX6_writesNumber 14 = .ok (.iload_n 2, 1) := by decide +kernel
theorem dX6_writesNumber_15 : decode cX6_writesNumber 15 = .ok (.bipush 10, 2) := by decide +kernel
theorem dX6_writesNumber_17 : decode cX6_writesNumber 17 = .ok (.idiv, 1) := by decide +kernel
theorem dX6_writesNumber_18 : decode cX6_writesNumber 18 = .ok (.istore_n 2, 1) := by decide +kernel
theorem dX6_writesNumber_19 : decode cX6_writesNumber 19 = .ok (.goto (-15), 3) := by decide +kernel
theorem dX6_writesNumber_22 : decode cX6_writesNumber 22 = .ok (.iload_n 2, 1) := by decide +kernel
theorem dX6_writesNumber_23 : decode cX6_writesNumber 23 = .ok (.ifCond .le 24, 3) := by decide +kernel
theorem dX6_writesNumber_26 : decode cX6_writesNumber 26 = .ok (.aload_n 0, 1) := by decide +kernel
theorem dX6_writesNumber_27 : decode cX6_writesNumber 27 = .ok (.bipush 48, 2) := by decide +kernel
theorem dX6_writesNumber_29 : decode cX6_writesNumber 29 = .ok (.iload_n 1, 1) := by decide +kernel
theorem dX6_writesNumber_30 : decode cX6_writesNumber 30 = .ok (.iload_n 2, 1) := by decide +kernel
theorem dX6_writesNumber_31 : decode cX6_writesNumber 31 = .ok (.idiv, 1) := by decide +kernel
theorem dX6_writesNumber_32 : decode cX6_writesNumber 32 = .ok (.bipush 10, 2) := by decide +kernel
theorem dX6_writesNumber_34 : decode cX6_writesNumber 34 = .ok (.irem, 1) := by decide +kernel
theorem dX6_writesNumber_35 : decode cX6_writesNumber 35 = .ok (.iadd, 1) := by decide +kernel
theorem dX6_writesNumber_36 : decode cX6_writesNumber 36 = .ok (.invokevirtual 156, 3) := by decide +kernel
theorem dX6_writesNumber_39 : decode cX6_writesNumber 39 = .ok (.iload_n 2, 1) := by decide +kernel
theorem dX6_writesNumber_40 : decode cX6_writesNumber 40 = .ok (.bipush 10, 2) := by decide +kernel
theorem dX6_writesNumber_42 : decode cX6_writesNumber 42 = .ok (.idiv, 1) := by decide +kernel
theorem dX6_writesNumber_43 : decode cX6_writesNumber 43 = .ok (.istore_n 2, 1) := by decide +kernel
theorem dX6_writesNumber_44 : decode cX6_writesNumber 44 = .ok (.goto (-22), 3) := by decide +kernel
theorem dX6_writesNumber_47 : decode cX6_writesNumber 47 = .ok (.return_, 1) := by decide +kernel
theorem dX6_renderBatch_0 : decode cX6_renderBatch 0 = .ok (.aload_n 0, 1) := by decide +kernel
theorem dX6_renderBatch_1 : decode cX6_renderBatch 1 = .ok (.iload_n 1, 1) := by decide +kernel
theorem dX6_renderBatch_2 : decode cX6_renderBatch 2 = .ok (.invokevirtual 113, 3) := by decide +kernel
theorem dX6_renderBatch_5 : decode cX6_renderBatch 5 = .ok (.istore_n 2, 1) := by decide +kernel
theorem dX6_renderBatch_6 : decode cX6_renderBatch 6 = .ok (.iload_n 2, 1) := by decide +kernel
theorem dX6_renderBatch_7 : decode cX6_renderBatch 7 = .ok (.iconst (-1), 1) := by decide +kernel
theorem dX6_renderBatch_8 : decode cX6_renderBatch 8 = .ok (.if_icmp .ne 9, 3) := by decide +kernel
theorem dX6_renderBatch_11 : decode cX6_renderBatch 11 = .ok (.aload_n 0, 1) := by decide +kernel
theorem dX6_renderBatch_12 : decode cX6_renderBatch 12 = .ok (.iconst 1, 1) := by decide +kernel
theorem dX6_renderBatch_13 : decode cX6_renderBatch 13 = .ok (.invokevirtual 67, 3) := by decide +kernel
theorem dX6_renderBatch_16 : decode cX6_renderBatch 16 = .ok (.ireturn, 1) := by decide +kernel
theorem dX6_renderBatch_17 : decode cX6_renderBatch 17 = .ok (.aload_n 0, 1) := by decide +kernel
theorem dX6_renderBatch_18 : decode cX6_renderBatch 18 = .ok (.iconst 0, 1) := by decide +kernel
theorem dX6_renderBatch_19 : decode cX6_renderBatch 19 = .ok (.putfield 153, 3) := by decide +kernel
theorem dX6_renderBatch_22 : decode cX6_renderBatch 22 = .ok (.aload_n 0, 1) := by decide +kernel
theorem dX6_renderBatch_23 : decode cX6_renderBatch 23 = .ok (.iload_n 1, 1) := by decide +kernel
theorem dX6_renderBatch_24 : decode cX6_renderBatch 24 = .ok (.invokevirtual 159, 3) := by decide +kernel
theorem dX6_renderBatch_27 : decode cX6_renderBatch 27 = .ok (.aload_n 0, 1) := by decide +kernel
theorem dX6_renderBatch_28 : decode cX6_renderBatch 28 = .ok (.aload_n 0, 1) := by decide +kernel
theorem dX6_renderBatch_29 : decode cX6_renderBatch 29 = .ok (.getfield 7, 3) := by decide +kernel
theorem dX6_renderBatch_32 : decode cX6_renderBatch 32 = .ok (.bipush 79, 2) := by decide +kernel
theorem dX6_renderBatch_34 : decode cX6_renderBatch 34 = .ok (.iload_n 2, 1) := by decide +kernel
theorem dX6_renderBatch_35 : decode cX6_renderBatch 35 = .ok (.iadd, 1) := by decide +kernel
theorem dX6_renderBatch_36 : decode cX6_renderBatch 36 = .ok (.iaload, 1) := by decide +kernel
theorem dX6_renderBatch_37 : decode cX6_renderBatch 37 = .ok (.iconst 1, 1) := by decide +kernel
theorem dX6_renderBatch_38 : decode cX6_renderBatch 38 = .ok (.if_icmp .ne 8, 3) := by decide +kernel
theorem dX6_renderBatch_41 : decode cX6_renderBatch 41 = .ok (.bipush 33, 2) := by decide +kernel
theorem dX6_renderBatch_43 : decode cX6_renderBatch 43 = .ok (.goto 5, 3) := by decide +kernel
theorem dX6_renderBatch_46 : decode cX6_renderBatch 46 = .ok (.bipush 63, 2) := by decide +kernel
theorem dX6_renderBatch_48 : decode cX6_renderBatch 48 = .ok (.invokevirtual 156, 3) := by decide +kernel
theorem dX6_renderBatch_51 : decode cX6_renderBatch 51 = .ok (.iconst 0, 1) := by decide +kernel
theorem dX6_renderBatch_52 : decode cX6_renderBatch 52 = .ok (.istore_n 3, 1) := by decide +kernel
theorem dX6_renderBatch_53 : decode cX6_renderBatch 53 = .ok (.iload_n 3, 1) := by decide +kernel
theorem dX6_renderBatch_54 : decode cX6_renderBatch 54 = .ok (.aload_n 0, 1) := by decide +kernel
theorem dX6_renderBatch_55 : decode cX6_renderBatch 55 = .ok (.getfield 7, 3) := by decide +kernel
theorem dX6_renderBatch_58 : decode cX6_renderBatch 58 = .ok (.bipush 63, 2) := by decide +kernel
theorem dX6_renderBatch_60 : decode cX6_renderBatch 60 = .ok (.iload_n 2, 1) := by decide +kernel
theorem dX6_renderBatch_61 : decode cX6_renderBatch 61 = .ok (.iadd, 1) := by decide +kernel
theorem dX6_renderBatch_62 : decode cX6_renderBatch 62 = .ok (.iaload, 1) := by decide +kernel
theorem dX6_renderBatch_63 : decode cX6_renderBatch 63 = .ok (.if_icmp .ge 34, 3) := by decide +kernel
theorem dX6_renderBatch_66 : decode cX6_renderBatch 66 = .ok (.aload_n 0, 1) := by decide +kernel
theorem dX6_renderBatch_67 : decode cX6_renderBatch 67 = .ok (.iload_n 3, 1) := by decide +kernel
theorem dX6_renderBatch_68 : decode cX6_renderBatch 68 = .ok (.ifCond .ne 8, 3) := by decide +kernel
theorem dX6_renderBatch_71 : decode cX6_renderBatch 71 = .ok (.bipush 58, 2) := by decide +kernel
theorem dX6_renderBatch_73 : decode cX6_renderBatch 73 = .ok (.goto 5, 3) := by decide +kernel
theorem dX6_renderBatch_76 : decode cX6_renderBatch 76 = .ok (.bipush 44, 2) := by decide +kernel
theorem dX6_renderBatch_78 : decode cX6_renderBatch 78 = .ok (.invokevirtual 156, 3) := by decide +kernel
theorem dX6_renderBatch_81 : decode cX6_renderBatch 81 = .ok (.aload_n 0, 1) := by decide +kernel
theorem dX6_renderBatch_82 : decode cX6_renderBatch 82 = .ok (.aload_n 0, 1) := by decide +kernel
theorem dX6_renderBatch_83 : decode cX6_renderBatch 83 = .ok (.iload_n 2, 1) := by decide +kernel
theorem dX6_renderBatch_84 : decode cX6_renderBatch 84 = .ok (.iload_n 3, 1) := by decide +kernel
theorem dX6_renderBatch_85 : decode cX6_renderBatch 85 = .ok (.invokevirtual 57, 3) := by decide +kernel
theorem dX6_renderBatch_88 : decode cX6_renderBatch 88 = .ok (.invokevirtual 159, 3) := by decide +kernel
theorem dX6_renderBatch_91 : decode cX6_renderBatch 91 = .ok (.iinc 3 1, 3) := by decide +kernel
theorem dX6_renderBatch_94 : decode cX6_renderBatch 94 = .ok (.goto (-41), 3) := by decide +kernel
theorem dX6_renderBatch_97 : decode cX6_renderBatch 97 = .ok (.aload_n 0, 1) := by decide +kernel
theorem dX6_renderBatch_98 : decode cX6_renderBatch 98 = .ok (.aload_n 0, 1) := by decide +kernel
theorem dX6_renderBatch_99 : decode cX6_renderBatch 99 = .ok (.getfield 153, 3) := by decide +kernel
theorem dX6_renderBatch_102 : decode cX6_renderBatch 102 = .ok (.invokevirtual 70, 3) := by decide +kernel
theorem dX6_renderBatch_105 : decode cX6_renderBatch 105 = .ok (.ireturn, 1) := by decide +kernel
theorem dX6_renderStore_0 : decode cX6_renderStore 0 = .ok (.aload_n 0, 1) := by decide +kernel
theorem dX6_renderStore_1 : decode cX6_renderStore 1 = .ok (.iconst 0, 1) := by decide +kernel
theorem dX6_renderStore_2 : decode cX6_renderStore 2 = .ok (.putfield 153, 3) := by decide +kernel
theorem dX6_renderStore_5 : decode cX6_renderStore 5 = .ok (.aload_n 0, 1) := by decide +kernel
theorem dX6_renderStore_6 : decode cX6_renderStore 6 = .ok (.bipush 99, 2) := by decide +kernel
theorem dX6_renderStore_8 : decode cX6_renderStore 8 = .ok (.invokevirtual 156, 3) := by decide +kernel
theorem dX6_renderStore_11 : decode cX6_renderStore 11 = .ok (.aload_n 0, 1) := by decide +kernel
theorem dX6_renderStore_12 : decode cX6_renderStore 12 = .ok (.aload_n 0, 1) := by decide +kernel
theorem dX6_renderStore_13 : decode cX6_renderStore 13 = .ok (.getfield 7, 3) := by decide +kernel
theorem dX6_renderStore_16 : decode cX6_renderStore 16 = .ok (.iconst 0, 1) := by decide +kernel
theorem dX6_renderStore_17 : decode cX6_renderStore 17 = .ok (.iaload, 1) := by decide +kernel
theorem dX6_renderStore_18 : decode cX6_renderStore 18 = .ok (.invokevirtual 159, 3) := by decide +kernel
theorem dX6_renderStore_21 : decode cX6_renderStore 21 = .ok (.aload_n 0, 1) := by decide +kernel
theorem dX6_renderStore_22 : decode cX6_renderStore 22 = .ok (.bipush 116, 2) := by decide +kernel
theorem dX6_renderStore_24 : decode cX6_renderStore 24 = .ok (.invokevirtual 156, 3) := by decide +kernel
theorem dX6_renderStore_27 : decode cX6_renderStore 27 = .ok (.aload_n 0, 1) := by decide +kernel
theorem dX6_renderStore_28 : decode cX6_renderStore 28 = .ok (.aload_n 0, 1) := by decide +kernel
theorem dX6_renderStore_29 : decode cX6_renderStore 29 = .ok (.getfield 7, 3) := by decide +kernel
theorem dX6_renderStore_32 : decode cX6_renderStore 32 = .ok (.iconst 1, 1) := by decide +kernel
theorem dX6_renderStore_33 : decode cX6_renderStore 33 = .ok (.iaload, 1) := by decide +kernel
theorem dX6_renderStore_34 : decode cX6_renderStore 34 = .ok (.invokevirtual 159, 3) := by decide +kernel
theorem dX6_renderStore_37 : decode cX6_renderStore 37 = .ok (.aload_n 0, 1) := by decide +kernel
theorem dX6_renderStore_38 : decode cX6_renderStore 38 = .ok (.bipush 115, 2) := by decide +kernel
theorem dX6_renderStore_40 : decode cX6_renderStore 40 = .ok (.invokevirtual 156, 3) := by decide +kernel
theorem dX6_renderStore_43 : decode cX6_renderStore 43 = .ok (.aload_n 0, 1) := by decide +kernel
theorem dX6_renderStore_44 : decode cX6_renderStore 44 = .ok (.aload_n 0, 1) := by decide +kernel
theorem dX6_renderStore_45 : decode cX6_renderStore 45 = .ok (.getfield 7, 3) := by decide +kernel
theorem dX6_renderStore_48 : decode cX6_renderStore 48 = .ok (.iconst 2, 1) := by decide +kernel
theorem dX6_renderStore_49 : decode cX6_renderStore 49 = .ok (.iaload, 1) := by decide +kernel
theorem dX6_renderStore_50 : decode cX6_renderStore 50 = .ok (.invokevirtual 159, 3) := by decide +kernel
theorem dX6_renderStore_53 : decode cX6_renderStore 53 = .ok (.iconst 0, 1) := by decide +kernel
theorem dX6_renderStore_54 : decode cX6_renderStore 54 = .ok (.istore_n 1, 1) := by decide +kernel
theorem dX6_renderStore_55 : decode cX6_renderStore 55 = .ok (.iload_n 1, 1) := by decide +kernel
theorem dX6_renderStore_56 : decode cX6_renderStore 56 = .ok (.aload_n 0, 1) := by decide +kernel
theorem dX6_renderStore_57 : decode cX6_renderStore 57 = .ok (.getfield 7, 3) := by decide +kernel
theorem dX6_renderStore_60 : decode cX6_renderStore 60 = .ok (.bipush 6, 2) := by decide +kernel
theorem dX6_renderStore_62 : decode cX6_renderStore 62 = .ok (.iaload, 1) := by decide +kernel
theorem dX6_renderStore_63 : decode cX6_renderStore 63 = .ok (.if_icmp .ge 47, 3) := by decide +kernel
theorem dX6_renderStore_66 : decode cX6_renderStore 66 = .ok (.aload_n 0, 1) := by decide +kernel
theorem dX6_renderStore_67 : decode cX6_renderStore 67 = .ok (.bipush 32, 2) := by decide +kernel
theorem dX6_renderStore_69 : decode cX6_renderStore 69 = .ok (.invokevirtual 156, 3) := by decide +kernel
theorem dX6_renderStore_72 : decode cX6_renderStore 72 = .ok (.aload_n 0, 1) := by decide +kernel
theorem dX6_renderStore_73 : decode cX6_renderStore 73 = .ok (.aload_n 0, 1) := by decide +kernel
theorem dX6_renderStore_74 : decode cX6_renderStore 74 = .ok (.getfield 7, 3) := by decide +kernel
theorem dX6_renderStore_77 : decode cX6_renderStore 77 = .ok (.bipush 39, 2) := by decide +kernel
theorem dX6_renderStore_79 : decode cX6_renderStore 79 = .ok (.iload_n 1, 1) := by decide +kernel
theorem dX6_renderStore_80 : decode cX6_renderStore 80 = .ok (.iadd, 1) := by decide +kernel
theorem dX6_renderStore_81 : decode cX6_renderStore 81 = .ok (.iaload, 1) := by decide +kernel
theorem dX6_renderStore_82 : decode cX6_renderStore 82 = .ok (.invokevirtual 159, 3) := by decide +kernel
theorem dX6_renderStore_85 : decode cX6_renderStore 85 = .ok (.aload_n 0, 1) := by decide +kernel
theorem dX6_renderStore_86 : decode cX6_renderStore 86 = .ok (.bipush 120, 2) := by decide +kernel
theorem dX6_renderStore_88 : decode cX6_renderStore 88 = .ok (.invokevirtual 156, 3) := by decide +kernel
theorem dX6_renderStore_91 : decode cX6_renderStore 91 = .ok (.aload_n 0, 1) := by decide +kernel
theorem dX6_renderStore_92 : decode cX6_renderStore 92 = .ok (.aload_n 0, 1) := by decide +kernel
theorem dX6_renderStore_93 : decode cX6_renderStore 93 = .ok (.getfield 7, 3) := by decide +kernel
theorem dX6_renderStore_96 : decode cX6_renderStore 96 = .ok (.bipush 43, 2) := by decide +kernel
theorem dX6_renderStore_98 : decode cX6_renderStore 98 = .ok (.iload_n 1, 1) := by decide +kernel
theorem dX6_renderStore_99 : decode cX6_renderStore 99 = .ok (.iadd, 1) := by decide +kernel
theorem dX6_renderStore_100 : decode cX6_renderStore 100 = .ok (.iaload, 1) := by decide +kernel
theorem dX6_renderStore_101 : decode cX6_renderStore 101 = .ok (.invokevirtual 159, 3) := by decide +kernel
theorem dX6_renderStore_104 : decode cX6_renderStore 104 = .ok (.iinc 1 1, 3) := by decide +kernel
theorem dX6_renderStore_107 : decode cX6_renderStore 107 = .ok (.goto (-52), 3) := by decide +kernel
theorem dX6_renderStore_110 : decode cX6_renderStore 110 = .ok (.aload_n 0, 1) := by decide +kernel
theorem dX6_renderStore_111 : decode cX6_renderStore 111 = .ok (.aload_n 0, 1) := by decide +kernel
theorem dX6_renderStore_112 : decode cX6_renderStore 112 = .ok (.getfield 153, 3) := by decide +kernel
theorem dX6_renderStore_115 : decode cX6_renderStore 115 = .ok (.invokevirtual 70, 3) := by decide +kernel
theorem dX6_renderStore_118 : decode cX6_renderStore 118 = .ok (.ireturn, 1) := by decide +kernel
theorem dX6_outputAt_0 : decode cX6_outputAt 0 = .ok (.aload_n 0, 1) := by decide +kernel
theorem dX6_outputAt_1 : decode cX6_outputAt 1 = .ok (.iload_n 1, 1) := by decide +kernel
theorem dX6_outputAt_2 : decode cX6_outputAt 2 = .ok (.iconst 0, 1) := by decide +kernel
theorem dX6_outputAt_3 : decode cX6_outputAt 3 = .ok (.aload_n 0, 1) := by decide +kernel
theorem dX6_outputAt_4 : decode cX6_outputAt 4 = .ok (.getfield 153, 3) := by decide +kernel
theorem dX6_outputAt_7 : decode cX6_outputAt 7 = .ok (.iconst 1, 1) := by decide +kernel
theorem dX6_outputAt_8 : decode cX6_outputAt 8 = .ok (.isub, 1) := by decide +kernel
theorem dX6_outputAt_9 : decode cX6_outputAt 9 = .ok (.invokestatic 49, 3) := by decide +kernel
theorem dX6_outputAt_12 : decode cX6_outputAt 12 = .ok (.ifCond .eq 7, 3) := by decide +kernel
theorem dX6_outputAt_15 : decode cX6_outputAt 15 = .ok (.iconst 0, 1) := by decide +kernel
theorem dX6_outputAt_16 : decode cX6_outputAt 16 = .ok (.goto 4, 3) := by decide +kernel
theorem dX6_outputAt_19 : decode cX6_outputAt 19 = .ok (.iconst 1, 1) := by decide +kernel
theorem dX6_outputAt_20 : decode cX6_outputAt 20 = .ok (.putfield 39, 3) := by decide +kernel
theorem dX6_outputAt_23 : decode cX6_outputAt 23 = .ok (.aload_n 0, 1) := by decide +kernel
theorem dX6_outputAt_24 : decode cX6_outputAt 24 = .ok (.getfield 39, 3) := by decide +kernel
theorem dX6_outputAt_27 : decode cX6_outputAt 27 = .ok (.ifCond .ne 12, 3) := by decide +kernel
theorem dX6_outputAt_30 : decode cX6_outputAt 30 = .ok (.aload_n 0, 1) := by decide +kernel
theorem dX6_outputAt_31 : decode cX6_outputAt 31 = .ok (.getfield 33, 3) := by decide +kernel
theorem dX6_outputAt_34 : decode cX6_outputAt 34 = .ok (.iload_n 1, 1) := by decide +kernel
theorem dX6_outputAt_35 : decode cX6_outputAt 35 = .ok (.caload, 1) := by decide +kernel
theorem dX6_outputAt_36 : decode cX6_outputAt 36 = .ok (.goto 4, 3) := by decide +kernel
theorem dX6_outputAt_39 : decode cX6_outputAt 39 = .ok (.iconst 0, 1) := by decide +kernel
theorem dX6_outputAt_40 : decode cX6_outputAt 40 = .ok (.ireturn, 1) := by decide +kernel
theorem dX6_type_0 : decode cX6_type 0 = .ok (.iload_n 1, 1) := by decide +kernel
theorem dX6_type_1 : decode cX6_type 1 = .ok (.bipush 32, 2) := by decide +kernel
theorem dX6_type_3 : decode cX6_type 3 = .ok (.bipush 126, 2) := by decide +kernel
theorem dX6_type_5 : decode cX6_type 5 = .ok (.invokestatic 49, 3) := by decide +kernel
theorem dX6_type_8 : decode cX6_type 8 = .ok (.ifCond .ne 9, 3) := by decide +kernel
theorem dX6_type_11 : decode cX6_type 11 = .ok (.aload_n 0, 1) := by decide +kernel
theorem dX6_type_12 : decode cX6_type 12 = .ok (.iconst 1, 1) := by decide +kernel
theorem dX6_type_13 : decode cX6_type 13 = .ok (.invokevirtual 67, 3) := by decide +kernel
theorem dX6_type_16 : decode cX6_type 16 = .ok (.ireturn, 1) := by decide +kernel
theorem dX6_type_17 : decode cX6_type 17 = .ok (.aload_n 0, 1) := by decide +kernel
theorem dX6_type_18 : decode cX6_type 18 = .ok (.getfield 162, 3) := by decide +kernel
theorem dX6_type_21 : decode cX6_type 21 = .ok (.bipush 60, 2) := by decide +kernel
theorem dX6_type_23 : decode cX6_type 23 = .ok (.if_icmp .ne 9, 3) := by decide +kernel
theorem dX6_type_26 : decode cX6_type 26 = .ok (.aload_n 0, 1) := by decide +kernel
theorem dX6_type_27 : decode cX6_type 27 = .ok (.iconst 2, 1) := by decide +kernel
theorem dX6_type_28 : decode cX6_type 28 = .ok (.invokevirtual 67, 3) := by decide +kernel
theorem dX6_type_31 : decode cX6_type 31 = .ok (.ireturn, 1) := by decide +kernel
theorem dX6_type_32 : decode cX6_type 32 = .ok (.aload_n 0, 1) := by decide +kernel
theorem dX6_type_33 : decode cX6_type 33 = .ok (.getfield 22, 3) := by decide +kernel
theorem dX6_type_36 : decode cX6_type 36 = .ok (.aload_n 0, 1) := by decide +kernel
theorem dX6_type_37 : decode cX6_type 37 = .ok (.getfield 162, 3) := by decide +kernel
theorem dX6_type_40 : decode cX6_type 40 = .ok (.iload_n 1, 1) := by decide +kernel
theorem dX6_type_41 : decode cX6_type 41 = .ok (.castore, 1) := by decide +kernel
theorem dX6_type_42 : decode cX6_type 42 = .ok (.aload_n 0, 1) := by decide +kernel
theorem dX6_type_43 : decode cX6_type 43 = .ok (.dup, 1) := by decide +kernel
theorem dX6_type_44 : decode cX6_type 44 = .ok (.getfield 162, 3) := by decide +kernel
theorem dX6_type_47 : decode cX6_type 47 = .ok (.iconst 1, 1) := by decide +kernel
theorem dX6_type_48 : decode cX6_type 48 = .ok (.iadd, 1) := by decide +kernel
theorem dX6_type_49 : decode cX6_type 49 = .ok (.putfield 162, 3) := by decide +kernel
theorem dX6_type_52 : decode cX6_type 52 = .ok (.aload_n 0, 1) := by decide +kernel
theorem dX6_type_53 : decode cX6_type 53 = .ok (.aload_n 0, 1) := by decide +kernel
theorem dX6_type_54 : decode cX6_type 54 = .ok (.getfield 162, 3) := by decide +kernel
theorem dX6_type_57 : decode cX6_type 57 = .ok (.invokevirtual 70, 3) := by decide +kernel
theorem dX6_type_60 : decode cX6_type 60 = .ok (.ireturn, 1) := by decide +kernel
theorem dX6_here_0 : decode cX6_here 0 = .ok (.aload_n 0, 1) := by decide +kernel
theorem dX6_here_1 : decode cX6_here 1 = .ok (.getfield 165, 3) := by decide +kernel
theorem dX6_here_4 : decode cX6_here 4 = .ok (.aload_n 0, 1) := by decide +kernel
theorem dX6_here_5 : decode cX6_here 5 = .ok (.getfield 162, 3) := by decide +kernel
theorem dX6_here_8 : decode cX6_here 8 = .ok (.if_icmp .ge 15, 3) := by decide +kernel
theorem dX6_here_11 : decode cX6_here 11 = .ok (.aload_n 0, 1) := by decide +kernel
theorem dX6_here_12 : decode cX6_here 12 = .ok (.getfield 22, 3) := by decide +kernel
theorem dX6_here_15 : decode cX6_here 15 = .ok (.aload_n 0, 1) := by decide +kernel
theorem dX6_here_16 : decode cX6_here 16 = .ok (.getfield 165, 3) := by decide +kernel
theorem dX6_here_19 : decode cX6_here 19 = .ok (.caload, 1) := by decide +kernel
theorem dX6_here_20 : decode cX6_here 20 = .ok (.goto 4, 3) := by decide +kernel
theorem dX6_here_23 : decode cX6_here 23 = .ok (.iconst (-1), 1) := by decide +kernel
theorem dX6_here_24 : decode cX6_here 24 = .ok (.ireturn, 1) := by decide +kernel
theorem dX6_needs_0 : decode cX6_needs 0 = .ok (.aload_n 0, 1) := by decide +kernel
theorem dX6_needs_1 : decode cX6_needs 1 = .ok (.aload_n 0, 1) := by decide +kernel
theorem dX6_needs_2 : decode cX6_needs 2 = .ok (.getfield 168, 3) := by decide +kernel
theorem dX6_needs_5 : decode cX6_needs 5 = .ok (.ifCond .ne 11, 3) := by decide +kernel
theorem dX6_needs_8 : decode cX6_needs 8 = .ok (.aload_n 0, 1) := by decide +kernel
theorem dX6_needs_9 : decode cX6_needs 9 = .ok (.invokevirtual 172, 3) := by decide +kernel
theorem dX6_needs_12 : decode cX6_needs 12 = .ok (.iload_n 1, 1) := by decide +kernel
theorem dX6_needs_13 : decode cX6_needs 13 = .ok (.if_icmp .eq 7, 3) := by decide +kernel
theorem dX6_needs_16 : decode cX6_needs 16 = .ok (.iconst 1, 1) := by decide +kernel
theorem dX6_needs_17 : decode cX6_needs 17 = .ok (.goto 4, 3) := by decide +kernel
theorem dX6_needs_20 : decode cX6_needs 20 = .ok (.iconst 0, 1) := by decide +kernel
theorem dX6_needs_21 : decode cX6_needs 21 = .ok (.putfield 168, 3) := by decide +kernel
theorem dX6_needs_24 : decode cX6_needs 24 = .ok (.aload_n 0, 1) := by decide +kernel
theorem dX6_needs_25 : decode cX6_needs 25 = .ok (.dup, 1) := by decide +kernel
theorem dX6_needs_26 : decode cX6_needs 26 = .ok (.getfield 165, 3) := by decide +kernel
theorem dX6_needs_29 : decode cX6_needs 29 = .ok (.aload_n 0, 1) := by decide +kernel
theorem dX6_needs_30 : decode cX6_needs 30 = .ok (.getfield 168, 3) := by decide +kernel
theorem dX6_needs_33 : decode cX6_needs 33 = .ok (.ifCond .eq 7, 3) := by decide +kernel
theorem dX6_needs_36 : decode cX6_needs 36 = .ok (.iconst 0, 1) := by decide +kernel
theorem dX6_needs_37 : decode cX6_needs 37 = .ok (.goto 4, 3) := by decide +kernel
theorem dX6_needs_40 : decode cX6_needs 40 = .ok (.iconst 1, 1) := by decide +kernel
theorem dX6_needs_41 : decode cX6_needs 41 = .ok (.iadd, 1) := by decide +kernel
theorem dX6_needs_42 : decode cX6_needs 42 = .ok (.putfield 165, 3) := by decide +kernel
theorem dX6_needs_45 : decode cX6_needs 45 = .ok (.return_, 1) := by decide +kernel
theorem dX6_needsThree_0 : decode cX6_needsThree 0 = .ok (.aload_n 0, 1) := by decide +kernel
theorem dX6_needsThree_1 : decode cX6_needsThree 1 = .ok (.iload_n 1, 1) := by decide +kernel
theorem dX6_needsThree_2 : decode cX6_needsThree 2 = .ok (.invokevirtual 176, 3) := by decide +kernel
theorem dX6_needsThree_5 : decode cX6_needsThree 5 = .ok (.aload_n 0, 1) := by decide +kernel
theorem dX6_needsThree_6 : decode cX6_needsThree 6 = .ok (.iload_n 2, 1) := by decide +kernel
theorem dX6_needsThree_7 : decode cX6_needsThree 7 = .ok (.invokevirtual 176, 3) := by decide +kernel
theorem dX6_needsThree_10 : decode cX6_needsThree 10 = .ok (.aload_n 0, 1) := by decide +kernel
theorem dX6_needsThree_11 : decode cX6_needsThree 11 = .ok (.iload_n 3, 1) := by decide +kernel
theorem dX6_needsThree_12 : decode cX6_needsThree 12 = .ok (.invokevirtual 176, 3) := by decide +kernel
theorem dX6_needsThree_15 : decode cX6_needsThree 15 = .ok (.return_, 1) := by decide +kernel
theorem dX6_digits_0 : decode cX6_digits 0 = .ok (.aload_n 0, 1) := by decide +kernel
theorem dX6_digits_1 : decode cX6_digits 1 = .ok (.aload_n 0, 1) := by decide +kernel
theorem dX6_digits_2 : decode cX6_digits 2 = .ok (.getfield 168, 3) := by decide +kernel
theorem dX6_digits_5 : decode cX6_digits 5 = .ok (.ifCond .ne 17, 3) := by decide +kernel
theorem dX6_digits_8 : decode cX6_digits 8 = .ok (.aload_n 0, 1) := by decide +kernel
theorem dX6_digits_9 : decode cX6_digits 9 = .ok (.invokevirtual 172, 3) := by decide +kernel
theorem dX6_digits_12 : decode cX6_digits 12 = .ok (.bipush 48, 2) := by decide +kernel
theorem dX6_digits_14 : decode cX6_digits 14 = .ok (.bipush 57, 2) := by decide +kernel
theorem dX6_digits_16 : decode cX6_digits 16 = .ok (.invokestatic 49, 3) := by decide +kernel
theorem dX6_digits_19 : decode cX6_digits 19 = .ok (.ifCond .ne 7, 3) := by decide +kernel
theorem dX6_digits_22 : decode cX6_digits 22 = .ok (.iconst 1, 1) := by decide +kernel
theorem dX6_digits_23 : decode cX6_digits 23 = .ok (.goto 4, 3) := by decide +kernel
theorem dX6_digits_26 : decode cX6_digits 26 = .ok (.iconst 0, 1) := by decide +kernel
theorem dX6_digits_27 : decode cX6_digits 27 = .ok (.putfield 168, 3) := by decide +kernel
theorem dX6_digits_30 : decode cX6_digits 30 = .ok (.iconst 0, 1) := by decide +kernel
theorem dX6_digits_31 : decode cX6_digits 31 = .ok (.istore_n 2, 1) := by decide +kernel
theorem dX6_digits_32 : decode cX6_digits 32 = .ok (.iconst 0, 1) := by decide +kernel
theorem dX6_digits_33 : decode cX6_digits 33 = .ok (.istore_n 3, 1) := by decide +kernel
theorem dX6_digits_34 : decode cX6_digits 34 = .ok (.aload_n 0, 1) := by decide +kernel
theorem dX6_digits_35 : decode cX6_digits 35 = .ok (.getfield 168, 3) := by decide +kernel
theorem dX6_digits_38 : decode cX6_digits 38 = .ok (.ifCond .ne 51, 3) := by decide +kernel
theorem dX6_digits_41 : decode cX6_digits 41 = .ok (.iload_n 3, 1) := by decide +kernel
theorem dX6_digits_42 : decode cX6_digits 42 = .ok (.iload_n 1, 1) := by decide +kernel
theorem dX6_digits_43 : decode cX6_digits 43 = .ok (.if_icmp .ge 46, 3) := by decide +kernel
theorem dX6_digits_46 : decode cX6_digits 46 = .ok (.aload_n 0, 1) := by decide +kernel
theorem dX6_digits_47 : decode cX6_digits 47 = .ok (.invokevirtual 172, 3) := by decide +kernel
theorem dX6_digits_50 : decode cX6_digits 50 = .ok (.bipush 48, 2) := by decide +kernel
theorem dX6_digits_52 : decode cX6_digits 52 = .ok (.bipush 57, 2) := by decide +kernel
theorem dX6_digits_54 : decode cX6_digits 54 = .ok (.invokestatic 49, 3) := by decide +kernel
theorem dX6_digits_57 : decode cX6_digits 57 = .ok (.ifCond .eq 32, 3) := by decide +kernel
theorem dX6_digits_60 : decode cX6_digits 60 = .ok (.bipush 10, 2) := by decide +kernel
theorem dX6_digits_62 : decode cX6_digits 62 = .ok (.iload_n 2, 1) := by decide +kernel
theorem dX6_digits_63 : decode cX6_digits 63 = .ok (.imul, 1) := by decide +kernel
theorem dX6_digits_64 : decode cX6_digits 64 = .ok (.aload_n 0, 1) := by decide +kernel
theorem dX6_digits_65 : decode cX6_digits 65 = .ok (.invokevirtual 172, 3) := by decide +kernel
theorem dX6_digits_68 : decode cX6_digits 68 = .ok (.iadd, 1) := by decide +kernel
theorem dX6_digits_69 : decode cX6_digits 69 = .ok (.bipush 48, 2) := by decide +kernel
theorem dX6_digits_71 : decode cX6_digits 71 = .ok (.isub, 1) := by decide +kernel
theorem dX6_digits_72 : decode cX6_digits 72 = .ok (.istore_n 2, 1) := by decide +kernel
theorem dX6_digits_73 : decode cX6_digits 73 = .ok (.aload_n 0, 1) := by decide +kernel
theorem dX6_digits_74 : decode cX6_digits 74 = .ok (.dup, 1) := by decide +kernel
theorem dX6_digits_75 : decode cX6_digits 75 = .ok (.getfield 165, 3) := by decide +kernel
theorem dX6_digits_78 : decode cX6_digits 78 = .ok (.iconst 1, 1) := by decide +kernel
theorem dX6_digits_79 : decode cX6_digits 79 = .ok (.iadd, 1) := by decide +kernel
theorem dX6_digits_80 : decode cX6_digits 80 = .ok (.putfield 165, 3) := by decide +kernel
theorem dX6_digits_83 : decode cX6_digits 83 = .ok (.iinc 3 1, 3) := by decide +kernel
theorem dX6_digits_86 : decode cX6_digits 86 = .ok (.goto (-52), 3) := by decide +kernel
theorem dX6_digits_89 : decode cX6_digits 89 = .ok (.iload_n 2, 1) := by decide +kernel
theorem dX6_digits_90 : decode cX6_digits 90 = .ok (.ireturn, 1) := by decide +kernel
theorem dX6_behindBlank_0 : decode cX6_behindBlank 0 = .ok (.aload_n 0, 1) := by decide +kernel
theorem dX6_behindBlank_1 : decode cX6_behindBlank 1 = .ok (.bipush 32, 2) := by decide +kernel
theorem dX6_behindBlank_3 : decode cX6_behindBlank 3 = .ok (.invokevirtual 176, 3) := by decide +kernel
theorem dX6_behindBlank_6 : decode cX6_behindBlank 6 = .ok (.aload_n 0, 1) := by decide +kernel
theorem dX6_behindBlank_7 : decode cX6_behindBlank 7 = .ok (.iload_n 1, 1) := by decide +kernel
theorem dX6_behindBlank_8 : decode cX6_behindBlank 8 = .ok (.invokevirtual 179, 3) := by decide +kernel
theorem dX6_behindBlank_11 : decode cX6_behindBlank 11 = .ok (.ireturn, 1) := by decide +kernel
theorem dX6_parsesM_0 : decode cX6_parsesM 0 = .ok (.aload_n 0, 1) := by decide +kernel
theorem dX6_parsesM_1 : decode cX6_parsesM 1 = .ok (.invokevirtual 172, 3) := by decide +kernel
theorem dX6_parsesM_4 : decode cX6_parsesM 4 = .ok (.bipush 101, 2) := by decide +kernel
theorem dX6_parsesM_6 : decode cX6_parsesM 6 = .ok (.if_icmp .ne 24, 3) := by decide +kernel
theorem dX6_parsesM_9 : decode cX6_parsesM 9 = .ok (.aload_n 0, 1) := by decide +kernel
theorem dX6_parsesM_10 : decode cX6_parsesM 10 = .ok (.getfield 36, 3) := by decide +kernel
theorem dX6_parsesM_13 : decode cX6_parsesM 13 = .ok (.iload_n 1, 1) := by decide +kernel
theorem dX6_parsesM_14 : decode cX6_parsesM 14 = .ok (.bipush 101, 2) := by decide +kernel
theorem dX6_parsesM_16 : decode cX6_parsesM 16 = .ok (.iastore, 1) := by decide +kernel
theorem dX6_parsesM_17 : decode cX6_parsesM 17 = .ok (.aload_n 0, 1) := by decide +kernel
theorem dX6_parsesM_18 : decode cX6_parsesM 18 = .ok (.bipush 101, 2) := by decide +kernel
theorem dX6_parsesM_20 : decode cX6_parsesM 20 = .ok (.bipush 108, 2) := by decide +kernel
theorem dX6_parsesM_22 : decode cX6_parsesM 22 = .ok (.bipush 116, 2) := by decide +kernel
theorem dX6_parsesM_24 : decode cX6_parsesM 24 = .ok (.invokevirtual 182, 3) := by decide +kernel
theorem dX6_parsesM_27 : decode cX6_parsesM 27 = .ok (.goto 19, 3) := by decide +kernel
theorem dX6_parsesM_30 : decode cX6_parsesM 30 = .ok (.aload_n 0, 1) := by decide +kernel
theorem dX6_parsesM_31 : decode cX6_parsesM 31 = .ok (.bipush 111, 2) := by decide +kernel
theorem dX6_parsesM_33 : decode cX6_parsesM 33 = .ok (.bipush 117, 2) := by decide +kernel
theorem dX6_parsesM_35 : decode cX6_parsesM 35 = .ok (.bipush 108, 2) := by decide +kernel
theorem dX6_parsesM_37 : decode cX6_parsesM 37 = .ok (.invokevirtual 182, 3) := by decide +kernel
theorem dX6_parsesM_40 : decode cX6_parsesM 40 = .ok (.aload_n 0, 1) := by decide +kernel
theorem dX6_parsesM_41 : decode cX6_parsesM 41 = .ok (.bipush 100, 2) := by decide +kernel
theorem dX6_parsesM_43 : decode cX6_parsesM 43 = .ok (.invokevirtual 176, 3) := by decide +kernel
theorem dX6_parsesM_46 : decode cX6_parsesM 46 = .ok (.aload_n 0, 1) := by decide +kernel
theorem dX6_parsesM_47 : decode cX6_parsesM 47 = .ok (.getfield 36, 3) := by decide +kernel
theorem dX6_parsesM_50 : decode cX6_parsesM 50 = .ok (.iload_n 1, 1) := by decide +kernel
theorem dX6_parsesM_51 : decode cX6_parsesM 51 = .ok (.iconst 1, 1) := by decide +kernel
theorem dX6_parsesM_52 : decode cX6_parsesM 52 = .ok (.iadd, 1) := by decide +kernel
theorem dX6_parsesM_53 : decode cX6_parsesM 53 = .ok (.aload_n 0, 1) := by decide +kernel
theorem dX6_parsesM_54 : decode cX6_parsesM 54 = .ok (.iconst 2, 1) := by decide +kernel
theorem dX6_parsesM_55 : decode cX6_parsesM 55 = .ok (.invokevirtual 186, 3) := by decide +kernel
theorem dX6_parsesM_58 : decode cX6_parsesM 58 = .ok (.iastore, 1) := by decide +kernel
theorem dX6_parsesM_59 : decode cX6_parsesM 59 = .ok (.return_, 1) := by decide +kernel
theorem dX6_parsesAlloy_0 : decode cX6_parsesAlloy 0 = .ok (.aload_n 0, 1) := by decide +kernel
theorem dX6_parsesAlloy_1 : decode cX6_parsesAlloy 1 = .ok (.bipush 108, 2) := by decide +kernel
theorem dX6_parsesAlloy_3 : decode cX6_parsesAlloy 3 = .ok (.bipush 108, 2) := by decide +kernel
theorem dX6_parsesAlloy_5 : decode cX6_parsesAlloy 5 = .ok (.bipush 111, 2) := by decide +kernel
theorem dX6_parsesAlloy_7 : decode cX6_parsesAlloy 7 = .ok (.invokevirtual 182, 3) := by decide +kernel
theorem dX6_parsesAlloy_10 : decode cX6_parsesAlloy 10 = .ok (.aload_n 0, 1) := by decide +kernel
theorem dX6_parsesAlloy_11 : decode cX6_parsesAlloy 11 = .ok (.bipush 121, 2) := by decide +kernel
theorem dX6_parsesAlloy_13 : decode cX6_parsesAlloy 13 = .ok (.invokevirtual 176, 3) := by decide +kernel
theorem dX6_parsesAlloy_16 : decode cX6_parsesAlloy 16 = .ok (.aload_n 0, 1) := by decide +kernel
theorem dX6_parsesAlloy_17 : decode cX6_parsesAlloy 17 = .ok (.getfield 36, 3) := by decide +kernel
theorem dX6_parsesAlloy_20 : decode cX6_parsesAlloy 20 = .ok (.iload_n 1, 1) := by decide +kernel
theorem dX6_parsesAlloy_21 : decode cX6_parsesAlloy 21 = .ok (.iconst 1, 1) := by decide +kernel
theorem dX6_parsesAlloy_22 : decode cX6_parsesAlloy 22 = .ok (.iadd, 1) := by decide +kernel
theorem dX6_parsesAlloy_23 : decode cX6_parsesAlloy 23 = .ok (.aload_n 0, 1) := by decide +kernel
theorem dX6_parsesAlloy_24 : decode cX6_parsesAlloy 24 = .ok (.iconst 1, 1) := by decide +kernel
theorem dX6_parsesAlloy_25 : decode cX6_parsesAlloy 25 = .ok (.invokevirtual 186, 3) := by decide +kernel
theorem dX6_parsesAlloy_28 : decode cX6_parsesAlloy 28 = .ok (.iastore, 1) := by decide +kernel
theorem dX6_parsesAlloy_29 : decode cX6_parsesAlloy 29 = .ok (.aload_n 0, 1) := by decide +kernel
theorem dX6_parsesAlloy_30 : decode cX6_parsesAlloy 30 = .ok (.getfield 36, 3) := by decide +kernel
theorem dX6_parsesAlloy_33 : decode cX6_parsesAlloy 33 = .ok (.iload_n 1, 1) := by decide +kernel
theorem dX6_parsesAlloy_34 : decode cX6_parsesAlloy 34 = .ok (.iconst 2, 1) := by decide +kernel
theorem dX6_parsesAlloy_35 : decode cX6_parsesAlloy 35 = .ok (.iadd, 1) := by decide +kernel
theorem dX6_parsesAlloy_36 : decode cX6_parsesAlloy 36 = .ok (.aload_n 0, 1) := by decide +kernel
theorem dX6_parsesAlloy_37 : decode cX6_parsesAlloy 37 = .ok (.iconst 1, 1) := by decide +kernel
theorem dX6_parsesAlloy_38 : decode cX6_parsesAlloy 38 = .ok (.invokevirtual 179, 3) := by decide +kernel
theorem dX6_parsesAlloy_41 : decode cX6_parsesAlloy 41 = .ok (.iastore, 1) := by decide +kernel
theorem dX6_parsesAlloy_42 : decode cX6_parsesAlloy 42 = .ok (.aload_n 0, 1) := by decide +kernel
theorem dX6_parsesAlloy_43 : decode cX6_parsesAlloy 43 = .ok (.getfield 36, 3) := by decide +kernel
theorem dX6_parsesAlloy_46 : decode cX6_parsesAlloy 46 = .ok (.iload_n 1, 1) := by decide +kernel
theorem dX6_parsesAlloy_47 : decode cX6_parsesAlloy 47 = .ok (.iconst 3, 1) := by decide +kernel
theorem dX6_parsesAlloy_48 : decode cX6_parsesAlloy 48 = .ok (.iadd, 1) := by decide +kernel
theorem dX6_parsesAlloy_49 : decode cX6_parsesAlloy 49 = .ok (.aload_n 0, 1) := by decide +kernel
theorem dX6_parsesAlloy_50 : decode cX6_parsesAlloy 50 = .ok (.iconst 1, 1) := by decide +kernel
theorem dX6_parsesAlloy_51 : decode cX6_parsesAlloy 51 = .ok (.invokevirtual 179, 3) := by decide +kernel
theorem dX6_parsesAlloy_54 : decode cX6_parsesAlloy 54 = .ok (.iastore, 1) := by decide +kernel
theorem dX6_parsesAlloy_55 : decode cX6_parsesAlloy 55 = .ok (.return_, 1) := by decide +kernel
theorem dX6_parsesCast_0 : decode cX6_parsesCast 0 = .ok (.aload_n 0, 1) := by decide +kernel
theorem dX6_parsesCast_1 : decode cX6_parsesCast 1 = .ok (.bipush 97, 2) := by decide +kernel
theorem dX6_parsesCast_3 : decode cX6_parsesCast 3 = .ok (.bipush 115, 2) := by decide +kernel
theorem dX6_parsesCast_5 : decode cX6_parsesCast 5 = .ok (.bipush 116, 2) := by decide +kernel
theorem dX6_parsesCast_7 : decode cX6_parsesCast 7 = .ok (.invokevirtual 182, 3) := by decide +kernel
theorem dX6_parsesCast_10 : decode cX6_parsesCast 10 = .ok (.aload_n 0, 1) := by decide +kernel
theorem dX6_parsesCast_11 : decode cX6_parsesCast 11 = .ok (.getfield 36, 3) := by decide +kernel
theorem dX6_parsesCast_14 : decode cX6_parsesCast 14 = .ok (.iload_n 1, 1) := by decide +kernel
theorem dX6_parsesCast_15 : decode cX6_parsesCast 15 = .ok (.iconst 1, 1) := by decide +kernel
theorem dX6_parsesCast_16 : decode cX6_parsesCast 16 = .ok (.iadd, 1) := by decide +kernel
theorem dX6_parsesCast_17 : decode cX6_parsesCast 17 = .ok (.aload_n 0, 1) := by decide +kernel
theorem dX6_parsesCast_18 : decode cX6_parsesCast 18 = .ok (.iconst 1, 1) := by decide +kernel
theorem dX6_parsesCast_19 : decode cX6_parsesCast 19 = .ok (.invokevirtual 186, 3) := by decide +kernel
theorem dX6_parsesCast_22 : decode cX6_parsesCast 22 = .ok (.iastore, 1) := by decide +kernel
theorem dX6_parsesCast_23 : decode cX6_parsesCast 23 = .ok (.aload_n 0, 1) := by decide +kernel
theorem dX6_parsesCast_24 : decode cX6_parsesCast 24 = .ok (.getfield 36, 3) := by decide +kernel
theorem dX6_parsesCast_27 : decode cX6_parsesCast 27 = .ok (.iload_n 1, 1) := by decide +kernel
theorem dX6_parsesCast_28 : decode cX6_parsesCast 28 = .ok (.iconst 2, 1) := by decide +kernel
theorem dX6_parsesCast_29 : decode cX6_parsesCast 29 = .ok (.iadd, 1) := by decide +kernel
theorem dX6_parsesCast_30 : decode cX6_parsesCast 30 = .ok (.aload_n 0, 1) := by decide +kernel
theorem dX6_parsesCast_31 : decode cX6_parsesCast 31 = .ok (.iconst 1, 1) := by decide +kernel
theorem dX6_parsesCast_32 : decode cX6_parsesCast 32 = .ok (.invokevirtual 186, 3) := by decide +kernel
theorem dX6_parsesCast_35 : decode cX6_parsesCast 35 = .ok (.iastore, 1) := by decide +kernel
theorem dX6_parsesCast_36 : decode cX6_parsesCast 36 = .ok (.aload_n 0, 1) := by decide +kernel
theorem dX6_parsesCast_37 : decode cX6_parsesCast 37 = .ok (.getfield 36, 3) := by decide +kernel
theorem dX6_parsesCast_40 : decode cX6_parsesCast 40 = .ok (.iload_n 1, 1) := by decide +kernel
theorem dX6_parsesCast_41 : decode cX6_parsesCast 41 = .ok (.iconst 3, 1) := by decide +kernel
theorem dX6_parsesCast_42 : decode cX6_parsesCast 42 = .ok (.iadd, 1) := by decide +kernel
theorem dX6_parsesCast_43 : decode cX6_parsesCast 43 = .ok (.aload_n 0, 1) := by decide +kernel
theorem dX6_parsesCast_44 : decode cX6_parsesCast 44 = .ok (.iconst 1, 1) := by decide +kernel
theorem dX6_parsesCast_45 : decode cX6_parsesCast 45 = .ok (.invokevirtual 186, 3) := by decide +kernel
theorem dX6_parsesCast_48 : decode cX6_parsesCast 48 = .ok (.iastore, 1) := by decide +kernel
theorem dX6_parsesCast_49 : decode cX6_parsesCast 49 = .ok (.return_, 1) := by decide +kernel
theorem dX6_parsesCommand_0 : decode cX6_parsesCommand 0 = .ok (.aload_n 0, 1) := by decide +kernel
theorem dX6_parsesCommand_1 : decode cX6_parsesCommand 1 = .ok (.invokevirtual 172, 3) := by decide +kernel
theorem dX6_parsesCommand_4 : decode cX6_parsesCommand 4 = .ok (.istore_n 2, 1) := by decide +kernel
theorem dX6_parsesCommand_5 : decode cX6_parsesCommand 5 = .ok (.aload_n 0, 1) := by decide +kernel
theorem dX6_parsesCommand_6 : decode cX6_parsesCommand 6 = .ok (.dup, 1) := by decide +kernel
theorem dX6_parsesCommand_7 : decode cX6_parsesCommand 7 = .ok (.getfield 165, 3) := by decide +kernel
theorem dX6_parsesCommand_10 : decode cX6_parsesCommand 10 = .ok (.iconst 1, 1) := by decide +kernel
theorem dX6_parsesCommand_11 : decode cX6_parsesCommand 11 = .ok (.iadd, 1) := by decide +kernel
theorem dX6_parsesCommand_12 : decode cX6_parsesCommand 12 = .ok (.putfield 165, 3) := by decide +kernel
theorem dX6_parsesCommand_15 : decode cX6_parsesCommand 15 = .ok (.aload_n 0, 1) := by decide +kernel
theorem dX6_parsesCommand_16 : decode cX6_parsesCommand 16 = .ok (.getfield 36, 3) := by decide +kernel
theorem dX6_parsesCommand_19 : decode cX6_parsesCommand 19 = .ok (.iload_n 1, 1) := by decide +kernel
theorem dX6_parsesCommand_20 : decode cX6_parsesCommand 20 = .ok (.iload_n 2, 1) := by decide +kernel
theorem dX6_parsesCommand_21 : decode cX6_parsesCommand 21 = .ok (.iastore, 1) := by decide +kernel
theorem dX6_parsesCommand_22 : decode cX6_parsesCommand 22 = .ok (.iload_n 2, 1) := by decide +kernel
theorem dX6_parsesCommand_23 : decode cX6_parsesCommand 23 = .ok (.tableswitch 274 97 116 #[93, 109, 150, 274, 274, 274, 274, 274, 274, 274, 274, 216, 101, 274, 274, 274, 274, 184, 248, 158], 93) := by decide +kernel
theorem dX6_parsesCommand_116 : decode cX6_parsesCommand 116 = .ok (.aload_n 0, 1) := by decide +kernel
theorem dX6_parsesCommand_117 : decode cX6_parsesCommand 117 = .ok (.iload_n 1, 1) := by decide +kernel
theorem dX6_parsesCommand_118 : decode cX6_parsesCommand 118 = .ok (.invokevirtual 189, 3) := by decide +kernel
theorem dX6_parsesCommand_121 : decode cX6_parsesCommand 121 = .ok (.goto 191, 3) := by decide +kernel
theorem dX6_parsesCommand_124 : decode cX6_parsesCommand 124 = .ok (.aload_n 0, 1) := by decide +kernel
theorem dX6_parsesCommand_125 : decode cX6_parsesCommand 125 = .ok (.iload_n 1, 1) := by decide +kernel
theorem dX6_parsesCommand_126 : decode cX6_parsesCommand 126 = .ok (.invokevirtual 192, 3) := by decide +kernel
theorem dX6_parsesCommand_129 : decode cX6_parsesCommand 129 = .ok (.goto 183, 3) := by decide +kernel
theorem dX6_parsesCommand_132 : decode cX6_parsesCommand 132 = .ok (.aload_n 0, 1) := by decide +kernel
theorem dX6_parsesCommand_133 : decode cX6_parsesCommand 133 = .ok (.bipush 117, 2) := by decide +kernel
theorem dX6_parsesCommand_135 : decode cX6_parsesCommand 135 = .ok (.invokevirtual 176, 3) := by decide +kernel
theorem dX6_parsesCommand_138 : decode cX6_parsesCommand 138 = .ok (.aload_n 0, 1) := by decide +kernel
theorem dX6_parsesCommand_139 : decode cX6_parsesCommand 139 = .ok (.bipush 121, 2) := by decide +kernel
theorem dX6_parsesCommand_141 : decode cX6_parsesCommand 141 = .ok (.invokevirtual 176, 3) := by decide +kernel
theorem dX6_parsesCommand_144 : decode cX6_parsesCommand 144 = .ok (.aload_n 0, 1) := by decide +kernel
theorem dX6_parsesCommand_145 : decode cX6_parsesCommand 145 = .ok (.getfield 36, 3) := by decide +kernel
theorem dX6_parsesCommand_148 : decode cX6_parsesCommand 148 = .ok (.iload_n 1, 1) := by decide +kernel
theorem dX6_parsesCommand_149 : decode cX6_parsesCommand 149 = .ok (.iconst 1, 1) := by decide +kernel
theorem dX6_parsesCommand_150 : decode cX6_parsesCommand 150 = .ok (.iadd, 1) := by decide +kernel
theorem dX6_parsesCommand_151 : decode cX6_parsesCommand 151 = .ok (.aload_n 0, 1) := by decide +kernel
theorem dX6_parsesCommand_152 : decode cX6_parsesCommand 152 = .ok (.iconst 1, 1) := by decide +kernel
theorem dX6_parsesCommand_153 : decode cX6_parsesCommand 153 = .ok (.invokevirtual 186, 3) := by decide +kernel
theorem dX6_parsesCommand_156 : decode cX6_parsesCommand 156 = .ok (.iastore, 1) := by decide +kernel
theorem dX6_parsesCommand_157 : decode cX6_parsesCommand 157 = .ok (.aload_n 0, 1) := by decide +kernel
theorem dX6_parsesCommand_158 : decode cX6_parsesCommand 158 = .ok (.getfield 36, 3) := by decide +kernel
theorem dX6_parsesCommand_161 : decode cX6_parsesCommand 161 = .ok (.iload_n 1, 1) := by decide +kernel
theorem dX6_parsesCommand_162 : decode cX6_parsesCommand 162 = .ok (.iconst 2, 1) := by decide +kernel
theorem dX6_parsesCommand_163 : decode cX6_parsesCommand 163 = .ok (.iadd, 1) := by decide +kernel
theorem dX6_parsesCommand_164 : decode cX6_parsesCommand 164 = .ok (.aload_n 0, 1) := by decide +kernel
theorem dX6_parsesCommand_165 : decode cX6_parsesCommand 165 = .ok (.iconst 2, 1) := by decide +kernel
theorem dX6_parsesCommand_166 : decode cX6_parsesCommand 166 = .ok (.invokevirtual 186, 3) := by decide +kernel
theorem dX6_parsesCommand_169 : decode cX6_parsesCommand 169 = .ok (.iastore, 1) := by decide +kernel
theorem dX6_parsesCommand_170 : decode cX6_parsesCommand 170 = .ok (.goto 142, 3) := by decide +kernel
theorem dX6_parsesCommand_173 : decode cX6_parsesCommand 173 = .ok (.aload_n 0, 1) := by decide +kernel
theorem dX6_parsesCommand_174 : decode cX6_parsesCommand 174 = .ok (.iload_n 1, 1) := by decide +kernel
theorem dX6_parsesCommand_175 : decode cX6_parsesCommand 175 = .ok (.invokevirtual 195, 3) := by decide +kernel
theorem dX6_parsesCommand_178 : decode cX6_parsesCommand 178 = .ok (.goto 134, 3) := by decide +kernel
theorem dX6_parsesCommand_181 : decode cX6_parsesCommand 181 = .ok (.aload_n 0, 1) := by decide +kernel
theorem dX6_parsesCommand_182 : decode cX6_parsesCommand 182 = .ok (.bipush 101, 2) := by decide +kernel
theorem dX6_parsesCommand_184 : decode cX6_parsesCommand 184 = .ok (.bipush 115, 2) := by decide +kernel
theorem dX6_parsesCommand_186 : decode cX6_parsesCommand 186 = .ok (.bipush 116, 2) := by decide +kernel
theorem dX6_parsesCommand_188 : decode cX6_parsesCommand 188 = .ok (.invokevirtual 182, 3) := by decide +kernel
theorem dX6_parsesCommand_191 : decode cX6_parsesCommand 191 = .ok (.aload_n 0, 1) := by decide +kernel
theorem dX6_parsesCommand_192 : decode cX6_parsesCommand 192 = .ok (.getfield 36, 3) := by decide +kernel
theorem dX6_parsesCommand_195 : decode cX6_parsesCommand 195 = .ok (.iload_n 1, 1) := by decide +kernel
theorem dX6_parsesCommand_196 : decode cX6_parsesCommand 196 = .ok (.iconst 1, 1) := by decide +kernel
theorem dX6_parsesCommand_197 : decode cX6_parsesCommand 197 = .ok (.iadd, 1) := by decide +kernel
theorem dX6_parsesCommand_198 : decode cX6_parsesCommand 198 = .ok (.aload_n 0, 1) := by decide +kernel
theorem dX6_parsesCommand_199 : decode cX6_parsesCommand 199 = .ok (.iconst 2, 1) := by decide +kernel
theorem dX6_parsesCommand_200 : decode cX6_parsesCommand 200 = .ok (.invokevirtual 186, 3) := by decide +kernel
theorem dX6_parsesCommand_203 : decode cX6_parsesCommand 203 = .ok (.iastore, 1) := by decide +kernel
theorem dX6_parsesCommand_204 : decode cX6_parsesCommand 204 = .ok (.goto 108, 3) := by decide +kernel
theorem dX6_parsesCommand_207 : decode cX6_parsesCommand 207 = .ok (.aload_n 0, 1) := by decide +kernel
theorem dX6_parsesCommand_208 : decode cX6_parsesCommand 208 = .ok (.bipush 101, 2) := by decide +kernel
theorem dX6_parsesCommand_210 : decode cX6_parsesCommand 210 = .ok (.bipush 110, 2) := by decide +kernel
theorem dX6_parsesCommand_212 : decode cX6_parsesCommand 212 = .ok (.bipush 101, 2) := by decide +kernel
theorem dX6_parsesCommand_214 : decode cX6_parsesCommand 214 = .ok (.invokevirtual 182, 3) := by decide +kernel
theorem dX6_parsesCommand_217 : decode cX6_parsesCommand 217 = .ok (.aload_n 0, 1) := by decide +kernel
theorem dX6_parsesCommand_218 : decode cX6_parsesCommand 218 = .ok (.bipush 119, 2) := by decide +kernel
theorem dX6_parsesCommand_220 : decode cX6_parsesCommand 220 = .ok (.invokevirtual 176, 3) := by decide +kernel
theorem dX6_parsesCommand_223 : decode cX6_parsesCommand 223 = .ok (.aload_n 0, 1) := by decide +kernel
theorem dX6_parsesCommand_224 : decode cX6_parsesCommand 224 = .ok (.getfield 36, 3) := by decide +kernel
theorem dX6_parsesCommand_227 : decode cX6_parsesCommand 227 = .ok (.iload_n 1, 1) := by decide +kernel
theorem dX6_parsesCommand_228 : decode cX6_parsesCommand 228 = .ok (.iconst 1, 1) := by decide +kernel
theorem dX6_parsesCommand_229 : decode cX6_parsesCommand 229 = .ok (.iadd, 1) := by decide +kernel
theorem dX6_parsesCommand_230 : decode cX6_parsesCommand 230 = .ok (.aload_n 0, 1) := by decide +kernel
theorem dX6_parsesCommand_231 : decode cX6_parsesCommand 231 = .ok (.iconst 1, 1) := by decide +kernel
theorem dX6_parsesCommand_232 : decode cX6_parsesCommand 232 = .ok (.invokevirtual 186, 3) := by decide +kernel
theorem dX6_parsesCommand_235 : decode cX6_parsesCommand 235 = .ok (.iastore, 1) := by decide +kernel
theorem dX6_parsesCommand_236 : decode cX6_parsesCommand 236 = .ok (.goto 76, 3) := by decide +kernel
theorem dX6_parsesCommand_239 : decode cX6_parsesCommand 239 = .ok (.aload_n 0, 1) := by decide +kernel
theorem dX6_parsesCommand_240 : decode cX6_parsesCommand 240 = .ok (.bipush 105, 2) := by decide +kernel
theorem dX6_parsesCommand_242 : decode cX6_parsesCommand 242 = .ok (.bipush 109, 2) := by decide +kernel
theorem dX6_parsesCommand_244 : decode cX6_parsesCommand 244 = .ok (.bipush 105, 2) := by decide +kernel
theorem dX6_parsesCommand_246 : decode cX6_parsesCommand 246 = .ok (.invokevirtual 182, 3) := by decide +kernel
theorem dX6_parsesCommand_249 : decode cX6_parsesCommand 249 = .ok (.aload_n 0, 1) := by decide +kernel
theorem dX6_parsesCommand_250 : decode cX6_parsesCommand 250 = .ok (.bipush 116, 2) := by decide +kernel
theorem dX6_parsesCommand_252 : decode cX6_parsesCommand 252 = .ok (.invokevirtual 176, 3) := by decide +kernel
theorem dX6_parsesCommand_255 : decode cX6_parsesCommand 255 = .ok (.aload_n 0, 1) := by decide +kernel
theorem dX6_parsesCommand_256 : decode cX6_parsesCommand 256 = .ok (.getfield 36, 3) := by decide +kernel
theorem dX6_parsesCommand_259 : decode cX6_parsesCommand 259 = .ok (.iload_n 1, 1) := by decide +kernel
theorem dX6_parsesCommand_260 : decode cX6_parsesCommand 260 = .ok (.iconst 1, 1) := by decide +kernel
theorem dX6_parsesCommand_261 : decode cX6_parsesCommand 261 = .ok (.iadd, 1) := by decide +kernel
theorem dX6_parsesCommand_262 : decode cX6_parsesCommand 262 = .ok (.aload_n 0, 1) := by decide +kernel
theorem dX6_parsesCommand_263 : decode cX6_parsesCommand 263 = .ok (.iconst 2, 1) := by decide +kernel
theorem dX6_parsesCommand_264 : decode cX6_parsesCommand 264 = .ok (.invokevirtual 186, 3) := by decide +kernel
theorem dX6_parsesCommand_267 : decode cX6_parsesCommand 267 = .ok (.iastore, 1) := by decide +kernel
theorem dX6_parsesCommand_268 : decode cX6_parsesCommand 268 = .ok (.goto 44, 3) := by decide +kernel
theorem dX6_parsesCommand_271 : decode cX6_parsesCommand 271 = .ok (.aload_n 0, 1) := by decide +kernel
theorem dX6_parsesCommand_272 : decode cX6_parsesCommand 272 = .ok (.bipush 116, 2) := by decide +kernel
theorem dX6_parsesCommand_274 : decode cX6_parsesCommand 274 = .ok (.bipush 101, 2) := by decide +kernel
theorem dX6_parsesCommand_276 : decode cX6_parsesCommand 276 = .ok (.bipush 112, 2) := by decide +kernel
theorem dX6_parsesCommand_278 : decode cX6_parsesCommand 278 = .ok (.invokevirtual 182, 3) := by decide +kernel
theorem dX6_parsesCommand_281 : decode cX6_parsesCommand 281 = .ok (.aload_n 0, 1) := by decide +kernel
theorem dX6_parsesCommand_282 : decode cX6_parsesCommand 282 = .ok (.getfield 36, 3) := by decide +kernel
theorem dX6_parsesCommand_285 : decode cX6_parsesCommand 285 = .ok (.iload_n 1, 1) := by decide +kernel
theorem dX6_parsesCommand_286 : decode cX6_parsesCommand 286 = .ok (.iconst 1, 1) := by decide +kernel
theorem dX6_parsesCommand_287 : decode cX6_parsesCommand 287 = .ok (.iadd, 1) := by decide +kernel
theorem dX6_parsesCommand_288 : decode cX6_parsesCommand 288 = .ok (.aload_n 0, 1) := by decide +kernel
theorem dX6_parsesCommand_289 : decode cX6_parsesCommand 289 = .ok (.iconst 1, 1) := by decide +kernel
theorem dX6_parsesCommand_290 : decode cX6_parsesCommand 290 = .ok (.invokevirtual 186, 3) := by decide +kernel
theorem dX6_parsesCommand_293 : decode cX6_parsesCommand 293 = .ok (.iastore, 1) := by decide +kernel
theorem dX6_parsesCommand_294 : decode cX6_parsesCommand 294 = .ok (.goto 18, 3) := by decide +kernel
theorem dX6_parsesCommand_297 : decode cX6_parsesCommand 297 = .ok (.aload_n 0, 1) := by decide +kernel
theorem dX6_parsesCommand_298 : decode cX6_parsesCommand 298 = .ok (.iconst 1, 1) := by decide +kernel
theorem dX6_parsesCommand_299 : decode cX6_parsesCommand 299 = .ok (.putfield 168, 3) := by decide +kernel
theorem dX6_parsesCommand_302 : decode cX6_parsesCommand 302 = .ok (.aload_n 0, 1) := by decide +kernel
theorem dX6_parsesCommand_303 : decode cX6_parsesCommand 303 = .ok (.dup, 1) := by decide +kernel
theorem dX6_parsesCommand_304 : decode cX6_parsesCommand 304 = .ok (.getfield 165, 3) := by decide +kernel
theorem dX6_parsesCommand_307 : decode cX6_parsesCommand 307 = .ok (.iconst 1, 1) := by decide +kernel
theorem dX6_parsesCommand_308 : decode cX6_parsesCommand 308 = .ok (.isub, 1) := by decide +kernel
theorem dX6_parsesCommand_309 : decode cX6_parsesCommand 309 = .ok (.putfield 165, 3) := by decide +kernel
theorem dX6_parsesCommand_312 : decode cX6_parsesCommand 312 = .ok (.return_, 1) := by decide +kernel
theorem dX6_carriesOut_0 : decode cX6_carriesOut 0 = .ok (.aload_n 0, 1) := by decide +kernel
theorem dX6_carriesOut_1 : decode cX6_carriesOut 1 = .ok (.getfield 36, 3) := by decide +kernel
theorem dX6_carriesOut_4 : decode cX6_carriesOut 4 = .ok (.iload_n 1, 1) := by decide +kernel
theorem dX6_carriesOut_5 : decode cX6_carriesOut 5 = .ok (.iconst 1, 1) := by decide +kernel
theorem dX6_carriesOut_6 : decode cX6_carriesOut 6 = .ok (.iadd, 1) := by decide +kernel
theorem dX6_carriesOut_7 : decode cX6_carriesOut 7 = .ok (.iaload, 1) := by decide +kernel
theorem dX6_carriesOut_8 : decode cX6_carriesOut 8 = .ok (.istore_n 2, 1) := by decide +kernel
theorem dX6_carriesOut_9 : decode cX6_carriesOut 9 = .ok (.aload_n 0, 1) := by decide +kernel
theorem dX6_carriesOut_10 : decode cX6_carriesOut 10 = .ok (.getfield 36, 3) := by decide +kernel
theorem dX6_carriesOut_13 : decode cX6_carriesOut 13 = .ok (.iload_n 1, 1) := by decide +kernel
theorem dX6_carriesOut_14 : decode cX6_carriesOut 14 = .ok (.iconst 2, 1) := by decide +kernel
theorem dX6_carriesOut_15 : decode cX6_carriesOut 15 = .ok (.iadd, 1) := by decide +kernel
theorem dX6_carriesOut_16 : decode cX6_carriesOut 16 = .ok (.iaload, 1) := by decide +kernel
theorem dX6_carriesOut_17 : decode cX6_carriesOut 17 = .ok (.istore_n 3, 1) := by decide +kernel
theorem dX6_carriesOut_18 : decode cX6_carriesOut 18 = .ok (.aload_n 0, 1) := by decide +kernel
theorem dX6_carriesOut_19 : decode cX6_carriesOut 19 = .ok (.getfield 36, 3) := by decide +kernel
theorem dX6_carriesOut_22 : decode cX6_carriesOut 22 = .ok (.iload_n 1, 1) := by decide +kernel
theorem dX6_carriesOut_23 : decode cX6_carriesOut 23 = .ok (.iaload, 1) := by decide +kernel
theorem dX6_carriesOut_24 : decode cX6_carriesOut 24 = .ok (.tableswitch 167 97 116 #[96, 117, 124, 167, 145, 167, 167, 167, 167, 167, 167, 157, 111, 167, 167, 167, 167, 151, 167, 139], 96) := by decide +kernel
theorem dX6_carriesOut_120 : decode cX6_carriesOut 120 = .ok (.aload_n 0, 1) := by decide +kernel
theorem dX6_carriesOut_121 : decode cX6_carriesOut 121 = .ok (.iload_n 2, 1) := by decide +kernel
theorem dX6_carriesOut_122 : decode cX6_carriesOut 122 = .ok (.iload_n 3, 1) := by decide +kernel
theorem dX6_carriesOut_123 : decode cX6_carriesOut 123 = .ok (.aload_n 0, 1) := by decide +kernel
theorem dX6_carriesOut_124 : decode cX6_carriesOut 124 = .ok (.getfield 36, 3) := by decide +kernel
theorem dX6_carriesOut_127 : decode cX6_carriesOut 127 = .ok (.iload_n 1, 1) := by decide +kernel
theorem dX6_carriesOut_128 : decode cX6_carriesOut 128 = .ok (.iconst 3, 1) := by decide +kernel
theorem dX6_carriesOut_129 : decode cX6_carriesOut 129 = .ok (.iadd, 1) := by decide +kernel
theorem dX6_carriesOut_130 : decode cX6_carriesOut 130 = .ok (.iaload, 1) := by decide +kernel
theorem dX6_carriesOut_131 : decode cX6_carriesOut 131 = .ok (.invokevirtual 76, 3) := by decide +kernel
theorem dX6_carriesOut_134 : decode cX6_carriesOut 134 = .ok (.ireturn, 1) := by decide +kernel
theorem dX6_carriesOut_135 : decode cX6_carriesOut 135 = .ok (.aload_n 0, 1) := by decide +kernel
theorem dX6_carriesOut_136 : decode cX6_carriesOut 136 = .ok (.iload_n 2, 1) := by decide +kernel
theorem dX6_carriesOut_137 : decode cX6_carriesOut 137 = .ok (.invokevirtual 83, 3) := by decide +kernel
theorem dX6_carriesOut_140 : decode cX6_carriesOut 140 = .ok (.ireturn, 1) := by decide +kernel
theorem dX6_carriesOut_141 : decode cX6_carriesOut 141 = .ok (.aload_n 0, 1) := by decide +kernel
theorem dX6_carriesOut_142 : decode cX6_carriesOut 142 = .ok (.iload_n 2, 1) := by decide +kernel
theorem dX6_carriesOut_143 : decode cX6_carriesOut 143 = .ok (.iload_n 3, 1) := by decide +kernel
theorem dX6_carriesOut_144 : decode cX6_carriesOut 144 = .ok (.invokevirtual 90, 3) := by decide +kernel
theorem dX6_carriesOut_147 : decode cX6_carriesOut 147 = .ok (.ireturn, 1) := by decide +kernel
theorem dX6_carriesOut_148 : decode cX6_carriesOut 148 = .ok (.aload_n 0, 1) := by decide +kernel
theorem dX6_carriesOut_149 : decode cX6_carriesOut 149 = .ok (.iload_n 2, 1) := by decide +kernel
theorem dX6_carriesOut_150 : decode cX6_carriesOut 150 = .ok (.iload_n 3, 1) := by decide +kernel
theorem dX6_carriesOut_151 : decode cX6_carriesOut 151 = .ok (.aload_n 0, 1) := by decide +kernel
theorem dX6_carriesOut_152 : decode cX6_carriesOut 152 = .ok (.getfield 36, 3) := by decide +kernel
theorem dX6_carriesOut_155 : decode cX6_carriesOut 155 = .ok (.iload_n 1, 1) := by decide +kernel
theorem dX6_carriesOut_156 : decode cX6_carriesOut 156 = .ok (.iconst 3, 1) := by decide +kernel
theorem dX6_carriesOut_157 : decode cX6_carriesOut 157 = .ok (.iadd, 1) := by decide +kernel
theorem dX6_carriesOut_158 : decode cX6_carriesOut 158 = .ok (.iaload, 1) := by decide +kernel
theorem dX6_carriesOut_159 : decode cX6_carriesOut 159 = .ok (.invokevirtual 106, 3) := by decide +kernel
theorem dX6_carriesOut_162 : decode cX6_carriesOut 162 = .ok (.ireturn, 1) := by decide +kernel
theorem dX6_carriesOut_163 : decode cX6_carriesOut 163 = .ok (.aload_n 0, 1) := by decide +kernel
theorem dX6_carriesOut_164 : decode cX6_carriesOut 164 = .ok (.iload_n 2, 1) := by decide +kernel
theorem dX6_carriesOut_165 : decode cX6_carriesOut 165 = .ok (.invokevirtual 122, 3) := by decide +kernel
theorem dX6_carriesOut_168 : decode cX6_carriesOut 168 = .ok (.ireturn, 1) := by decide +kernel
theorem dX6_carriesOut_169 : decode cX6_carriesOut 169 = .ok (.aload_n 0, 1) := by decide +kernel
theorem dX6_carriesOut_170 : decode cX6_carriesOut 170 = .ok (.iload_n 2, 1) := by decide +kernel
theorem dX6_carriesOut_171 : decode cX6_carriesOut 171 = .ok (.invokevirtual 125, 3) := by decide +kernel
theorem dX6_carriesOut_174 : decode cX6_carriesOut 174 = .ok (.ireturn, 1) := by decide +kernel
theorem dX6_carriesOut_175 : decode cX6_carriesOut 175 = .ok (.aload_n 0, 1) := by decide +kernel
theorem dX6_carriesOut_176 : decode cX6_carriesOut 176 = .ok (.iload_n 2, 1) := by decide +kernel
theorem dX6_carriesOut_177 : decode cX6_carriesOut 177 = .ok (.invokevirtual 128, 3) := by decide +kernel
theorem dX6_carriesOut_180 : decode cX6_carriesOut 180 = .ok (.ireturn, 1) := by decide +kernel
theorem dX6_carriesOut_181 : decode cX6_carriesOut 181 = .ok (.aload_n 0, 1) := by decide +kernel
theorem dX6_carriesOut_182 : decode cX6_carriesOut 182 = .ok (.iconst 3, 1) := by decide +kernel
theorem dX6_carriesOut_183 : decode cX6_carriesOut 183 = .ok (.iload_n 2, 1) := by decide +kernel
theorem dX6_carriesOut_184 : decode cX6_carriesOut 184 = .ok (.iconst 0, 1) := by decide +kernel
theorem dX6_carriesOut_185 : decode cX6_carriesOut 185 = .ok (.bipush 99, 2) := by decide +kernel
theorem dX6_carriesOut_187 : decode cX6_carriesOut 187 = .ok (.invokevirtual 131, 3) := by decide +kernel
theorem dX6_carriesOut_190 : decode cX6_carriesOut 190 = .ok (.ireturn, 1) := by decide +kernel
theorem dX6_carriesOut_191 : decode cX6_carriesOut 191 = .ok (.aload_n 0, 1) := by decide +kernel
theorem dX6_carriesOut_192 : decode cX6_carriesOut 192 = .ok (.iconst 4, 1) := by decide +kernel
theorem dX6_carriesOut_193 : decode cX6_carriesOut 193 = .ok (.iload_n 2, 1) := by decide +kernel
theorem dX6_carriesOut_194 : decode cX6_carriesOut 194 = .ok (.iconst 1, 1) := by decide +kernel
theorem dX6_carriesOut_195 : decode cX6_carriesOut 195 = .ok (.iconst 5, 1) := by decide +kernel
theorem dX6_carriesOut_196 : decode cX6_carriesOut 196 = .ok (.invokevirtual 131, 3) := by decide +kernel
theorem dX6_carriesOut_199 : decode cX6_carriesOut 199 = .ok (.ireturn, 1) := by decide +kernel
theorem dX6_runScript_0 : decode cX6_runScript 0 = .ok (.aload_n 0, 1) := by decide +kernel
theorem dX6_runScript_1 : decode cX6_runScript 1 = .ok (.iconst 0, 1) := by decide +kernel
theorem dX6_runScript_2 : decode cX6_runScript 2 = .ok (.putfield 165, 3) := by decide +kernel
theorem dX6_runScript_5 : decode cX6_runScript 5 = .ok (.aload_n 0, 1) := by decide +kernel
theorem dX6_runScript_6 : decode cX6_runScript 6 = .ok (.iconst 0, 1) := by decide +kernel
theorem dX6_runScript_7 : decode cX6_runScript 7 = .ok (.putfield 168, 3) := by decide +kernel
theorem dX6_runScript_10 : decode cX6_runScript 10 = .ok (.iconst 0, 1) := by decide +kernel
theorem dX6_runScript_11 : decode cX6_runScript 11 = .ok (.istore_n 1, 1) := by decide +kernel
theorem dX6_runScript_12 : decode cX6_runScript 12 = .ok (.iconst 1, 1) := by decide +kernel
theorem dX6_runScript_13 : decode cX6_runScript 13 = .ok (.istore_n 2, 1) := by decide +kernel
theorem dX6_runScript_14 : decode cX6_runScript 14 = .ok (.iload_n 2, 1) := by decide +kernel
theorem dX6_runScript_15 : decode cX6_runScript 15 = .ok (.ifCond .eq 56, 3) := by decide +kernel
theorem dX6_runScript_18 : decode cX6_runScript 18 = .ok (.aload_n 0, 1) := by decide +kernel
theorem dX6_runScript_19 : decode cX6_runScript 19 = .ok (.iconst 4, 1) := by decide +kernel
theorem dX6_runScript_20 : decode cX6_runScript 20 = .ok (.iload_n 1, 1) := by decide +kernel
theorem dX6_runScript_21 : decode cX6_runScript 21 = .ok (.imul, 1) := by decide +kernel
theorem dX6_runScript_22 : decode cX6_runScript 22 = .ok (.invokevirtual 198, 3) := by decide +kernel
theorem dX6_runScript_25 : decode cX6_runScript 25 = .ok (.iinc 1 1, 3) := by decide +kernel
theorem dX6_runScript_28 : decode cX6_runScript 28 = .ok (.aload_n 0, 1) := by decide +kernel
theorem dX6_runScript_29 : decode cX6_runScript 29 = .ok (.getfield 168, 3) := by decide +kernel
theorem dX6_runScript_32 : decode cX6_runScript 32 = .ok (.ifCond .ne 16, 3) := by decide +kernel
theorem dX6_runScript_35 : decode cX6_runScript 35 = .ok (.aload_n 0, 1) := by decide +kernel
theorem dX6_runScript_36 : decode cX6_runScript 36 = .ok (.invokevirtual 172, 3) := by decide +kernel
theorem dX6_runScript_39 : decode cX6_runScript 39 = .ok (.bipush 59, 2) := by decide +kernel
theorem dX6_runScript_41 : decode cX6_runScript 41 = .ok (.if_icmp .ne 7, 3) := by decide +kernel
theorem dX6_runScript_44 : decode cX6_runScript 44 = .ok (.iconst 1, 1) := by decide +kernel
theorem dX6_runScript_45 : decode cX6_runScript 45 = .ok (.goto 4, 3) := by decide +kernel
theorem dX6_runScript_48 : decode cX6_runScript 48 = .ok (.iconst 0, 1) := by decide +kernel
theorem dX6_runScript_49 : decode cX6_runScript 49 = .ok (.istore_n 2, 1) := by decide +kernel
theorem dX6_runScript_50 : decode cX6_runScript 50 = .ok (.aload_n 0, 1) := by decide +kernel
theorem dX6_runScript_51 : decode cX6_runScript 51 = .ok (.dup, 1) := by decide +kernel
theorem dX6_runScript_52 : decode cX6_runScript 52 = .ok (.getfield 165, 3) := by decide +kernel
theorem dX6_runScript_55 : decode cX6_runScript 55 = .ok (.iload_n 2, 1) := by decide +kernel
theorem dX6_runScript_56 : decode cX6_runScript 56 = .ok (.ifCond .eq 7, 3) := by decide +kernel
theorem dX6_runScript_59 : decode cX6_runScript 59 = .ok (.iconst 1, 1) := by decide +kernel
theorem dX6_runScript_60 : decode cX6_runScript 60 = .ok (.goto 4, 3) := by decide +kernel
theorem dX6_runScript_63 : decode cX6_runScript 63 = .ok (.iconst 0, 1) := by decide +kernel
theorem dX6_runScript_64 : decode cX6_runScript 64 = .ok (.iadd, 1) := by decide +kernel
theorem dX6_runScript_65 : decode cX6_runScript 65 = .ok (.putfield 165, 3) := by decide +kernel
theorem dX6_runScript_68 : decode cX6_runScript 68 = .ok (.goto (-54), 3) := by decide +kernel
theorem dX6_runScript_71 : decode cX6_runScript 71 = .ok (.aload_n 0, 1) := by decide +kernel
theorem dX6_runScript_72 : decode cX6_runScript 72 = .ok (.aload_n 0, 1) := by decide +kernel
theorem dX6_runScript_73 : decode cX6_runScript 73 = .ok (.getfield 168, 3) := by decide +kernel
theorem dX6_runScript_76 : decode cX6_runScript 76 = .ok (.ifCond .ne 14, 3) := by decide +kernel
theorem dX6_runScript_79 : decode cX6_runScript 79 = .ok (.aload_n 0, 1) := by decide +kernel
theorem dX6_runScript_80 : decode cX6_runScript 80 = .ok (.getfield 165, 3) := by decide +kernel
theorem dX6_runScript_83 : decode cX6_runScript 83 = .ok (.aload_n 0, 1) := by decide +kernel
theorem dX6_runScript_84 : decode cX6_runScript 84 = .ok (.getfield 162, 3) := by decide +kernel
theorem dX6_runScript_87 : decode cX6_runScript 87 = .ok (.if_icmp .ge 7, 3) := by decide +kernel
theorem dX6_runScript_90 : decode cX6_runScript 90 = .ok (.iconst 1, 1) := by decide +kernel
theorem dX6_runScript_91 : decode cX6_runScript 91 = .ok (.goto 4, 3) := by decide +kernel
theorem dX6_runScript_94 : decode cX6_runScript 94 = .ok (.iconst 0, 1) := by decide +kernel
theorem dX6_runScript_95 : decode cX6_runScript 95 = .ok (.putfield 168, 3) := by decide +kernel
theorem dX6_runScript_98 : decode cX6_runScript 98 = .ok (.aload_n 0, 1) := by decide +kernel
theorem dX6_runScript_99 : decode cX6_runScript 99 = .ok (.iconst 0, 1) := by decide +kernel
theorem dX6_runScript_100 : decode cX6_runScript 100 = .ok (.putfield 162, 3) := by decide +kernel
theorem dX6_runScript_103 : decode cX6_runScript 103 = .ok (.aload_n 0, 1) := by decide +kernel
theorem dX6_runScript_104 : decode cX6_runScript 104 = .ok (.getfield 168, 3) := by decide +kernel
theorem dX6_runScript_107 : decode cX6_runScript 107 = .ok (.ifCond .eq 17, 3) := by decide +kernel
theorem dX6_runScript_110 : decode cX6_runScript 110 = .ok (.aload_n 0, 1) := by decide +kernel
theorem dX6_runScript_111 : decode cX6_runScript 111 = .ok (.aload_n 0, 1) := by decide +kernel
theorem dX6_runScript_112 : decode cX6_runScript 112 = .ok (.getfield 165, 3) := by decide +kernel
theorem dX6_runScript_115 : decode cX6_runScript 115 = .ok (.putfield 26, 3) := by decide +kernel
theorem dX6_runScript_118 : decode cX6_runScript 118 = .ok (.aload_n 0, 1) := by decide +kernel
theorem dX6_runScript_119 : decode cX6_runScript 119 = .ok (.iconst 1, 1) := by decide +kernel
theorem dX6_runScript_120 : decode cX6_runScript 120 = .ok (.invokevirtual 67, 3) := by decide +kernel
theorem dX6_runScript_123 : decode cX6_runScript 123 = .ok (.ireturn, 1) := by decide +kernel
theorem dX6_runScript_124 : decode cX6_runScript 124 = .ok (.aload_n 0, 1) := by decide +kernel
theorem dX6_runScript_125 : decode cX6_runScript 125 = .ok (.invokevirtual 73, 3) := by decide +kernel
theorem dX6_runScript_128 : decode cX6_runScript 128 = .ok (.iconst 0, 1) := by decide +kernel
theorem dX6_runScript_129 : decode cX6_runScript 129 = .ok (.istore_n 3, 1) := by decide +kernel
theorem dX6_runScript_130 : decode cX6_runScript 130 = .ok (.iload_n 3, 1) := by decide +kernel
theorem dX6_runScript_131 : decode cX6_runScript 131 = .ok (.iload_n 1, 1) := by decide +kernel
theorem dX6_runScript_132 : decode cX6_runScript 132 = .ok (.if_icmp .ge 42, 3) := by decide +kernel
theorem dX6_runScript_135 : decode cX6_runScript 135 = .ok (.aload_n 0, 1) := by decide +kernel
theorem dX6_runScript_136 : decode cX6_runScript 136 = .ok (.iconst 4, 1) := by decide +kernel
theorem dX6_runScript_137 : decode cX6_runScript 137 = .ok (.iload_n 3, 1) := by decide +kernel
theorem dX6_runScript_138 : decode cX6_runScript 138 = .ok (.imul, 1) := by decide +kernel
theorem dX6_runScript_139 : decode cX6_runScript 139 = .ok (.invokevirtual 201, 3) := by decide +kernel
theorem dX6_runScript_142 : decode cX6_runScript 142 = .ok (.istore 4, 2) := by decide +kernel
theorem dX6_runScript_144 : decode cX6_runScript 144 = .ok (.aload_n 0, 1) := by decide +kernel
theorem dX6_runScript_145 : decode cX6_runScript 145 = .ok (.getfield 39, 3) := by decide +kernel
theorem dX6_runScript_148 : decode cX6_runScript 148 = .ok (.ifCond .eq 20, 3) := by decide +kernel
theorem dX6_runScript_151 : decode cX6_runScript 151 = .ok (.aload_n 0, 1) := by decide +kernel
theorem dX6_runScript_152 : decode cX6_runScript 152 = .ok (.iload_n 3, 1) := by decide +kernel
theorem dX6_runScript_153 : decode cX6_runScript 153 = .ok (.putfield 30, 3) := by decide +kernel
theorem dX6_runScript_156 : decode cX6_runScript 156 = .ok (.aload_n 0, 1) := by decide +kernel
theorem dX6_runScript_157 : decode cX6_runScript 157 = .ok (.iconst 2, 1) := by decide +kernel
theorem dX6_runScript_158 : decode cX6_runScript 158 = .ok (.putfield 39, 3) := by decide +kernel
theorem dX6_runScript_161 : decode cX6_runScript 161 = .ok (.aload_n 0, 1) := by decide +kernel
theorem dX6_runScript_162 : decode cX6_runScript 162 = .ok (.iload 4, 2) := by decide +kernel
theorem dX6_runScript_164 : decode cX6_runScript 164 = .ok (.invokevirtual 80, 3) := by decide +kernel
theorem dX6_runScript_167 : decode cX6_runScript 167 = .ok (.ireturn, 1) := by decide +kernel
theorem dX6_runScript_168 : decode cX6_runScript 168 = .ok (.iinc 3 1, 3) := by decide +kernel
theorem dX6_runScript_171 : decode cX6_runScript 171 = .ok (.goto (-41), 3) := by decide +kernel
theorem dX6_runScript_174 : decode cX6_runScript 174 = .ok (.aload_n 0, 1) := by decide +kernel
theorem dX6_runScript_175 : decode cX6_runScript 175 = .ok (.aload_n 0, 1) := by decide +kernel
theorem dX6_runScript_176 : decode cX6_runScript 176 = .ok (.iload_n 1, 1) := by decide +kernel
theorem dX6_runScript_177 : decode cX6_runScript 177 = .ok (.invokevirtual 70, 3) := by decide +kernel
theorem dX6_runScript_180 : decode cX6_runScript 180 = .ok (.invokevirtual 80, 3) := by decide +kernel
theorem dX6_runScript_183 : decode cX6_runScript 183 = .ok (.ireturn, 1) := by decide +kernel
theorem dX6_errorPosition_0 : decode cX6_errorPosition 0 = .ok (.aload_n 0, 1) := by decide +kernel
theorem dX6_errorPosition_1 : decode cX6_errorPosition 1 = .ok (.getfield 26, 3) := by decide +kernel
theorem dX6_errorPosition_4 : decode cX6_errorPosition 4 = .ok (.iconst (-1), 1) := by decide +kernel
theorem dX6_errorPosition_5 : decode cX6_errorPosition 5 = .ok (.if_icmp .ne 11, 3) := by decide +kernel
theorem dX6_errorPosition_8 : decode cX6_errorPosition 8 = .ok (.aload_n 0, 1) := by decide +kernel
theorem dX6_errorPosition_9 : decode cX6_errorPosition 9 = .ok (.iconst 1, 1) := by decide +kernel
theorem dX6_errorPosition_10 : decode cX6_errorPosition 10 = .ok (.invokevirtual 67, 3) := by decide +kernel
theorem dX6_errorPosition_13 : decode cX6_errorPosition 13 = .ok (.goto 11, 3) := by decide +kernel
theorem dX6_errorPosition_16 : decode cX6_errorPosition 16 = .ok (.aload_n 0, 1) := by decide +kernel
theorem dX6_errorPosition_17 : decode cX6_errorPosition 17 = .ok (.aload_n 0, 1) := by decide +kernel
theorem dX6_errorPosition_18 : decode cX6_errorPosition 18 = .ok (.getfield 26, 3) := by decide +kernel
theorem dX6_errorPosition_21 : decode cX6_errorPosition 21 = .ok (.invokevirtual 70, 3) := by decide +kernel
theorem dX6_errorPosition_24 : decode cX6_errorPosition 24 = .ok (.ireturn, 1) := by decide +kernel
theorem dX6_failedCommand_0 : decode cX6_failedCommand 0 = .ok (.aload_n 0, 1) := by decide +kernel
theorem dX6_failedCommand_1 : decode cX6_failedCommand 1 = .ok (.getfield 30, 3) := by decide +kernel
theorem dX6_failedCommand_4 : decode cX6_failedCommand 4 = .ok (.iconst (-1), 1) := by decide +kernel
theorem dX6_failedCommand_5 : decode cX6_failedCommand 5 = .ok (.if_icmp .ne 11, 3) := by decide +kernel
theorem dX6_failedCommand_8 : decode cX6_failedCommand 8 = .ok (.aload_n 0, 1) := by decide +kernel
theorem dX6_failedCommand_9 : decode cX6_failedCommand 9 = .ok (.iconst 1, 1) := by decide +kernel
theorem dX6_failedCommand_10 : decode cX6_failedCommand 10 = .ok (.invokevirtual 67, 3) := by decide +kernel
theorem dX6_failedCommand_13 : decode cX6_failedCommand 13 = .ok (.goto 11, 3) := by decide +kernel
theorem dX6_failedCommand_16 : decode cX6_failedCommand 16 = .ok (.aload_n 0, 1) := by decide +kernel
theorem dX6_failedCommand_17 : decode cX6_failedCommand 17 = .ok (.aload_n 0, 1) := by decide +kernel
theorem dX6_failedCommand_18 : decode cX6_failedCommand 18 = .ok (.getfield 30, 3) := by decide +kernel
theorem dX6_failedCommand_21 : decode cX6_failedCommand 21 = .ok (.invokevirtual 70, 3) := by decide +kernel
theorem dX6_failedCommand_24 : decode cX6_failedCommand 24 = .ok (.ireturn, 1) := by decide +kernel
theorem dX6_undo_0 : decode cX6_undo 0 = .ok (.aload_n 0, 1) := by decide +kernel
theorem dX6_undo_1 : decode cX6_undo 1 = .ok (.getfield 46, 3) := by decide +kernel
theorem dX6_undo_4 : decode cX6_undo 4 = .ok (.ifCond .ne 9, 3) := by decide +kernel
theorem dX6_undo_7 : decode cX6_undo 7 = .ok (.aload_n 0, 1) := by decide +kernel
theorem dX6_undo_8 : decode cX6_undo 8 = .ok (.iconst 1, 1) := by decide +kernel
theorem dX6_undo_9 : decode cX6_undo 9 = .ok (.invokevirtual 67, 3) := by decide +kernel
theorem dX6_undo_12 : decode cX6_undo 12 = .ok (.ireturn, 1) := by decide +kernel
theorem dX6_undo_13 : decode cX6_undo 13 = .ok (.aload_n 0, 1) := by decide +kernel
theorem dX6_undo_14 : decode cX6_undo 14 = .ok (.dup, 1) := by decide +kernel
theorem dX6_undo_15 : decode cX6_undo 15 = .ok (.getfield 46, 3) := by decide +kernel
theorem dX6_undo_18 : decode cX6_undo 18 = .ok (.iconst 1, 1) := by decide +kernel
theorem dX6_undo_19 : decode cX6_undo 19 = .ok (.isub, 1) := by decide +kernel
theorem dX6_undo_20 : decode cX6_undo 20 = .ok (.putfield 46, 3) := by decide +kernel
theorem dX6_undo_23 : decode cX6_undo 23 = .ok (.aload_n 0, 1) := by decide +kernel
theorem dX6_undo_24 : decode cX6_undo 24 = .ok (.getfield 16, 3) := by decide +kernel
theorem dX6_undo_27 : decode cX6_undo 27 = .ok (.aload_n 0, 1) := by decide +kernel
theorem dX6_undo_28 : decode cX6_undo 28 = .ok (.getfield 46, 3) := by decide +kernel
theorem dX6_undo_31 : decode cX6_undo 31 = .ok (.sipush 159, 3) := by decide +kernel
theorem dX6_undo_34 : decode cX6_undo 34 = .ok (.imul, 1) := by decide +kernel
theorem dX6_undo_35 : decode cX6_undo 35 = .ok (.aload_n 0, 1) := by decide +kernel
theorem dX6_undo_36 : decode cX6_undo 36 = .ok (.getfield 7, 3) := by decide +kernel
theorem dX6_undo_39 : decode cX6_undo 39 = .ok (.iconst 0, 1) := by decide +kernel
theorem dX6_undo_40 : decode cX6_undo 40 = .ok (.invokestatic 42, 3) := by decide +kernel
theorem dX6_undo_43 : decode cX6_undo 43 = .ok (.aload_n 0, 1) := by decide +kernel
theorem dX6_undo_44 : decode cX6_undo 44 = .ok (.aload_n 0, 1) := by decide +kernel
theorem dX6_undo_45 : decode cX6_undo 45 = .ok (.getfield 46, 3) := by decide +kernel
theorem dX6_undo_48 : decode cX6_undo 48 = .ok (.invokevirtual 70, 3) := by decide +kernel
theorem dX6_undo_51 : decode cX6_undo 51 = .ok (.ireturn, 1) := by decide +kernel
theorem dX6_save_0 : decode cX6_save 0 = .ok (.aload_n 0, 1) := by decide +kernel
theorem dX6_save_1 : decode cX6_save 1 = .ok (.getfield 7, 3) := by decide +kernel
theorem dX6_save_4 : decode cX6_save 4 = .ok (.iconst 0, 1) := by decide +kernel
theorem dX6_save_5 : decode cX6_save 5 = .ok (.aload_n 0, 1) := by decide +kernel
theorem dX6_save_6 : decode cX6_save 6 = .ok (.getfield 19, 3) := by decide +kernel
theorem dX6_save_9 : decode cX6_save 9 = .ok (.iconst 0, 1) := by decide +kernel
theorem dX6_save_10 : decode cX6_save 10 = .ok (.invokestatic 42, 3) := by decide +kernel
theorem dX6_save_13 : decode cX6_save 13 = .ok (.aload_n 0, 1) := by decide +kernel
theorem dX6_save_14 : decode cX6_save 14 = .ok (.iconst 1, 1) := by decide +kernel
theorem dX6_save_15 : decode cX6_save 15 = .ok (.putfield 204, 3) := by decide +kernel
theorem dX6_save_18 : decode cX6_save 18 = .ok (.aload_n 0, 1) := by decide +kernel
theorem dX6_save_19 : decode cX6_save 19 = .ok (.aload_n 0, 1) := by decide +kernel
theorem dX6_save_20 : decode cX6_save 20 = .ok (.getfield 7, 3) := by decide +kernel
theorem dX6_save_23 : decode cX6_save 23 = .ok (.bipush 7, 2) := by decide +kernel
theorem dX6_save_25 : decode cX6_save 25 = .ok (.iaload, 1) := by decide +kernel
theorem dX6_save_26 : decode cX6_save 26 = .ok (.invokevirtual 70, 3) := by decide +kernel
theorem dX6_save_29 : decode cX6_save 29 = .ok (.ireturn, 1) := by decide +kernel
theorem dX6_restore_0 : decode cX6_restore 0 = .ok (.aload_n 0, 1) := by decide +kernel
theorem dX6_restore_1 : decode cX6_restore 1 = .ok (.getfield 204, 3) := by decide +kernel
theorem dX6_restore_4 : decode cX6_restore 4 = .ok (.ifCond .ne 9, 3) := by decide +kernel
theorem dX6_restore_7 : decode cX6_restore 7 = .ok (.aload_n 0, 1) := by decide +kernel
theorem dX6_restore_8 : decode cX6_restore 8 = .ok (.iconst 1, 1) := by decide +kernel
theorem dX6_restore_9 : decode cX6_restore 9 = .ok (.invokevirtual 67, 3) := by decide +kernel
theorem dX6_restore_12 : decode cX6_restore 12 = .ok (.ireturn, 1) := by decide +kernel
theorem dX6_restore_13 : decode cX6_restore 13 = .ok (.aload_n 0, 1) := by decide +kernel
theorem dX6_restore_14 : decode cX6_restore 14 = .ok (.getfield 19, 3) := by decide +kernel
theorem dX6_restore_17 : decode cX6_restore 17 = .ok (.iconst 0, 1) := by decide +kernel
theorem dX6_restore_18 : decode cX6_restore 18 = .ok (.aload_n 0, 1) := by decide +kernel
theorem dX6_restore_19 : decode cX6_restore 19 = .ok (.getfield 7, 3) := by decide +kernel
theorem dX6_restore_22 : decode cX6_restore 22 = .ok (.iconst 0, 1) := by decide +kernel
theorem dX6_restore_23 : decode cX6_restore 23 = .ok (.invokestatic 42, 3) := by decide +kernel
theorem dX6_restore_26 : decode cX6_restore 26 = .ok (.aload_n 0, 1) := by decide +kernel
theorem dX6_restore_27 : decode cX6_restore 27 = .ok (.iconst 0, 1) := by decide +kernel
theorem dX6_restore_28 : decode cX6_restore 28 = .ok (.putfield 46, 3) := by decide +kernel
theorem dX6_restore_31 : decode cX6_restore 31 = .ok (.aload_n 0, 1) := by decide +kernel
theorem dX6_restore_32 : decode cX6_restore 32 = .ok (.aload_n 0, 1) := by decide +kernel
theorem dX6_restore_33 : decode cX6_restore 33 = .ok (.getfield 7, 3) := by decide +kernel
theorem dX6_restore_36 : decode cX6_restore 36 = .ok (.bipush 7, 2) := by decide +kernel
theorem dX6_restore_38 : decode cX6_restore 38 = .ok (.iaload, 1) := by decide +kernel
theorem dX6_restore_39 : decode cX6_restore 39 = .ok (.invokevirtual 70, 3) := by decide +kernel
theorem dX6_restore_42 : decode cX6_restore 42 = .ok (.ireturn, 1) := by decide +kernel
