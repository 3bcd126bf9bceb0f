-- decode rows, as printed
theorem dX1_init_0 : decode cX1_init 0 = .ok (.aload_n 0, 1) := by decide +kernel
theorem dX1_init_1 : decode cX1_init 1 = .ok (.invokespecial 3, 3) := by decide +kernel
theorem dX1_init_4 : decode cX1_init 4 = .ok (.aload_n 0, 1) := by decide +kernel
theorem dX1_init_5 : decode cX1_init 5 = .ok (.iconst 0, 1) := by decide +kernel
theorem dX1_init_6 : decode cX1_init 6 = .ok (.putfield 9, 3) := by decide +kernel
theorem dX1_init_9 : decode cX1_init 9 = .ok (.aload_n 0, 1) := by decide +kernel
theorem dX1_init_10 : decode cX1_init 10 = .ok (.iconst 0, 1) := by decide +kernel
theorem dX1_init_11 : decode cX1_init 11 = .ok (.putfield 15, 3) := by decide +kernel
theorem dX1_init_14 : decode cX1_init 14 = .ok (.aload_n 0, 1) := by decide +kernel
theorem dX1_init_15 : decode cX1_init 15 = .ok (.iconst 0, 1) := by decide +kernel
theorem dX1_init_16 : decode cX1_init 16 = .ok (.putfield 18, 3) := by decide +kernel
theorem dX1_init_19 : decode cX1_init 19 = .ok (.aload_n 0, 1) := by decide +kernel
theorem dX1_init_20 : decode cX1_init 20 = .ok (.iconst 0, 1) := by decide +kernel
theorem dX1_init_21 : decode cX1_init 21 = .ok (.putfield 21, 3) := by decide +kernel
theorem dX1_init_24 : decode cX1_init 24 = .ok (.aload_n 0, 1) := by decide +kernel
theorem dX1_init_25 : decode cX1_init 25 = .ok (.iconst 0, 1) := by decide +kernel
theorem dX1_init_26 : decode cX1_init 26 = .ok (.putfield 24, 3) := by decide +kernel
theorem dX1_init_29 : decode cX1_init 29 = .ok (.aload_n 0, 1) := by decide +kernel
theorem dX1_init_30 : decode cX1_init 30 = .ok (.bipush 9, 2) := by decide +kernel
theorem dX1_init_32 : decode cX1_init 32 = .ok (.newarray .int, 2) := by decide +kernel
theorem dX1_init_34 : decode cX1_init 34 = .ok (.putfield 28, 3) := by decide +kernel
theorem dX1_init_37 : decode cX1_init 37 = .ok (.return_, 1) := by decide +kernel
theorem dX1_copyFrom_0 : decode cX1_copyFrom 0 = .ok (.aload_n 0, 1) := by decide +kernel
theorem dX1_copyFrom_1 : decode cX1_copyFrom 1 = .ok (.aload_n 1, 1) := by decide +kernel
theorem dX1_copyFrom_2 : decode cX1_copyFrom 2 = .ok (.getfield 9, 3) := by decide +kernel
theorem dX1_copyFrom_5 : decode cX1_copyFrom 5 = .ok (.putfield 9, 3) := by decide +kernel
theorem dX1_copyFrom_8 : decode cX1_copyFrom 8 = .ok (.aload_n 0, 1) := by decide +kernel
theorem dX1_copyFrom_9 : decode cX1_copyFrom 9 = .ok (.aload_n 1, 1) := by decide +kernel
theorem dX1_copyFrom_10 : decode cX1_copyFrom 10 = .ok (.getfield 15, 3) := by decide +kernel
theorem dX1_copyFrom_13 : decode cX1_copyFrom 13 = .ok (.putfield 15, 3) := by decide +kernel
theorem dX1_copyFrom_16 : decode cX1_copyFrom 16 = .ok (.aload_n 0, 1) := by decide +kernel
theorem dX1_copyFrom_17 : decode cX1_copyFrom 17 = .ok (.aload_n 1, 1) := by decide +kernel
theorem dX1_copyFrom_18 : decode cX1_copyFrom 18 = .ok (.getfield 18, 3) := by decide +kernel
theorem dX1_copyFrom_21 : decode cX1_copyFrom 21 = .ok (.putfield 18, 3) := by decide +kernel
theorem dX1_copyFrom_24 : decode cX1_copyFrom 24 = .ok (.aload_n 0, 1) := by decide +kernel
theorem dX1_copyFrom_25 : decode cX1_copyFrom 25 = .ok (.aload_n 1, 1) := by decide +kernel
theorem dX1_copyFrom_26 : decode cX1_copyFrom 26 = .ok (.getfield 21, 3) := by decide +kernel
theorem dX1_copyFrom_29 : decode cX1_copyFrom 29 = .ok (.putfield 21, 3) := by decide +kernel
theorem dX1_copyFrom_32 : decode cX1_copyFrom 32 = .ok (.aload_n 0, 1) := by decide +kernel
theorem dX1_copyFrom_33 : decode cX1_copyFrom 33 = .ok (.aload_n 1, 1) := by decide +kernel
theorem dX1_copyFrom_34 : decode cX1_copyFrom 34 = .ok (.getfield 24, 3) := by decide +kernel
theorem dX1_copyFrom_37 : decode cX1_copyFrom 37 = .ok (.putfield 24, 3) := by decide +kernel
theorem dX1_copyFrom_40 : decode cX1_copyFrom 40 = .ok (.aload_n 1, 1) := by decide +kernel
theorem dX1_copyFrom_41 : decode cX1_copyFrom 41 = .ok (.getfield 28, 3) := by decide +kernel
theorem dX1_copyFrom_44 : decode cX1_copyFrom 44 = .ok (.aload_n 0, 1) := by decide +kernel
theorem dX1_copyFrom_45 : decode cX1_copyFrom 45 = .ok (.getfield 28, 3) := by decide +kernel
theorem dX1_copyFrom_48 : decode cX1_copyFrom 48 = .ok (.invokestatic 32, 3) := by decide +kernel
theorem dX1_copyFrom_51 : decode cX1_copyFrom 51 = .ok (.return_, 1) := by decide +kernel
theorem dX1_contains_0 : decode cX1_contains 0 = .ok (.iload_n 1, 1) := by decide +kernel
theorem dX1_contains_1 : decode cX1_contains 1 = .ok (.aload_n 0, 1) := by decide +kernel
theorem dX1_contains_2 : decode cX1_contains 2 = .ok (.getfield 15, 3) := by decide +kernel
theorem dX1_contains_5 : decode cX1_contains 5 = .ok (.if_icmp .lt 20, 3) := by decide +kernel
theorem dX1_contains_8 : decode cX1_contains 8 = .ok (.iload_n 1, 1) := by decide +kernel
theorem dX1_contains_9 : decode cX1_contains 9 = .ok (.aload_n 0, 1) := by decide +kernel
theorem dX1_contains_10 : decode cX1_contains 10 = .ok (.getfield 15, 3) := by decide +kernel
theorem dX1_contains_13 : decode cX1_contains 13 = .ok (.aload_n 0, 1) := by decide +kernel
theorem dX1_contains_14 : decode cX1_contains 14 = .ok (.getfield 18, 3) := by decide +kernel
theorem dX1_contains_17 : decode cX1_contains 17 = .ok (.iadd, 1) := by decide +kernel
theorem dX1_contains_18 : decode cX1_contains 18 = .ok (.if_icmp .ge 7, 3) := by decide +kernel
theorem dX1_contains_21 : decode cX1_contains 21 = .ok (.iconst 1, 1) := by decide +kernel
theorem dX1_contains_22 : decode cX1_contains 22 = .ok (.goto 4, 3) := by decide +kernel
theorem dX1_contains_25 : decode cX1_contains 25 = .ok (.iconst 0, 1) := by decide +kernel
theorem dX1_contains_26 : decode cX1_contains 26 = .ok (.ireturn, 1) := by decide +kernel
theorem dX1_sampled_0 : decode cX1_sampled 0 = .ok (.aload_n 0, 1) := by decide +kernel
theorem dX1_sampled_1 : decode cX1_sampled 1 = .ok (.iload_n 1, 1) := by decide +kernel
theorem dX1_sampled_2 : decode cX1_sampled 2 = .ok (.bipush 99, 2) := by decide +kernel
theorem dX1_sampled_4 : decode cX1_sampled 4 = .ok (.invokevirtual 36, 3) := by decide +kernel
theorem dX1_sampled_7 : decode cX1_sampled 7 = .ok (.ireturn, 1) := by decide +kernel
theorem dX1_goodSampled_0 : decode cX1_goodSampled 0 = .ok (.iconst 0, 1) := by decide +kernel
theorem dX1_goodSampled_1 : decode cX1_goodSampled 1 = .ok (.istore_n 3, 1) := by decide +kernel
theorem dX1_goodSampled_2 : decode cX1_goodSampled 2 = .ok (.iconst 0, 1) := by decide +kernel
theorem dX1_goodSampled_3 : decode cX1_goodSampled 3 = .ok (.istore 4, 2) := by decide +kernel
theorem dX1_goodSampled_5 : decode cX1_goodSampled 5 = .ok (.iconst 0, 1) := by decide +kernel
theorem dX1_goodSampled_6 : decode cX1_goodSampled 6 = .ok (.istore 5, 2) := by decide +kernel
theorem dX1_goodSampled_8 : decode cX1_goodSampled 8 = .ok (.iload 5, 2) := by decide +kernel
theorem dX1_goodSampled_10 : decode cX1_goodSampled 10 = .ok (.aload_n 0, 1) := by decide +kernel
theorem dX1_goodSampled_11 : decode cX1_goodSampled 11 = .ok (.getfield 18, 3) := by decide +kernel
theorem dX1_goodSampled_14 : decode cX1_goodSampled 14 = .ok (.if_icmp .ge 41, 3) := by decide +kernel
theorem dX1_goodSampled_17 : decode cX1_goodSampled 17 = .ok (.iload 5, 2) := by decide +kernel
theorem dX1_goodSampled_19 : decode cX1_goodSampled 19 = .ok (.iload 4, 2) := by decide +kernel
theorem dX1_goodSampled_21 : decode cX1_goodSampled 21 = .ok (.if_icmp .ne 28, 3) := by decide +kernel
theorem dX1_goodSampled_24 : decode cX1_goodSampled 24 = .ok (.iload 4, 2) := by decide +kernel
theorem dX1_goodSampled_26 : decode cX1_goodSampled 26 = .ok (.iload_n 1, 1) := by decide +kernel
theorem dX1_goodSampled_27 : decode cX1_goodSampled 27 = .ok (.iadd, 1) := by decide +kernel
theorem dX1_goodSampled_28 : decode cX1_goodSampled 28 = .ok (.istore 4, 2) := by decide +kernel
theorem dX1_goodSampled_30 : decode cX1_goodSampled 30 = .ok (.iload_n 3, 1) := by decide +kernel
theorem dX1_goodSampled_31 : decode cX1_goodSampled 31 = .ok (.aload_n 0, 1) := by decide +kernel
theorem dX1_goodSampled_32 : decode cX1_goodSampled 32 = .ok (.getfield 28, 3) := by decide +kernel
theorem dX1_goodSampled_35 : decode cX1_goodSampled 35 = .ok (.iload 5, 2) := by decide +kernel
theorem dX1_goodSampled_37 : decode cX1_goodSampled 37 = .ok (.iaload, 1) := by decide +kernel
theorem dX1_goodSampled_38 : decode cX1_goodSampled 38 = .ok (.iload_n 2, 1) := by decide +kernel
theorem dX1_goodSampled_39 : decode cX1_goodSampled 39 = .ok (.if_icmp .gt 7, 3) := by decide +kernel
theorem dX1_goodSampled_42 : decode cX1_goodSampled 42 = .ok (.iconst 1, 1) := by decide +kernel
theorem dX1_goodSampled_43 : decode cX1_goodSampled 43 = .ok (.goto 4, 3) := by decide +kernel
theorem dX1_goodSampled_46 : decode cX1_goodSampled 46 = .ok (.iconst 0, 1) := by decide +kernel
theorem dX1_goodSampled_47 : decode cX1_goodSampled 47 = .ok (.iadd, 1) := by decide +kernel
theorem dX1_goodSampled_48 : decode cX1_goodSampled 48 = .ok (.istore_n 3, 1) := by decide +kernel
theorem dX1_goodSampled_49 : decode cX1_goodSampled 49 = .ok (.iinc 5 1, 3) := by decide +kernel
theorem dX1_goodSampled_52 : decode cX1_goodSampled 52 = .ok (.goto (-44), 3) := by decide +kernel
theorem dX1_goodSampled_55 : decode cX1_goodSampled 55 = .ok (.iload_n 3, 1) := by decide +kernel
theorem dX1_goodSampled_56 : decode cX1_goodSampled 56 = .ok (.ireturn, 1) := by decide +kernel
theorem dX1_passes_0 : decode cX1_passes 0 = .ok (.iconst 2, 1) := by decide +kernel
theorem dX1_passes_1 : decode cX1_passes 1 = .ok (.aload_n 0, 1) := by decide +kernel
theorem dX1_passes_2 : decode cX1_passes 2 = .ok (.iload_n 1, 1) := by decide +kernel
theorem dX1_passes_3 : decode cX1_passes 3 = .ok (.iload_n 2, 1) := by decide +kernel
theorem dX1_passes_4 : decode cX1_passes 4 = .ok (.invokevirtual 36, 3) := by decide +kernel
theorem dX1_passes_7 : decode cX1_passes 7 = .ok (.imul, 1) := by decide +kernel
theorem dX1_passes_8 : decode cX1_passes 8 = .ok (.aload_n 0, 1) := by decide +kernel
theorem dX1_passes_9 : decode cX1_passes 9 = .ok (.iload_n 1, 1) := by decide +kernel
theorem dX1_passes_10 : decode cX1_passes 10 = .ok (.invokevirtual 40, 3) := by decide +kernel
theorem dX1_passes_13 : decode cX1_passes 13 = .ok (.if_icmp .le 7, 3) := by decide +kernel
theorem dX1_passes_16 : decode cX1_passes 16 = .ok (.iconst 1, 1) := by decide +kernel
theorem dX1_passes_17 : decode cX1_passes 17 = .ok (.goto 4, 3) := by decide +kernel
theorem dX1_passes_20 : decode cX1_passes 20 = .ok (.iconst 0, 1) := by decide +kernel
theorem dX1_passes_21 : decode cX1_passes 21 = .ok (.ireturn, 1) := by decide +kernel
theorem dX1_leastPassingSqueak_0 : decode cX1_leastPassingSqueak 0 = .ok (.bipush 99, 2) := by decide +kernel
theorem dX1_leastPassingSqueak_2 : decode cX1_leastPassingSqueak 2 = .ok (.istore_n 2, 1) := by decide +kernel
theorem dX1_leastPassingSqueak_3 : decode cX1_leastPassingSqueak 3 = .ok (.iconst 0, 1) := by decide +kernel
theorem dX1_leastPassingSqueak_4 : decode cX1_leastPassingSqueak 4 = .ok (.istore_n 3, 1) := by decide +kernel
theorem dX1_leastPassingSqueak_5 : decode cX1_leastPassingSqueak 5 = .ok (.iconst 0, 1) := by decide +kernel
theorem dX1_leastPassingSqueak_6 : decode cX1_leastPassingSqueak 6 = .ok (.istore 4, 2) := by decide +kernel
theorem dX1_leastPassingSqueak_8 : decode cX1_leastPassingSqueak 8 = .ok (.iload 4, 2) := by decide +kernel
theorem dX1_leastPassingSqueak_10 : decode cX1_leastPassingSqueak 10 = .ok (.aload_n 0, 1) := by decide +kernel
theorem dX1_leastPassingSqueak_11 : decode cX1_leastPassingSqueak 11 = .ok (.getfield 18, 3) := by decide +kernel
theorem dX1_leastPassingSqueak_14 : decode cX1_leastPassingSqueak 14 = .ok (.if_icmp .ge 53, 3) := by decide +kernel
theorem dX1_leastPassingSqueak_17 : decode cX1_leastPassingSqueak 17 = .ok (.iload 4, 2) := by decide +kernel
theorem dX1_leastPassingSqueak_19 : decode cX1_leastPassingSqueak 19 = .ok (.iload_n 3, 1) := by decide +kernel
theorem dX1_leastPassingSqueak_20 : decode cX1_leastPassingSqueak 20 = .ok (.if_icmp .ne 41, 3) := by decide +kernel
theorem dX1_leastPassingSqueak_23 : decode cX1_leastPassingSqueak 23 = .ok (.iload_n 3, 1) := by decide +kernel
theorem dX1_leastPassingSqueak_24 : decode cX1_leastPassingSqueak 24 = .ok (.iload_n 1, 1) := by decide +kernel
theorem dX1_leastPassingSqueak_25 : decode cX1_leastPassingSqueak 25 = .ok (.iadd, 1) := by decide +kernel
theorem dX1_leastPassingSqueak_26 : decode cX1_leastPassingSqueak 26 = .ok (.istore_n 3, 1) := by decide +kernel
theorem dX1_leastPassingSqueak_27 : decode cX1_leastPassingSqueak 27 = .ok (.aload_n 0, 1) := by decide +kernel
theorem dX1_leastPassingSqueak_28 : decode cX1_leastPassingSqueak 28 = .ok (.getfield 28, 3) := by decide +kernel
theorem dX1_leastPassingSqueak_31 : decode cX1_leastPassingSqueak 31 = .ok (.iload 4, 2) := by decide +kernel
theorem dX1_leastPassingSqueak_33 : decode cX1_leastPassingSqueak 33 = .ok (.iaload, 1) := by decide +kernel
theorem dX1_leastPassingSqueak_34 : decode cX1_leastPassingSqueak 34 = .ok (.iload_n 2, 1) := by decide +kernel
theorem dX1_leastPassingSqueak_35 : decode cX1_leastPassingSqueak 35 = .ok (.if_icmp .ge 26, 3) := by decide +kernel
theorem dX1_leastPassingSqueak_38 : decode cX1_leastPassingSqueak 38 = .ok (.aload_n 0, 1) := by decide +kernel
theorem dX1_leastPassingSqueak_39 : decode cX1_leastPassingSqueak 39 = .ok (.iload_n 1, 1) := by decide +kernel
theorem dX1_leastPassingSqueak_40 : decode cX1_leastPassingSqueak 40 = .ok (.aload_n 0, 1) := by decide +kernel
theorem dX1_leastPassingSqueak_41 : decode cX1_leastPassingSqueak 41 = .ok (.getfield 28, 3) := by decide +kernel
theorem dX1_leastPassingSqueak_44 : decode cX1_leastPassingSqueak 44 = .ok (.iload 4, 2) := by decide +kernel
theorem dX1_leastPassingSqueak_46 : decode cX1_leastPassingSqueak 46 = .ok (.iaload, 1) := by decide +kernel
theorem dX1_leastPassingSqueak_47 : decode cX1_leastPassingSqueak 47 = .ok (.invokevirtual 44, 3) := by decide +kernel
theorem dX1_leastPassingSqueak_50 : decode cX1_leastPassingSqueak 50 = .ok (.ifCond .eq 11, 3) := by decide +kernel
theorem dX1_leastPassingSqueak_53 : decode cX1_leastPassingSqueak 53 = .ok (.aload_n 0, 1) := by decide +kernel
theorem dX1_leastPassingSqueak_54 : decode cX1_leastPassingSqueak 54 = .ok (.getfield 28, 3) := by decide +kernel
theorem dX1_leastPassingSqueak_57 : decode cX1_leastPassingSqueak 57 = .ok (.iload 4, 2) := by decide +kernel
theorem dX1_leastPassingSqueak_59 : decode cX1_leastPassingSqueak 59 = .ok (.iaload, 1) := by decide +kernel
theorem dX1_leastPassingSqueak_60 : decode cX1_leastPassingSqueak 60 = .ok (.istore_n 2, 1) := by decide +kernel
theorem dX1_leastPassingSqueak_61 : decode cX1_leastPassingSqueak 61 = .ok (.iinc 4 1, 3) := by decide +kernel
theorem dX1_leastPassingSqueak_64 : decode cX1_leastPassingSqueak 64 = .ok (.goto (-56), 3) := by decide +kernel
theorem dX1_leastPassingSqueak_67 : decode cX1_leastPassingSqueak 67 = .ok (.iload_n 2, 1) := by decide +kernel
theorem dX1_leastPassingSqueak_68 : decode cX1_leastPassingSqueak 68 = .ok (.ireturn, 1) := by decide +kernel
theorem dX1_leastPassingTry_0 : decode cX1_leastPassingTry 0 = .ok (.iconst 0, 1) := by decide +kernel
theorem dX1_leastPassingTry_1 : decode cX1_leastPassingTry 1 = .ok (.istore_n 2, 1) := by decide +kernel
theorem dX1_leastPassingTry_2 : decode cX1_leastPassingTry 2 = .ok (.iload_n 2, 1) := by decide +kernel
theorem dX1_leastPassingTry_3 : decode cX1_leastPassingTry 3 = .ok (.bipush 99, 2) := by decide +kernel
theorem dX1_leastPassingTry_5 : decode cX1_leastPassingTry 5 = .ok (.if_icmp .ge 20, 3) := by decide +kernel
theorem dX1_leastPassingTry_8 : decode cX1_leastPassingTry 8 = .ok (.aload_n 0, 1) := by decide +kernel
theorem dX1_leastPassingTry_9 : decode cX1_leastPassingTry 9 = .ok (.iload_n 1, 1) := by decide +kernel
theorem dX1_leastPassingTry_10 : decode cX1_leastPassingTry 10 = .ok (.iload_n 2, 1) := by decide +kernel
theorem dX1_leastPassingTry_11 : decode cX1_leastPassingTry 11 = .ok (.invokevirtual 44, 3) := by decide +kernel
theorem dX1_leastPassingTry_14 : decode cX1_leastPassingTry 14 = .ok (.ifCond .eq 5, 3) := by decide +kernel
theorem dX1_leastPassingTry_17 : decode cX1_leastPassingTry 17 = .ok (.iload_n 2, 1) := by decide +kernel
theorem dX1_leastPassingTry_18 : decode cX1_leastPassingTry 18 = .ok (.ireturn, 1) := by decide +kernel
theorem dX1_leastPassingTry_19 : decode cX1_leastPassingTry 19 = .ok (.iinc 2 1, 3) := by decide +kernel
theorem dX1_leastPassingTry_22 : decode cX1_leastPassingTry 22 = .ok (.goto (-20), 3) := by decide +kernel
theorem dX1_leastPassingTry_25 : decode cX1_leastPassingTry 25 = .ok (.bipush 99, 2) := by decide +kernel
theorem dX1_leastPassingTry_27 : decode cX1_leastPassingTry 27 = .ok (.ireturn, 1) := by decide +kernel
theorem dX3_init_0 : decode cX3_init 0 = .ok (.aload_n 0, 1) := by decide +kernel
theorem dX3_init_1 : decode cX3_init 1 = .ok (.invokespecial 3, 3) := by decide +kernel
theorem dX3_init_4 : decode cX3_init 4 = .ok (.aload_n 0, 1) := by decide +kernel
theorem dX3_init_5 : decode cX3_init 5 = .ok (.new 9, 3) := by decide +kernel
theorem dX3_init_8 : decode cX3_init 8 = .ok (.dup, 1) := by decide +kernel
theorem dX3_init_9 : decode cX3_init 9 = .ok (.invokespecial 11, 3) := by decide +kernel
theorem dX3_init_12 : decode cX3_init 12 = .ok (.putfield 12, 3) := by decide +kernel
theorem dX3_init_15 : decode cX3_init 15 = .ok (.aload_n 0, 1) := by decide +kernel
theorem dX3_init_16 : decode cX3_init 16 = .ok (.iconst 3, 1) := by decide +kernel
theorem dX3_init_17 : decode cX3_init 17 = .ok (.newarray .int, 2) := by decide +kernel
theorem dX3_init_19 : decode cX3_init 19 = .ok (.putfield 18, 3) := by decide +kernel
theorem dX3_init_22 : decode cX3_init 22 = .ok (.aload_n 0, 1) := by decide +kernel
theorem dX3_init_23 : decode cX3_init 23 = .ok (.iconst 0, 1) := by decide +kernel
theorem dX3_init_24 : decode cX3_init 24 = .ok (.putfield 22, 3) := by decide +kernel
theorem dX3_init_27 : decode cX3_init 27 = .ok (.aload_n 0, 1) := by decide +kernel
theorem dX3_init_28 : decode cX3_init 28 = .ok (.iconst 0, 1) := by decide +kernel
theorem dX3_init_29 : decode cX3_init 29 = .ok (.putfield 26, 3) := by decide +kernel
theorem dX3_init_32 : decode cX3_init 32 = .ok (.aload_n 0, 1) := by decide +kernel
theorem dX3_init_33 : decode cX3_init 33 = .ok (.iconst 0, 1) := by decide +kernel
theorem dX3_init_34 : decode cX3_init 34 = .ok (.putfield 29, 3) := by decide +kernel
theorem dX3_init_37 : decode cX3_init 37 = .ok (.return_, 1) := by decide +kernel
theorem dX3_length_0 : decode cX3_length 0 = .ok (.aload_n 0, 1) := by decide +kernel
theorem dX3_length_1 : decode cX3_length 1 = .ok (.getfield 12, 3) := by decide +kernel
theorem dX3_length_4 : decode cX3_length 4 = .ok (.invokevirtual 32, 3) := by decide +kernel
theorem dX3_length_7 : decode cX3_length 7 = .ok (.ireturn, 1) := by decide +kernel
theorem dX3_append_0 : decode cX3_append 0 = .ok (.aload_n 0, 1) := by decide +kernel
theorem dX3_append_1 : decode cX3_append 1 = .ok (.getfield 12, 3) := by decide +kernel
theorem dX3_append_4 : decode cX3_append 4 = .ok (.iload_n 1, 1) := by decide +kernel
theorem dX3_append_5 : decode cX3_append 5 = .ok (.invokevirtual 36, 3) := by decide +kernel
theorem dX3_append_8 : decode cX3_append 8 = .ok (.pop, 1) := by decide +kernel
theorem dX3_append_9 : decode cX3_append 9 = .ok (.aload_n 0, 1) := by decide +kernel
theorem dX3_append_10 : decode cX3_append 10 = .ok (.getfield 12, 3) := by decide +kernel
theorem dX3_append_13 : decode cX3_append 13 = .ok (.invokevirtual 32, 3) := by decide +kernel
theorem dX3_append_16 : decode cX3_append 16 = .ok (.ireturn, 1) := by decide +kernel
theorem dX3_clear_0 : decode cX3_clear 0 = .ok (.aload_n 0, 1) := by decide +kernel
theorem dX3_clear_1 : decode cX3_clear 1 = .ok (.getfield 12, 3) := by decide +kernel
theorem dX3_clear_4 : decode cX3_clear 4 = .ok (.iconst 0, 1) := by decide +kernel
theorem dX3_clear_5 : decode cX3_clear 5 = .ok (.invokevirtual 40, 3) := by decide +kernel
theorem dX3_clear_8 : decode cX3_clear 8 = .ok (.return_, 1) := by decide +kernel
theorem dX3_firstError_0 : decode cX3_firstError 0 = .ok (.aload_n 0, 1) := by decide +kernel
theorem dX3_firstError_1 : decode cX3_firstError 1 = .ok (.iconst 0, 1) := by decide +kernel
theorem dX3_firstError_2 : decode cX3_firstError 2 = .ok (.putfield 26, 3) := by decide +kernel
theorem dX3_firstError_5 : decode cX3_firstError 5 = .ok (.aload_n 0, 1) := by decide +kernel
theorem dX3_firstError_6 : decode cX3_firstError 6 = .ok (.iconst 0, 1) := by decide +kernel
theorem dX3_firstError_7 : decode cX3_firstError 7 = .ok (.putfield 29, 3) := by decide +kernel
theorem dX3_firstError_10 : decode cX3_firstError 10 = .ok (.iconst 0, 1) := by decide +kernel
theorem dX3_firstError_11 : decode cX3_firstError 11 = .ok (.istore_n 1, 1) := by decide +kernel
theorem dX3_firstError_12 : decode cX3_firstError 12 = .ok (.iload_n 1, 1) := by decide +kernel
theorem dX3_firstError_13 : decode cX3_firstError 13 = .ok (.bipush 60, 2) := by decide +kernel
theorem dX3_firstError_15 : decode cX3_firstError 15 = .ok (.if_icmp .gt 61, 3) := by decide +kernel
theorem dX3_firstError_18 : decode cX3_firstError 18 = .ok (.aload_n 0, 1) := by decide +kernel
theorem dX3_firstError_19 : decode cX3_firstError 19 = .ok (.invokevirtual 44, 3) := by decide +kernel
theorem dX3_firstError_22 : decode cX3_firstError 22 = .ok (.ifnonnull 8, 3) := by decide +kernel
theorem dX3_firstError_25 : decode cX3_firstError 25 = .ok (.aload_n 0, 1) := by decide +kernel
theorem dX3_firstError_26 : decode cX3_firstError 26 = .ok (.getfield 26, 3) := by decide +kernel
theorem dX3_firstError_29 : decode cX3_firstError 29 = .ok (.ireturn, 1) := by decide +kernel
theorem dX3_firstError_30 : decode cX3_firstError 30 = .ok (.aload_n 0, 1) := by decide +kernel
theorem dX3_firstError_31 : decode cX3_firstError 31 = .ok (.dup, 1) := by decide +kernel
theorem dX3_firstError_32 : decode cX3_firstError 32 = .ok (.getfield 29, 3) := by decide +kernel
theorem dX3_firstError_35 : decode cX3_firstError 35 = .ok (.iconst 1, 1) := by decide +kernel
theorem dX3_firstError_36 : decode cX3_firstError 36 = .ok (.iadd, 1) := by decide +kernel
theorem dX3_firstError_37 : decode cX3_firstError 37 = .ok (.putfield 29, 3) := by decide +kernel
theorem dX3_firstError_40 : decode cX3_firstError 40 = .ok (.aload_n 0, 1) := by decide +kernel
theorem dX3_firstError_41 : decode cX3_firstError 41 = .ok (.getfield 26, 3) := by decide +kernel
theorem dX3_firstError_44 : decode cX3_firstError 44 = .ok (.aload_n 0, 1) := by decide +kernel
theorem dX3_firstError_45 : decode cX3_firstError 45 = .ok (.getfield 12, 3) := by decide +kernel
theorem dX3_firstError_48 : decode cX3_firstError 48 = .ok (.invokevirtual 32, 3) := by decide +kernel
theorem dX3_firstError_51 : decode cX3_firstError 51 = .ok (.if_icmp .lt 5, 3) := by decide +kernel
theorem dX3_firstError_54 : decode cX3_firstError 54 = .ok (.iconst (-1), 1) := by decide +kernel
theorem dX3_firstError_55 : decode cX3_firstError 55 = .ok (.ireturn, 1) := by decide +kernel
theorem dX3_firstError_56 : decode cX3_firstError 56 = .ok (.aload_n 0, 1) := by decide +kernel
theorem dX3_firstError_57 : decode cX3_firstError 57 = .ok (.bipush 59, 2) := by decide +kernel
theorem dX3_firstError_59 : decode cX3_firstError 59 = .ok (.invokevirtual 48, 3) := by decide +kernel
theorem dX3_firstError_62 : decode cX3_firstError 62 = .ok (.ifCond .ne 8, 3) := by decide +kernel
theorem dX3_firstError_65 : decode cX3_firstError 65 = .ok (.aload_n 0, 1) := by decide +kernel
theorem dX3_firstError_66 : decode cX3_firstError 66 = .ok (.getfield 26, 3) := by decide +kernel
theorem dX3_firstError_69 : decode cX3_firstError 69 = .ok (.ireturn, 1) := by decide +kernel
theorem dX3_firstError_70 : decode cX3_firstError 70 = .ok (.iinc 1 1, 3) := by decide +kernel
theorem dX3_firstError_73 : decode cX3_firstError 73 = .ok (.goto (-61), 3) := by decide +kernel
theorem dX3_firstError_76 : decode cX3_firstError 76 = .ok (.aload_n 0, 1) := by decide +kernel
theorem dX3_firstError_77 : decode cX3_firstError 77 = .ok (.getfield 26, 3) := by decide +kernel
theorem dX3_firstError_80 : decode cX3_firstError 80 = .ok (.ireturn, 1) := by decide +kernel
theorem dX3_firstFailure_0 : decode cX3_firstFailure 0 = .ok (.aload_n 0, 1) := by decide +kernel
theorem dX3_firstFailure_1 : decode cX3_firstFailure 1 = .ok (.iconst 0, 1) := by decide +kernel
theorem dX3_firstFailure_2 : decode cX3_firstFailure 2 = .ok (.putfield 26, 3) := by decide +kernel
theorem dX3_firstFailure_5 : decode cX3_firstFailure 5 = .ok (.iconst 0, 1) := by decide +kernel
theorem dX3_firstFailure_6 : decode cX3_firstFailure 6 = .ok (.istore_n 2, 1) := by decide +kernel
theorem dX3_firstFailure_7 : decode cX3_firstFailure 7 = .ok (.iload_n 2, 1) := by decide +kernel
theorem dX3_firstFailure_8 : decode cX3_firstFailure 8 = .ok (.aload_n 0, 1) := by decide +kernel
theorem dX3_firstFailure_9 : decode cX3_firstFailure 9 = .ok (.getfield 29, 3) := by decide +kernel
theorem dX3_firstFailure_12 : decode cX3_firstFailure 12 = .ok (.if_icmp .ge 36, 3) := by decide +kernel
theorem dX3_firstFailure_15 : decode cX3_firstFailure 15 = .ok (.aload_n 0, 1) := by decide +kernel
theorem dX3_firstFailure_16 : decode cX3_firstFailure 16 = .ok (.invokevirtual 44, 3) := by decide +kernel
theorem dX3_firstFailure_19 : decode cX3_firstFailure 19 = .ok (.astore_n 3, 1) := by decide +kernel
theorem dX3_firstFailure_20 : decode cX3_firstFailure 20 = .ok (.aload_n 3, 1) := by decide +kernel
theorem dX3_firstFailure_21 : decode cX3_firstFailure 21 = .ok (.ifnull 12, 3) := by decide +kernel
theorem dX3_firstFailure_24 : decode cX3_firstFailure 24 = .ok (.aload_n 0, 1) := by decide +kernel
theorem dX3_firstFailure_25 : decode cX3_firstFailure 25 = .ok (.aload_n 3, 1) := by decide +kernel
theorem dX3_firstFailure_26 : decode cX3_firstFailure 26 = .ok (.aload_n 1, 1) := by decide +kernel
theorem dX3_firstFailure_27 : decode cX3_firstFailure 27 = .ok (.invokevirtual 52, 3) := by decide +kernel
theorem dX3_firstFailure_30 : decode cX3_firstFailure 30 = .ok (.ifCond .ge 5, 3) := by decide +kernel
theorem dX3_firstFailure_33 : decode cX3_firstFailure 33 = .ok (.iload_n 2, 1) := by decide +kernel
theorem dX3_firstFailure_34 : decode cX3_firstFailure 34 = .ok (.ireturn, 1) := by decide +kernel
theorem dX3_firstFailure_35 : decode cX3_firstFailure 35 = .ok (.aload_n 0, 1) := by decide +kernel
theorem dX3_firstFailure_36 : decode cX3_firstFailure 36 = .ok (.bipush 59, 2) := by decide +kernel
theorem dX3_firstFailure_38 : decode cX3_firstFailure 38 = .ok (.invokevirtual 48, 3) := by decide +kernel
theorem dX3_firstFailure_41 : decode cX3_firstFailure 41 = .ok (.pop, 1) := by decide +kernel
theorem dX3_firstFailure_42 : decode cX3_firstFailure 42 = .ok (.iinc 2 1, 3) := by decide +kernel
theorem dX3_firstFailure_45 : decode cX3_firstFailure 45 = .ok (.goto (-38), 3) := by decide +kernel
theorem dX3_firstFailure_48 : decode cX3_firstFailure 48 = .ok (.iconst (-1), 1) := by decide +kernel
theorem dX3_firstFailure_49 : decode cX3_firstFailure 49 = .ok (.ireturn, 1) := by decide +kernel
theorem dX3_run_0 : decode cX3_run 0 = .ok (.getstatic 56, 3) := by decide +kernel
theorem dX3_run_3 : decode cX3_run 3 = .ok (.aload_n 1, 1) := by decide +kernel
theorem dX3_run_4 : decode cX3_run 4 = .ok (.invokevirtual 61, 3) := by decide +kernel
theorem dX3_run_7 : decode cX3_run 7 = .ok (.iaload, 1) := by decide +kernel
theorem dX3_run_8 : decode cX3_run 8 = .ok (.tableswitch 181 1 9 #[52, 75, 86, 103, 126, 137, 148, 159, 170], 52) := by decide +kernel
theorem dX3_run_60 : decode cX3_run 60 = .ok (.aload_n 2, 1) := by decide +kernel
theorem dX3_run_61 : decode cX3_run 61 = .ok (.aload_n 0, 1) := by decide +kernel
theorem dX3_run_62 : decode cX3_run 62 = .ok (.getfield 18, 3) := by decide +kernel
theorem dX3_run_65 : decode cX3_run 65 = .ok (.iconst 0, 1) := by decide +kernel
theorem dX3_run_66 : decode cX3_run 66 = .ok (.iaload, 1) := by decide +kernel
theorem dX3_run_67 : decode cX3_run 67 = .ok (.aload_n 0, 1) := by decide +kernel
theorem dX3_run_68 : decode cX3_run 68 = .ok (.getfield 18, 3) := by decide +kernel
theorem dX3_run_71 : decode cX3_run 71 = .ok (.iconst 1, 1) := by decide +kernel
theorem dX3_run_72 : decode cX3_run 72 = .ok (.iaload, 1) := by decide +kernel
theorem dX3_run_73 : decode cX3_run 73 = .ok (.aload_n 0, 1) := by decide +kernel
theorem dX3_run_74 : decode cX3_run 74 = .ok (.getfield 18, 3) := by decide +kernel
theorem dX3_run_77 : decode cX3_run 77 = .ok (.iconst 2, 1) := by decide +kernel
theorem dX3_run_78 : decode cX3_run 78 = .ok (.iaload, 1) := by decide +kernel
theorem dX3_run_79 : decode cX3_run 79 = .ok (.invokevirtual 66, 3) := by decide +kernel
theorem dX3_run_82 : decode cX3_run 82 = .ok (.ireturn, 1) := by decide +kernel
theorem dX3_run_83 : decode cX3_run 83 = .ok (.aload_n 2, 1) := by decide +kernel
theorem dX3_run_84 : decode cX3_run 84 = .ok (.aload_n 0, 1) := by decide +kernel
theorem dX3_run_85 : decode cX3_run 85 = .ok (.getfield 18, 3) := by decide +kernel
theorem dX3_run_88 : decode cX3_run 88 = .ok (.iconst 0, 1) := by decide +kernel
theorem dX3_run_89 : decode cX3_run 89 = .ok (.iaload, 1) := by decide +kernel
theorem dX3_run_90 : decode cX3_run 90 = .ok (.invokevirtual 72, 3) := by decide +kernel
theorem dX3_run_93 : decode cX3_run 93 = .ok (.ireturn, 1) := by decide +kernel
theorem dX3_run_94 : decode cX3_run 94 = .ok (.aload_n 2, 1) := by decide +kernel
theorem dX3_run_95 : decode cX3_run 95 = .ok (.aload_n 0, 1) := by decide +kernel
theorem dX3_run_96 : decode cX3_run 96 = .ok (.getfield 18, 3) := by decide +kernel
theorem dX3_run_99 : decode cX3_run 99 = .ok (.iconst 0, 1) := by decide +kernel
theorem dX3_run_100 : decode cX3_run 100 = .ok (.iaload, 1) := by decide +kernel
theorem dX3_run_101 : decode cX3_run 101 = .ok (.aload_n 0, 1) := by decide +kernel
theorem dX3_run_102 : decode cX3_run 102 = .ok (.getfield 18, 3) := by decide +kernel
theorem dX3_run_105 : decode cX3_run 105 = .ok (.iconst 1, 1) := by decide +kernel
theorem dX3_run_106 : decode cX3_run 106 = .ok (.iaload, 1) := by decide +kernel
theorem dX3_run_107 : decode cX3_run 107 = .ok (.invokevirtual 76, 3) := by decide +kernel
theorem dX3_run_110 : decode cX3_run 110 = .ok (.ireturn, 1) := by decide +kernel
theorem dX3_run_111 : decode cX3_run 111 = .ok (.aload_n 2, 1) := by decide +kernel
theorem dX3_run_112 : decode cX3_run 112 = .ok (.aload_n 0, 1) := by decide +kernel
theorem dX3_run_113 : decode cX3_run 113 = .ok (.getfield 18, 3) := by decide +kernel
theorem dX3_run_116 : decode cX3_run 116 = .ok (.iconst 0, 1) := by decide +kernel
theorem dX3_run_117 : decode cX3_run 117 = .ok (.iaload, 1) := by decide +kernel
theorem dX3_run_118 : decode cX3_run 118 = .ok (.aload_n 0, 1) := by decide +kernel
theorem dX3_run_119 : decode cX3_run 119 = .ok (.getfield 18, 3) := by decide +kernel
theorem dX3_run_122 : decode cX3_run 122 = .ok (.iconst 1, 1) := by decide +kernel
theorem dX3_run_123 : decode cX3_run 123 = .ok (.iaload, 1) := by decide +kernel
theorem dX3_run_124 : decode cX3_run 124 = .ok (.aload_n 0, 1) := by decide +kernel
theorem dX3_run_125 : decode cX3_run 125 = .ok (.getfield 18, 3) := by decide +kernel
theorem dX3_run_128 : decode cX3_run 128 = .ok (.iconst 2, 1) := by decide +kernel
theorem dX3_run_129 : decode cX3_run 129 = .ok (.iaload, 1) := by decide +kernel
theorem dX3_run_130 : decode cX3_run 130 = .ok (.invokevirtual 80, 3) := by decide +kernel
theorem dX3_run_133 : decode cX3_run 133 = .ok (.ireturn, 1) := by decide +kernel
theorem dX3_run_134 : decode cX3_run 134 = .ok (.aload_n 2, 1) := by decide +kernel
theorem dX3_run_135 : decode cX3_run 135 = .ok (.aload_n 0, 1) := by decide +kernel
theorem dX3_run_136 : decode cX3_run 136 = .ok (.getfield 18, 3) := by decide +kernel
theorem dX3_run_139 : decode cX3_run 139 = .ok (.iconst 0, 1) := by decide +kernel
theorem dX3_run_140 : decode cX3_run 140 = .ok (.iaload, 1) := by decide +kernel
theorem dX3_run_141 : decode cX3_run 141 = .ok (.invokevirtual 83, 3) := by decide +kernel
theorem dX3_run_144 : decode cX3_run 144 = .ok (.ireturn, 1) := by decide +kernel
theorem dX3_run_145 : decode cX3_run 145 = .ok (.aload_n 2, 1) := by decide +kernel
theorem dX3_run_146 : decode cX3_run 146 = .ok (.aload_n 0, 1) := by decide +kernel
theorem dX3_run_147 : decode cX3_run 147 = .ok (.getfield 18, 3) := by decide +kernel
theorem dX3_run_150 : decode cX3_run 150 = .ok (.iconst 0, 1) := by decide +kernel
theorem dX3_run_151 : decode cX3_run 151 = .ok (.iaload, 1) := by decide +kernel
theorem dX3_run_152 : decode cX3_run 152 = .ok (.invokevirtual 86, 3) := by decide +kernel
theorem dX3_run_155 : decode cX3_run 155 = .ok (.ireturn, 1) := by decide +kernel
theorem dX3_run_156 : decode cX3_run 156 = .ok (.aload_n 2, 1) := by decide +kernel
theorem dX3_run_157 : decode cX3_run 157 = .ok (.aload_n 0, 1) := by decide +kernel
theorem dX3_run_158 : decode cX3_run 158 = .ok (.getfield 18, 3) := by decide +kernel
theorem dX3_run_161 : decode cX3_run 161 = .ok (.iconst 0, 1) := by decide +kernel
theorem dX3_run_162 : decode cX3_run 162 = .ok (.iaload, 1) := by decide +kernel
theorem dX3_run_163 : decode cX3_run 163 = .ok (.invokevirtual 89, 3) := by decide +kernel
theorem dX3_run_166 : decode cX3_run 166 = .ok (.ireturn, 1) := by decide +kernel
theorem dX3_run_167 : decode cX3_run 167 = .ok (.aload_n 2, 1) := by decide +kernel
theorem dX3_run_168 : decode cX3_run 168 = .ok (.aload_n 0, 1) := by decide +kernel
theorem dX3_run_169 : decode cX3_run 169 = .ok (.getfield 18, 3) := by decide +kernel
theorem dX3_run_172 : decode cX3_run 172 = .ok (.iconst 0, 1) := by decide +kernel
theorem dX3_run_173 : decode cX3_run 173 = .ok (.iaload, 1) := by decide +kernel
theorem dX3_run_174 : decode cX3_run 174 = .ok (.invokevirtual 92, 3) := by decide +kernel
theorem dX3_run_177 : decode cX3_run 177 = .ok (.ireturn, 1) := by decide +kernel
theorem dX3_run_178 : decode cX3_run 178 = .ok (.aload_n 2, 1) := by decide +kernel
theorem dX3_run_179 : decode cX3_run 179 = .ok (.aload_n 0, 1) := by decide +kernel
theorem dX3_run_180 : decode cX3_run 180 = .ok (.getfield 18, 3) := by decide +kernel
theorem dX3_run_183 : decode cX3_run 183 = .ok (.iconst 0, 1) := by decide +kernel
theorem dX3_run_184 : decode cX3_run 184 = .ok (.iaload, 1) := by decide +kernel
theorem dX3_run_185 : decode cX3_run 185 = .ok (.invokevirtual 95, 3) := by decide +kernel
theorem dX3_run_188 : decode cX3_run 188 = .ok (.ireturn, 1) := by decide +kernel
theorem dX3_run_189 : decode cX3_run 189 = .ok (.bipush (-2), 2) := by decide +kernel
theorem dX3_run_191 : decode cX3_run 191 = .ok (.ireturn, 1) := by decide +kernel
theorem dX3_nextCommand_0 : decode cX3_nextCommand 0 = .ok (.aload_n 0, 1) := by decide +kernel
theorem dX3_nextCommand_1 : decode cX3_nextCommand 1 = .ok (.getfield 26, 3) := by decide +kernel
theorem dX3_nextCommand_4 : decode cX3_nextCommand 4 = .ok (.istore_n 1, 1) := by decide +kernel
theorem dX3_nextCommand_5 : decode cX3_nextCommand 5 = .ok (.iload_n 1, 1) := by decide +kernel
theorem dX3_nextCommand_6 : decode cX3_nextCommand 6 = .ok (.istore_n 2, 1) := by decide +kernel
theorem dX3_nextCommand_7 : decode cX3_nextCommand 7 = .ok (.iconst 0, 1) := by decide +kernel
theorem dX3_nextCommand_8 : decode cX3_nextCommand 8 = .ok (.istore_n 3, 1) := by decide +kernel
theorem dX3_nextCommand_9 : decode cX3_nextCommand 9 = .ok (.iload_n 3, 1) := by decide +kernel
theorem dX3_nextCommand_10 : decode cX3_nextCommand 10 = .ok (.getstatic 98, 3) := by decide +kernel
theorem dX3_nextCommand_13 : decode cX3_nextCommand 13 = .ok (.arraylength, 1) := by decide +kernel
theorem dX3_nextCommand_14 : decode cX3_nextCommand 14 = .ok (.if_icmp .ge 44, 3) := by decide +kernel
theorem dX3_nextCommand_17 : decode cX3_nextCommand 17 = .ok (.aload_n 0, 1) := by decide +kernel
theorem dX3_nextCommand_18 : decode cX3_nextCommand 18 = .ok (.iload_n 1, 1) := by decide +kernel
theorem dX3_nextCommand_19 : decode cX3_nextCommand 19 = .ok (.putfield 26, 3) := by decide +kernel
theorem dX3_nextCommand_22 : decode cX3_nextCommand 22 = .ok (.aload_n 0, 1) := by decide +kernel
theorem dX3_nextCommand_23 : decode cX3_nextCommand 23 = .ok (.getstatic 98, 3) := by decide +kernel
theorem dX3_nextCommand_26 : decode cX3_nextCommand 26 = .ok (.iload_n 3, 1) := by decide +kernel
theorem dX3_nextCommand_27 : decode cX3_nextCommand 27 = .ok (.aaload, 1) := by decide +kernel
theorem dX3_nextCommand_28 : decode cX3_nextCommand 28 = .ok (.getfield 102, 3) := by decide +kernel
theorem dX3_nextCommand_31 : decode cX3_nextCommand 31 = .ok (.invokevirtual 106, 3) := by decide +kernel
theorem dX3_nextCommand_34 : decode cX3_nextCommand 34 = .ok (.ifCond .eq 9, 3) := by decide +kernel
theorem dX3_nextCommand_37 : decode cX3_nextCommand 37 = .ok (.getstatic 98, 3) := by decide +kernel
theorem dX3_nextCommand_40 : decode cX3_nextCommand 40 = .ok (.iload_n 3, 1) := by decide +kernel
theorem dX3_nextCommand_41 : decode cX3_nextCommand 41 = .ok (.aaload, 1) := by decide +kernel
theorem dX3_nextCommand_42 : decode cX3_nextCommand 42 = .ok (.areturn, 1) := by decide +kernel
theorem dX3_nextCommand_43 : decode cX3_nextCommand 43 = .ok (.iload_n 2, 1) := by decide +kernel
theorem dX3_nextCommand_44 : decode cX3_nextCommand 44 = .ok (.aload_n 0, 1) := by decide +kernel
theorem dX3_nextCommand_45 : decode cX3_nextCommand 45 = .ok (.getfield 26, 3) := by decide +kernel
theorem dX3_nextCommand_48 : decode cX3_nextCommand 48 = .ok (.invokestatic 110, 3) := by decide +kernel
theorem dX3_nextCommand_51 : decode cX3_nextCommand 51 = .ok (.istore_n 2, 1) := by decide +kernel
theorem dX3_nextCommand_52 : decode cX3_nextCommand 52 = .ok (.iinc 3 1, 3) := by decide +kernel
theorem dX3_nextCommand_55 : decode cX3_nextCommand 55 = .ok (.goto (-46), 3) := by decide +kernel
theorem dX3_nextCommand_58 : decode cX3_nextCommand 58 = .ok (.aload_n 0, 1) := by decide +kernel
theorem dX3_nextCommand_59 : decode cX3_nextCommand 59 = .ok (.iload_n 2, 1) := by decide +kernel
theorem dX3_nextCommand_60 : decode cX3_nextCommand 60 = .ok (.putfield 26, 3) := by decide +kernel
theorem dX3_nextCommand_63 : decode cX3_nextCommand 63 = .ok (.aconst_null, 1) := by decide +kernel
theorem dX3_nextCommand_64 : decode cX3_nextCommand 64 = .ok (.areturn, 1) := by decide +kernel
theorem dX3_takesForm_0 : decode cX3_takesForm 0 = .ok (.aload_n 0, 1) := by decide +kernel
theorem dX3_takesForm_1 : decode cX3_takesForm 1 = .ok (.iconst 0, 1) := by decide +kernel
theorem dX3_takesForm_2 : decode cX3_takesForm 2 = .ok (.putfield 22, 3) := by decide +kernel
theorem dX3_takesForm_5 : decode cX3_takesForm 5 = .ok (.iconst 0, 1) := by decide +kernel
theorem dX3_takesForm_6 : decode cX3_takesForm 6 = .ok (.istore_n 2, 1) := by decide +kernel
theorem dX3_takesForm_7 : decode cX3_takesForm 7 = .ok (.iload_n 2, 1) := by decide +kernel
theorem dX3_takesForm_8 : decode cX3_takesForm 8 = .ok (.aload_n 1, 1) := by decide +kernel
theorem dX3_takesForm_9 : decode cX3_takesForm 9 = .ok (.invokevirtual 115, 3) := by decide +kernel
theorem dX3_takesForm_12 : decode cX3_takesForm 12 = .ok (.if_icmp .ge 70, 3) := by decide +kernel
theorem dX3_takesForm_15 : decode cX3_takesForm 15 = .ok (.aload_n 1, 1) := by decide +kernel
theorem dX3_takesForm_16 : decode cX3_takesForm 16 = .ok (.iload_n 2, 1) := by decide +kernel
theorem dX3_takesForm_17 : decode cX3_takesForm 17 = .ok (.invokevirtual 118, 3) := by decide +kernel
theorem dX3_takesForm_20 : decode cX3_takesForm 20 = .ok (.istore_n 3, 1) := by decide +kernel
theorem dX3_takesForm_21 : decode cX3_takesForm 21 = .ok (.iload_n 3, 1) := by decide +kernel
theorem dX3_takesForm_22 : decode cX3_takesForm 22 = .ok (.bipush 35, 2) := by decide +kernel
theorem dX3_takesForm_24 : decode cX3_takesForm 24 = .ok (.if_icmp .eq 9, 3) := by decide +kernel
theorem dX3_takesForm_27 : decode cX3_takesForm 27 = .ok (.iload_n 3, 1) := by decide +kernel
theorem dX3_takesForm_28 : decode cX3_takesForm 28 = .ok (.bipush 42, 2) := by decide +kernel
theorem dX3_takesForm_30 : decode cX3_takesForm 30 = .ok (.if_icmp .ne 7, 3) := by decide +kernel
theorem dX3_takesForm_33 : decode cX3_takesForm 33 = .ok (.iconst 1, 1) := by decide +kernel
theorem dX3_takesForm_34 : decode cX3_takesForm 34 = .ok (.goto 4, 3) := by decide +kernel
theorem dX3_takesForm_37 : decode cX3_takesForm 37 = .ok (.iconst 0, 1) := by decide +kernel
theorem dX3_takesForm_38 : decode cX3_takesForm 38 = .ok (.istore 4, 2) := by decide +kernel
theorem dX3_takesForm_40 : decode cX3_takesForm 40 = .ok (.iload 4, 2) := by decide +kernel
theorem dX3_takesForm_42 : decode cX3_takesForm 42 = .ok (.ifCond .eq 24, 3) := by decide +kernel
theorem dX3_takesForm_45 : decode cX3_takesForm 45 = .ok (.aload_n 0, 1) := by decide +kernel
theorem dX3_takesForm_46 : decode cX3_takesForm 46 = .ok (.iload_n 3, 1) := by decide +kernel
theorem dX3_takesForm_47 : decode cX3_takesForm 47 = .ok (.bipush 42, 2) := by decide +kernel
theorem dX3_takesForm_49 : decode cX3_takesForm 49 = .ok (.if_icmp .ne 7, 3) := by decide +kernel
theorem dX3_takesForm_52 : decode cX3_takesForm 52 = .ok (.iconst 1, 1) := by decide +kernel
theorem dX3_takesForm_53 : decode cX3_takesForm 53 = .ok (.goto 4, 3) := by decide +kernel
theorem dX3_takesForm_56 : decode cX3_takesForm 56 = .ok (.iconst 0, 1) := by decide +kernel
theorem dX3_takesForm_57 : decode cX3_takesForm 57 = .ok (.invokevirtual 122, 3) := by decide +kernel
theorem dX3_takesForm_60 : decode cX3_takesForm 60 = .ok (.ifCond .ne 16, 3) := by decide +kernel
theorem dX3_takesForm_63 : decode cX3_takesForm 63 = .ok (.goto 11, 3) := by decide +kernel
theorem dX3_takesForm_66 : decode cX3_takesForm 66 = .ok (.aload_n 0, 1) := by decide +kernel
theorem dX3_takesForm_67 : decode cX3_takesForm 67 = .ok (.iload_n 3, 1) := by decide +kernel
theorem dX3_takesForm_68 : decode cX3_takesForm 68 = .ok (.invokevirtual 48, 3) := by decide +kernel
theorem dX3_takesForm_71 : decode cX3_takesForm 71 = .ok (.ifCond .ne 5, 3) := by decide +kernel
theorem dX3_takesForm_74 : decode cX3_takesForm 74 = .ok (.iconst 0, 1) := by decide +kernel
theorem dX3_takesForm_75 : decode cX3_takesForm 75 = .ok (.ireturn, 1) := by decide +kernel
theorem dX3_takesForm_76 : decode cX3_takesForm 76 = .ok (.iinc 2 1, 3) := by decide +kernel
theorem dX3_takesForm_79 : decode cX3_takesForm 79 = .ok (.goto (-72), 3) := by decide +kernel
theorem dX3_takesForm_82 : decode cX3_takesForm 82 = .ok (.iconst 1, 1) := by decide +kernel
theorem dX3_takesForm_83 : decode cX3_takesForm 83 = .ok (.ireturn, 1) := by decide +kernel
theorem dX3_takes_0 : decode cX3_takes 0 = .ok (.aload_n 0, 1) := by decide +kernel
theorem dX3_takes_1 : decode cX3_takes 1 = .ok (.getfield 26, 3) := by decide +kernel
theorem dX3_takes_4 : decode cX3_takes 4 = .ok (.aload_n 0, 1) := by decide +kernel
theorem dX3_takes_5 : decode cX3_takes 5 = .ok (.getfield 12, 3) := by decide +kernel
theorem dX3_takes_8 : decode cX3_takes 8 = .ok (.invokevirtual 32, 3) := by decide +kernel
theorem dX3_takes_11 : decode cX3_takes 11 = .ok (.if_icmp .ge 18, 3) := by decide +kernel
theorem dX3_takes_14 : decode cX3_takes 14 = .ok (.aload_n 0, 1) := by decide +kernel
theorem dX3_takes_15 : decode cX3_takes 15 = .ok (.getfield 12, 3) := by decide +kernel
theorem dX3_takes_18 : decode cX3_takes 18 = .ok (.aload_n 0, 1) := by decide +kernel
theorem dX3_takes_19 : decode cX3_takes 19 = .ok (.getfield 26, 3) := by decide +kernel
theorem dX3_takes_22 : decode cX3_takes 22 = .ok (.invokevirtual 126, 3) := by decide +kernel
theorem dX3_takes_25 : decode cX3_takes 25 = .ok (.iload_n 1, 1) := by decide +kernel
theorem dX3_takes_26 : decode cX3_takes 26 = .ok (.if_icmp .eq 5, 3) := by decide +kernel
theorem dX3_takes_29 : decode cX3_takes 29 = .ok (.iconst 0, 1) := by decide +kernel
theorem dX3_takes_30 : decode cX3_takes 30 = .ok (.ireturn, 1) := by decide +kernel
theorem dX3_takes_31 : decode cX3_takes 31 = .ok (.aload_n 0, 1) := by decide +kernel
theorem dX3_takes_32 : decode cX3_takes 32 = .ok (.dup, 1) := by decide +kernel
theorem dX3_takes_33 : decode cX3_takes 33 = .ok (.getfield 26, 3) := by decide +kernel
theorem dX3_takes_36 : decode cX3_takes 36 = .ok (.iconst 1, 1) := by decide +kernel
theorem dX3_takes_37 : decode cX3_takes 37 = .ok (.iadd, 1) := by decide +kernel
theorem dX3_takes_38 : decode cX3_takes 38 = .ok (.putfield 26, 3) := by decide +kernel
theorem dX3_takes_41 : decode cX3_takes 41 = .ok (.iconst 1, 1) := by decide +kernel
theorem dX3_takes_42 : decode cX3_takes 42 = .ok (.ireturn, 1) := by decide +kernel
theorem dX3_takesNumber_0 : decode cX3_takesNumber 0 = .ok (.aload_n 0, 1) := by decide +kernel
theorem dX3_takesNumber_1 : decode cX3_takesNumber 1 = .ok (.invokevirtual 127, 3) := by decide +kernel
theorem dX3_takesNumber_4 : decode cX3_takesNumber 4 = .ok (.istore_n 2, 1) := by decide +kernel
theorem dX3_takesNumber_5 : decode cX3_takesNumber 5 = .ok (.iload_n 2, 1) := by decide +kernel
theorem dX3_takesNumber_6 : decode cX3_takesNumber 6 = .ok (.ifCond .ge 5, 3) := by decide +kernel
theorem dX3_takesNumber_9 : decode cX3_takesNumber 9 = .ok (.iconst 0, 1) := by decide +kernel
theorem dX3_takesNumber_10 : decode cX3_takesNumber 10 = .ok (.ireturn, 1) := by decide +kernel
theorem dX3_takesNumber_11 : decode cX3_takesNumber 11 = .ok (.aload_n 0, 1) := by decide +kernel
theorem dX3_takesNumber_12 : decode cX3_takesNumber 12 = .ok (.dup, 1) := by decide +kernel
theorem dX3_takesNumber_13 : decode cX3_takesNumber 13 = .ok (.getfield 26, 3) := by decide +kernel
theorem dX3_takesNumber_16 : decode cX3_takesNumber 16 = .ok (.iconst 1, 1) := by decide +kernel
theorem dX3_takesNumber_17 : decode cX3_takesNumber 17 = .ok (.iadd, 1) := by decide +kernel
theorem dX3_takesNumber_18 : decode cX3_takesNumber 18 = .ok (.putfield 26, 3) := by decide +kernel
theorem dX3_takesNumber_21 : decode cX3_takesNumber 21 = .ok (.iload_n 1, 1) := by decide +kernel
theorem dX3_takesNumber_22 : decode cX3_takesNumber 22 = .ok (.ifCond .eq 10, 3) := by decide +kernel
theorem dX3_takesNumber_25 : decode cX3_takesNumber 25 = .ok (.aload_n 0, 1) := by decide +kernel
theorem dX3_takesNumber_26 : decode cX3_takesNumber 26 = .ok (.invokevirtual 127, 3) := by decide +kernel
theorem dX3_takesNumber_29 : decode cX3_takesNumber 29 = .ok (.goto 4, 3) := by decide +kernel
theorem dX3_takesNumber_32 : decode cX3_takesNumber 32 = .ok (.iconst (-1), 1) := by decide +kernel
theorem dX3_takesNumber_33 : decode cX3_takesNumber 33 = .ok (.istore_n 3, 1) := by decide +kernel
theorem dX3_takesNumber_34 : decode cX3_takesNumber 34 = .ok (.iload_n 3, 1) := by decide +kernel
theorem dX3_takesNumber_35 : decode cX3_takesNumber 35 = .ok (.ifCond .lt 20, 3) := by decide +kernel
theorem dX3_takesNumber_38 : decode cX3_takesNumber 38 = .ok (.bipush 10, 2) := by decide +kernel
theorem dX3_takesNumber_40 : decode cX3_takesNumber 40 = .ok (.iload_n 2, 1) := by decide +kernel
theorem dX3_takesNumber_41 : decode cX3_takesNumber 41 = .ok (.imul, 1) := by decide +kernel
theorem dX3_takesNumber_42 : decode cX3_takesNumber 42 = .ok (.iload_n 3, 1) := by decide +kernel
theorem dX3_takesNumber_43 : decode cX3_takesNumber 43 = .ok (.iadd, 1) := by decide +kernel
theorem dX3_takesNumber_44 : decode cX3_takesNumber 44 = .ok (.istore_n 2, 1) := by decide +kernel
theorem dX3_takesNumber_45 : decode cX3_takesNumber 45 = .ok (.aload_n 0, 1) := by decide +kernel
theorem dX3_takesNumber_46 : decode cX3_takesNumber 46 = .ok (.dup, 1) := by decide +kernel
theorem dX3_takesNumber_47 : decode cX3_takesNumber 47 = .ok (.getfield 26, 3) := by decide +kernel
theorem dX3_takesNumber_50 : decode cX3_takesNumber 50 = .ok (.iconst 1, 1) := by decide +kernel
theorem dX3_takesNumber_51 : decode cX3_takesNumber 51 = .ok (.iadd, 1) := by decide +kernel
theorem dX3_takesNumber_52 : decode cX3_takesNumber 52 = .ok (.putfield 26, 3) := by decide +kernel
theorem dX3_takesNumber_55 : decode cX3_takesNumber 55 = .ok (.aload_n 0, 1) := by decide +kernel
theorem dX3_takesNumber_56 : decode cX3_takesNumber 56 = .ok (.getfield 22, 3) := by decide +kernel
theorem dX3_takesNumber_59 : decode cX3_takesNumber 59 = .ok (.aload_n 0, 1) := by decide +kernel
theorem dX3_takesNumber_60 : decode cX3_takesNumber 60 = .ok (.getfield 18, 3) := by decide +kernel
theorem dX3_takesNumber_63 : decode cX3_takesNumber 63 = .ok (.arraylength, 1) := by decide +kernel
theorem dX3_takesNumber_64 : decode cX3_takesNumber 64 = .ok (.if_icmp .ge 23, 3) := by decide +kernel
theorem dX3_takesNumber_67 : decode cX3_takesNumber 67 = .ok (.aload_n 0, 1) := by decide +kernel
theorem dX3_takesNumber_68 : decode cX3_takesNumber 68 = .ok (.getfield 18, 3) := by decide +kernel
theorem dX3_takesNumber_71 : decode cX3_takesNumber 71 = .ok (.aload_n 0, 1) := by decide +kernel
theorem dX3_takesNumber_72 : decode cX3_takesNumber 72 = .ok (.getfield 22, 3) := by decide +kernel
theorem dX3_takesNumber_75 : decode cX3_takesNumber 75 = .ok (.iload_n 2, 1) := by decide +kernel
theorem dX3_takesNumber_76 : decode cX3_takesNumber 76 = .ok (.iastore, 1) := by decide +kernel
theorem dX3_takesNumber_77 : decode cX3_takesNumber 77 = .ok (.aload_n 0, 1) := by decide +kernel
theorem dX3_takesNumber_78 : decode cX3_takesNumber 78 = .ok (.dup, 1) := by decide +kernel
theorem dX3_takesNumber_79 : decode cX3_takesNumber 79 = .ok (.getfield 22, 3) := by decide +kernel
theorem dX3_takesNumber_82 : decode cX3_takesNumber 82 = .ok (.iconst 1, 1) := by decide +kernel
theorem dX3_takesNumber_83 : decode cX3_takesNumber 83 = .ok (.iadd, 1) := by decide +kernel
theorem dX3_takesNumber_84 : decode cX3_takesNumber 84 = .ok (.putfield 22, 3) := by decide +kernel
theorem dX3_takesNumber_87 : decode cX3_takesNumber 87 = .ok (.iconst 1, 1) := by decide +kernel
theorem dX3_takesNumber_88 : decode cX3_takesNumber 88 = .ok (.ireturn, 1) := by decide +kernel
theorem dX3_digit_0 : decode cX3_digit 0 = .ok (.aload_n 0, 1) := by decide +kernel
theorem dX3_digit_1 : decode cX3_digit 1 = .ok (.getfield 26, 3) := by decide +kernel
theorem dX3_digit_4 : decode cX3_digit 4 = .ok (.aload_n 0, 1) := by decide +kernel
theorem dX3_digit_5 : decode cX3_digit 5 = .ok (.getfield 12, 3) := by decide +kernel
theorem dX3_digit_8 : decode cX3_digit 8 = .ok (.invokevirtual 32, 3) := by decide +kernel
theorem dX3_digit_11 : decode cX3_digit 11 = .ok (.if_icmp .lt 5, 3) := by decide +kernel
theorem dX3_digit_14 : decode cX3_digit 14 = .ok (.iconst (-1), 1) := by decide +kernel
theorem dX3_digit_15 : decode cX3_digit 15 = .ok (.ireturn, 1) := by decide +kernel
theorem dX3_digit_16 : decode cX3_digit 16 = .ok (.aload_n 0, 1) := by decide +kernel
theorem dX3_digit_17 : decode cX3_digit 17 = .ok (.getfield 12, 3) := by decide +kernel
theorem dX3_digit_20 : decode cX3_digit 20 = .ok (.aload_n 0, 1) := by decide +kernel
theorem dX3_digit_21 : decode cX3_digit 21 = .ok (.getfield 26, 3) := by decide +kernel
theorem dX3_digit_24 : decode cX3_digit 24 = .ok (.invokevirtual 126, 3) := by decide +kernel
theorem dX3_digit_27 : decode cX3_digit 27 = .ok (.istore_n 1, 1) := by decide +kernel
theorem dX3_digit_28 : decode cX3_digit 28 = .ok (.iload_n 1, 1) := by decide +kernel
theorem dX3_digit_29 : decode cX3_digit 29 = .ok (.bipush 48, 2) := by decide +kernel
theorem dX3_digit_31 : decode cX3_digit 31 = .ok (.if_icmp .lt 16, 3) := by decide +kernel
theorem dX3_digit_34 : decode cX3_digit 34 = .ok (.iload_n 1, 1) := by decide +kernel
theorem dX3_digit_35 : decode cX3_digit 35 = .ok (.bipush 57, 2) := by decide +kernel
theorem dX3_digit_37 : decode cX3_digit 37 = .ok (.if_icmp .gt 10, 3) := by decide +kernel
theorem dX3_digit_40 : decode cX3_digit 40 = .ok (.iload_n 1, 1) := by decide +kernel
theorem dX3_digit_41 : decode cX3_digit 41 = .ok (.bipush 48, 2) := by decide +kernel
theorem dX3_digit_43 : decode cX3_digit 43 = .ok (.isub, 1) := by decide +kernel
theorem dX3_digit_44 : decode cX3_digit 44 = .ok (.goto 4, 3) := by decide +kernel
theorem dX3_digit_47 : decode cX3_digit 47 = .ok (.iconst (-1), 1) := by decide +kernel
theorem dX3_digit_48 : decode cX3_digit 48 = .ok (.ireturn, 1) := by decide +kernel
theorem dX4_init_0 : decode cX4_init 0 = .ok (.aload_n 0, 1) := by decide +kernel
theorem dX4_init_1 : decode cX4_init 1 = .ok (.invokespecial 3, 3) := by decide +kernel
theorem dX4_init_4 : decode cX4_init 4 = .ok (.aload_n 0, 1) := by decide +kernel
theorem dX4_init_5 : decode cX4_init 5 = .ok (.iconst 0, 1) := by decide +kernel
theorem dX4_init_6 : decode cX4_init 6 = .ok (.putfield 9, 3) := by decide +kernel
theorem dX4_init_9 : decode cX4_init 9 = .ok (.aload_n 0, 1) := by decide +kernel
theorem dX4_init_10 : decode cX4_init 10 = .ok (.bipush 6, 2) := by decide +kernel
theorem dX4_init_12 : decode cX4_init 12 = .ok (.iconst 3, 1) := by decide +kernel
theorem dX4_init_13 : decode cX4_init 13 = .ok (.multianewarray 15 2, 4) := by decide +kernel
theorem dX4_init_17 : decode cX4_init 17 = .ok (.putfield 17, 3) := by decide +kernel
theorem dX4_init_20 : decode cX4_init 20 = .ok (.aload_n 0, 1) := by decide +kernel
theorem dX4_init_21 : decode cX4_init 21 = .ok (.iconst 0, 1) := by decide +kernel
theorem dX4_init_22 : decode cX4_init 22 = .ok (.putfield 20, 3) := by decide +kernel
theorem dX4_init_25 : decode cX4_init 25 = .ok (.aload_n 0, 1) := by decide +kernel
theorem dX4_init_26 : decode cX4_init 26 = .ok (.iconst 4, 1) := by decide +kernel
theorem dX4_init_27 : decode cX4_init 27 = .ok (.newarray .int, 2) := by decide +kernel
theorem dX4_init_29 : decode cX4_init 29 = .ok (.putfield 23, 3) := by decide +kernel
theorem dX4_init_32 : decode cX4_init 32 = .ok (.aload_n 0, 1) := by decide +kernel
theorem dX4_init_33 : decode cX4_init 33 = .ok (.iconst 4, 1) := by decide +kernel
theorem dX4_init_34 : decode cX4_init 34 = .ok (.newarray .int, 2) := by decide +kernel
theorem dX4_init_36 : decode cX4_init 36 = .ok (.putfield 27, 3) := by decide +kernel
theorem dX4_init_39 : decode cX4_init 39 = .ok (.aload_n 0, 1) := by decide +kernel
theorem dX4_init_40 : decode cX4_init 40 = .ok (.iconst 3, 1) := by decide +kernel
theorem dX4_init_41 : decode cX4_init 41 = .ok (.newarray .int, 2) := by decide +kernel
theorem dX4_init_43 : decode cX4_init 43 = .ok (.putfield 30, 3) := by decide +kernel
theorem dX4_init_46 : decode cX4_init 46 = .ok (.aload_n 0, 1) := by decide +kernel
theorem dX4_init_47 : decode cX4_init 47 = .ok (.iconst 3, 1) := by decide +kernel
theorem dX4_init_48 : decode cX4_init 48 = .ok (.newarray .int, 2) := by decide +kernel
theorem dX4_init_50 : decode cX4_init 50 = .ok (.putfield 33, 3) := by decide +kernel
theorem dX4_init_53 : decode cX4_init 53 = .ok (.aload_n 0, 1) := by decide +kernel
theorem dX4_init_54 : decode cX4_init 54 = .ok (.iconst 3, 1) := by decide +kernel
theorem dX4_init_55 : decode cX4_init 55 = .ok (.newarray .int, 2) := by decide +kernel
theorem dX4_init_57 : decode cX4_init 57 = .ok (.putfield 36, 3) := by decide +kernel
theorem dX4_init_60 : decode cX4_init 60 = .ok (.aload_n 0, 1) := by decide +kernel
theorem dX4_init_61 : decode cX4_init 61 = .ok (.iconst 3, 1) := by decide +kernel
theorem dX4_init_62 : decode cX4_init 62 = .ok (.newarray .int, 2) := by decide +kernel
theorem dX4_init_64 : decode cX4_init 64 = .ok (.putfield 39, 3) := by decide +kernel
theorem dX4_init_67 : decode cX4_init 67 = .ok (.aload_n 0, 1) := by decide +kernel
theorem dX4_init_68 : decode cX4_init 68 = .ok (.bipush 50, 2) := by decide +kernel
theorem dX4_init_70 : decode cX4_init 70 = .ok (.putfield 42, 3) := by decide +kernel
theorem dX4_init_73 : decode cX4_init 73 = .ok (.aload_n 0, 1) := by decide +kernel
theorem dX4_init_74 : decode cX4_init 74 = .ok (.iconst 2, 1) := by decide +kernel
theorem dX4_init_75 : decode cX4_init 75 = .ok (.putfield 45, 3) := by decide +kernel
theorem dX4_init_78 : decode cX4_init 78 = .ok (.aload_n 0, 1) := by decide +kernel
theorem dX4_init_79 : decode cX4_init 79 = .ok (.iconst 0, 1) := by decide +kernel
theorem dX4_init_80 : decode cX4_init 80 = .ok (.putfield 48, 3) := by decide +kernel
theorem dX4_init_83 : decode cX4_init 83 = .ok (.aload_n 0, 1) := by decide +kernel
theorem dX4_init_84 : decode cX4_init 84 = .ok (.bipush 8, 2) := by decide +kernel
theorem dX4_init_86 : decode cX4_init 86 = .ok (.anewarray 51, 3) := by decide +kernel
theorem dX4_init_89 : decode cX4_init 89 = .ok (.putfield 53, 3) := by decide +kernel
theorem dX4_init_92 : decode cX4_init 92 = .ok (.aload_n 0, 1) := by decide +kernel
theorem dX4_init_93 : decode cX4_init 93 = .ok (.iconst 0, 1) := by decide +kernel
theorem dX4_init_94 : decode cX4_init 94 = .ok (.putfield 57, 3) := by decide +kernel
theorem dX4_init_97 : decode cX4_init 97 = .ok (.aload_n 0, 1) := by decide +kernel
theorem dX4_init_98 : decode cX4_init 98 = .ok (.iconst 0, 1) := by decide +kernel
theorem dX4_init_99 : decode cX4_init 99 = .ok (.putfield 60, 3) := by decide +kernel
theorem dX4_init_102 : decode cX4_init 102 = .ok (.aload_n 0, 1) := by decide +kernel
theorem dX4_init_103 : decode cX4_init 103 = .ok (.iconst 0, 1) := by decide +kernel
theorem dX4_init_104 : decode cX4_init 104 = .ok (.putfield 63, 3) := by decide +kernel
theorem dX4_init_107 : decode cX4_init 107 = .ok (.aload_n 0, 1) := by decide +kernel
theorem dX4_init_108 : decode cX4_init 108 = .ok (.iconst 0, 1) := by decide +kernel
theorem dX4_init_109 : decode cX4_init 109 = .ok (.putfield 66, 3) := by decide +kernel
theorem dX4_init_112 : decode cX4_init 112 = .ok (.iconst 0, 1) := by decide +kernel
theorem dX4_init_113 : decode cX4_init 113 = .ok (.istore_n 1, 1) := by decide +kernel
theorem dX4_init_114 : decode cX4_init 114 = .ok (.iload_n 1, 1) := by decide +kernel
theorem dX4_init_115 : decode cX4_init 115 = .ok (.aload_n 0, 1) := by decide +kernel
theorem dX4_init_116 : decode cX4_init 116 = .ok (.getfield 53, 3) := by decide +kernel
theorem dX4_init_119 : decode cX4_init 119 = .ok (.arraylength, 1) := by decide +kernel
theorem dX4_init_120 : decode cX4_init 120 = .ok (.if_icmp .ge 22, 3) := by decide +kernel
theorem dX4_init_123 : decode cX4_init 123 = .ok (.aload_n 0, 1) := by decide +kernel
theorem dX4_init_124 : decode cX4_init 124 = .ok (.getfield 53, 3) := by decide +kernel
theorem dX4_init_127 : decode cX4_init 127 = .ok (.iload_n 1, 1) := by decide +kernel
theorem dX4_init_128 : decode cX4_init 128 = .ok (.new 51, 3) := by decide +kernel
theorem dX4_init_131 : decode cX4_init 131 = .ok (.dup, 1) := by decide +kernel
theorem dX4_init_132 : decode cX4_init 132 = .ok (.invokespecial 69, 3) := by decide +kernel
theorem dX4_init_135 : decode cX4_init 135 = .ok (.aastore, 1) := by decide +kernel
theorem dX4_init_136 : decode cX4_init 136 = .ok (.iinc 1 1, 3) := by decide +kernel
theorem dX4_init_139 : decode cX4_init 139 = .ok (.goto (-25), 3) := by decide +kernel
theorem dX4_init_142 : decode cX4_init 142 = .ok (.return_, 1) := by decide +kernel
theorem dX4_copyFrom_0 : decode cX4_copyFrom 0 = .ok (.aload_n 0, 1) := by decide +kernel
theorem dX4_copyFrom_1 : decode cX4_copyFrom 1 = .ok (.aload_n 1, 1) := by decide +kernel
theorem dX4_copyFrom_2 : decode cX4_copyFrom 2 = .ok (.getfield 9, 3) := by decide +kernel
theorem dX4_copyFrom_5 : decode cX4_copyFrom 5 = .ok (.putfield 9, 3) := by decide +kernel
theorem dX4_copyFrom_8 : decode cX4_copyFrom 8 = .ok (.iconst 0, 1) := by decide +kernel
theorem dX4_copyFrom_9 : decode cX4_copyFrom 9 = .ok (.istore_n 2, 1) := by decide +kernel
theorem dX4_copyFrom_10 : decode cX4_copyFrom 10 = .ok (.iload_n 2, 1) := by decide +kernel
theorem dX4_copyFrom_11 : decode cX4_copyFrom 11 = .ok (.bipush 6, 2) := by decide +kernel
theorem dX4_copyFrom_13 : decode cX4_copyFrom 13 = .ok (.if_icmp .ge 24, 3) := by decide +kernel
theorem dX4_copyFrom_16 : decode cX4_copyFrom 16 = .ok (.aload_n 1, 1) := by decide +kernel
theorem dX4_copyFrom_17 : decode cX4_copyFrom 17 = .ok (.getfield 17, 3) := by decide +kernel
theorem dX4_copyFrom_20 : decode cX4_copyFrom 20 = .ok (.iload_n 2, 1) := by decide +kernel
theorem dX4_copyFrom_21 : decode cX4_copyFrom 21 = .ok (.aaload, 1) := by decide +kernel
theorem dX4_copyFrom_22 : decode cX4_copyFrom 22 = .ok (.aload_n 0, 1) := by decide +kernel
theorem dX4_copyFrom_23 : decode cX4_copyFrom 23 = .ok (.getfield 17, 3) := by decide +kernel
theorem dX4_copyFrom_26 : decode cX4_copyFrom 26 = .ok (.iload_n 2, 1) := by decide +kernel
theorem dX4_copyFrom_27 : decode cX4_copyFrom 27 = .ok (.aaload, 1) := by decide +kernel
theorem dX4_copyFrom_28 : decode cX4_copyFrom 28 = .ok (.invokestatic 70, 3) := by decide +kernel
theorem dX4_copyFrom_31 : decode cX4_copyFrom 31 = .ok (.iinc 2 1, 3) := by decide +kernel
theorem dX4_copyFrom_34 : decode cX4_copyFrom 34 = .ok (.goto (-24), 3) := by decide +kernel
theorem dX4_copyFrom_37 : decode cX4_copyFrom 37 = .ok (.aload_n 0, 1) := by decide +kernel
theorem dX4_copyFrom_38 : decode cX4_copyFrom 38 = .ok (.aload_n 1, 1) := by decide +kernel
theorem dX4_copyFrom_39 : decode cX4_copyFrom 39 = .ok (.getfield 20, 3) := by decide +kernel
theorem dX4_copyFrom_42 : decode cX4_copyFrom 42 = .ok (.putfield 20, 3) := by decide +kernel
theorem dX4_copyFrom_45 : decode cX4_copyFrom 45 = .ok (.aload_n 1, 1) := by decide +kernel
theorem dX4_copyFrom_46 : decode cX4_copyFrom 46 = .ok (.getfield 23, 3) := by decide +kernel
theorem dX4_copyFrom_49 : decode cX4_copyFrom 49 = .ok (.aload_n 0, 1) := by decide +kernel
theorem dX4_copyFrom_50 : decode cX4_copyFrom 50 = .ok (.getfield 23, 3) := by decide +kernel
theorem dX4_copyFrom_53 : decode cX4_copyFrom 53 = .ok (.invokestatic 70, 3) := by decide +kernel
theorem dX4_copyFrom_56 : decode cX4_copyFrom 56 = .ok (.aload_n 1, 1) := by decide +kernel
theorem dX4_copyFrom_57 : decode cX4_copyFrom 57 = .ok (.getfield 27, 3) := by decide +kernel
theorem dX4_copyFrom_60 : decode cX4_copyFrom 60 = .ok (.aload_n 0, 1) := by decide +kernel
theorem dX4_copyFrom_61 : decode cX4_copyFrom 61 = .ok (.getfield 27, 3) := by decide +kernel
theorem dX4_copyFrom_64 : decode cX4_copyFrom 64 = .ok (.invokestatic 70, 3) := by decide +kernel
theorem dX4_copyFrom_67 : decode cX4_copyFrom 67 = .ok (.aload_n 1, 1) := by decide +kernel
theorem dX4_copyFrom_68 : decode cX4_copyFrom 68 = .ok (.getfield 30, 3) := by decide +kernel
theorem dX4_copyFrom_71 : decode cX4_copyFrom 71 = .ok (.aload_n 0, 1) := by decide +kernel
theorem dX4_copyFrom_72 : decode cX4_copyFrom 72 = .ok (.getfield 30, 3) := by decide +kernel
theorem dX4_copyFrom_75 : decode cX4_copyFrom 75 = .ok (.invokestatic 70, 3) := by decide +kernel
theorem dX4_copyFrom_78 : decode cX4_copyFrom 78 = .ok (.aload_n 1, 1) := by decide +kernel
theorem dX4_copyFrom_79 : decode cX4_copyFrom 79 = .ok (.getfield 33, 3) := by decide +kernel
theorem dX4_copyFrom_82 : decode cX4_copyFrom 82 = .ok (.aload_n 0, 1) := by decide +kernel
theorem dX4_copyFrom_83 : decode cX4_copyFrom 83 = .ok (.getfield 33, 3) := by decide +kernel
theorem dX4_copyFrom_86 : decode cX4_copyFrom 86 = .ok (.invokestatic 70, 3) := by decide +kernel
theorem dX4_copyFrom_89 : decode cX4_copyFrom 89 = .ok (.aload_n 1, 1) := by decide +kernel
theorem dX4_copyFrom_90 : decode cX4_copyFrom 90 = .ok (.getfield 36, 3) := by decide +kernel
theorem dX4_copyFrom_93 : decode cX4_copyFrom 93 = .ok (.aload_n 0, 1) := by decide +kernel
theorem dX4_copyFrom_94 : decode cX4_copyFrom 94 = .ok (.getfield 36, 3) := by decide +kernel
theorem dX4_copyFrom_97 : decode cX4_copyFrom 97 = .ok (.invokestatic 70, 3) := by decide +kernel
theorem dX4_copyFrom_100 : decode cX4_copyFrom 100 = .ok (.aload_n 1, 1) := by decide +kernel
theorem dX4_copyFrom_101 : decode cX4_copyFrom 101 = .ok (.getfield 39, 3) := by decide +kernel
theorem dX4_copyFrom_104 : decode cX4_copyFrom 104 = .ok (.aload_n 0, 1) := by decide +kernel
theorem dX4_copyFrom_105 : decode cX4_copyFrom 105 = .ok (.getfield 39, 3) := by decide +kernel
theorem dX4_copyFrom_108 : decode cX4_copyFrom 108 = .ok (.invokestatic 70, 3) := by decide +kernel
theorem dX4_copyFrom_111 : decode cX4_copyFrom 111 = .ok (.aload_n 0, 1) := by decide +kernel
theorem dX4_copyFrom_112 : decode cX4_copyFrom 112 = .ok (.aload_n 1, 1) := by decide +kernel
theorem dX4_copyFrom_113 : decode cX4_copyFrom 113 = .ok (.getfield 42, 3) := by decide +kernel
theorem dX4_copyFrom_116 : decode cX4_copyFrom 116 = .ok (.putfield 42, 3) := by decide +kernel
theorem dX4_copyFrom_119 : decode cX4_copyFrom 119 = .ok (.aload_n 0, 1) := by decide +kernel
theorem dX4_copyFrom_120 : decode cX4_copyFrom 120 = .ok (.aload_n 1, 1) := by decide +kernel
theorem dX4_copyFrom_121 : decode cX4_copyFrom 121 = .ok (.getfield 45, 3) := by decide +kernel
theorem dX4_copyFrom_124 : decode cX4_copyFrom 124 = .ok (.putfield 45, 3) := by decide +kernel
theorem dX4_copyFrom_127 : decode cX4_copyFrom 127 = .ok (.aload_n 0, 1) := by decide +kernel
theorem dX4_copyFrom_128 : decode cX4_copyFrom 128 = .ok (.aload_n 1, 1) := by decide +kernel
theorem dX4_copyFrom_129 : decode cX4_copyFrom 129 = .ok (.getfield 48, 3) := by decide +kernel
theorem dX4_copyFrom_132 : decode cX4_copyFrom 132 = .ok (.putfield 48, 3) := by decide +kernel
theorem dX4_copyFrom_135 : decode cX4_copyFrom 135 = .ok (.iconst 0, 1) := by decide +kernel
theorem dX4_copyFrom_136 : decode cX4_copyFrom 136 = .ok (.istore_n 2, 1) := by decide +kernel
theorem dX4_copyFrom_137 : decode cX4_copyFrom 137 = .ok (.iload_n 2, 1) := by decide +kernel
theorem dX4_copyFrom_138 : decode cX4_copyFrom 138 = .ok (.bipush 8, 2) := by decide +kernel
theorem dX4_copyFrom_140 : decode cX4_copyFrom 140 = .ok (.if_icmp .ge 24, 3) := by decide +kernel
theorem dX4_copyFrom_143 : decode cX4_copyFrom 143 = .ok (.aload_n 0, 1) := by decide +kernel
theorem dX4_copyFrom_144 : decode cX4_copyFrom 144 = .ok (.getfield 53, 3) := by decide +kernel
theorem dX4_copyFrom_147 : decode cX4_copyFrom 147 = .ok (.iload_n 2, 1) := by decide +kernel
theorem dX4_copyFrom_148 : decode cX4_copyFrom 148 = .ok (.aaload, 1) := by decide +kernel
theorem dX4_copyFrom_149 : decode cX4_copyFrom 149 = .ok (.aload_n 1, 1) := by decide +kernel
theorem dX4_copyFrom_150 : decode cX4_copyFrom 150 = .ok (.getfield 53, 3) := by decide +kernel
theorem dX4_copyFrom_153 : decode cX4_copyFrom 153 = .ok (.iload_n 2, 1) := by decide +kernel
theorem dX4_copyFrom_154 : decode cX4_copyFrom 154 = .ok (.aaload, 1) := by decide +kernel
theorem dX4_copyFrom_155 : decode cX4_copyFrom 155 = .ok (.invokevirtual 74, 3) := by decide +kernel
theorem dX4_copyFrom_158 : decode cX4_copyFrom 158 = .ok (.iinc 2 1, 3) := by decide +kernel
theorem dX4_copyFrom_161 : decode cX4_copyFrom 161 = .ok (.goto (-24), 3) := by decide +kernel
theorem dX4_copyFrom_164 : decode cX4_copyFrom 164 = .ok (.aload_n 0, 1) := by decide +kernel
theorem dX4_copyFrom_165 : decode cX4_copyFrom 165 = .ok (.aload_n 1, 1) := by decide +kernel
theorem dX4_copyFrom_166 : decode cX4_copyFrom 166 = .ok (.getfield 57, 3) := by decide +kernel
theorem dX4_copyFrom_169 : decode cX4_copyFrom 169 = .ok (.putfield 57, 3) := by decide +kernel
theorem dX4_copyFrom_172 : decode cX4_copyFrom 172 = .ok (.aload_n 0, 1) := by decide +kernel
theorem dX4_copyFrom_173 : decode cX4_copyFrom 173 = .ok (.aload_n 1, 1) := by decide +kernel
theorem dX4_copyFrom_174 : decode cX4_copyFrom 174 = .ok (.getfield 60, 3) := by decide +kernel
theorem dX4_copyFrom_177 : decode cX4_copyFrom 177 = .ok (.putfield 60, 3) := by decide +kernel
theorem dX4_copyFrom_180 : decode cX4_copyFrom 180 = .ok (.aload_n 0, 1) := by decide +kernel
theorem dX4_copyFrom_181 : decode cX4_copyFrom 181 = .ok (.aload_n 1, 1) := by decide +kernel
theorem dX4_copyFrom_182 : decode cX4_copyFrom 182 = .ok (.getfield 63, 3) := by decide +kernel
theorem dX4_copyFrom_185 : decode cX4_copyFrom 185 = .ok (.putfield 63, 3) := by decide +kernel
theorem dX4_copyFrom_188 : decode cX4_copyFrom 188 = .ok (.aload_n 0, 1) := by decide +kernel
theorem dX4_copyFrom_189 : decode cX4_copyFrom 189 = .ok (.aload_n 1, 1) := by decide +kernel
theorem dX4_copyFrom_190 : decode cX4_copyFrom 190 = .ok (.getfield 66, 3) := by decide +kernel
theorem dX4_copyFrom_193 : decode cX4_copyFrom 193 = .ok (.putfield 66, 3) := by decide +kernel
theorem dX4_copyFrom_196 : decode cX4_copyFrom 196 = .ok (.return_, 1) := by decide +kernel
theorem dX4_hasAlloy_0 : decode cX4_hasAlloy 0 = .ok (.iload_n 1, 1) := by decide +kernel
theorem dX4_hasAlloy_1 : decode cX4_hasAlloy 1 = .ok (.ifCond .lt 15, 3) := by decide +kernel
theorem dX4_hasAlloy_4 : decode cX4_hasAlloy 4 = .ok (.iload_n 1, 1) := by decide +kernel
theorem dX4_hasAlloy_5 : decode cX4_hasAlloy 5 = .ok (.aload_n 0, 1) := by decide +kernel
theorem dX4_hasAlloy_6 : decode cX4_hasAlloy 6 = .ok (.getfield 9, 3) := by decide +kernel
theorem dX4_hasAlloy_9 : decode cX4_hasAlloy 9 = .ok (.if_icmp .ge 7, 3) := by decide +kernel
theorem dX4_hasAlloy_12 : decode cX4_hasAlloy 12 = .ok (.iconst 1, 1) := by decide +kernel
theorem dX4_hasAlloy_13 : decode cX4_hasAlloy 13 = .ok (.goto 4, 3) := by decide +kernel
theorem dX4_hasAlloy_16 : decode cX4_hasAlloy 16 = .ok (.iconst 0, 1) := by decide +kernel
theorem dX4_hasAlloy_17 : decode cX4_hasAlloy 17 = .ok (.ireturn, 1) := by decide +kernel
theorem dX4_hasMould_0 : decode cX4_hasMould 0 = .ok (.iload_n 1, 1) := by decide +kernel
theorem dX4_hasMould_1 : decode cX4_hasMould 1 = .ok (.ifCond .lt 15, 3) := by decide +kernel
theorem dX4_hasMould_4 : decode cX4_hasMould 4 = .ok (.iload_n 1, 1) := by decide +kernel
theorem dX4_hasMould_5 : decode cX4_hasMould 5 = .ok (.aload_n 0, 1) := by decide +kernel
theorem dX4_hasMould_6 : decode cX4_hasMould 6 = .ok (.getfield 20, 3) := by decide +kernel
theorem dX4_hasMould_9 : decode cX4_hasMould 9 = .ok (.if_icmp .ge 7, 3) := by decide +kernel
theorem dX4_hasMould_12 : decode cX4_hasMould 12 = .ok (.iconst 1, 1) := by decide +kernel
theorem dX4_hasMould_13 : decode cX4_hasMould 13 = .ok (.goto 4, 3) := by decide +kernel
theorem dX4_hasMould_16 : decode cX4_hasMould 16 = .ok (.iconst 0, 1) := by decide +kernel
theorem dX4_hasMould_17 : decode cX4_hasMould 17 = .ok (.ireturn, 1) := by decide +kernel
theorem dX4_isMetal_0 : decode cX4_isMetal 0 = .ok (.iload_n 0, 1) := by decide +kernel
theorem dX4_isMetal_1 : decode cX4_isMetal 1 = .ok (.ifCond .lt 12, 3) := by decide +kernel
theorem dX4_isMetal_4 : decode cX4_isMetal 4 = .ok (.iload_n 0, 1) := by decide +kernel
theorem dX4_isMetal_5 : decode cX4_isMetal 5 = .ok (.iconst 3, 1) := by decide +kernel
theorem dX4_isMetal_6 : decode cX4_isMetal 6 = .ok (.if_icmp .ge 7, 3) := by decide +kernel
theorem dX4_isMetal_9 : decode cX4_isMetal 9 = .ok (.iconst 1, 1) := by decide +kernel
theorem dX4_isMetal_10 : decode cX4_isMetal 10 = .ok (.goto 4, 3) := by decide +kernel
theorem dX4_isMetal_13 : decode cX4_isMetal 13 = .ok (.iconst 0, 1) := by decide +kernel
theorem dX4_isMetal_14 : decode cX4_isMetal 14 = .ok (.ireturn, 1) := by decide +kernel
theorem dX4_isPart_0 : decode cX4_isPart 0 = .ok (.iload_n 0, 1) := by decide +kernel
theorem dX4_isPart_1 : decode cX4_isPart 1 = .ok (.ifCond .lt 13, 3) := by decide +kernel
theorem dX4_isPart_4 : decode cX4_isPart 4 = .ok (.iload_n 0, 1) := by decide +kernel
theorem dX4_isPart_5 : decode cX4_isPart 5 = .ok (.bipush 9, 2) := by decide +kernel
theorem dX4_isPart_7 : decode cX4_isPart 7 = .ok (.if_icmp .gt 7, 3) := by decide +kernel
theorem dX4_isPart_10 : decode cX4_isPart 10 = .ok (.iconst 1, 1) := by decide +kernel
theorem dX4_isPart_11 : decode cX4_isPart 11 = .ok (.goto 4, 3) := by decide +kernel
theorem dX4_isPart_14 : decode cX4_isPart 14 = .ok (.iconst 0, 1) := by decide +kernel
theorem dX4_isPart_15 : decode cX4_isPart 15 = .ok (.ireturn, 1) := by decide +kernel
theorem dX4_mixAlloy_0 : decode cX4_mixAlloy 0 = .ok (.iload_n 1, 1) := by decide +kernel
theorem dX4_mixAlloy_1 : decode cX4_mixAlloy 1 = .ok (.invokestatic 78, 3) := by decide +kernel
theorem dX4_mixAlloy_4 : decode cX4_mixAlloy 4 = .ok (.ifCond .eq 25, 3) := by decide +kernel
theorem dX4_mixAlloy_7 : decode cX4_mixAlloy 7 = .ok (.iload_n 2, 1) := by decide +kernel
theorem dX4_mixAlloy_8 : decode cX4_mixAlloy 8 = .ok (.invokestatic 78, 3) := by decide +kernel
theorem dX4_mixAlloy_11 : decode cX4_mixAlloy 11 = .ok (.ifCond .eq 18, 3) := by decide +kernel
theorem dX4_mixAlloy_14 : decode cX4_mixAlloy 14 = .ok (.iload_n 3, 1) := by decide +kernel
theorem dX4_mixAlloy_15 : decode cX4_mixAlloy 15 = .ok (.invokestatic 78, 3) := by decide +kernel
theorem dX4_mixAlloy_18 : decode cX4_mixAlloy 18 = .ok (.ifCond .eq 11, 3) := by decide +kernel
theorem dX4_mixAlloy_21 : decode cX4_mixAlloy 21 = .ok (.iload_n 1, 1) := by decide +kernel
theorem dX4_mixAlloy_22 : decode cX4_mixAlloy 22 = .ok (.iload_n 2, 1) := by decide +kernel
theorem dX4_mixAlloy_23 : decode cX4_mixAlloy 23 = .ok (.iadd, 1) := by decide +kernel
theorem dX4_mixAlloy_24 : decode cX4_mixAlloy 24 = .ok (.iload_n 3, 1) := by decide +kernel
theorem dX4_mixAlloy_25 : decode cX4_mixAlloy 25 = .ok (.iadd, 1) := by decide +kernel
theorem dX4_mixAlloy_26 : decode cX4_mixAlloy 26 = .ok (.ifCond .ne 6, 3) := by decide +kernel
theorem dX4_mixAlloy_29 : decode cX4_mixAlloy 29 = .ok (.bipush (-2), 2) := by decide +kernel
theorem dX4_mixAlloy_31 : decode cX4_mixAlloy 31 = .ok (.ireturn, 1) := by decide +kernel
theorem dX4_mixAlloy_32 : decode cX4_mixAlloy 32 = .ok (.aload_n 0, 1) := by decide +kernel
theorem dX4_mixAlloy_33 : decode cX4_mixAlloy 33 = .ok (.getfield 9, 3) := by decide +kernel
theorem dX4_mixAlloy_36 : decode cX4_mixAlloy 36 = .ok (.bipush 6, 2) := by decide +kernel
theorem dX4_mixAlloy_38 : decode cX4_mixAlloy 38 = .ok (.if_icmp .lt 6, 3) := by decide +kernel
theorem dX4_mixAlloy_41 : decode cX4_mixAlloy 41 = .ok (.bipush (-3), 2) := by decide +kernel
theorem dX4_mixAlloy_43 : decode cX4_mixAlloy 43 = .ok (.ireturn, 1) := by decide +kernel
theorem dX4_mixAlloy_44 : decode cX4_mixAlloy 44 = .ok (.aload_n 0, 1) := by decide +kernel
theorem dX4_mixAlloy_45 : decode cX4_mixAlloy 45 = .ok (.getfield 17, 3) := by decide +kernel
theorem dX4_mixAlloy_48 : decode cX4_mixAlloy 48 = .ok (.aload_n 0, 1) := by decide +kernel
theorem dX4_mixAlloy_49 : decode cX4_mixAlloy 49 = .ok (.getfield 9, 3) := by decide +kernel
theorem dX4_mixAlloy_52 : decode cX4_mixAlloy 52 = .ok (.aaload, 1) := by decide +kernel
theorem dX4_mixAlloy_53 : decode cX4_mixAlloy 53 = .ok (.iconst 0, 1) := by decide +kernel
theorem dX4_mixAlloy_54 : decode cX4_mixAlloy 54 = .ok (.iload_n 1, 1) := by decide +kernel
theorem dX4_mixAlloy_55 : decode cX4_mixAlloy 55 = .ok (.iastore, 1) := by decide +kernel
theorem dX4_mixAlloy_56 : decode cX4_mixAlloy 56 = .ok (.aload_n 0, 1) := by decide +kernel
theorem dX4_mixAlloy_57 : decode cX4_mixAlloy 57 = .ok (.getfield 17, 3) := by decide +kernel
theorem dX4_mixAlloy_60 : decode cX4_mixAlloy 60 = .ok (.aload_n 0, 1) := by decide +kernel
theorem dX4_mixAlloy_61 : decode cX4_mixAlloy 61 = .ok (.getfield 9, 3) := by decide +kernel
theorem dX4_mixAlloy_64 : decode cX4_mixAlloy 64 = .ok (.aaload, 1) := by decide +kernel
theorem dX4_mixAlloy_65 : decode cX4_mixAlloy 65 = .ok (.iconst 1, 1) := by decide +kernel
theorem dX4_mixAlloy_66 : decode cX4_mixAlloy 66 = .ok (.iload_n 2, 1) := by decide +kernel
theorem dX4_mixAlloy_67 : decode cX4_mixAlloy 67 = .ok (.iastore, 1) := by decide +kernel
theorem dX4_mixAlloy_68 : decode cX4_mixAlloy 68 = .ok (.aload_n 0, 1) := by decide +kernel
theorem dX4_mixAlloy_69 : decode cX4_mixAlloy 69 = .ok (.getfield 17, 3) := by decide +kernel
theorem dX4_mixAlloy_72 : decode cX4_mixAlloy 72 = .ok (.aload_n 0, 1) := by decide +kernel
theorem dX4_mixAlloy_73 : decode cX4_mixAlloy 73 = .ok (.getfield 9, 3) := by decide +kernel
theorem dX4_mixAlloy_76 : decode cX4_mixAlloy 76 = .ok (.aaload, 1) := by decide +kernel
theorem dX4_mixAlloy_77 : decode cX4_mixAlloy 77 = .ok (.iconst 2, 1) := by decide +kernel
theorem dX4_mixAlloy_78 : decode cX4_mixAlloy 78 = .ok (.iload_n 3, 1) := by decide +kernel
theorem dX4_mixAlloy_79 : decode cX4_mixAlloy 79 = .ok (.iastore, 1) := by decide +kernel
theorem dX4_mixAlloy_80 : decode cX4_mixAlloy 80 = .ok (.aload_n 0, 1) := by decide +kernel
theorem dX4_mixAlloy_81 : decode cX4_mixAlloy 81 = .ok (.dup, 1) := by decide +kernel
theorem dX4_mixAlloy_82 : decode cX4_mixAlloy 82 = .ok (.getfield 9, 3) := by decide +kernel
theorem dX4_mixAlloy_85 : decode cX4_mixAlloy 85 = .ok (.iconst 1, 1) := by decide +kernel
theorem dX4_mixAlloy_86 : decode cX4_mixAlloy 86 = .ok (.iadd, 1) := by decide +kernel
theorem dX4_mixAlloy_87 : decode cX4_mixAlloy 87 = .ok (.putfield 9, 3) := by decide +kernel
theorem dX4_mixAlloy_90 : decode cX4_mixAlloy 90 = .ok (.aload_n 0, 1) := by decide +kernel
theorem dX4_mixAlloy_91 : decode cX4_mixAlloy 91 = .ok (.getfield 9, 3) := by decide +kernel
theorem dX4_mixAlloy_94 : decode cX4_mixAlloy 94 = .ok (.iconst 1, 1) := by decide +kernel
theorem dX4_mixAlloy_95 : decode cX4_mixAlloy 95 = .ok (.isub, 1) := by decide +kernel
theorem dX4_mixAlloy_96 : decode cX4_mixAlloy 96 = .ok (.ireturn, 1) := by decide +kernel
theorem dX4_placeMould_0 : decode cX4_placeMould 0 = .ok (.iload_n 1, 1) := by decide +kernel
theorem dX4_placeMould_1 : decode cX4_placeMould 1 = .ok (.iconst 1, 1) := by decide +kernel
theorem dX4_placeMould_2 : decode cX4_placeMould 2 = .ok (.if_icmp .lt 9, 3) := by decide +kernel
theorem dX4_placeMould_5 : decode cX4_placeMould 5 = .ok (.iload_n 1, 1) := by decide +kernel
theorem dX4_placeMould_6 : decode cX4_placeMould 6 = .ok (.bipush 50, 2) := by decide +kernel
theorem dX4_placeMould_8 : decode cX4_placeMould 8 = .ok (.if_icmp .le 6, 3) := by decide +kernel
theorem dX4_placeMould_11 : decode cX4_placeMould 11 = .ok (.bipush (-2), 2) := by decide +kernel
theorem dX4_placeMould_13 : decode cX4_placeMould 13 = .ok (.ireturn, 1) := by decide +kernel
theorem dX4_placeMould_14 : decode cX4_placeMould 14 = .ok (.aload_n 0, 1) := by decide +kernel
theorem dX4_placeMould_15 : decode cX4_placeMould 15 = .ok (.getfield 20, 3) := by decide +kernel
theorem dX4_placeMould_18 : decode cX4_placeMould 18 = .ok (.iconst 4, 1) := by decide +kernel
theorem dX4_placeMould_19 : decode cX4_placeMould 19 = .ok (.if_icmp .lt 6, 3) := by decide +kernel
theorem dX4_placeMould_22 : decode cX4_placeMould 22 = .ok (.bipush (-3), 2) := by decide +kernel
theorem dX4_placeMould_24 : decode cX4_placeMould 24 = .ok (.ireturn, 1) := by decide +kernel
theorem dX4_placeMould_25 : decode cX4_placeMould 25 = .ok (.aload_n 0, 1) := by decide +kernel
theorem dX4_placeMould_26 : decode cX4_placeMould 26 = .ok (.getfield 23, 3) := by decide +kernel
theorem dX4_placeMould_29 : decode cX4_placeMould 29 = .ok (.aload_n 0, 1) := by decide +kernel
theorem dX4_placeMould_30 : decode cX4_placeMould 30 = .ok (.getfield 20, 3) := by decide +kernel
theorem dX4_placeMould_33 : decode cX4_placeMould 33 = .ok (.iload_n 1, 1) := by decide +kernel
theorem dX4_placeMould_34 : decode cX4_placeMould 34 = .ok (.iastore, 1) := by decide +kernel
theorem dX4_placeMould_35 : decode cX4_placeMould 35 = .ok (.aload_n 0, 1) := by decide +kernel
theorem dX4_placeMould_36 : decode cX4_placeMould 36 = .ok (.getfield 27, 3) := by decide +kernel
theorem dX4_placeMould_39 : decode cX4_placeMould 39 = .ok (.aload_n 0, 1) := by decide +kernel
theorem dX4_placeMould_40 : decode cX4_placeMould 40 = .ok (.getfield 20, 3) := by decide +kernel
theorem dX4_placeMould_43 : decode cX4_placeMould 43 = .ok (.iconst 0, 1) := by decide +kernel
theorem dX4_placeMould_44 : decode cX4_placeMould 44 = .ok (.iastore, 1) := by decide +kernel
theorem dX4_placeMould_45 : decode cX4_placeMould 45 = .ok (.aload_n 0, 1) := by decide +kernel
theorem dX4_placeMould_46 : decode cX4_placeMould 46 = .ok (.dup, 1) := by decide +kernel
theorem dX4_placeMould_47 : decode cX4_placeMould 47 = .ok (.getfield 20, 3) := by decide +kernel
theorem dX4_placeMould_50 : decode cX4_placeMould 50 = .ok (.iconst 1, 1) := by decide +kernel
theorem dX4_placeMould_51 : decode cX4_placeMould 51 = .ok (.iadd, 1) := by decide +kernel
theorem dX4_placeMould_52 : decode cX4_placeMould 52 = .ok (.putfield 20, 3) := by decide +kernel
theorem dX4_placeMould_55 : decode cX4_placeMould 55 = .ok (.aload_n 0, 1) := by decide +kernel
theorem dX4_placeMould_56 : decode cX4_placeMould 56 = .ok (.getfield 20, 3) := by decide +kernel
theorem dX4_placeMould_59 : decode cX4_placeMould 59 = .ok (.iconst 1, 1) := by decide +kernel
theorem dX4_placeMould_60 : decode cX4_placeMould 60 = .ok (.isub, 1) := by decide +kernel
theorem dX4_placeMould_61 : decode cX4_placeMould 61 = .ok (.ireturn, 1) := by decide +kernel
theorem dX4_takeIn_0 : decode cX4_takeIn 0 = .ok (.iload_n 1, 1) := by decide +kernel
theorem dX4_takeIn_1 : decode cX4_takeIn 1 = .ok (.invokestatic 82, 3) := by decide +kernel
theorem dX4_takeIn_4 : decode cX4_takeIn 4 = .ok (.ifCond .ne 5, 3) := by decide +kernel
theorem dX4_takeIn_7 : decode cX4_takeIn 7 = .ok (.iconst (-1), 1) := by decide +kernel
theorem dX4_takeIn_8 : decode cX4_takeIn 8 = .ok (.ireturn, 1) := by decide +kernel
theorem dX4_takeIn_9 : decode cX4_takeIn 9 = .ok (.iload_n 2, 1) := by decide +kernel
theorem dX4_takeIn_10 : decode cX4_takeIn 10 = .ok (.iconst 1, 1) := by decide +kernel
theorem dX4_takeIn_11 : decode cX4_takeIn 11 = .ok (.if_icmp .lt 9, 3) := by decide +kernel
theorem dX4_takeIn_14 : decode cX4_takeIn 14 = .ok (.iload_n 2, 1) := by decide +kernel
theorem dX4_takeIn_15 : decode cX4_takeIn 15 = .ok (.bipush 99, 2) := by decide +kernel
theorem dX4_takeIn_17 : decode cX4_takeIn 17 = .ok (.if_icmp .le 6, 3) := by decide +kernel
theorem dX4_takeIn_20 : decode cX4_takeIn 20 = .ok (.bipush (-2), 2) := by decide +kernel
theorem dX4_takeIn_22 : decode cX4_takeIn 22 = .ok (.ireturn, 1) := by decide +kernel
theorem dX4_takeIn_23 : decode cX4_takeIn 23 = .ok (.aload_n 0, 1) := by decide +kernel
theorem dX4_takeIn_24 : decode cX4_takeIn 24 = .ok (.getfield 30, 3) := by decide +kernel
theorem dX4_takeIn_27 : decode cX4_takeIn 27 = .ok (.iload_n 1, 1) := by decide +kernel
theorem dX4_takeIn_28 : decode cX4_takeIn 28 = .ok (.iaload, 1) := by decide +kernel
theorem dX4_takeIn_29 : decode cX4_takeIn 29 = .ok (.iload_n 2, 1) := by decide +kernel
theorem dX4_takeIn_30 : decode cX4_takeIn 30 = .ok (.iadd, 1) := by decide +kernel
theorem dX4_takeIn_31 : decode cX4_takeIn 31 = .ok (.sipush 999, 3) := by decide +kernel
theorem dX4_takeIn_34 : decode cX4_takeIn 34 = .ok (.if_icmp .le 6, 3) := by decide +kernel
theorem dX4_takeIn_37 : decode cX4_takeIn 37 = .ok (.bipush (-3), 2) := by decide +kernel
theorem dX4_takeIn_39 : decode cX4_takeIn 39 = .ok (.ireturn, 1) := by decide +kernel
theorem dX4_takeIn_40 : decode cX4_takeIn 40 = .ok (.aload_n 0, 1) := by decide +kernel
theorem dX4_takeIn_41 : decode cX4_takeIn 41 = .ok (.getfield 30, 3) := by decide +kernel
theorem dX4_takeIn_44 : decode cX4_takeIn 44 = .ok (.iload_n 1, 1) := by decide +kernel
theorem dX4_takeIn_45 : decode cX4_takeIn 45 = .ok (.dup2, 1) := by decide +kernel
theorem dX4_takeIn_46 : decode cX4_takeIn 46 = .ok (.iaload, 1) := by decide +kernel
theorem dX4_takeIn_47 : decode cX4_takeIn 47 = .ok (.iload_n 2, 1) := by decide +kernel
theorem dX4_takeIn_48 : decode cX4_takeIn 48 = .ok (.iadd, 1) := by decide +kernel
theorem dX4_takeIn_49 : decode cX4_takeIn 49 = .ok (.iastore, 1) := by decide +kernel
theorem dX4_takeIn_50 : decode cX4_takeIn 50 = .ok (.aload_n 0, 1) := by decide +kernel
theorem dX4_takeIn_51 : decode cX4_takeIn 51 = .ok (.getfield 33, 3) := by decide +kernel
theorem dX4_takeIn_54 : decode cX4_takeIn 54 = .ok (.iload_n 1, 1) := by decide +kernel
theorem dX4_takeIn_55 : decode cX4_takeIn 55 = .ok (.dup2, 1) := by decide +kernel
theorem dX4_takeIn_56 : decode cX4_takeIn 56 = .ok (.iaload, 1) := by decide +kernel
theorem dX4_takeIn_57 : decode cX4_takeIn 57 = .ok (.iload_n 2, 1) := by decide +kernel
theorem dX4_takeIn_58 : decode cX4_takeIn 58 = .ok (.iadd, 1) := by decide +kernel
theorem dX4_takeIn_59 : decode cX4_takeIn 59 = .ok (.iastore, 1) := by decide +kernel
theorem dX4_takeIn_60 : decode cX4_takeIn 60 = .ok (.aload_n 0, 1) := by decide +kernel
theorem dX4_takeIn_61 : decode cX4_takeIn 61 = .ok (.getfield 30, 3) := by decide +kernel
theorem dX4_takeIn_64 : decode cX4_takeIn 64 = .ok (.iload_n 1, 1) := by decide +kernel
theorem dX4_takeIn_65 : decode cX4_takeIn 65 = .ok (.iaload, 1) := by decide +kernel
theorem dX4_takeIn_66 : decode cX4_takeIn 66 = .ok (.ireturn, 1) := by decide +kernel
theorem dX4_pour_0 : decode cX4_pour 0 = .ok (.aload_n 0, 1) := by decide +kernel
theorem dX4_pour_1 : decode cX4_pour 1 = .ok (.iload_n 1, 1) := by decide +kernel
theorem dX4_pour_2 : decode cX4_pour 2 = .ok (.invokevirtual 85, 3) := by decide +kernel
theorem dX4_pour_5 : decode cX4_pour 5 = .ok (.ifCond .eq 11, 3) := by decide +kernel
theorem dX4_pour_8 : decode cX4_pour 8 = .ok (.aload_n 0, 1) := by decide +kernel
theorem dX4_pour_9 : decode cX4_pour 9 = .ok (.iload_n 2, 1) := by decide +kernel
theorem dX4_pour_10 : decode cX4_pour 10 = .ok (.invokevirtual 88, 3) := by decide +kernel
theorem dX4_pour_13 : decode cX4_pour 13 = .ok (.ifCond .ne 5, 3) := by decide +kernel
theorem dX4_pour_16 : decode cX4_pour 16 = .ok (.iconst (-1), 1) := by decide +kernel
theorem dX4_pour_17 : decode cX4_pour 17 = .ok (.ireturn, 1) := by decide +kernel
theorem dX4_pour_18 : decode cX4_pour 18 = .ok (.iload_n 3, 1) := by decide +kernel
theorem dX4_pour_19 : decode cX4_pour 19 = .ok (.iconst 1, 1) := by decide +kernel
theorem dX4_pour_20 : decode cX4_pour 20 = .ok (.if_icmp .lt 9, 3) := by decide +kernel
theorem dX4_pour_23 : decode cX4_pour 23 = .ok (.iload_n 3, 1) := by decide +kernel
theorem dX4_pour_24 : decode cX4_pour 24 = .ok (.bipush 9, 2) := by decide +kernel
theorem dX4_pour_26 : decode cX4_pour 26 = .ok (.if_icmp .le 6, 3) := by decide +kernel
theorem dX4_pour_29 : decode cX4_pour 29 = .ok (.bipush (-2), 2) := by decide +kernel
theorem dX4_pour_31 : decode cX4_pour 31 = .ok (.ireturn, 1) := by decide +kernel
theorem dX4_pour_32 : decode cX4_pour 32 = .ok (.aload_n 0, 1) := by decide +kernel
theorem dX4_pour_33 : decode cX4_pour 33 = .ok (.getfield 48, 3) := by decide +kernel
theorem dX4_pour_36 : decode cX4_pour 36 = .ok (.bipush 8, 2) := by decide +kernel
theorem dX4_pour_38 : decode cX4_pour 38 = .ok (.if_icmp .ge 16, 3) := by decide +kernel
theorem dX4_pour_41 : decode cX4_pour 41 = .ok (.aload_n 0, 1) := by decide +kernel
theorem dX4_pour_42 : decode cX4_pour 42 = .ok (.getfield 27, 3) := by decide +kernel
theorem dX4_pour_45 : decode cX4_pour 45 = .ok (.iload_n 2, 1) := by decide +kernel
theorem dX4_pour_46 : decode cX4_pour 46 = .ok (.iaload, 1) := by decide +kernel
theorem dX4_pour_47 : decode cX4_pour 47 = .ok (.iload_n 3, 1) := by decide +kernel
theorem dX4_pour_48 : decode cX4_pour 48 = .ok (.iadd, 1) := by decide +kernel
theorem dX4_pour_49 : decode cX4_pour 49 = .ok (.bipush 20, 2) := by decide +kernel
theorem dX4_pour_51 : decode cX4_pour 51 = .ok (.if_icmp .le 6, 3) := by decide +kernel
theorem dX4_pour_54 : decode cX4_pour 54 = .ok (.bipush (-3), 2) := by decide +kernel
theorem dX4_pour_56 : decode cX4_pour 56 = .ok (.ireturn, 1) := by decide +kernel
theorem dX4_pour_57 : decode cX4_pour 57 = .ok (.iload_n 3, 1) := by decide +kernel
theorem dX4_pour_58 : decode cX4_pour 58 = .ok (.aload_n 0, 1) := by decide +kernel
theorem dX4_pour_59 : decode cX4_pour 59 = .ok (.iload_n 1, 1) := by decide +kernel
theorem dX4_pour_60 : decode cX4_pour 60 = .ok (.invokevirtual 91, 3) := by decide +kernel
theorem dX4_pour_63 : decode cX4_pour 63 = .ok (.if_icmp .le 6, 3) := by decide +kernel
theorem dX4_pour_66 : decode cX4_pour 66 = .ok (.bipush (-4), 2) := by decide +kernel
theorem dX4_pour_68 : decode cX4_pour 68 = .ok (.ireturn, 1) := by decide +kernel
theorem dX4_pour_69 : decode cX4_pour 69 = .ok (.iconst 0, 1) := by decide +kernel
theorem dX4_pour_70 : decode cX4_pour 70 = .ok (.istore 4, 2) := by decide +kernel
theorem dX4_pour_72 : decode cX4_pour 72 = .ok (.iload 4, 2) := by decide +kernel
theorem dX4_pour_74 : decode cX4_pour 74 = .ok (.iconst 3, 1) := by decide +kernel
theorem dX4_pour_75 : decode cX4_pour 75 = .ok (.if_icmp .ge 30, 3) := by decide +kernel
theorem dX4_pour_78 : decode cX4_pour 78 = .ok (.aload_n 0, 1) := by decide +kernel
theorem dX4_pour_79 : decode cX4_pour 79 = .ok (.getfield 30, 3) := by decide +kernel
theorem dX4_pour_82 : decode cX4_pour 82 = .ok (.iload 4, 2) := by decide +kernel
theorem dX4_pour_84 : decode cX4_pour 84 = .ok (.dup2, 1) := by decide +kernel
theorem dX4_pour_85 : decode cX4_pour 85 = .ok (.iaload, 1) := by decide +kernel
theorem dX4_pour_86 : decode cX4_pour 86 = .ok (.iload_n 3, 1) := by decide +kernel
theorem dX4_pour_87 : decode cX4_pour 87 = .ok (.aload_n 0, 1) := by decide +kernel
theorem dX4_pour_88 : decode cX4_pour 88 = .ok (.getfield 17, 3) := by decide +kernel
theorem dX4_pour_91 : decode cX4_pour 91 = .ok (.iload_n 1, 1) := by decide +kernel
theorem dX4_pour_92 : decode cX4_pour 92 = .ok (.aaload, 1) := by decide +kernel
theorem dX4_pour_93 : decode cX4_pour 93 = .ok (.iload 4, 2) := by decide +kernel
theorem dX4_pour_95 : decode cX4_pour 95 = .ok (.iaload, 1) := by decide +kernel
theorem dX4_pour_96 : decode cX4_pour 96 = .ok (.imul, 1) := by decide +kernel
theorem dX4_pour_97 : decode cX4_pour 97 = .ok (.isub, 1) := by decide +kernel
theorem dX4_pour_98 : decode cX4_pour 98 = .ok (.iastore, 1) := by decide +kernel
theorem dX4_pour_99 : decode cX4_pour 99 = .ok (.iinc 4 1, 3) := by decide +kernel
theorem dX4_pour_102 : decode cX4_pour 102 = .ok (.goto (-30), 3) := by decide +kernel
theorem dX4_pour_105 : decode cX4_pour 105 = .ok (.aload_n 0, 1) := by decide +kernel
theorem dX4_pour_106 : decode cX4_pour 106 = .ok (.aload_n 0, 1) := by decide +kernel
theorem dX4_pour_107 : decode cX4_pour 107 = .ok (.getfield 53, 3) := by decide +kernel
theorem dX4_pour_110 : decode cX4_pour 110 = .ok (.aload_n 0, 1) := by decide +kernel
theorem dX4_pour_111 : decode cX4_pour 111 = .ok (.getfield 48, 3) := by decide +kernel
theorem dX4_pour_114 : decode cX4_pour 114 = .ok (.aaload, 1) := by decide +kernel
theorem dX4_pour_115 : decode cX4_pour 115 = .ok (.iload_n 1, 1) := by decide +kernel
theorem dX4_pour_116 : decode cX4_pour 116 = .ok (.iload_n 2, 1) := by decide +kernel
theorem dX4_pour_117 : decode cX4_pour 117 = .ok (.iload_n 3, 1) := by decide +kernel
theorem dX4_pour_118 : decode cX4_pour 118 = .ok (.invokevirtual 95, 3) := by decide +kernel
theorem dX4_pour_121 : decode cX4_pour 121 = .ok (.aload_n 0, 1) := by decide +kernel
theorem dX4_pour_122 : decode cX4_pour 122 = .ok (.dup, 1) := by decide +kernel
theorem dX4_pour_123 : decode cX4_pour 123 = .ok (.getfield 48, 3) := by decide +kernel
theorem dX4_pour_126 : decode cX4_pour 126 = .ok (.iconst 1, 1) := by decide +kernel
theorem dX4_pour_127 : decode cX4_pour 127 = .ok (.iadd, 1) := by decide +kernel
theorem dX4_pour_128 : decode cX4_pour 128 = .ok (.putfield 48, 3) := by decide +kernel
theorem dX4_pour_131 : decode cX4_pour 131 = .ok (.aload_n 0, 1) := by decide +kernel
theorem dX4_pour_132 : decode cX4_pour 132 = .ok (.dup, 1) := by decide +kernel
theorem dX4_pour_133 : decode cX4_pour 133 = .ok (.getfield 60, 3) := by decide +kernel
theorem dX4_pour_136 : decode cX4_pour 136 = .ok (.iload_n 3, 1) := by decide +kernel
theorem dX4_pour_137 : decode cX4_pour 137 = .ok (.iadd, 1) := by decide +kernel
theorem dX4_pour_138 : decode cX4_pour 138 = .ok (.putfield 60, 3) := by decide +kernel
theorem dX4_pour_141 : decode cX4_pour 141 = .ok (.aload_n 0, 1) := by decide +kernel
theorem dX4_pour_142 : decode cX4_pour 142 = .ok (.dup, 1) := by decide +kernel
theorem dX4_pour_143 : decode cX4_pour 143 = .ok (.getfield 57, 3) := by decide +kernel
theorem dX4_pour_146 : decode cX4_pour 146 = .ok (.iconst 1, 1) := by decide +kernel
theorem dX4_pour_147 : decode cX4_pour 147 = .ok (.iadd, 1) := by decide +kernel
theorem dX4_pour_148 : decode cX4_pour 148 = .ok (.putfield 57, 3) := by decide +kernel
theorem dX4_pour_151 : decode cX4_pour 151 = .ok (.aload_n 0, 1) := by decide +kernel
theorem dX4_pour_152 : decode cX4_pour 152 = .ok (.getfield 57, 3) := by decide +kernel
theorem dX4_pour_155 : decode cX4_pour 155 = .ok (.iconst 1, 1) := by decide +kernel
theorem dX4_pour_156 : decode cX4_pour 156 = .ok (.isub, 1) := by decide +kernel
theorem dX4_pour_157 : decode cX4_pour 157 = .ok (.ireturn, 1) := by decide +kernel
theorem dX4_fill_0 : decode cX4_fill 0 = .ok (.aload_n 1, 1) := by decide +kernel
theorem dX4_fill_1 : decode cX4_fill 1 = .ok (.aload_n 0, 1) := by decide +kernel
theorem dX4_fill_2 : decode cX4_fill 2 = .ok (.getfield 57, 3) := by decide +kernel
theorem dX4_fill_5 : decode cX4_fill 5 = .ok (.putfield 99, 3) := by decide +kernel
theorem dX4_fill_8 : decode cX4_fill 8 = .ok (.aload_n 1, 1) := by decide +kernel
theorem dX4_fill_9 : decode cX4_fill 9 = .ok (.aload_n 0, 1) := by decide +kernel
theorem dX4_fill_10 : decode cX4_fill 10 = .ok (.getfield 60, 3) := by decide +kernel
theorem dX4_fill_13 : decode cX4_fill 13 = .ok (.putfield 102, 3) := by decide +kernel
theorem dX4_fill_16 : decode cX4_fill 16 = .ok (.aload_n 1, 1) := by decide +kernel
theorem dX4_fill_17 : decode cX4_fill 17 = .ok (.iload 4, 2) := by decide +kernel
theorem dX4_fill_19 : decode cX4_fill 19 = .ok (.putfield 105, 3) := by decide +kernel
theorem dX4_fill_22 : decode cX4_fill 22 = .ok (.aload_n 1, 1) := by decide +kernel
theorem dX4_fill_23 : decode cX4_fill 23 = .ok (.iload_n 2, 1) := by decide +kernel
theorem dX4_fill_24 : decode cX4_fill 24 = .ok (.putfield 108, 3) := by decide +kernel
theorem dX4_fill_27 : decode cX4_fill 27 = .ok (.aload_n 1, 1) := by decide +kernel
theorem dX4_fill_28 : decode cX4_fill 28 = .ok (.iconst 0, 1) := by decide +kernel
theorem dX4_fill_29 : decode cX4_fill 29 = .ok (.putfield 111, 3) := by decide +kernel
theorem dX4_fill_32 : decode cX4_fill 32 = .ok (.iconst 0, 1) := by decide +kernel
theorem dX4_fill_33 : decode cX4_fill 33 = .ok (.istore 5, 2) := by decide +kernel
theorem dX4_fill_35 : decode cX4_fill 35 = .ok (.iload 5, 2) := by decide +kernel
theorem dX4_fill_37 : decode cX4_fill 37 = .ok (.iload 4, 2) := by decide +kernel
theorem dX4_fill_39 : decode cX4_fill 39 = .ok (.if_icmp .ge 32, 3) := by decide +kernel
theorem dX4_fill_42 : decode cX4_fill 42 = .ok (.aload_n 1, 1) := by decide +kernel
theorem dX4_fill_43 : decode cX4_fill 43 = .ok (.getfield 115, 3) := by decide +kernel
theorem dX4_fill_46 : decode cX4_fill 46 = .ok (.iload 5, 2) := by decide +kernel
theorem dX4_fill_48 : decode cX4_fill 48 = .ok (.aload_n 0, 1) := by decide +kernel
theorem dX4_fill_49 : decode cX4_fill 49 = .ok (.iload_n 2, 1) := by decide +kernel
theorem dX4_fill_50 : decode cX4_fill 50 = .ok (.iload_n 3, 1) := by decide +kernel
theorem dX4_fill_51 : decode cX4_fill 51 = .ok (.invokevirtual 118, 3) := by decide +kernel
theorem dX4_fill_54 : decode cX4_fill 54 = .ok (.iastore, 1) := by decide +kernel
theorem dX4_fill_55 : decode cX4_fill 55 = .ok (.aload_n 0, 1) := by decide +kernel
theorem dX4_fill_56 : decode cX4_fill 56 = .ok (.getfield 27, 3) := by decide +kernel
theorem dX4_fill_59 : decode cX4_fill 59 = .ok (.iload_n 3, 1) := by decide +kernel
theorem dX4_fill_60 : decode cX4_fill 60 = .ok (.dup2, 1) := by decide +kernel
theorem dX4_fill_61 : decode cX4_fill 61 = .ok (.iaload, 1) := by decide +kernel
theorem dX4_fill_62 : decode cX4_fill 62 = .ok (.iconst 1, 1) := by decide +kernel
theorem dX4_fill_63 : decode cX4_fill 63 = .ok (.iadd, 1) := by decide +kernel
theorem dX4_fill_64 : decode cX4_fill 64 = .ok (.iastore, 1) := by decide +kernel
theorem dX4_fill_65 : decode cX4_fill 65 = .ok (.iinc 5 1, 3) := by decide +kernel
theorem dX4_fill_68 : decode cX4_fill 68 = .ok (.goto (-33), 3) := by decide +kernel
theorem dX4_fill_71 : decode cX4_fill 71 = .ok (.return_, 1) := by decide +kernel
theorem dX4_examine_0 : decode cX4_examine 0 = .ok (.aload_n 0, 1) := by decide +kernel
theorem dX4_examine_1 : decode cX4_examine 1 = .ok (.iload_n 1, 1) := by decide +kernel
theorem dX4_examine_2 : decode cX4_examine 2 = .ok (.invokevirtual 122, 3) := by decide +kernel
theorem dX4_examine_5 : decode cX4_examine 5 = .ok (.istore_n 2, 1) := by decide +kernel
theorem dX4_examine_6 : decode cX4_examine 6 = .ok (.iload_n 2, 1) := by decide +kernel
theorem dX4_examine_7 : decode cX4_examine 7 = .ok (.ifCond .ge 6, 3) := by decide +kernel
theorem dX4_examine_10 : decode cX4_examine 10 = .ok (.bipush (-5), 2) := by decide +kernel
theorem dX4_examine_12 : decode cX4_examine 12 = .ok (.ireturn, 1) := by decide +kernel
theorem dX4_examine_13 : decode cX4_examine 13 = .ok (.aload_n 0, 1) := by decide +kernel
theorem dX4_examine_14 : decode cX4_examine 14 = .ok (.getfield 53, 3) := by decide +kernel
theorem dX4_examine_17 : decode cX4_examine 17 = .ok (.iload_n 2, 1) := by decide +kernel
theorem dX4_examine_18 : decode cX4_examine 18 = .ok (.aaload, 1) := by decide +kernel
theorem dX4_examine_19 : decode cX4_examine 19 = .ok (.astore_n 3, 1) := by decide +kernel
theorem dX4_examine_20 : decode cX4_examine 20 = .ok (.aload_n 3, 1) := by decide +kernel
theorem dX4_examine_21 : decode cX4_examine 21 = .ok (.getfield 111, 3) := by decide +kernel
theorem dX4_examine_24 : decode cX4_examine 24 = .ok (.ifCond .eq 6, 3) := by decide +kernel
theorem dX4_examine_27 : decode cX4_examine 27 = .ok (.bipush (-3), 2) := by decide +kernel
theorem dX4_examine_29 : decode cX4_examine 29 = .ok (.ireturn, 1) := by decide +kernel
theorem dX4_examine_30 : decode cX4_examine 30 = .ok (.aload_n 3, 1) := by decide +kernel
theorem dX4_examine_31 : decode cX4_examine 31 = .ok (.aload_n 0, 1) := by decide +kernel
theorem dX4_examine_32 : decode cX4_examine 32 = .ok (.getfield 45, 3) := by decide +kernel
theorem dX4_examine_35 : decode cX4_examine 35 = .ok (.aload_n 0, 1) := by decide +kernel
theorem dX4_examine_36 : decode cX4_examine 36 = .ok (.getfield 42, 3) := by decide +kernel
theorem dX4_examine_39 : decode cX4_examine 39 = .ok (.invokevirtual 125, 3) := by decide +kernel
theorem dX4_examine_42 : decode cX4_examine 42 = .ok (.ifCond .ne 10, 3) := by decide +kernel
theorem dX4_examine_45 : decode cX4_examine 45 = .ok (.aload_n 3, 1) := by decide +kernel
theorem dX4_examine_46 : decode cX4_examine 46 = .ok (.iconst 1, 1) := by decide +kernel
theorem dX4_examine_47 : decode cX4_examine 47 = .ok (.putfield 111, 3) := by decide +kernel
theorem dX4_examine_50 : decode cX4_examine 50 = .ok (.iconst 0, 1) := by decide +kernel
theorem dX4_examine_51 : decode cX4_examine 51 = .ok (.ireturn, 1) := by decide +kernel
theorem dX4_examine_52 : decode cX4_examine 52 = .ok (.iconst 0, 1) := by decide +kernel
theorem dX4_examine_53 : decode cX4_examine 53 = .ok (.istore 4, 2) := by decide +kernel
theorem dX4_examine_55 : decode cX4_examine 55 = .ok (.iload 4, 2) := by decide +kernel
theorem dX4_examine_57 : decode cX4_examine 57 = .ok (.iconst 3, 1) := by decide +kernel
theorem dX4_examine_58 : decode cX4_examine 58 = .ok (.if_icmp .ge 36, 3) := by decide +kernel
theorem dX4_examine_61 : decode cX4_examine 61 = .ok (.aload_n 0, 1) := by decide +kernel
theorem dX4_examine_62 : decode cX4_examine 62 = .ok (.getfield 36, 3) := by decide +kernel
theorem dX4_examine_65 : decode cX4_examine 65 = .ok (.iload 4, 2) := by decide +kernel
theorem dX4_examine_67 : decode cX4_examine 67 = .ok (.dup2, 1) := by decide +kernel
theorem dX4_examine_68 : decode cX4_examine 68 = .ok (.iaload, 1) := by decide +kernel
theorem dX4_examine_69 : decode cX4_examine 69 = .ok (.aload_n 3, 1) := by decide +kernel
theorem dX4_examine_70 : decode cX4_examine 70 = .ok (.getfield 105, 3) := by decide +kernel
theorem dX4_examine_73 : decode cX4_examine 73 = .ok (.aload_n 0, 1) := by decide +kernel
theorem dX4_examine_74 : decode cX4_examine 74 = .ok (.getfield 17, 3) := by decide +kernel
theorem dX4_examine_77 : decode cX4_examine 77 = .ok (.aload_n 3, 1) := by decide +kernel
theorem dX4_examine_78 : decode cX4_examine 78 = .ok (.getfield 108, 3) := by decide +kernel
theorem dX4_examine_81 : decode cX4_examine 81 = .ok (.aaload, 1) := by decide +kernel
theorem dX4_examine_82 : decode cX4_examine 82 = .ok (.iload 4, 2) := by decide +kernel
theorem dX4_examine_84 : decode cX4_examine 84 = .ok (.iaload, 1) := by decide +kernel
theorem dX4_examine_85 : decode cX4_examine 85 = .ok (.imul, 1) := by decide +kernel
theorem dX4_examine_86 : decode cX4_examine 86 = .ok (.iadd, 1) := by decide +kernel
theorem dX4_examine_87 : decode cX4_examine 87 = .ok (.iastore, 1) := by decide +kernel
theorem dX4_examine_88 : decode cX4_examine 88 = .ok (.iinc 4 1, 3) := by decide +kernel
theorem dX4_examine_91 : decode cX4_examine 91 = .ok (.goto (-36), 3) := by decide +kernel
theorem dX4_examine_94 : decode cX4_examine 94 = .ok (.aload_n 0, 1) := by decide +kernel
theorem dX4_examine_95 : decode cX4_examine 95 = .ok (.dup, 1) := by decide +kernel
theorem dX4_examine_96 : decode cX4_examine 96 = .ok (.getfield 63, 3) := by decide +kernel
theorem dX4_examine_99 : decode cX4_examine 99 = .ok (.aload_n 3, 1) := by decide +kernel
theorem dX4_examine_100 : decode cX4_examine 100 = .ok (.getfield 105, 3) := by decide +kernel
theorem dX4_examine_103 : decode cX4_examine 103 = .ok (.iadd, 1) := by decide +kernel
theorem dX4_examine_104 : decode cX4_examine 104 = .ok (.putfield 63, 3) := by decide +kernel
theorem dX4_examine_107 : decode cX4_examine 107 = .ok (.aload_n 0, 1) := by decide +kernel
theorem dX4_examine_108 : decode cX4_examine 108 = .ok (.iload_n 2, 1) := by decide +kernel
theorem dX4_examine_109 : decode cX4_examine 109 = .ok (.invokevirtual 129, 3) := by decide +kernel
theorem dX4_examine_112 : decode cX4_examine 112 = .ok (.iconst 1, 1) := by decide +kernel
theorem dX4_examine_113 : decode cX4_examine 113 = .ok (.ireturn, 1) := by decide +kernel
theorem dX4_meltDown_0 : decode cX4_meltDown 0 = .ok (.aload_n 0, 1) := by decide +kernel
theorem dX4_meltDown_1 : decode cX4_meltDown 1 = .ok (.iload_n 1, 1) := by decide +kernel
theorem dX4_meltDown_2 : decode cX4_meltDown 2 = .ok (.invokevirtual 122, 3) := by decide +kernel
theorem dX4_meltDown_5 : decode cX4_meltDown 5 = .ok (.istore_n 2, 1) := by decide +kernel
theorem dX4_meltDown_6 : decode cX4_meltDown 6 = .ok (.iload_n 2, 1) := by decide +kernel
theorem dX4_meltDown_7 : decode cX4_meltDown 7 = .ok (.ifCond .ge 6, 3) := by decide +kernel
theorem dX4_meltDown_10 : decode cX4_meltDown 10 = .ok (.bipush (-5), 2) := by decide +kernel
theorem dX4_meltDown_12 : decode cX4_meltDown 12 = .ok (.ireturn, 1) := by decide +kernel
theorem dX4_meltDown_13 : decode cX4_meltDown 13 = .ok (.aload_n 0, 1) := by decide +kernel
theorem dX4_meltDown_14 : decode cX4_meltDown 14 = .ok (.getfield 53, 3) := by decide +kernel
theorem dX4_meltDown_17 : decode cX4_meltDown 17 = .ok (.iload_n 2, 1) := by decide +kernel
theorem dX4_meltDown_18 : decode cX4_meltDown 18 = .ok (.aaload, 1) := by decide +kernel
theorem dX4_meltDown_19 : decode cX4_meltDown 19 = .ok (.astore_n 3, 1) := by decide +kernel
theorem dX4_meltDown_20 : decode cX4_meltDown 20 = .ok (.aload_n 3, 1) := by decide +kernel
theorem dX4_meltDown_21 : decode cX4_meltDown 21 = .ok (.getfield 111, 3) := by decide +kernel
theorem dX4_meltDown_24 : decode cX4_meltDown 24 = .ok (.ifCond .ne 6, 3) := by decide +kernel
theorem dX4_meltDown_27 : decode cX4_meltDown 27 = .ok (.bipush (-3), 2) := by decide +kernel
theorem dX4_meltDown_29 : decode cX4_meltDown 29 = .ok (.ireturn, 1) := by decide +kernel
theorem dX4_meltDown_30 : decode cX4_meltDown 30 = .ok (.iconst 0, 1) := by decide +kernel
theorem dX4_meltDown_31 : decode cX4_meltDown 31 = .ok (.istore 4, 2) := by decide +kernel
theorem dX4_meltDown_33 : decode cX4_meltDown 33 = .ok (.iconst 0, 1) := by decide +kernel
theorem dX4_meltDown_34 : decode cX4_meltDown 34 = .ok (.istore 5, 2) := by decide +kernel
theorem dX4_meltDown_36 : decode cX4_meltDown 36 = .ok (.iload 5, 2) := by decide +kernel
theorem dX4_meltDown_38 : decode cX4_meltDown 38 = .ok (.iconst 3, 1) := by decide +kernel
theorem dX4_meltDown_39 : decode cX4_meltDown 39 = .ok (.if_icmp .ge 77, 3) := by decide +kernel
theorem dX4_meltDown_42 : decode cX4_meltDown 42 = .ok (.aload_n 0, 1) := by decide +kernel
theorem dX4_meltDown_43 : decode cX4_meltDown 43 = .ok (.getfield 17, 3) := by decide +kernel
theorem dX4_meltDown_46 : decode cX4_meltDown 46 = .ok (.aload_n 3, 1) := by decide +kernel
theorem dX4_meltDown_47 : decode cX4_meltDown 47 = .ok (.getfield 108, 3) := by decide +kernel
theorem dX4_meltDown_50 : decode cX4_meltDown 50 = .ok (.aaload, 1) := by decide +kernel
theorem dX4_meltDown_51 : decode cX4_meltDown 51 = .ok (.iload 5, 2) := by decide +kernel
theorem dX4_meltDown_53 : decode cX4_meltDown 53 = .ok (.iaload, 1) := by decide +kernel
theorem dX4_meltDown_54 : decode cX4_meltDown 54 = .ok (.istore 6, 2) := by decide +kernel
theorem dX4_meltDown_56 : decode cX4_meltDown 56 = .ok (.aload_n 3, 1) := by decide +kernel
theorem dX4_meltDown_57 : decode cX4_meltDown 57 = .ok (.getfield 105, 3) := by decide +kernel
theorem dX4_meltDown_60 : decode cX4_meltDown 60 = .ok (.iload 6, 2) := by decide +kernel
theorem dX4_meltDown_62 : decode cX4_meltDown 62 = .ok (.iconst 1, 1) := by decide +kernel
theorem dX4_meltDown_63 : decode cX4_meltDown 63 = .ok (.isub, 1) := by decide +kernel
theorem dX4_meltDown_64 : decode cX4_meltDown 64 = .ok (.iconst 0, 1) := by decide +kernel
theorem dX4_meltDown_65 : decode cX4_meltDown 65 = .ok (.invokestatic 133, 3) := by decide +kernel
theorem dX4_meltDown_68 : decode cX4_meltDown 68 = .ok (.imul, 1) := by decide +kernel
theorem dX4_meltDown_69 : decode cX4_meltDown 69 = .ok (.istore 7, 2) := by decide +kernel
theorem dX4_meltDown_71 : decode cX4_meltDown 71 = .ok (.aload_n 0, 1) := by decide +kernel
theorem dX4_meltDown_72 : decode cX4_meltDown 72 = .ok (.getfield 30, 3) := by decide +kernel
theorem dX4_meltDown_75 : decode cX4_meltDown 75 = .ok (.iload 5, 2) := by decide +kernel
theorem dX4_meltDown_77 : decode cX4_meltDown 77 = .ok (.dup2, 1) := by decide +kernel
theorem dX4_meltDown_78 : decode cX4_meltDown 78 = .ok (.iaload, 1) := by decide +kernel
theorem dX4_meltDown_79 : decode cX4_meltDown 79 = .ok (.iload 7, 2) := by decide +kernel
theorem dX4_meltDown_81 : decode cX4_meltDown 81 = .ok (.iadd, 1) := by decide +kernel
theorem dX4_meltDown_82 : decode cX4_meltDown 82 = .ok (.iastore, 1) := by decide +kernel
theorem dX4_meltDown_83 : decode cX4_meltDown 83 = .ok (.aload_n 0, 1) := by decide +kernel
theorem dX4_meltDown_84 : decode cX4_meltDown 84 = .ok (.getfield 39, 3) := by decide +kernel
theorem dX4_meltDown_87 : decode cX4_meltDown 87 = .ok (.iload 5, 2) := by decide +kernel
theorem dX4_meltDown_89 : decode cX4_meltDown 89 = .ok (.dup2, 1) := by decide +kernel
theorem dX4_meltDown_90 : decode cX4_meltDown 90 = .ok (.iaload, 1) := by decide +kernel
theorem dX4_meltDown_91 : decode cX4_meltDown 91 = .ok (.aload_n 3, 1) := by decide +kernel
theorem dX4_meltDown_92 : decode cX4_meltDown 92 = .ok (.getfield 105, 3) := by decide +kernel
theorem dX4_meltDown_95 : decode cX4_meltDown 95 = .ok (.iload 6, 2) := by decide +kernel
theorem dX4_meltDown_97 : decode cX4_meltDown 97 = .ok (.imul, 1) := by decide +kernel
theorem dX4_meltDown_98 : decode cX4_meltDown 98 = .ok (.iload 7, 2) := by decide +kernel
theorem dX4_meltDown_100 : decode cX4_meltDown 100 = .ok (.isub, 1) := by decide +kernel
theorem dX4_meltDown_101 : decode cX4_meltDown 101 = .ok (.iadd, 1) := by decide +kernel
theorem dX4_meltDown_102 : decode cX4_meltDown 102 = .ok (.iastore, 1) := by decide +kernel
theorem dX4_meltDown_103 : decode cX4_meltDown 103 = .ok (.iload 4, 2) := by decide +kernel
theorem dX4_meltDown_105 : decode cX4_meltDown 105 = .ok (.iload 7, 2) := by decide +kernel
theorem dX4_meltDown_107 : decode cX4_meltDown 107 = .ok (.iadd, 1) := by decide +kernel
theorem dX4_meltDown_108 : decode cX4_meltDown 108 = .ok (.istore 4, 2) := by decide +kernel
theorem dX4_meltDown_110 : decode cX4_meltDown 110 = .ok (.iinc 5 1, 3) := by decide +kernel
theorem dX4_meltDown_113 : decode cX4_meltDown 113 = .ok (.goto (-77), 3) := by decide +kernel
theorem dX4_meltDown_116 : decode cX4_meltDown 116 = .ok (.aload_n 0, 1) := by decide +kernel
theorem dX4_meltDown_117 : decode cX4_meltDown 117 = .ok (.dup, 1) := by decide +kernel
theorem dX4_meltDown_118 : decode cX4_meltDown 118 = .ok (.getfield 66, 3) := by decide +kernel
theorem dX4_meltDown_121 : decode cX4_meltDown 121 = .ok (.aload_n 3, 1) := by decide +kernel
theorem dX4_meltDown_122 : decode cX4_meltDown 122 = .ok (.getfield 105, 3) := by decide +kernel
theorem dX4_meltDown_125 : decode cX4_meltDown 125 = .ok (.iadd, 1) := by decide +kernel
theorem dX4_meltDown_126 : decode cX4_meltDown 126 = .ok (.putfield 66, 3) := by decide +kernel
theorem dX4_meltDown_129 : decode cX4_meltDown 129 = .ok (.aload_n 0, 1) := by decide +kernel
theorem dX4_meltDown_130 : decode cX4_meltDown 130 = .ok (.iload_n 2, 1) := by decide +kernel
theorem dX4_meltDown_131 : decode cX4_meltDown 131 = .ok (.invokevirtual 129, 3) := by decide +kernel
theorem dX4_meltDown_134 : decode cX4_meltDown 134 = .ok (.iload 4, 2) := by decide +kernel
theorem dX4_meltDown_136 : decode cX4_meltDown 136 = .ok (.ireturn, 1) := by decide +kernel
theorem dX4_remove_0 : decode cX4_remove 0 = .ok (.aload_n 0, 1) := by decide +kernel
theorem dX4_remove_1 : decode cX4_remove 1 = .ok (.getfield 53, 3) := by decide +kernel
theorem dX4_remove_4 : decode cX4_remove 4 = .ok (.iload_n 1, 1) := by decide +kernel
theorem dX4_remove_5 : decode cX4_remove 5 = .ok (.aaload, 1) := by decide +kernel
theorem dX4_remove_6 : decode cX4_remove 6 = .ok (.astore_n 2, 1) := by decide +kernel
theorem dX4_remove_7 : decode cX4_remove 7 = .ok (.iload_n 1, 1) := by decide +kernel
theorem dX4_remove_8 : decode cX4_remove 8 = .ok (.istore_n 3, 1) := by decide +kernel
theorem dX4_remove_9 : decode cX4_remove 9 = .ok (.iload_n 3, 1) := by decide +kernel
theorem dX4_remove_10 : decode cX4_remove 10 = .ok (.aload_n 0, 1) := by decide +kernel
theorem dX4_remove_11 : decode cX4_remove 11 = .ok (.getfield 48, 3) := by decide +kernel
theorem dX4_remove_14 : decode cX4_remove 14 = .ok (.iconst 1, 1) := by decide +kernel
theorem dX4_remove_15 : decode cX4_remove 15 = .ok (.isub, 1) := by decide +kernel
theorem dX4_remove_16 : decode cX4_remove 16 = .ok (.if_icmp .ge 23, 3) := by decide +kernel
theorem dX4_remove_19 : decode cX4_remove 19 = .ok (.aload_n 0, 1) := by decide +kernel
theorem dX4_remove_20 : decode cX4_remove 20 = .ok (.getfield 53, 3) := by decide +kernel
theorem dX4_remove_23 : decode cX4_remove 23 = .ok (.iload_n 3, 1) := by decide +kernel
theorem dX4_remove_24 : decode cX4_remove 24 = .ok (.aload_n 0, 1) := by decide +kernel
theorem dX4_remove_25 : decode cX4_remove 25 = .ok (.getfield 53, 3) := by decide +kernel
theorem dX4_remove_28 : decode cX4_remove 28 = .ok (.iload_n 3, 1) := by decide +kernel
theorem dX4_remove_29 : decode cX4_remove 29 = .ok (.iconst 1, 1) := by decide +kernel
theorem dX4_remove_30 : decode cX4_remove 30 = .ok (.iadd, 1) := by decide +kernel
theorem dX4_remove_31 : decode cX4_remove 31 = .ok (.aaload, 1) := by decide +kernel
theorem dX4_remove_32 : decode cX4_remove 32 = .ok (.aastore, 1) := by decide +kernel
theorem dX4_remove_33 : decode cX4_remove 33 = .ok (.iinc 3 1, 3) := by decide +kernel
theorem dX4_remove_36 : decode cX4_remove 36 = .ok (.goto (-27), 3) := by decide +kernel
theorem dX4_remove_39 : decode cX4_remove 39 = .ok (.aload_n 0, 1) := by decide +kernel
theorem dX4_remove_40 : decode cX4_remove 40 = .ok (.dup, 1) := by decide +kernel
theorem dX4_remove_41 : decode cX4_remove 41 = .ok (.getfield 48, 3) := by decide +kernel
theorem dX4_remove_44 : decode cX4_remove 44 = .ok (.iconst 1, 1) := by decide +kernel
theorem dX4_remove_45 : decode cX4_remove 45 = .ok (.isub, 1) := by decide +kernel
theorem dX4_remove_46 : decode cX4_remove 46 = .ok (.putfield 48, 3) := by decide +kernel
theorem dX4_remove_49 : decode cX4_remove 49 = .ok (.aload_n 0, 1) := by decide +kernel
theorem dX4_remove_50 : decode cX4_remove 50 = .ok (.getfield 53, 3) := by decide +kernel
theorem dX4_remove_53 : decode cX4_remove 53 = .ok (.aload_n 0, 1) := by decide +kernel
theorem dX4_remove_54 : decode cX4_remove 54 = .ok (.getfield 48, 3) := by decide +kernel
theorem dX4_remove_57 : decode cX4_remove 57 = .ok (.aload_n 2, 1) := by decide +kernel
theorem dX4_remove_58 : decode cX4_remove 58 = .ok (.aastore, 1) := by decide +kernel
theorem dX4_remove_59 : decode cX4_remove 59 = .ok (.return_, 1) := by decide +kernel
theorem dX4_resetUses_0 : decode cX4_resetUses 0 = .ok (.aload_n 0, 1) := by decide +kernel
theorem dX4_resetUses_1 : decode cX4_resetUses 1 = .ok (.iload_n 1, 1) := by decide +kernel
theorem dX4_resetUses_2 : decode cX4_resetUses 2 = .ok (.invokevirtual 88, 3) := by decide +kernel
theorem dX4_resetUses_5 : decode cX4_resetUses 5 = .ok (.ifCond .ne 5, 3) := by decide +kernel
theorem dX4_resetUses_8 : decode cX4_resetUses 8 = .ok (.iconst (-1), 1) := by decide +kernel
theorem dX4_resetUses_9 : decode cX4_resetUses 9 = .ok (.ireturn, 1) := by decide +kernel
theorem dX4_resetUses_10 : decode cX4_resetUses 10 = .ok (.aload_n 0, 1) := by decide +kernel
theorem dX4_resetUses_11 : decode cX4_resetUses 11 = .ok (.getfield 27, 3) := by decide +kernel
theorem dX4_resetUses_14 : decode cX4_resetUses 14 = .ok (.iload_n 1, 1) := by decide +kernel
theorem dX4_resetUses_15 : decode cX4_resetUses 15 = .ok (.iaload, 1) := by decide +kernel
theorem dX4_resetUses_16 : decode cX4_resetUses 16 = .ok (.istore_n 2, 1) := by decide +kernel
theorem dX4_resetUses_17 : decode cX4_resetUses 17 = .ok (.aload_n 0, 1) := by decide +kernel
theorem dX4_resetUses_18 : decode cX4_resetUses 18 = .ok (.getfield 27, 3) := by decide +kernel
theorem dX4_resetUses_21 : decode cX4_resetUses 21 = .ok (.iload_n 1, 1) := by decide +kernel
theorem dX4_resetUses_22 : decode cX4_resetUses 22 = .ok (.iconst 0, 1) := by decide +kernel
theorem dX4_resetUses_23 : decode cX4_resetUses 23 = .ok (.iastore, 1) := by decide +kernel
theorem dX4_resetUses_24 : decode cX4_resetUses 24 = .ok (.iload_n 2, 1) := by decide +kernel
theorem dX4_resetUses_25 : decode cX4_resetUses 25 = .ok (.ireturn, 1) := by decide +kernel
theorem dX4_changeTolerance_0 : decode cX4_changeTolerance 0 = .ok (.iload_n 1, 1) := by decide +kernel
theorem dX4_changeTolerance_1 : decode cX4_changeTolerance 1 = .ok (.ifCond .lt 9, 3) := by decide +kernel
theorem dX4_changeTolerance_4 : decode cX4_changeTolerance 4 = .ok (.iload_n 1, 1) := by decide +kernel
theorem dX4_changeTolerance_5 : decode cX4_changeTolerance 5 = .ok (.bipush 99, 2) := by decide +kernel
theorem dX4_changeTolerance_7 : decode cX4_changeTolerance 7 = .ok (.if_icmp .le 6, 3) := by decide +kernel
theorem dX4_changeTolerance_10 : decode cX4_changeTolerance 10 = .ok (.bipush (-2), 2) := by decide +kernel
theorem dX4_changeTolerance_12 : decode cX4_changeTolerance 12 = .ok (.ireturn, 1) := by decide +kernel
theorem dX4_changeTolerance_13 : decode cX4_changeTolerance 13 = .ok (.aload_n 0, 1) := by decide +kernel
theorem dX4_changeTolerance_14 : decode cX4_changeTolerance 14 = .ok (.getfield 42, 3) := by decide +kernel
theorem dX4_changeTolerance_17 : decode cX4_changeTolerance 17 = .ok (.istore_n 2, 1) := by decide +kernel
theorem dX4_changeTolerance_18 : decode cX4_changeTolerance 18 = .ok (.aload_n 0, 1) := by decide +kernel
theorem dX4_changeTolerance_19 : decode cX4_changeTolerance 19 = .ok (.iload_n 1, 1) := by decide +kernel
theorem dX4_changeTolerance_20 : decode cX4_changeTolerance 20 = .ok (.putfield 42, 3) := by decide +kernel
theorem dX4_changeTolerance_23 : decode cX4_changeTolerance 23 = .ok (.iload_n 2, 1) := by decide +kernel
theorem dX4_changeTolerance_24 : decode cX4_changeTolerance 24 = .ok (.ireturn, 1) := by decide +kernel
theorem dX4_changeStep_0 : decode cX4_changeStep 0 = .ok (.iload_n 1, 1) := by decide +kernel
theorem dX4_changeStep_1 : decode cX4_changeStep 1 = .ok (.iconst 1, 1) := by decide +kernel
theorem dX4_changeStep_2 : decode cX4_changeStep 2 = .ok (.if_icmp .lt 8, 3) := by decide +kernel
theorem dX4_changeStep_5 : decode cX4_changeStep 5 = .ok (.iload_n 1, 1) := by decide +kernel
theorem dX4_changeStep_6 : decode cX4_changeStep 6 = .ok (.iconst 5, 1) := by decide +kernel
theorem dX4_changeStep_7 : decode cX4_changeStep 7 = .ok (.if_icmp .le 6, 3) := by decide +kernel
theorem dX4_changeStep_10 : decode cX4_changeStep 10 = .ok (.bipush (-2), 2) := by decide +kernel
theorem dX4_changeStep_12 : decode cX4_changeStep 12 = .ok (.ireturn, 1) := by decide +kernel
theorem dX4_changeStep_13 : decode cX4_changeStep 13 = .ok (.aload_n 0, 1) := by decide +kernel
theorem dX4_changeStep_14 : decode cX4_changeStep 14 = .ok (.getfield 45, 3) := by decide +kernel
theorem dX4_changeStep_17 : decode cX4_changeStep 17 = .ok (.istore_n 2, 1) := by decide +kernel
theorem dX4_changeStep_18 : decode cX4_changeStep 18 = .ok (.aload_n 0, 1) := by decide +kernel
theorem dX4_changeStep_19 : decode cX4_changeStep 19 = .ok (.iload_n 1, 1) := by decide +kernel
theorem dX4_changeStep_20 : decode cX4_changeStep 20 = .ok (.putfield 45, 3) := by decide +kernel
theorem dX4_changeStep_23 : decode cX4_changeStep 23 = .ok (.iload_n 2, 1) := by decide +kernel
theorem dX4_changeStep_24 : decode cX4_changeStep 24 = .ok (.ireturn, 1) := by decide +kernel
theorem dX4_partsOf_0 : decode cX4_partsOf 0 = .ok (.aload_n 0, 1) := by decide +kernel
theorem dX4_partsOf_1 : decode cX4_partsOf 1 = .ok (.iload_n 1, 1) := by decide +kernel
theorem dX4_partsOf_2 : decode cX4_partsOf 2 = .ok (.invokevirtual 85, 3) := by decide +kernel
theorem dX4_partsOf_5 : decode cX4_partsOf 5 = .ok (.ifCond .eq 21, 3) := by decide +kernel
theorem dX4_partsOf_8 : decode cX4_partsOf 8 = .ok (.iload_n 2, 1) := by decide +kernel
theorem dX4_partsOf_9 : decode cX4_partsOf 9 = .ok (.invokestatic 82, 3) := by decide +kernel
theorem dX4_partsOf_12 : decode cX4_partsOf 12 = .ok (.ifCond .eq 14, 3) := by decide +kernel
theorem dX4_partsOf_15 : decode cX4_partsOf 15 = .ok (.aload_n 0, 1) := by decide +kernel
theorem dX4_partsOf_16 : decode cX4_partsOf 16 = .ok (.getfield 17, 3) := by decide +kernel
theorem dX4_partsOf_19 : decode cX4_partsOf 19 = .ok (.iload_n 1, 1) := by decide +kernel
theorem dX4_partsOf_20 : decode cX4_partsOf 20 = .ok (.aaload, 1) := by decide +kernel
theorem dX4_partsOf_21 : decode cX4_partsOf 21 = .ok (.iload_n 2, 1) := by decide +kernel
theorem dX4_partsOf_22 : decode cX4_partsOf 22 = .ok (.iaload, 1) := by decide +kernel
theorem dX4_partsOf_23 : decode cX4_partsOf 23 = .ok (.goto 4, 3) := by decide +kernel
theorem dX4_partsOf_26 : decode cX4_partsOf 26 = .ok (.iconst (-1), 1) := by decide +kernel
theorem dX4_partsOf_27 : decode cX4_partsOf 27 = .ok (.ireturn, 1) := by decide +kernel
theorem dX4_lengthOf_0 : decode cX4_lengthOf 0 = .ok (.aload_n 0, 1) := by decide +kernel
theorem dX4_lengthOf_1 : decode cX4_lengthOf 1 = .ok (.iload_n 1, 1) := by decide +kernel
theorem dX4_lengthOf_2 : decode cX4_lengthOf 2 = .ok (.invokevirtual 88, 3) := by decide +kernel
theorem dX4_lengthOf_5 : decode cX4_lengthOf 5 = .ok (.ifCond .eq 12, 3) := by decide +kernel
theorem dX4_lengthOf_8 : decode cX4_lengthOf 8 = .ok (.aload_n 0, 1) := by decide +kernel
theorem dX4_lengthOf_9 : decode cX4_lengthOf 9 = .ok (.getfield 23, 3) := by decide +kernel
theorem dX4_lengthOf_12 : decode cX4_lengthOf 12 = .ok (.iload_n 1, 1) := by decide +kernel
theorem dX4_lengthOf_13 : decode cX4_lengthOf 13 = .ok (.iaload, 1) := by decide +kernel
theorem dX4_lengthOf_14 : decode cX4_lengthOf 14 = .ok (.goto 4, 3) := by decide +kernel
theorem dX4_lengthOf_17 : decode cX4_lengthOf 17 = .ok (.iconst (-1), 1) := by decide +kernel
theorem dX4_lengthOf_18 : decode cX4_lengthOf 18 = .ok (.ireturn, 1) := by decide +kernel
theorem dX4_usesOf_0 : decode cX4_usesOf 0 = .ok (.aload_n 0, 1) := by decide +kernel
theorem dX4_usesOf_1 : decode cX4_usesOf 1 = .ok (.iload_n 1, 1) := by decide +kernel
theorem dX4_usesOf_2 : decode cX4_usesOf 2 = .ok (.invokevirtual 88, 3) := by decide +kernel
theorem dX4_usesOf_5 : decode cX4_usesOf 5 = .ok (.ifCond .eq 12, 3) := by decide +kernel
theorem dX4_usesOf_8 : decode cX4_usesOf 8 = .ok (.aload_n 0, 1) := by decide +kernel
theorem dX4_usesOf_9 : decode cX4_usesOf 9 = .ok (.getfield 27, 3) := by decide +kernel
theorem dX4_usesOf_12 : decode cX4_usesOf 12 = .ok (.iload_n 1, 1) := by decide +kernel
theorem dX4_usesOf_13 : decode cX4_usesOf 13 = .ok (.iaload, 1) := by decide +kernel
theorem dX4_usesOf_14 : decode cX4_usesOf 14 = .ok (.goto 4, 3) := by decide +kernel
theorem dX4_usesOf_17 : decode cX4_usesOf 17 = .ok (.iconst (-1), 1) := by decide +kernel
theorem dX4_usesOf_18 : decode cX4_usesOf 18 = .ok (.ireturn, 1) := by decide +kernel
theorem dX4_stockOf_0 : decode cX4_stockOf 0 = .ok (.iload_n 1, 1) := by decide +kernel
theorem dX4_stockOf_1 : decode cX4_stockOf 1 = .ok (.invokestatic 82, 3) := by decide +kernel
theorem dX4_stockOf_4 : decode cX4_stockOf 4 = .ok (.ifCond .eq 12, 3) := by decide +kernel
theorem dX4_stockOf_7 : decode cX4_stockOf 7 = .ok (.aload_n 0, 1) := by decide +kernel
theorem dX4_stockOf_8 : decode cX4_stockOf 8 = .ok (.getfield 30, 3) := by decide +kernel
theorem dX4_stockOf_11 : decode cX4_stockOf 11 = .ok (.iload_n 1, 1) := by decide +kernel
theorem dX4_stockOf_12 : decode cX4_stockOf 12 = .ok (.iaload, 1) := by decide +kernel
theorem dX4_stockOf_13 : decode cX4_stockOf 13 = .ok (.goto 4, 3) := by decide +kernel
theorem dX4_stockOf_16 : decode cX4_stockOf 16 = .ok (.iconst (-1), 1) := by decide +kernel
theorem dX4_stockOf_17 : decode cX4_stockOf 17 = .ok (.ireturn, 1) := by decide +kernel
theorem dX4_lostOf_0 : decode cX4_lostOf 0 = .ok (.iload_n 1, 1) := by decide +kernel
theorem dX4_lostOf_1 : decode cX4_lostOf 1 = .ok (.invokestatic 82, 3) := by decide +kernel
theorem dX4_lostOf_4 : decode cX4_lostOf 4 = .ok (.ifCond .eq 12, 3) := by decide +kernel
theorem dX4_lostOf_7 : decode cX4_lostOf 7 = .ok (.aload_n 0, 1) := by decide +kernel
theorem dX4_lostOf_8 : decode cX4_lostOf 8 = .ok (.getfield 39, 3) := by decide +kernel
theorem dX4_lostOf_11 : decode cX4_lostOf 11 = .ok (.iload_n 1, 1) := by decide +kernel
theorem dX4_lostOf_12 : decode cX4_lostOf 12 = .ok (.iaload, 1) := by decide +kernel
theorem dX4_lostOf_13 : decode cX4_lostOf 13 = .ok (.goto 4, 3) := by decide +kernel
theorem dX4_lostOf_16 : decode cX4_lostOf 16 = .ok (.iconst (-1), 1) := by decide +kernel
theorem dX4_lostOf_17 : decode cX4_lostOf 17 = .ok (.ireturn, 1) := by decide +kernel
theorem dX4_placeWith_0 : decode cX4_placeWith 0 = .ok (.iconst 0, 1) := by decide +kernel
theorem dX4_placeWith_1 : decode cX4_placeWith 1 = .ok (.istore_n 2, 1) := by decide +kernel
theorem dX4_placeWith_2 : decode cX4_placeWith 2 = .ok (.iload_n 2, 1) := by decide +kernel
theorem dX4_placeWith_3 : decode cX4_placeWith 3 = .ok (.aload_n 0, 1) := by decide +kernel
theorem dX4_placeWith_4 : decode cX4_placeWith 4 = .ok (.getfield 48, 3) := by decide +kernel
theorem dX4_placeWith_7 : decode cX4_placeWith 7 = .ok (.if_icmp .ge 24, 3) := by decide +kernel
theorem dX4_placeWith_10 : decode cX4_placeWith 10 = .ok (.aload_n 0, 1) := by decide +kernel
theorem dX4_placeWith_11 : decode cX4_placeWith 11 = .ok (.getfield 53, 3) := by decide +kernel
theorem dX4_placeWith_14 : decode cX4_placeWith 14 = .ok (.iload_n 2, 1) := by decide +kernel
theorem dX4_placeWith_15 : decode cX4_placeWith 15 = .ok (.aaload, 1) := by decide +kernel
theorem dX4_placeWith_16 : decode cX4_placeWith 16 = .ok (.getfield 99, 3) := by decide +kernel
theorem dX4_placeWith_19 : decode cX4_placeWith 19 = .ok (.iload_n 1, 1) := by decide +kernel
theorem dX4_placeWith_20 : decode cX4_placeWith 20 = .ok (.if_icmp .ne 5, 3) := by decide +kernel
theorem dX4_placeWith_23 : decode cX4_placeWith 23 = .ok (.iload_n 2, 1) := by decide +kernel
theorem dX4_placeWith_24 : decode cX4_placeWith 24 = .ok (.ireturn, 1) := by decide +kernel
theorem dX4_placeWith_25 : decode cX4_placeWith 25 = .ok (.iinc 2 1, 3) := by decide +kernel
theorem dX4_placeWith_28 : decode cX4_placeWith 28 = .ok (.goto (-26), 3) := by decide +kernel
theorem dX4_placeWith_31 : decode cX4_placeWith 31 = .ok (.bipush (-5), 2) := by decide +kernel
theorem dX4_placeWith_33 : decode cX4_placeWith 33 = .ok (.ireturn, 1) := by decide +kernel
theorem dX4_placeWithBow_0 : decode cX4_placeWithBow 0 = .ok (.iconst 0, 1) := by decide +kernel
theorem dX4_placeWithBow_1 : decode cX4_placeWithBow 1 = .ok (.istore_n 2, 1) := by decide +kernel
theorem dX4_placeWithBow_2 : decode cX4_placeWithBow 2 = .ok (.iload_n 2, 1) := by decide +kernel
theorem dX4_placeWithBow_3 : decode cX4_placeWithBow 3 = .ok (.aload_n 0, 1) := by decide +kernel
theorem dX4_placeWithBow_4 : decode cX4_placeWithBow 4 = .ok (.getfield 48, 3) := by decide +kernel
theorem dX4_placeWithBow_7 : decode cX4_placeWithBow 7 = .ok (.if_icmp .ge 24, 3) := by decide +kernel
theorem dX4_placeWithBow_10 : decode cX4_placeWithBow 10 = .ok (.aload_n 0, 1) := by decide +kernel
theorem dX4_placeWithBow_11 : decode cX4_placeWithBow 11 = .ok (.getfield 53, 3) := by decide +kernel
theorem dX4_placeWithBow_14 : decode cX4_placeWithBow 14 = .ok (.iload_n 2, 1) := by decide +kernel
theorem dX4_placeWithBow_15 : decode cX4_placeWithBow 15 = .ok (.aaload, 1) := by decide +kernel
theorem dX4_placeWithBow_16 : decode cX4_placeWithBow 16 = .ok (.iload_n 1, 1) := by decide +kernel
theorem dX4_placeWithBow_17 : decode cX4_placeWithBow 17 = .ok (.invokevirtual 138, 3) := by decide +kernel
theorem dX4_placeWithBow_20 : decode cX4_placeWithBow 20 = .ok (.ifCond .eq 5, 3) := by decide +kernel
theorem dX4_placeWithBow_23 : decode cX4_placeWithBow 23 = .ok (.iload_n 2, 1) := by decide +kernel
theorem dX4_placeWithBow_24 : decode cX4_placeWithBow 24 = .ok (.ireturn, 1) := by decide +kernel
theorem dX4_placeWithBow_25 : decode cX4_placeWithBow 25 = .ok (.iinc 2 1, 3) := by decide +kernel
theorem dX4_placeWithBow_28 : decode cX4_placeWithBow 28 = .ok (.goto (-26), 3) := by decide +kernel
theorem dX4_placeWithBow_31 : decode cX4_placeWithBow 31 = .ok (.bipush (-5), 2) := by decide +kernel
theorem dX4_placeWithBow_33 : decode cX4_placeWithBow 33 = .ok (.ireturn, 1) := by decide +kernel
theorem dX4_batchWith_0 : decode cX4_batchWith 0 = .ok (.aload_n 0, 1) := by decide +kernel
theorem dX4_batchWith_1 : decode cX4_batchWith 1 = .ok (.iload_n 1, 1) := by decide +kernel
theorem dX4_batchWith_2 : decode cX4_batchWith 2 = .ok (.invokevirtual 141, 3) := by decide +kernel
theorem dX4_batchWith_5 : decode cX4_batchWith 5 = .ok (.istore_n 2, 1) := by decide +kernel
theorem dX4_batchWith_6 : decode cX4_batchWith 6 = .ok (.iload_n 2, 1) := by decide +kernel
theorem dX4_batchWith_7 : decode cX4_batchWith 7 = .ok (.ifCond .ge 8, 3) := by decide +kernel
theorem dX4_batchWith_10 : decode cX4_batchWith 10 = .ok (.bipush (-5), 2) := by decide +kernel
theorem dX4_batchWith_12 : decode cX4_batchWith 12 = .ok (.goto 12, 3) := by decide +kernel
theorem dX4_batchWith_15 : decode cX4_batchWith 15 = .ok (.aload_n 0, 1) := by decide +kernel
theorem dX4_batchWith_16 : decode cX4_batchWith 16 = .ok (.getfield 53, 3) := by decide +kernel
theorem dX4_batchWith_19 : decode cX4_batchWith 19 = .ok (.iload_n 2, 1) := by decide +kernel
theorem dX4_batchWith_20 : decode cX4_batchWith 20 = .ok (.aaload, 1) := by decide +kernel
theorem dX4_batchWith_21 : decode cX4_batchWith 21 = .ok (.getfield 99, 3) := by decide +kernel
theorem dX4_batchWith_24 : decode cX4_batchWith 24 = .ok (.ireturn, 1) := by decide +kernel
theorem dX4_squeakOf_0 : decode cX4_squeakOf 0 = .ok (.aload_n 0, 1) := by decide +kernel
theorem dX4_squeakOf_1 : decode cX4_squeakOf 1 = .ok (.iload_n 1, 1) := by decide +kernel
theorem dX4_squeakOf_2 : decode cX4_squeakOf 2 = .ok (.invokevirtual 141, 3) := by decide +kernel
theorem dX4_squeakOf_5 : decode cX4_squeakOf 5 = .ok (.istore_n 2, 1) := by decide +kernel
theorem dX4_squeakOf_6 : decode cX4_squeakOf 6 = .ok (.iload_n 2, 1) := by decide +kernel
theorem dX4_squeakOf_7 : decode cX4_squeakOf 7 = .ok (.ifCond .ge 6, 3) := by decide +kernel
theorem dX4_squeakOf_10 : decode cX4_squeakOf 10 = .ok (.bipush (-5), 2) := by decide +kernel
theorem dX4_squeakOf_12 : decode cX4_squeakOf 12 = .ok (.ireturn, 1) := by decide +kernel
theorem dX4_squeakOf_13 : decode cX4_squeakOf 13 = .ok (.aload_n 0, 1) := by decide +kernel
theorem dX4_squeakOf_14 : decode cX4_squeakOf 14 = .ok (.getfield 53, 3) := by decide +kernel
theorem dX4_squeakOf_17 : decode cX4_squeakOf 17 = .ok (.iload_n 2, 1) := by decide +kernel
theorem dX4_squeakOf_18 : decode cX4_squeakOf 18 = .ok (.aaload, 1) := by decide +kernel
theorem dX4_squeakOf_19 : decode cX4_squeakOf 19 = .ok (.astore_n 3, 1) := by decide +kernel
theorem dX4_squeakOf_20 : decode cX4_squeakOf 20 = .ok (.aload_n 3, 1) := by decide +kernel
theorem dX4_squeakOf_21 : decode cX4_squeakOf 21 = .ok (.getfield 115, 3) := by decide +kernel
theorem dX4_squeakOf_24 : decode cX4_squeakOf 24 = .ok (.iload_n 1, 1) := by decide +kernel
theorem dX4_squeakOf_25 : decode cX4_squeakOf 25 = .ok (.aload_n 3, 1) := by decide +kernel
theorem dX4_squeakOf_26 : decode cX4_squeakOf 26 = .ok (.getfield 102, 3) := by decide +kernel
theorem dX4_squeakOf_29 : decode cX4_squeakOf 29 = .ok (.isub, 1) := by decide +kernel
theorem dX4_squeakOf_30 : decode cX4_squeakOf 30 = .ok (.iaload, 1) := by decide +kernel
theorem dX4_squeakOf_31 : decode cX4_squeakOf 31 = .ok (.ireturn, 1) := by decide +kernel
theorem dX4_squeakToCome_0 : decode cX4_squeakToCome 0 = .ok (.aload_n 0, 1) := by decide +kernel
theorem dX4_squeakToCome_1 : decode cX4_squeakToCome 1 = .ok (.iload_n 1, 1) := by decide +kernel
theorem dX4_squeakToCome_2 : decode cX4_squeakToCome 2 = .ok (.invokevirtual 85, 3) := by decide +kernel
theorem dX4_squeakToCome_5 : decode cX4_squeakToCome 5 = .ok (.ifCond .eq 11, 3) := by decide +kernel
theorem dX4_squeakToCome_8 : decode cX4_squeakToCome 8 = .ok (.aload_n 0, 1) := by decide +kernel
theorem dX4_squeakToCome_9 : decode cX4_squeakToCome 9 = .ok (.iload_n 2, 1) := by decide +kernel
theorem dX4_squeakToCome_10 : decode cX4_squeakToCome 10 = .ok (.invokevirtual 88, 3) := by decide +kernel
theorem dX4_squeakToCome_13 : decode cX4_squeakToCome 13 = .ok (.ifCond .ne 5, 3) := by decide +kernel
theorem dX4_squeakToCome_16 : decode cX4_squeakToCome 16 = .ok (.iconst (-1), 1) := by decide +kernel
theorem dX4_squeakToCome_17 : decode cX4_squeakToCome 17 = .ok (.ireturn, 1) := by decide +kernel
theorem dX4_squeakToCome_18 : decode cX4_squeakToCome 18 = .ok (.aload_n 0, 1) := by decide +kernel
theorem dX4_squeakToCome_19 : decode cX4_squeakToCome 19 = .ok (.getfield 17, 3) := by decide +kernel
theorem dX4_squeakToCome_22 : decode cX4_squeakToCome 22 = .ok (.iload_n 1, 1) := by decide +kernel
theorem dX4_squeakToCome_23 : decode cX4_squeakToCome 23 = .ok (.aaload, 1) := by decide +kernel
theorem dX4_squeakToCome_24 : decode cX4_squeakToCome 24 = .ok (.astore_n 3, 1) := by decide +kernel
theorem dX4_squeakToCome_25 : decode cX4_squeakToCome 25 = .ok (.bipush 7, 2) := by decide +kernel
theorem dX4_squeakToCome_27 : decode cX4_squeakToCome 27 = .ok (.aload_n 3, 1) := by decide +kernel
theorem dX4_squeakToCome_28 : decode cX4_squeakToCome 28 = .ok (.iconst 0, 1) := by decide +kernel
theorem dX4_squeakToCome_29 : decode cX4_squeakToCome 29 = .ok (.iaload, 1) := by decide +kernel
theorem dX4_squeakToCome_30 : decode cX4_squeakToCome 30 = .ok (.imul, 1) := by decide +kernel
theorem dX4_squeakToCome_31 : decode cX4_squeakToCome 31 = .ok (.bipush 11, 2) := by decide +kernel
theorem dX4_squeakToCome_33 : decode cX4_squeakToCome 33 = .ok (.aload_n 3, 1) := by decide +kernel
theorem dX4_squeakToCome_34 : decode cX4_squeakToCome 34 = .ok (.iconst 1, 1) := by decide +kernel
theorem dX4_squeakToCome_35 : decode cX4_squeakToCome 35 = .ok (.iaload, 1) := by decide +kernel
theorem dX4_squeakToCome_36 : decode cX4_squeakToCome 36 = .ok (.imul, 1) := by decide +kernel
theorem dX4_squeakToCome_37 : decode cX4_squeakToCome 37 = .ok (.iadd, 1) := by decide +kernel
theorem dX4_squeakToCome_38 : decode cX4_squeakToCome 38 = .ok (.iconst 3, 1) := by decide +kernel
theorem dX4_squeakToCome_39 : decode cX4_squeakToCome 39 = .ok (.aload_n 3, 1) := by decide +kernel
theorem dX4_squeakToCome_40 : decode cX4_squeakToCome 40 = .ok (.iconst 2, 1) := by decide +kernel
theorem dX4_squeakToCome_41 : decode cX4_squeakToCome 41 = .ok (.iaload, 1) := by decide +kernel
theorem dX4_squeakToCome_42 : decode cX4_squeakToCome 42 = .ok (.imul, 1) := by decide +kernel
theorem dX4_squeakToCome_43 : decode cX4_squeakToCome 43 = .ok (.iadd, 1) := by decide +kernel
theorem dX4_squeakToCome_44 : decode cX4_squeakToCome 44 = .ok (.iconst 5, 1) := by decide +kernel
theorem dX4_squeakToCome_45 : decode cX4_squeakToCome 45 = .ok (.aload_n 0, 1) := by decide +kernel
theorem dX4_squeakToCome_46 : decode cX4_squeakToCome 46 = .ok (.getfield 23, 3) := by decide +kernel
theorem dX4_squeakToCome_49 : decode cX4_squeakToCome 49 = .ok (.iload_n 2, 1) := by decide +kernel
theorem dX4_squeakToCome_50 : decode cX4_squeakToCome 50 = .ok (.iaload, 1) := by decide +kernel
theorem dX4_squeakToCome_51 : decode cX4_squeakToCome 51 = .ok (.imul, 1) := by decide +kernel
theorem dX4_squeakToCome_52 : decode cX4_squeakToCome 52 = .ok (.iadd, 1) := by decide +kernel
theorem dX4_squeakToCome_53 : decode cX4_squeakToCome 53 = .ok (.bipush 13, 2) := by decide +kernel
theorem dX4_squeakToCome_55 : decode cX4_squeakToCome 55 = .ok (.aload_n 0, 1) := by decide +kernel
theorem dX4_squeakToCome_56 : decode cX4_squeakToCome 56 = .ok (.getfield 27, 3) := by decide +kernel
theorem dX4_squeakToCome_59 : decode cX4_squeakToCome 59 = .ok (.iload_n 2, 1) := by decide +kernel
theorem dX4_squeakToCome_60 : decode cX4_squeakToCome 60 = .ok (.iaload, 1) := by decide +kernel
theorem dX4_squeakToCome_61 : decode cX4_squeakToCome 61 = .ok (.imul, 1) := by decide +kernel
theorem dX4_squeakToCome_62 : decode cX4_squeakToCome 62 = .ok (.iadd, 1) := by decide +kernel
theorem dX4_squeakToCome_63 : decode cX4_squeakToCome 63 = .ok (.istore 4, 2) := by decide +kernel
theorem dX4_squeakToCome_65 : decode cX4_squeakToCome 65 = .ok (.iload 4, 2) := by decide +kernel
theorem dX4_squeakToCome_67 : decode cX4_squeakToCome 67 = .ok (.bipush 100, 2) := by decide +kernel
theorem dX4_squeakToCome_69 : decode cX4_squeakToCome 69 = .ok (.irem, 1) := by decide +kernel
theorem dX4_squeakToCome_70 : decode cX4_squeakToCome 70 = .ok (.ireturn, 1) := by decide +kernel
theorem dX4_bowsInStore_0 : decode cX4_bowsInStore 0 = .ok (.aload_n 0, 1) := by decide +kernel
theorem dX4_bowsInStore_1 : decode cX4_bowsInStore 1 = .ok (.iload_n 1, 1) := by decide +kernel
theorem dX4_bowsInStore_2 : decode cX4_bowsInStore 2 = .ok (.invokevirtual 85, 3) := by decide +kernel
theorem dX4_bowsInStore_5 : decode cX4_bowsInStore 5 = .ok (.ifCond .ne 5, 3) := by decide +kernel
theorem dX4_bowsInStore_8 : decode cX4_bowsInStore 8 = .ok (.iconst (-1), 1) := by decide +kernel
theorem dX4_bowsInStore_9 : decode cX4_bowsInStore 9 = .ok (.ireturn, 1) := by decide +kernel
theorem dX4_bowsInStore_10 : decode cX4_bowsInStore 10 = .ok (.ldc 146, 2) := by decide +kernel
theorem dX4_bowsInStore_12 : decode cX4_bowsInStore 12 = .ok (.istore_n 2, 1) := by decide +kernel
theorem dX4_bowsInStore_13 : decode cX4_bowsInStore 13 = .ok (.iconst 0, 1) := by decide +kernel
theorem dX4_bowsInStore_14 : decode cX4_bowsInStore 14 = .ok (.istore_n 3, 1) := by decide +kernel
theorem dX4_bowsInStore_15 : decode cX4_bowsInStore 15 = .ok (.iload_n 3, 1) := by decide +kernel
theorem dX4_bowsInStore_16 : decode cX4_bowsInStore 16 = .ok (.iconst 3, 1) := by decide +kernel
theorem dX4_bowsInStore_17 : decode cX4_bowsInStore 17 = .ok (.if_icmp .ge 38, 3) := by decide +kernel
theorem dX4_bowsInStore_20 : decode cX4_bowsInStore 20 = .ok (.aload_n 0, 1) := by decide +kernel
theorem dX4_bowsInStore_21 : decode cX4_bowsInStore 21 = .ok (.getfield 17, 3) := by decide +kernel
theorem dX4_bowsInStore_24 : decode cX4_bowsInStore 24 = .ok (.iload_n 1, 1) := by decide +kernel
theorem dX4_bowsInStore_25 : decode cX4_bowsInStore 25 = .ok (.aaload, 1) := by decide +kernel
theorem dX4_bowsInStore_26 : decode cX4_bowsInStore 26 = .ok (.iload_n 3, 1) := by decide +kernel
theorem dX4_bowsInStore_27 : decode cX4_bowsInStore 27 = .ok (.iaload, 1) := by decide +kernel
theorem dX4_bowsInStore_28 : decode cX4_bowsInStore 28 = .ok (.istore 4, 2) := by decide +kernel
theorem dX4_bowsInStore_30 : decode cX4_bowsInStore 30 = .ok (.iload 4, 2) := by decide +kernel
theorem dX4_bowsInStore_32 : decode cX4_bowsInStore 32 = .ok (.ifCond .le 17, 3) := by decide +kernel
theorem dX4_bowsInStore_35 : decode cX4_bowsInStore 35 = .ok (.iload_n 2, 1) := by decide +kernel
theorem dX4_bowsInStore_36 : decode cX4_bowsInStore 36 = .ok (.aload_n 0, 1) := by decide +kernel
theorem dX4_bowsInStore_37 : decode cX4_bowsInStore 37 = .ok (.getfield 30, 3) := by decide +kernel
theorem dX4_bowsInStore_40 : decode cX4_bowsInStore 40 = .ok (.iload_n 3, 1) := by decide +kernel
theorem dX4_bowsInStore_41 : decode cX4_bowsInStore 41 = .ok (.iaload, 1) := by decide +kernel
theorem dX4_bowsInStore_42 : decode cX4_bowsInStore 42 = .ok (.iload 4, 2) := by decide +kernel
theorem dX4_bowsInStore_44 : decode cX4_bowsInStore 44 = .ok (.idiv, 1) := by decide +kernel
theorem dX4_bowsInStore_45 : decode cX4_bowsInStore 45 = .ok (.invokestatic 147, 3) := by decide +kernel
theorem dX4_bowsInStore_48 : decode cX4_bowsInStore 48 = .ok (.istore_n 2, 1) := by decide +kernel
theorem dX4_bowsInStore_49 : decode cX4_bowsInStore 49 = .ok (.iinc 3 1, 3) := by decide +kernel
theorem dX4_bowsInStore_52 : decode cX4_bowsInStore 52 = .ok (.goto (-37), 3) := by decide +kernel
theorem dX4_bowsInStore_55 : decode cX4_bowsInStore 55 = .ok (.iload_n 2, 1) := by decide +kernel
theorem dX4_bowsInStore_56 : decode cX4_bowsInStore 56 = .ok (.ireturn, 1) := by decide +kernel
theorem dX4_metalByBows_0 : decode cX4_metalByBows 0 = .ok (.iload_n 1, 1) := by decide +kernel
theorem dX4_metalByBows_1 : decode cX4_metalByBows 1 = .ok (.invokestatic 82, 3) := by decide +kernel
theorem dX4_metalByBows_4 : decode cX4_metalByBows 4 = .ok (.ifCond .ne 5, 3) := by decide +kernel
theorem dX4_metalByBows_7 : decode cX4_metalByBows 7 = .ok (.iconst (-1), 1) := by decide +kernel
theorem dX4_metalByBows_8 : decode cX4_metalByBows 8 = .ok (.ireturn, 1) := by decide +kernel
theorem dX4_metalByBows_9 : decode cX4_metalByBows 9 = .ok (.iconst 0, 1) := by decide +kernel
theorem dX4_metalByBows_10 : decode cX4_metalByBows 10 = .ok (.istore_n 2, 1) := by decide +kernel
theorem dX4_metalByBows_11 : decode cX4_metalByBows 11 = .ok (.iconst 0, 1) := by decide +kernel
theorem dX4_metalByBows_12 : decode cX4_metalByBows 12 = .ok (.istore_n 3, 1) := by decide +kernel
theorem dX4_metalByBows_13 : decode cX4_metalByBows 13 = .ok (.iload_n 3, 1) := by decide +kernel
theorem dX4_metalByBows_14 : decode cX4_metalByBows 14 = .ok (.aload_n 0, 1) := by decide +kernel
theorem dX4_metalByBows_15 : decode cX4_metalByBows 15 = .ok (.getfield 48, 3) := by decide +kernel
theorem dX4_metalByBows_18 : decode cX4_metalByBows 18 = .ok (.if_icmp .ge 51, 3) := by decide +kernel
theorem dX4_metalByBows_21 : decode cX4_metalByBows 21 = .ok (.iconst 0, 1) := by decide +kernel
theorem dX4_metalByBows_22 : decode cX4_metalByBows 22 = .ok (.istore 4, 2) := by decide +kernel
theorem dX4_metalByBows_24 : decode cX4_metalByBows 24 = .ok (.iload 4, 2) := by decide +kernel
theorem dX4_metalByBows_26 : decode cX4_metalByBows 26 = .ok (.aload_n 0, 1) := by decide +kernel
theorem dX4_metalByBows_27 : decode cX4_metalByBows 27 = .ok (.getfield 53, 3) := by decide +kernel
theorem dX4_metalByBows_30 : decode cX4_metalByBows 30 = .ok (.iload_n 3, 1) := by decide +kernel
theorem dX4_metalByBows_31 : decode cX4_metalByBows 31 = .ok (.aaload, 1) := by decide +kernel
theorem dX4_metalByBows_32 : decode cX4_metalByBows 32 = .ok (.getfield 105, 3) := by decide +kernel
theorem dX4_metalByBows_35 : decode cX4_metalByBows 35 = .ok (.if_icmp .ge 28, 3) := by decide +kernel
theorem dX4_metalByBows_38 : decode cX4_metalByBows 38 = .ok (.iload_n 2, 1) := by decide +kernel
theorem dX4_metalByBows_39 : decode cX4_metalByBows 39 = .ok (.aload_n 0, 1) := by decide +kernel
theorem dX4_metalByBows_40 : decode cX4_metalByBows 40 = .ok (.getfield 17, 3) := by decide +kernel
theorem dX4_metalByBows_43 : decode cX4_metalByBows 43 = .ok (.aload_n 0, 1) := by decide +kernel
theorem dX4_metalByBows_44 : decode cX4_metalByBows 44 = .ok (.getfield 53, 3) := by decide +kernel
theorem dX4_metalByBows_47 : decode cX4_metalByBows 47 = .ok (.iload_n 3, 1) := by decide +kernel
theorem dX4_metalByBows_48 : decode cX4_metalByBows 48 = .ok (.aaload, 1) := by decide +kernel
theorem dX4_metalByBows_49 : decode cX4_metalByBows 49 = .ok (.getfield 108, 3) := by decide +kernel
theorem dX4_metalByBows_52 : decode cX4_metalByBows 52 = .ok (.aaload, 1) := by decide +kernel
theorem dX4_metalByBows_53 : decode cX4_metalByBows 53 = .ok (.iload_n 1, 1) := by decide +kernel
theorem dX4_metalByBows_54 : decode cX4_metalByBows 54 = .ok (.iaload, 1) := by decide +kernel
theorem dX4_metalByBows_55 : decode cX4_metalByBows 55 = .ok (.iadd, 1) := by decide +kernel
theorem dX4_metalByBows_56 : decode cX4_metalByBows 56 = .ok (.istore_n 2, 1) := by decide +kernel
theorem dX4_metalByBows_57 : decode cX4_metalByBows 57 = .ok (.iinc 4 1, 3) := by decide +kernel
theorem dX4_metalByBows_60 : decode cX4_metalByBows 60 = .ok (.goto (-36), 3) := by decide +kernel
theorem dX4_metalByBows_63 : decode cX4_metalByBows 63 = .ok (.iinc 3 1, 3) := by decide +kernel
theorem dX4_metalByBows_66 : decode cX4_metalByBows 66 = .ok (.goto (-53), 3) := by decide +kernel
theorem dX4_metalByBows_69 : decode cX4_metalByBows 69 = .ok (.iload_n 2, 1) := by decide +kernel
theorem dX4_metalByBows_70 : decode cX4_metalByBows 70 = .ok (.ireturn, 1) := by decide +kernel
theorem dX4_metalByBooks_0 : decode cX4_metalByBooks 0 = .ok (.iload_n 1, 1) := by decide +kernel
theorem dX4_metalByBooks_1 : decode cX4_metalByBooks 1 = .ok (.invokestatic 82, 3) := by decide +kernel
theorem dX4_metalByBooks_4 : decode cX4_metalByBooks 4 = .ok (.ifCond .ne 5, 3) := by decide +kernel
theorem dX4_metalByBooks_7 : decode cX4_metalByBooks 7 = .ok (.iconst (-1), 1) := by decide +kernel
theorem dX4_metalByBooks_8 : decode cX4_metalByBooks 8 = .ok (.ireturn, 1) := by decide +kernel
theorem dX4_metalByBooks_9 : decode cX4_metalByBooks 9 = .ok (.aload_n 0, 1) := by decide +kernel
theorem dX4_metalByBooks_10 : decode cX4_metalByBooks 10 = .ok (.getfield 33, 3) := by decide +kernel
theorem dX4_metalByBooks_13 : decode cX4_metalByBooks 13 = .ok (.iload_n 1, 1) := by decide +kernel
theorem dX4_metalByBooks_14 : decode cX4_metalByBooks 14 = .ok (.iaload, 1) := by decide +kernel
theorem dX4_metalByBooks_15 : decode cX4_metalByBooks 15 = .ok (.aload_n 0, 1) := by decide +kernel
theorem dX4_metalByBooks_16 : decode cX4_metalByBooks 16 = .ok (.getfield 30, 3) := by decide +kernel
theorem dX4_metalByBooks_19 : decode cX4_metalByBooks 19 = .ok (.iload_n 1, 1) := by decide +kernel
theorem dX4_metalByBooks_20 : decode cX4_metalByBooks 20 = .ok (.iaload, 1) := by decide +kernel
theorem dX4_metalByBooks_21 : decode cX4_metalByBooks 21 = .ok (.isub, 1) := by decide +kernel
theorem dX4_metalByBooks_22 : decode cX4_metalByBooks 22 = .ok (.aload_n 0, 1) := by decide +kernel
theorem dX4_metalByBooks_23 : decode cX4_metalByBooks 23 = .ok (.getfield 36, 3) := by decide +kernel
theorem dX4_metalByBooks_26 : decode cX4_metalByBooks 26 = .ok (.iload_n 1, 1) := by decide +kernel
theorem dX4_metalByBooks_27 : decode cX4_metalByBooks 27 = .ok (.iaload, 1) := by decide +kernel
theorem dX4_metalByBooks_28 : decode cX4_metalByBooks 28 = .ok (.isub, 1) := by decide +kernel
theorem dX4_metalByBooks_29 : decode cX4_metalByBooks 29 = .ok (.aload_n 0, 1) := by decide +kernel
theorem dX4_metalByBooks_30 : decode cX4_metalByBooks 30 = .ok (.getfield 39, 3) := by decide +kernel
theorem dX4_metalByBooks_33 : decode cX4_metalByBooks 33 = .ok (.iload_n 1, 1) := by decide +kernel
theorem dX4_metalByBooks_34 : decode cX4_metalByBooks 34 = .ok (.iaload, 1) := by decide +kernel
theorem dX4_metalByBooks_35 : decode cX4_metalByBooks 35 = .ok (.isub, 1) := by decide +kernel
theorem dX4_metalByBooks_36 : decode cX4_metalByBooks 36 = .ok (.ireturn, 1) := by decide +kernel
theorem dX4_bowsInBatches_0 : decode cX4_bowsInBatches 0 = .ok (.iconst 0, 1) := by decide +kernel
theorem dX4_bowsInBatches_1 : decode cX4_bowsInBatches 1 = .ok (.istore_n 1, 1) := by decide +kernel
theorem dX4_bowsInBatches_2 : decode cX4_bowsInBatches 2 = .ok (.iconst 0, 1) := by decide +kernel
theorem dX4_bowsInBatches_3 : decode cX4_bowsInBatches 3 = .ok (.istore_n 2, 1) := by decide +kernel
theorem dX4_bowsInBatches_4 : decode cX4_bowsInBatches 4 = .ok (.iload_n 2, 1) := by decide +kernel
theorem dX4_bowsInBatches_5 : decode cX4_bowsInBatches 5 = .ok (.aload_n 0, 1) := by decide +kernel
theorem dX4_bowsInBatches_6 : decode cX4_bowsInBatches 6 = .ok (.getfield 48, 3) := by decide +kernel
theorem dX4_bowsInBatches_9 : decode cX4_bowsInBatches 9 = .ok (.if_icmp .ge 21, 3) := by decide +kernel
theorem dX4_bowsInBatches_12 : decode cX4_bowsInBatches 12 = .ok (.iload_n 1, 1) := by decide +kernel
theorem dX4_bowsInBatches_13 : decode cX4_bowsInBatches 13 = .ok (.aload_n 0, 1) := by decide +kernel
theorem dX4_bowsInBatches_14 : decode cX4_bowsInBatches 14 = .ok (.getfield 53, 3) := by decide +kernel
theorem dX4_bowsInBatches_17 : decode cX4_bowsInBatches 17 = .ok (.iload_n 2, 1) := by decide +kernel
theorem dX4_bowsInBatches_18 : decode cX4_bowsInBatches 18 = .ok (.aaload, 1) := by decide +kernel
theorem dX4_bowsInBatches_19 : decode cX4_bowsInBatches 19 = .ok (.getfield 105, 3) := by decide +kernel
theorem dX4_bowsInBatches_22 : decode cX4_bowsInBatches 22 = .ok (.iadd, 1) := by decide +kernel
theorem dX4_bowsInBatches_23 : decode cX4_bowsInBatches 23 = .ok (.istore_n 1, 1) := by decide +kernel
theorem dX4_bowsInBatches_24 : decode cX4_bowsInBatches 24 = .ok (.iinc 2 1, 3) := by decide +kernel
theorem dX4_bowsInBatches_27 : decode cX4_bowsInBatches 27 = .ok (.goto (-23), 3) := by decide +kernel
theorem dX4_bowsInBatches_30 : decode cX4_bowsInBatches 30 = .ok (.iload_n 1, 1) := by decide +kernel
theorem dX4_bowsInBatches_31 : decode cX4_bowsInBatches 31 = .ok (.ireturn, 1) := by decide +kernel
theorem dX4_tolerancesAgree_0 : decode cX4_tolerancesAgree 0 = .ok (.iconst 0, 1) := by decide +kernel
theorem dX4_tolerancesAgree_1 : decode cX4_tolerancesAgree 1 = .ok (.istore_n 1, 1) := by decide +kernel
theorem dX4_tolerancesAgree_2 : decode cX4_tolerancesAgree 2 = .ok (.iload_n 1, 1) := by decide +kernel
theorem dX4_tolerancesAgree_3 : decode cX4_tolerancesAgree 3 = .ok (.aload_n 0, 1) := by decide +kernel
theorem dX4_tolerancesAgree_4 : decode cX4_tolerancesAgree 4 = .ok (.getfield 48, 3) := by decide +kernel
theorem dX4_tolerancesAgree_7 : decode cX4_tolerancesAgree 7 = .ok (.if_icmp .ge 40, 3) := by decide +kernel
theorem dX4_tolerancesAgree_10 : decode cX4_tolerancesAgree 10 = .ok (.aload_n 0, 1) := by decide +kernel
theorem dX4_tolerancesAgree_11 : decode cX4_tolerancesAgree 11 = .ok (.getfield 53, 3) := by decide +kernel
theorem dX4_tolerancesAgree_14 : decode cX4_tolerancesAgree 14 = .ok (.iload_n 1, 1) := by decide +kernel
theorem dX4_tolerancesAgree_15 : decode cX4_tolerancesAgree 15 = .ok (.aaload, 1) := by decide +kernel
theorem dX4_tolerancesAgree_16 : decode cX4_tolerancesAgree 16 = .ok (.aload_n 0, 1) := by decide +kernel
theorem dX4_tolerancesAgree_17 : decode cX4_tolerancesAgree 17 = .ok (.getfield 45, 3) := by decide +kernel
theorem dX4_tolerancesAgree_20 : decode cX4_tolerancesAgree 20 = .ok (.invokevirtual 157, 3) := by decide +kernel
theorem dX4_tolerancesAgree_23 : decode cX4_tolerancesAgree 23 = .ok (.aload_n 0, 1) := by decide +kernel
theorem dX4_tolerancesAgree_24 : decode cX4_tolerancesAgree 24 = .ok (.getfield 53, 3) := by decide +kernel
theorem dX4_tolerancesAgree_27 : decode cX4_tolerancesAgree 27 = .ok (.iload_n 1, 1) := by decide +kernel
theorem dX4_tolerancesAgree_28 : decode cX4_tolerancesAgree 28 = .ok (.aaload, 1) := by decide +kernel
theorem dX4_tolerancesAgree_29 : decode cX4_tolerancesAgree 29 = .ok (.aload_n 0, 1) := by decide +kernel
theorem dX4_tolerancesAgree_30 : decode cX4_tolerancesAgree 30 = .ok (.getfield 45, 3) := by decide +kernel
theorem dX4_tolerancesAgree_33 : decode cX4_tolerancesAgree 33 = .ok (.invokevirtual 160, 3) := by decide +kernel
theorem dX4_tolerancesAgree_36 : decode cX4_tolerancesAgree 36 = .ok (.if_icmp .eq 5, 3) := by decide +kernel
theorem dX4_tolerancesAgree_39 : decode cX4_tolerancesAgree 39 = .ok (.iconst 0, 1) := by decide +kernel
theorem dX4_tolerancesAgree_40 : decode cX4_tolerancesAgree 40 = .ok (.ireturn, 1) := by decide +kernel
theorem dX4_tolerancesAgree_41 : decode cX4_tolerancesAgree 41 = .ok (.iinc 1 1, 3) := by decide +kernel
theorem dX4_tolerancesAgree_44 : decode cX4_tolerancesAgree 44 = .ok (.goto (-42), 3) := by decide +kernel
theorem dX4_tolerancesAgree_47 : decode cX4_tolerancesAgree 47 = .ok (.iconst 1, 1) := by decide +kernel
theorem dX4_tolerancesAgree_48 : decode cX4_tolerancesAgree 48 = .ok (.ireturn, 1) := by decide +kernel
theorem dX4_metalsAgree_0 : decode cX4_metalsAgree 0 = .ok (.iconst 0, 1) := by decide +kernel
theorem dX4_metalsAgree_1 : decode cX4_metalsAgree 1 = .ok (.istore_n 1, 1) := by decide +kernel
theorem dX4_metalsAgree_2 : decode cX4_metalsAgree 2 = .ok (.iload_n 1, 1) := by decide +kernel
theorem dX4_metalsAgree_3 : decode cX4_metalsAgree 3 = .ok (.iconst 3, 1) := by decide +kernel
theorem dX4_metalsAgree_4 : decode cX4_metalsAgree 4 = .ok (.if_icmp .ge 24, 3) := by decide +kernel
theorem dX4_metalsAgree_7 : decode cX4_metalsAgree 7 = .ok (.aload_n 0, 1) := by decide +kernel
theorem dX4_metalsAgree_8 : decode cX4_metalsAgree 8 = .ok (.iload_n 1, 1) := by decide +kernel
theorem dX4_metalsAgree_9 : decode cX4_metalsAgree 9 = .ok (.invokevirtual 163, 3) := by decide +kernel
theorem dX4_metalsAgree_12 : decode cX4_metalsAgree 12 = .ok (.aload_n 0, 1) := by decide +kernel
theorem dX4_metalsAgree_13 : decode cX4_metalsAgree 13 = .ok (.iload_n 1, 1) := by decide +kernel
theorem dX4_metalsAgree_14 : decode cX4_metalsAgree 14 = .ok (.invokevirtual 166, 3) := by decide +kernel
theorem dX4_metalsAgree_17 : decode cX4_metalsAgree 17 = .ok (.if_icmp .eq 5, 3) := by decide +kernel
theorem dX4_metalsAgree_20 : decode cX4_metalsAgree 20 = .ok (.iconst 0, 1) := by decide +kernel
theorem dX4_metalsAgree_21 : decode cX4_metalsAgree 21 = .ok (.ireturn, 1) := by decide +kernel
theorem dX4_metalsAgree_22 : decode cX4_metalsAgree 22 = .ok (.iinc 1 1, 3) := by decide +kernel
theorem dX4_metalsAgree_25 : decode cX4_metalsAgree 25 = .ok (.goto (-23), 3) := by decide +kernel
theorem dX4_metalsAgree_28 : decode cX4_metalsAgree 28 = .ok (.iconst 1, 1) := by decide +kernel
theorem dX4_metalsAgree_29 : decode cX4_metalsAgree 29 = .ok (.ireturn, 1) := by decide +kernel
theorem dX4_bowsAgree_0 : decode cX4_bowsAgree 0 = .ok (.aload_n 0, 1) := by decide +kernel
theorem dX4_bowsAgree_1 : decode cX4_bowsAgree 1 = .ok (.getfield 60, 3) := by decide +kernel
theorem dX4_bowsAgree_4 : decode cX4_bowsAgree 4 = .ok (.aload_n 0, 1) := by decide +kernel
theorem dX4_bowsAgree_5 : decode cX4_bowsAgree 5 = .ok (.getfield 63, 3) := by decide +kernel
theorem dX4_bowsAgree_8 : decode cX4_bowsAgree 8 = .ok (.aload_n 0, 1) := by decide +kernel
theorem dX4_bowsAgree_9 : decode cX4_bowsAgree 9 = .ok (.getfield 66, 3) := by decide +kernel
theorem dX4_bowsAgree_12 : decode cX4_bowsAgree 12 = .ok (.iadd, 1) := by decide +kernel
theorem dX4_bowsAgree_13 : decode cX4_bowsAgree 13 = .ok (.aload_n 0, 1) := by decide +kernel
theorem dX4_bowsAgree_14 : decode cX4_bowsAgree 14 = .ok (.invokevirtual 169, 3) := by decide +kernel
theorem dX4_bowsAgree_17 : decode cX4_bowsAgree 17 = .ok (.iadd, 1) := by decide +kernel
theorem dX4_bowsAgree_18 : decode cX4_bowsAgree 18 = .ok (.if_icmp .ne 7, 3) := by decide +kernel
theorem dX4_bowsAgree_21 : decode cX4_bowsAgree 21 = .ok (.iconst 1, 1) := by decide +kernel
theorem dX4_bowsAgree_22 : decode cX4_bowsAgree 22 = .ok (.goto 4, 3) := by decide +kernel
theorem dX4_bowsAgree_25 : decode cX4_bowsAgree 25 = .ok (.iconst 0, 1) := by decide +kernel
theorem dX4_bowsAgree_26 : decode cX4_bowsAgree 26 = .ok (.ireturn, 1) := by decide +kernel
theorem dX5_init_0 : decode cX5_init 0 = .ok (.aload_n 0, 1) := by decide +kernel
theorem dX5_init_1 : decode cX5_init 1 = .ok (.invokespecial 3, 3) := by decide +kernel
theorem dX5_init_4 : decode cX5_init 4 = .ok (.aload_n 0, 1) := by decide +kernel
theorem dX5_init_5 : decode cX5_init 5 = .ok (.bipush 10, 2) := by decide +kernel
theorem dX5_init_7 : decode cX5_init 7 = .ok (.anewarray 9, 3) := by decide +kernel
theorem dX5_init_10 : decode cX5_init 10 = .ok (.putfield 11, 3) := by decide +kernel
theorem dX5_init_13 : decode cX5_init 13 = .ok (.aload_n 0, 1) := by decide +kernel
theorem dX5_init_14 : decode cX5_init 14 = .ok (.new 9, 3) := by decide +kernel
theorem dX5_init_17 : decode cX5_init 17 = .ok (.dup, 1) := by decide +kernel
theorem dX5_init_18 : decode cX5_init 18 = .ok (.invokespecial 15, 3) := by decide +kernel
theorem dX5_init_21 : decode cX5_init 21 = .ok (.putfield 16, 3) := by decide +kernel
theorem dX5_init_24 : decode cX5_init 24 = .ok (.aload_n 0, 1) := by decide +kernel
theorem dX5_init_25 : decode cX5_init 25 = .ok (.new 20, 3) := by decide +kernel
theorem dX5_init_28 : decode cX5_init 28 = .ok (.dup, 1) := by decide +kernel
theorem dX5_init_29 : decode cX5_init 29 = .ok (.invokespecial 22, 3) := by decide +kernel
theorem dX5_init_32 : decode cX5_init 32 = .ok (.putfield 23, 3) := by decide +kernel
theorem dX5_init_35 : decode cX5_init 35 = .ok (.aload_n 0, 1) := by decide +kernel
theorem dX5_init_36 : decode cX5_init 36 = .ok (.new 27, 3) := by decide +kernel
theorem dX5_init_39 : decode cX5_init 39 = .ok (.dup, 1) := by decide +kernel
theorem dX5_init_40 : decode cX5_init 40 = .ok (.invokespecial 29, 3) := by decide +kernel
theorem dX5_init_43 : decode cX5_init 43 = .ok (.putfield 30, 3) := by decide +kernel
theorem dX5_init_46 : decode cX5_init 46 = .ok (.aload_n 0, 1) := by decide +kernel
theorem dX5_init_47 : decode cX5_init 47 = .ok (.iconst 0, 1) := by decide +kernel
theorem dX5_init_48 : decode cX5_init 48 = .ok (.putfield 34, 3) := by decide +kernel
theorem dX5_init_51 : decode cX5_init 51 = .ok (.aload_n 0, 1) := by decide +kernel
theorem dX5_init_52 : decode cX5_init 52 = .ok (.iconst 0, 1) := by decide +kernel
theorem dX5_init_53 : decode cX5_init 53 = .ok (.putfield 38, 3) := by decide +kernel
theorem dX5_init_56 : decode cX5_init 56 = .ok (.aload_n 0, 1) := by decide +kernel
theorem dX5_init_57 : decode cX5_init 57 = .ok (.iconst 0, 1) := by decide +kernel
theorem dX5_init_58 : decode cX5_init 58 = .ok (.putfield 41, 3) := by decide +kernel
theorem dX5_init_61 : decode cX5_init 61 = .ok (.aload_n 0, 1) := by decide +kernel
theorem dX5_init_62 : decode cX5_init 62 = .ok (.iconst (-1), 1) := by decide +kernel
theorem dX5_init_63 : decode cX5_init 63 = .ok (.putfield 45, 3) := by decide +kernel
theorem dX5_init_66 : decode cX5_init 66 = .ok (.aload_n 0, 1) := by decide +kernel
theorem dX5_init_67 : decode cX5_init 67 = .ok (.iconst (-1), 1) := by decide +kernel
theorem dX5_init_68 : decode cX5_init 68 = .ok (.putfield 48, 3) := by decide +kernel
theorem dX5_init_71 : decode cX5_init 71 = .ok (.iconst 0, 1) := by decide +kernel
theorem dX5_init_72 : decode cX5_init 72 = .ok (.istore_n 1, 1) := by decide +kernel
theorem dX5_init_73 : decode cX5_init 73 = .ok (.iload_n 1, 1) := by decide +kernel
theorem dX5_init_74 : decode cX5_init 74 = .ok (.aload_n 0, 1) := by decide +kernel
theorem dX5_init_75 : decode cX5_init 75 = .ok (.getfield 11, 3) := by decide +kernel
theorem dX5_init_78 : decode cX5_init 78 = .ok (.arraylength, 1) := by decide +kernel
theorem dX5_init_79 : decode cX5_init 79 = .ok (.if_icmp .ge 22, 3) := by decide +kernel
theorem dX5_init_82 : decode cX5_init 82 = .ok (.aload_n 0, 1) := by decide +kernel
theorem dX5_init_83 : decode cX5_init 83 = .ok (.getfield 11, 3) := by decide +kernel
theorem dX5_init_86 : decode cX5_init 86 = .ok (.iload_n 1, 1) := by decide +kernel
theorem dX5_init_87 : decode cX5_init 87 = .ok (.new 9, 3) := by decide +kernel
theorem dX5_init_90 : decode cX5_init 90 = .ok (.dup, 1) := by decide +kernel
theorem dX5_init_91 : decode cX5_init 91 = .ok (.invokespecial 15, 3) := by decide +kernel
theorem dX5_init_94 : decode cX5_init 94 = .ok (.aastore, 1) := by decide +kernel
theorem dX5_init_95 : decode cX5_init 95 = .ok (.iinc 1 1, 3) := by decide +kernel
theorem dX5_init_98 : decode cX5_init 98 = .ok (.goto (-25), 3) := by decide +kernel
theorem dX5_init_101 : decode cX5_init 101 = .ok (.return_, 1) := by decide +kernel
theorem dX5_addAlloy_0 : decode cX5_addAlloy 0 = .ok (.aload_n 0, 1) := by decide +kernel
theorem dX5_addAlloy_1 : decode cX5_addAlloy 1 = .ok (.aload_n 0, 1) := by decide +kernel
theorem dX5_addAlloy_2 : decode cX5_addAlloy 2 = .ok (.invokevirtual 51, 3) := by decide +kernel
theorem dX5_addAlloy_5 : decode cX5_addAlloy 5 = .ok (.iload_n 1, 1) := by decide +kernel
theorem dX5_addAlloy_6 : decode cX5_addAlloy 6 = .ok (.iload_n 2, 1) := by decide +kernel
theorem dX5_addAlloy_7 : decode cX5_addAlloy 7 = .ok (.iload_n 3, 1) := by decide +kernel
theorem dX5_addAlloy_8 : decode cX5_addAlloy 8 = .ok (.invokevirtual 55, 3) := by decide +kernel
theorem dX5_addAlloy_11 : decode cX5_addAlloy 11 = .ok (.invokevirtual 59, 3) := by decide +kernel
theorem dX5_addAlloy_14 : decode cX5_addAlloy 14 = .ok (.ireturn, 1) := by decide +kernel
theorem dX5_addMould_0 : decode cX5_addMould 0 = .ok (.aload_n 0, 1) := by decide +kernel
theorem dX5_addMould_1 : decode cX5_addMould 1 = .ok (.aload_n 0, 1) := by decide +kernel
theorem dX5_addMould_2 : decode cX5_addMould 2 = .ok (.invokevirtual 51, 3) := by decide +kernel
theorem dX5_addMould_5 : decode cX5_addMould 5 = .ok (.iload_n 1, 1) := by decide +kernel
theorem dX5_addMould_6 : decode cX5_addMould 6 = .ok (.invokevirtual 63, 3) := by decide +kernel
theorem dX5_addMould_9 : decode cX5_addMould 9 = .ok (.invokevirtual 59, 3) := by decide +kernel
theorem dX5_addMould_12 : decode cX5_addMould 12 = .ok (.ireturn, 1) := by decide +kernel
theorem dX5_buy_0 : decode cX5_buy 0 = .ok (.aload_n 0, 1) := by decide +kernel
theorem dX5_buy_1 : decode cX5_buy 1 = .ok (.aload_n 0, 1) := by decide +kernel
theorem dX5_buy_2 : decode cX5_buy 2 = .ok (.invokevirtual 51, 3) := by decide +kernel
theorem dX5_buy_5 : decode cX5_buy 5 = .ok (.iload_n 1, 1) := by decide +kernel
theorem dX5_buy_6 : decode cX5_buy 6 = .ok (.iload_n 2, 1) := by decide +kernel
theorem dX5_buy_7 : decode cX5_buy 7 = .ok (.invokevirtual 66, 3) := by decide +kernel
theorem dX5_buy_10 : decode cX5_buy 10 = .ok (.invokevirtual 59, 3) := by decide +kernel
theorem dX5_buy_13 : decode cX5_buy 13 = .ok (.ireturn, 1) := by decide +kernel
theorem dX5_cast_0 : decode cX5_cast 0 = .ok (.aload_n 0, 1) := by decide +kernel
theorem dX5_cast_1 : decode cX5_cast 1 = .ok (.aload_n 0, 1) := by decide +kernel
theorem dX5_cast_2 : decode cX5_cast 2 = .ok (.invokevirtual 51, 3) := by decide +kernel
theorem dX5_cast_5 : decode cX5_cast 5 = .ok (.iload_n 1, 1) := by decide +kernel
theorem dX5_cast_6 : decode cX5_cast 6 = .ok (.iload_n 2, 1) := by decide +kernel
theorem dX5_cast_7 : decode cX5_cast 7 = .ok (.iload_n 3, 1) := by decide +kernel
theorem dX5_cast_8 : decode cX5_cast 8 = .ok (.invokevirtual 70, 3) := by decide +kernel
theorem dX5_cast_11 : decode cX5_cast 11 = .ok (.invokevirtual 59, 3) := by decide +kernel
theorem dX5_cast_14 : decode cX5_cast 14 = .ok (.ireturn, 1) := by decide +kernel
theorem dX5_inspect_0 : decode cX5_inspect 0 = .ok (.aload_n 0, 1) := by decide +kernel
theorem dX5_inspect_1 : decode cX5_inspect 1 = .ok (.aload_n 0, 1) := by decide +kernel
theorem dX5_inspect_2 : decode cX5_inspect 2 = .ok (.invokevirtual 51, 3) := by decide +kernel
theorem dX5_inspect_5 : decode cX5_inspect 5 = .ok (.iload_n 1, 1) := by decide +kernel
theorem dX5_inspect_6 : decode cX5_inspect 6 = .ok (.invokevirtual 73, 3) := by decide +kernel
theorem dX5_inspect_9 : decode cX5_inspect 9 = .ok (.invokevirtual 59, 3) := by decide +kernel
theorem dX5_inspect_12 : decode cX5_inspect 12 = .ok (.iconst 1, 1) := by decide +kernel
theorem dX5_inspect_13 : decode cX5_inspect 13 = .ok (.if_icmp .ne 7, 3) := by decide +kernel
theorem dX5_inspect_16 : decode cX5_inspect 16 = .ok (.iconst 1, 1) := by decide +kernel
theorem dX5_inspect_17 : decode cX5_inspect 17 = .ok (.goto 4, 3) := by decide +kernel
theorem dX5_inspect_20 : decode cX5_inspect 20 = .ok (.iconst 0, 1) := by decide +kernel
theorem dX5_inspect_21 : decode cX5_inspect 21 = .ok (.ireturn, 1) := by decide +kernel
theorem dX5_melt_0 : decode cX5_melt 0 = .ok (.aload_n 0, 1) := by decide +kernel
theorem dX5_melt_1 : decode cX5_melt 1 = .ok (.aload_n 0, 1) := by decide +kernel
theorem dX5_melt_2 : decode cX5_melt 2 = .ok (.invokevirtual 51, 3) := by decide +kernel
theorem dX5_melt_5 : decode cX5_melt 5 = .ok (.iload_n 1, 1) := by decide +kernel
theorem dX5_melt_6 : decode cX5_melt 6 = .ok (.invokevirtual 76, 3) := by decide +kernel
theorem dX5_melt_9 : decode cX5_melt 9 = .ok (.invokevirtual 59, 3) := by decide +kernel
theorem dX5_melt_12 : decode cX5_melt 12 = .ok (.ireturn, 1) := by decide +kernel
theorem dX5_renewMould_0 : decode cX5_renewMould 0 = .ok (.aload_n 0, 1) := by decide +kernel
theorem dX5_renewMould_1 : decode cX5_renewMould 1 = .ok (.aload_n 0, 1) := by decide +kernel
theorem dX5_renewMould_2 : decode cX5_renewMould 2 = .ok (.invokevirtual 51, 3) := by decide +kernel
theorem dX5_renewMould_5 : decode cX5_renewMould 5 = .ok (.iload_n 1, 1) := by decide +kernel
theorem dX5_renewMould_6 : decode cX5_renewMould 6 = .ok (.invokevirtual 79, 3) := by decide +kernel
theorem dX5_renewMould_9 : decode cX5_renewMould 9 = .ok (.invokevirtual 59, 3) := by decide +kernel
theorem dX5_renewMould_12 : decode cX5_renewMould 12 = .ok (.ireturn, 1) := by decide +kernel
theorem dX5_setTolerance_0 : decode cX5_setTolerance 0 = .ok (.aload_n 0, 1) := by decide +kernel
theorem dX5_setTolerance_1 : decode cX5_setTolerance 1 = .ok (.aload_n 0, 1) := by decide +kernel
theorem dX5_setTolerance_2 : decode cX5_setTolerance 2 = .ok (.invokevirtual 51, 3) := by decide +kernel
theorem dX5_setTolerance_5 : decode cX5_setTolerance 5 = .ok (.iload_n 1, 1) := by decide +kernel
theorem dX5_setTolerance_6 : decode cX5_setTolerance 6 = .ok (.invokevirtual 82, 3) := by decide +kernel
theorem dX5_setTolerance_9 : decode cX5_setTolerance 9 = .ok (.invokevirtual 59, 3) := by decide +kernel
theorem dX5_setTolerance_12 : decode cX5_setTolerance 12 = .ok (.ireturn, 1) := by decide +kernel
theorem dX5_setStep_0 : decode cX5_setStep 0 = .ok (.aload_n 0, 1) := by decide +kernel
theorem dX5_setStep_1 : decode cX5_setStep 1 = .ok (.aload_n 0, 1) := by decide +kernel
theorem dX5_setStep_2 : decode cX5_setStep 2 = .ok (.invokevirtual 51, 3) := by decide +kernel
theorem dX5_setStep_5 : decode cX5_setStep 5 = .ok (.iload_n 1, 1) := by decide +kernel
theorem dX5_setStep_6 : decode cX5_setStep 6 = .ok (.invokevirtual 85, 3) := by decide +kernel
theorem dX5_setStep_9 : decode cX5_setStep 9 = .ok (.invokevirtual 59, 3) := by decide +kernel
theorem dX5_setStep_12 : decode cX5_setStep 12 = .ok (.ireturn, 1) := by decide +kernel
theorem dX5_alloyCount_0 : decode cX5_alloyCount 0 = .ok (.aload_n 0, 1) := by decide +kernel
theorem dX5_alloyCount_1 : decode cX5_alloyCount 1 = .ok (.invokevirtual 88, 3) := by decide +kernel
theorem dX5_alloyCount_4 : decode cX5_alloyCount 4 = .ok (.getfield 91, 3) := by decide +kernel
theorem dX5_alloyCount_7 : decode cX5_alloyCount 7 = .ok (.ireturn, 1) := by decide +kernel
theorem dX5_parts_0 : decode cX5_parts 0 = .ok (.aload_n 0, 1) := by decide +kernel
theorem dX5_parts_1 : decode cX5_parts 1 = .ok (.invokevirtual 88, 3) := by decide +kernel
theorem dX5_parts_4 : decode cX5_parts 4 = .ok (.iload_n 1, 1) := by decide +kernel
theorem dX5_parts_5 : decode cX5_parts 5 = .ok (.iload_n 2, 1) := by decide +kernel
theorem dX5_parts_6 : decode cX5_parts 6 = .ok (.invokevirtual 94, 3) := by decide +kernel
theorem dX5_parts_9 : decode cX5_parts 9 = .ok (.invokestatic 97, 3) := by decide +kernel
theorem dX5_parts_12 : decode cX5_parts 12 = .ok (.ireturn, 1) := by decide +kernel
theorem dX5_mouldCount_0 : decode cX5_mouldCount 0 = .ok (.aload_n 0, 1) := by decide +kernel
theorem dX5_mouldCount_1 : decode cX5_mouldCount 1 = .ok (.invokevirtual 88, 3) := by decide +kernel
theorem dX5_mouldCount_4 : decode cX5_mouldCount 4 = .ok (.getfield 100, 3) := by decide +kernel
theorem dX5_mouldCount_7 : decode cX5_mouldCount 7 = .ok (.ireturn, 1) := by decide +kernel
theorem dX5_mouldLength_0 : decode cX5_mouldLength 0 = .ok (.aload_n 0, 1) := by decide +kernel
theorem dX5_mouldLength_1 : decode cX5_mouldLength 1 = .ok (.invokevirtual 88, 3) := by decide +kernel
theorem dX5_mouldLength_4 : decode cX5_mouldLength 4 = .ok (.iload_n 1, 1) := by decide +kernel
theorem dX5_mouldLength_5 : decode cX5_mouldLength 5 = .ok (.invokevirtual 103, 3) := by decide +kernel
theorem dX5_mouldLength_8 : decode cX5_mouldLength 8 = .ok (.invokestatic 97, 3) := by decide +kernel
theorem dX5_mouldLength_11 : decode cX5_mouldLength 11 = .ok (.ireturn, 1) := by decide +kernel
theorem dX5_uses_0 : decode cX5_uses 0 = .ok (.aload_n 0, 1) := by decide +kernel
theorem dX5_uses_1 : decode cX5_uses 1 = .ok (.invokevirtual 88, 3) := by decide +kernel
theorem dX5_uses_4 : decode cX5_uses 4 = .ok (.iload_n 1, 1) := by decide +kernel
theorem dX5_uses_5 : decode cX5_uses 5 = .ok (.invokevirtual 106, 3) := by decide +kernel
theorem dX5_uses_8 : decode cX5_uses 8 = .ok (.invokestatic 97, 3) := by decide +kernel
theorem dX5_uses_11 : decode cX5_uses 11 = .ok (.ireturn, 1) := by decide +kernel
theorem dX5_stock_0 : decode cX5_stock 0 = .ok (.aload_n 0, 1) := by decide +kernel
theorem dX5_stock_1 : decode cX5_stock 1 = .ok (.invokevirtual 88, 3) := by decide +kernel
theorem dX5_stock_4 : decode cX5_stock 4 = .ok (.iload_n 1, 1) := by decide +kernel
theorem dX5_stock_5 : decode cX5_stock 5 = .ok (.invokevirtual 109, 3) := by decide +kernel
theorem dX5_stock_8 : decode cX5_stock 8 = .ok (.invokestatic 97, 3) := by decide +kernel
theorem dX5_stock_11 : decode cX5_stock 11 = .ok (.ireturn, 1) := by decide +kernel
theorem dX5_tolerance_0 : decode cX5_tolerance 0 = .ok (.aload_n 0, 1) := by decide +kernel
theorem dX5_tolerance_1 : decode cX5_tolerance 1 = .ok (.invokevirtual 88, 3) := by decide +kernel
theorem dX5_tolerance_4 : decode cX5_tolerance 4 = .ok (.getfield 112, 3) := by decide +kernel
theorem dX5_tolerance_7 : decode cX5_tolerance 7 = .ok (.ireturn, 1) := by decide +kernel
theorem dX5_step_0 : decode cX5_step 0 = .ok (.aload_n 0, 1) := by decide +kernel
theorem dX5_step_1 : decode cX5_step 1 = .ok (.invokevirtual 88, 3) := by decide +kernel
theorem dX5_step_4 : decode cX5_step 4 = .ok (.getfield 115, 3) := by decide +kernel
theorem dX5_step_7 : decode cX5_step 7 = .ok (.ireturn, 1) := by decide +kernel
theorem dX5_batchCount_0 : decode cX5_batchCount 0 = .ok (.aload_n 0, 1) := by decide +kernel
theorem dX5_batchCount_1 : decode cX5_batchCount 1 = .ok (.invokevirtual 88, 3) := by decide +kernel
theorem dX5_batchCount_4 : decode cX5_batchCount 4 = .ok (.getfield 118, 3) := by decide +kernel
theorem dX5_batchCount_7 : decode cX5_batchCount 7 = .ok (.ireturn, 1) := by decide +kernel
theorem dX5_batchAt_0 : decode cX5_batchAt 0 = .ok (.aload_n 0, 1) := by decide +kernel
theorem dX5_batchAt_1 : decode cX5_batchAt 1 = .ok (.invokevirtual 88, 3) := by decide +kernel
theorem dX5_batchAt_4 : decode cX5_batchAt 4 = .ok (.astore_n 2, 1) := by decide +kernel
theorem dX5_batchAt_5 : decode cX5_batchAt 5 = .ok (.iload_n 1, 1) := by decide +kernel
theorem dX5_batchAt_6 : decode cX5_batchAt 6 = .ok (.ifCond .lt 11, 3) := by decide +kernel
theorem dX5_batchAt_9 : decode cX5_batchAt 9 = .ok (.iload_n 1, 1) := by decide +kernel
theorem dX5_batchAt_10 : decode cX5_batchAt 10 = .ok (.aload_n 2, 1) := by decide +kernel
theorem dX5_batchAt_11 : decode cX5_batchAt 11 = .ok (.getfield 118, 3) := by decide +kernel
theorem dX5_batchAt_14 : decode cX5_batchAt 14 = .ok (.if_icmp .lt 13, 3) := by decide +kernel
theorem dX5_batchAt_17 : decode cX5_batchAt 17 = .ok (.new 121, 3) := by decide +kernel
theorem dX5_batchAt_20 : decode cX5_batchAt 20 = .ok (.dup, 1) := by decide +kernel
theorem dX5_batchAt_21 : decode cX5_batchAt 21 = .ok (.ldc 123, 2) := by decide +kernel
theorem dX5_batchAt_23 : decode cX5_batchAt 23 = .ok (.invokespecial 125, 3) := by decide +kernel
theorem dX5_batchAt_26 : decode cX5_batchAt 26 = .ok (.athrow, 1) := by decide +kernel
theorem dX5_batchAt_27 : decode cX5_batchAt 27 = .ok (.aload_n 2, 1) := by decide +kernel
theorem dX5_batchAt_28 : decode cX5_batchAt 28 = .ok (.getfield 128, 3) := by decide +kernel
theorem dX5_batchAt_31 : decode cX5_batchAt 31 = .ok (.iload_n 1, 1) := by decide +kernel
theorem dX5_batchAt_32 : decode cX5_batchAt 32 = .ok (.aaload, 1) := by decide +kernel
theorem dX5_batchAt_33 : decode cX5_batchAt 33 = .ok (.getfield 132, 3) := by decide +kernel
theorem dX5_batchAt_36 : decode cX5_batchAt 36 = .ok (.ireturn, 1) := by decide +kernel
theorem dX5_isFailed_0 : decode cX5_isFailed 0 = .ok (.aload_n 0, 1) := by decide +kernel
theorem dX5_isFailed_1 : decode cX5_isFailed 1 = .ok (.invokevirtual 88, 3) := by decide +kernel
theorem dX5_isFailed_4 : decode cX5_isFailed 4 = .ok (.getfield 128, 3) := by decide +kernel
theorem dX5_isFailed_7 : decode cX5_isFailed 7 = .ok (.aload_n 0, 1) := by decide +kernel
theorem dX5_isFailed_8 : decode cX5_isFailed 8 = .ok (.iload_n 1, 1) := by decide +kernel
theorem dX5_isFailed_9 : decode cX5_isFailed 9 = .ok (.invokevirtual 137, 3) := by decide +kernel
theorem dX5_isFailed_12 : decode cX5_isFailed 12 = .ok (.aaload, 1) := by decide +kernel
theorem dX5_isFailed_13 : decode cX5_isFailed 13 = .ok (.getfield 140, 3) := by decide +kernel
theorem dX5_isFailed_16 : decode cX5_isFailed 16 = .ok (.ireturn, 1) := by decide +kernel
theorem dX5_batchSize_0 : decode cX5_batchSize 0 = .ok (.aload_n 0, 1) := by decide +kernel
theorem dX5_batchSize_1 : decode cX5_batchSize 1 = .ok (.invokevirtual 88, 3) := by decide +kernel
theorem dX5_batchSize_4 : decode cX5_batchSize 4 = .ok (.getfield 128, 3) := by decide +kernel
theorem dX5_batchSize_7 : decode cX5_batchSize 7 = .ok (.aload_n 0, 1) := by decide +kernel
theorem dX5_batchSize_8 : decode cX5_batchSize 8 = .ok (.iload_n 1, 1) := by decide +kernel
theorem dX5_batchSize_9 : decode cX5_batchSize 9 = .ok (.invokevirtual 137, 3) := by decide +kernel
theorem dX5_batchSize_12 : decode cX5_batchSize 12 = .ok (.aaload, 1) := by decide +kernel
theorem dX5_batchSize_13 : decode cX5_batchSize 13 = .ok (.getfield 143, 3) := by decide +kernel
theorem dX5_batchSize_16 : decode cX5_batchSize 16 = .ok (.ireturn, 1) := by decide +kernel
theorem dX5_firstBow_0 : decode cX5_firstBow 0 = .ok (.aload_n 0, 1) := by decide +kernel
theorem dX5_firstBow_1 : decode cX5_firstBow 1 = .ok (.invokevirtual 88, 3) := by decide +kernel
theorem dX5_firstBow_4 : decode cX5_firstBow 4 = .ok (.getfield 128, 3) := by decide +kernel
theorem dX5_firstBow_7 : decode cX5_firstBow 7 = .ok (.aload_n 0, 1) := by decide +kernel
theorem dX5_firstBow_8 : decode cX5_firstBow 8 = .ok (.iload_n 1, 1) := by decide +kernel
theorem dX5_firstBow_9 : decode cX5_firstBow 9 = .ok (.invokevirtual 137, 3) := by decide +kernel
theorem dX5_firstBow_12 : decode cX5_firstBow 12 = .ok (.aaload, 1) := by decide +kernel
theorem dX5_firstBow_13 : decode cX5_firstBow 13 = .ok (.getfield 146, 3) := by decide +kernel
theorem dX5_firstBow_16 : decode cX5_firstBow 16 = .ok (.ireturn, 1) := by decide +kernel
theorem dX5_squeak_0 : decode cX5_squeak 0 = .ok (.aload_n 0, 1) := by decide +kernel
theorem dX5_squeak_1 : decode cX5_squeak 1 = .ok (.invokevirtual 88, 3) := by decide +kernel
theorem dX5_squeak_4 : decode cX5_squeak 4 = .ok (.iload_n 1, 1) := by decide +kernel
theorem dX5_squeak_5 : decode cX5_squeak 5 = .ok (.invokevirtual 149, 3) := by decide +kernel
theorem dX5_squeak_8 : decode cX5_squeak 8 = .ok (.invokestatic 97, 3) := by decide +kernel
theorem dX5_squeak_11 : decode cX5_squeak 11 = .ok (.ireturn, 1) := by decide +kernel
theorem dX5_batchOf_0 : decode cX5_batchOf 0 = .ok (.aload_n 0, 1) := by decide +kernel
theorem dX5_batchOf_1 : decode cX5_batchOf 1 = .ok (.invokevirtual 88, 3) := by decide +kernel
theorem dX5_batchOf_4 : decode cX5_batchOf 4 = .ok (.iload_n 1, 1) := by decide +kernel
theorem dX5_batchOf_5 : decode cX5_batchOf 5 = .ok (.invokevirtual 152, 3) := by decide +kernel
theorem dX5_batchOf_8 : decode cX5_batchOf 8 = .ok (.invokestatic 97, 3) := by decide +kernel
theorem dX5_batchOf_11 : decode cX5_batchOf 11 = .ok (.ireturn, 1) := by decide +kernel
theorem dX5_goodBows_0 : decode cX5_goodBows 0 = .ok (.aload_n 0, 1) := by decide +kernel
theorem dX5_goodBows_1 : decode cX5_goodBows 1 = .ok (.invokevirtual 88, 3) := by decide +kernel
theorem dX5_goodBows_4 : decode cX5_goodBows 4 = .ok (.getfield 128, 3) := by decide +kernel
theorem dX5_goodBows_7 : decode cX5_goodBows 7 = .ok (.aload_n 0, 1) := by decide +kernel
theorem dX5_goodBows_8 : decode cX5_goodBows 8 = .ok (.iload_n 1, 1) := by decide +kernel
theorem dX5_goodBows_9 : decode cX5_goodBows 9 = .ok (.invokevirtual 137, 3) := by decide +kernel
theorem dX5_goodBows_12 : decode cX5_goodBows 12 = .ok (.aaload, 1) := by decide +kernel
theorem dX5_goodBows_13 : decode cX5_goodBows 13 = .ok (.iconst 1, 1) := by decide +kernel
theorem dX5_goodBows_14 : decode cX5_goodBows 14 = .ok (.aload_n 0, 1) := by decide +kernel
theorem dX5_goodBows_15 : decode cX5_goodBows 15 = .ok (.invokevirtual 88, 3) := by decide +kernel
theorem dX5_goodBows_18 : decode cX5_goodBows 18 = .ok (.getfield 112, 3) := by decide +kernel
theorem dX5_goodBows_21 : decode cX5_goodBows 21 = .ok (.invokevirtual 155, 3) := by decide +kernel
theorem dX5_goodBows_24 : decode cX5_goodBows 24 = .ok (.ireturn, 1) := by decide +kernel
theorem dX5_sampleSize_0 : decode cX5_sampleSize 0 = .ok (.aload_n 0, 1) := by decide +kernel
theorem dX5_sampleSize_1 : decode cX5_sampleSize 1 = .ok (.invokevirtual 88, 3) := by decide +kernel
theorem dX5_sampleSize_4 : decode cX5_sampleSize 4 = .ok (.getfield 128, 3) := by decide +kernel
theorem dX5_sampleSize_7 : decode cX5_sampleSize 7 = .ok (.aload_n 0, 1) := by decide +kernel
theorem dX5_sampleSize_8 : decode cX5_sampleSize 8 = .ok (.iload_n 1, 1) := by decide +kernel
theorem dX5_sampleSize_9 : decode cX5_sampleSize 9 = .ok (.invokevirtual 137, 3) := by decide +kernel
theorem dX5_sampleSize_12 : decode cX5_sampleSize 12 = .ok (.aaload, 1) := by decide +kernel
theorem dX5_sampleSize_13 : decode cX5_sampleSize 13 = .ok (.aload_n 0, 1) := by decide +kernel
theorem dX5_sampleSize_14 : decode cX5_sampleSize 14 = .ok (.invokevirtual 88, 3) := by decide +kernel
theorem dX5_sampleSize_17 : decode cX5_sampleSize 17 = .ok (.getfield 115, 3) := by decide +kernel
theorem dX5_sampleSize_20 : decode cX5_sampleSize 20 = .ok (.invokevirtual 158, 3) := by decide +kernel
theorem dX5_sampleSize_23 : decode cX5_sampleSize 23 = .ok (.ireturn, 1) := by decide +kernel
theorem dX5_wouldPass_0 : decode cX5_wouldPass 0 = .ok (.aload_n 0, 1) := by decide +kernel
theorem dX5_wouldPass_1 : decode cX5_wouldPass 1 = .ok (.invokevirtual 88, 3) := by decide +kernel
theorem dX5_wouldPass_4 : decode cX5_wouldPass 4 = .ok (.getfield 128, 3) := by decide +kernel
theorem dX5_wouldPass_7 : decode cX5_wouldPass 7 = .ok (.aload_n 0, 1) := by decide +kernel
theorem dX5_wouldPass_8 : decode cX5_wouldPass 8 = .ok (.iload_n 1, 1) := by decide +kernel
theorem dX5_wouldPass_9 : decode cX5_wouldPass 9 = .ok (.invokevirtual 137, 3) := by decide +kernel
theorem dX5_wouldPass_12 : decode cX5_wouldPass 12 = .ok (.aaload, 1) := by decide +kernel
theorem dX5_wouldPass_13 : decode cX5_wouldPass 13 = .ok (.aload_n 0, 1) := by decide +kernel
theorem dX5_wouldPass_14 : decode cX5_wouldPass 14 = .ok (.invokevirtual 88, 3) := by decide +kernel
theorem dX5_wouldPass_17 : decode cX5_wouldPass 17 = .ok (.getfield 115, 3) := by decide +kernel
theorem dX5_wouldPass_20 : decode cX5_wouldPass 20 = .ok (.aload_n 0, 1) := by decide +kernel
theorem dX5_wouldPass_21 : decode cX5_wouldPass 21 = .ok (.invokevirtual 88, 3) := by decide +kernel
theorem dX5_wouldPass_24 : decode cX5_wouldPass 24 = .ok (.getfield 112, 3) := by decide +kernel
theorem dX5_wouldPass_27 : decode cX5_wouldPass 27 = .ok (.invokevirtual 161, 3) := by decide +kernel
theorem dX5_wouldPass_30 : decode cX5_wouldPass 30 = .ok (.ireturn, 1) := by decide +kernel
theorem dX5_neededTolerance_0 : decode cX5_neededTolerance 0 = .ok (.aload_n 0, 1) := by decide +kernel
theorem dX5_neededTolerance_1 : decode cX5_neededTolerance 1 = .ok (.invokevirtual 88, 3) := by decide +kernel
theorem dX5_neededTolerance_4 : decode cX5_neededTolerance 4 = .ok (.getfield 128, 3) := by decide +kernel
theorem dX5_neededTolerance_7 : decode cX5_neededTolerance 7 = .ok (.aload_n 0, 1) := by decide +kernel
theorem dX5_neededTolerance_8 : decode cX5_neededTolerance 8 = .ok (.iload_n 1, 1) := by decide +kernel
theorem dX5_neededTolerance_9 : decode cX5_neededTolerance 9 = .ok (.invokevirtual 137, 3) := by decide +kernel
theorem dX5_neededTolerance_12 : decode cX5_neededTolerance 12 = .ok (.aaload, 1) := by decide +kernel
theorem dX5_neededTolerance_13 : decode cX5_neededTolerance 13 = .ok (.aload_n 0, 1) := by decide +kernel
theorem dX5_neededTolerance_14 : decode cX5_neededTolerance 14 = .ok (.invokevirtual 88, 3) := by decide +kernel
theorem dX5_neededTolerance_17 : decode cX5_neededTolerance 17 = .ok (.getfield 115, 3) := by decide +kernel
theorem dX5_neededTolerance_20 : decode cX5_neededTolerance 20 = .ok (.invokevirtual 165, 3) := by decide +kernel
theorem dX5_neededTolerance_23 : decode cX5_neededTolerance 23 = .ok (.ireturn, 1) := by decide +kernel
theorem dX5_neededToleranceByTrying_0 : decode cX5_neededToleranceByTrying 0 = .ok (.aload_n 0, 1) := by decide +kernel
theorem dX5_neededToleranceByTrying_1 : decode cX5_neededToleranceByTrying 1 = .ok (.invokevirtual 88, 3) := by decide +kernel
theorem dX5_neededToleranceByTrying_4 : decode cX5_neededToleranceByTrying 4 = .ok (.getfield 128, 3) := by decide +kernel
theorem dX5_neededToleranceByTrying_7 : decode cX5_neededToleranceByTrying 7 = .ok (.aload_n 0, 1) := by decide +kernel
theorem dX5_neededToleranceByTrying_8 : decode cX5_neededToleranceByTrying 8 = .ok (.iload_n 1, 1) := by decide +kernel
theorem dX5_neededToleranceByTrying_9 : decode cX5_neededToleranceByTrying 9 = .ok (.invokevirtual 137, 3) := by decide +kernel
theorem dX5_neededToleranceByTrying_12 : decode cX5_neededToleranceByTrying 12 = .ok (.aaload, 1) := by decide +kernel
theorem dX5_neededToleranceByTrying_13 : decode cX5_neededToleranceByTrying 13 = .ok (.aload_n 0, 1) := by decide +kernel
theorem dX5_neededToleranceByTrying_14 : decode cX5_neededToleranceByTrying 14 = .ok (.invokevirtual 88, 3) := by decide +kernel
theorem dX5_neededToleranceByTrying_17 : decode cX5_neededToleranceByTrying 17 = .ok (.getfield 115, 3) := by decide +kernel
theorem dX5_neededToleranceByTrying_20 : decode cX5_neededToleranceByTrying 20 = .ok (.invokevirtual 168, 3) := by decide +kernel
theorem dX5_neededToleranceByTrying_23 : decode cX5_neededToleranceByTrying 23 = .ok (.ireturn, 1) := by decide +kernel
theorem dX5_nextSqueak_0 : decode cX5_nextSqueak 0 = .ok (.aload_n 0, 1) := by decide +kernel
theorem dX5_nextSqueak_1 : decode cX5_nextSqueak 1 = .ok (.invokevirtual 88, 3) := by decide +kernel
theorem dX5_nextSqueak_4 : decode cX5_nextSqueak 4 = .ok (.iload_n 1, 1) := by decide +kernel
theorem dX5_nextSqueak_5 : decode cX5_nextSqueak 5 = .ok (.iload_n 2, 1) := by decide +kernel
theorem dX5_nextSqueak_6 : decode cX5_nextSqueak 6 = .ok (.invokevirtual 171, 3) := by decide +kernel
theorem dX5_nextSqueak_9 : decode cX5_nextSqueak 9 = .ok (.invokestatic 97, 3) := by decide +kernel
theorem dX5_nextSqueak_12 : decode cX5_nextSqueak 12 = .ok (.ireturn, 1) := by decide +kernel
theorem dX5_possibleBows_0 : decode cX5_possibleBows 0 = .ok (.aload_n 0, 1) := by decide +kernel
theorem dX5_possibleBows_1 : decode cX5_possibleBows 1 = .ok (.invokevirtual 88, 3) := by decide +kernel
theorem dX5_possibleBows_4 : decode cX5_possibleBows 4 = .ok (.iload_n 1, 1) := by decide +kernel
theorem dX5_possibleBows_5 : decode cX5_possibleBows 5 = .ok (.invokevirtual 174, 3) := by decide +kernel
theorem dX5_possibleBows_8 : decode cX5_possibleBows 8 = .ok (.invokestatic 97, 3) := by decide +kernel
theorem dX5_possibleBows_11 : decode cX5_possibleBows 11 = .ok (.ireturn, 1) := by decide +kernel
theorem dX5_metalInBatches_0 : decode cX5_metalInBatches 0 = .ok (.aload_n 0, 1) := by decide +kernel
theorem dX5_metalInBatches_1 : decode cX5_metalInBatches 1 = .ok (.invokevirtual 88, 3) := by decide +kernel
theorem dX5_metalInBatches_4 : decode cX5_metalInBatches 4 = .ok (.iload_n 1, 1) := by decide +kernel
theorem dX5_metalInBatches_5 : decode cX5_metalInBatches 5 = .ok (.invokevirtual 177, 3) := by decide +kernel
theorem dX5_metalInBatches_8 : decode cX5_metalInBatches 8 = .ok (.invokestatic 97, 3) := by decide +kernel
theorem dX5_metalInBatches_11 : decode cX5_metalInBatches 11 = .ok (.ireturn, 1) := by decide +kernel
theorem dX5_metalByAccounts_0 : decode cX5_metalByAccounts 0 = .ok (.aload_n 0, 1) := by decide +kernel
theorem dX5_metalByAccounts_1 : decode cX5_metalByAccounts 1 = .ok (.invokevirtual 88, 3) := by decide +kernel
theorem dX5_metalByAccounts_4 : decode cX5_metalByAccounts 4 = .ok (.iload_n 1, 1) := by decide +kernel
theorem dX5_metalByAccounts_5 : decode cX5_metalByAccounts 5 = .ok (.invokevirtual 180, 3) := by decide +kernel
theorem dX5_metalByAccounts_8 : decode cX5_metalByAccounts 8 = .ok (.invokestatic 97, 3) := by decide +kernel
theorem dX5_metalByAccounts_11 : decode cX5_metalByAccounts 11 = .ok (.ireturn, 1) := by decide +kernel
theorem dX5_castTotal_0 : decode cX5_castTotal 0 = .ok (.aload_n 0, 1) := by decide +kernel
theorem dX5_castTotal_1 : decode cX5_castTotal 1 = .ok (.invokevirtual 88, 3) := by decide +kernel
theorem dX5_castTotal_4 : decode cX5_castTotal 4 = .ok (.getfield 186, 3) := by decide +kernel
theorem dX5_castTotal_7 : decode cX5_castTotal 7 = .ok (.ireturn, 1) := by decide +kernel
theorem dX5_soldTotal_0 : decode cX5_soldTotal 0 = .ok (.aload_n 0, 1) := by decide +kernel
theorem dX5_soldTotal_1 : decode cX5_soldTotal 1 = .ok (.invokevirtual 88, 3) := by decide +kernel
theorem dX5_soldTotal_4 : decode cX5_soldTotal 4 = .ok (.getfield 189, 3) := by decide +kernel
theorem dX5_soldTotal_7 : decode cX5_soldTotal 7 = .ok (.ireturn, 1) := by decide +kernel
theorem dX5_meltedTotal_0 : decode cX5_meltedTotal 0 = .ok (.aload_n 0, 1) := by decide +kernel
theorem dX5_meltedTotal_1 : decode cX5_meltedTotal 1 = .ok (.invokevirtual 88, 3) := by decide +kernel
theorem dX5_meltedTotal_4 : decode cX5_meltedTotal 4 = .ok (.getfield 192, 3) := by decide +kernel
theorem dX5_meltedTotal_7 : decode cX5_meltedTotal 7 = .ok (.ireturn, 1) := by decide +kernel
theorem dX5_lostGrams_0 : decode cX5_lostGrams 0 = .ok (.aload_n 0, 1) := by decide +kernel
theorem dX5_lostGrams_1 : decode cX5_lostGrams 1 = .ok (.invokevirtual 88, 3) := by decide +kernel
theorem dX5_lostGrams_4 : decode cX5_lostGrams 4 = .ok (.iload_n 1, 1) := by decide +kernel
theorem dX5_lostGrams_5 : decode cX5_lostGrams 5 = .ok (.invokevirtual 195, 3) := by decide +kernel
theorem dX5_lostGrams_8 : decode cX5_lostGrams 8 = .ok (.invokestatic 97, 3) := by decide +kernel
theorem dX5_lostGrams_11 : decode cX5_lostGrams 11 = .ok (.ireturn, 1) := by decide +kernel
theorem dX5_soldShare_0 : decode cX5_soldShare 0 = .ok (.aload_n 0, 1) := by decide +kernel
theorem dX5_soldShare_1 : decode cX5_soldShare 1 = .ok (.invokevirtual 88, 3) := by decide +kernel
theorem dX5_soldShare_4 : decode cX5_soldShare 4 = .ok (.getfield 186, 3) := by decide +kernel
theorem dX5_soldShare_7 : decode cX5_soldShare 7 = .ok (.istore_n 1, 1) := by decide +kernel
theorem dX5_soldShare_8 : decode cX5_soldShare 8 = .ok (.iload_n 1, 1) := by decide +kernel
theorem dX5_soldShare_9 : decode cX5_soldShare 9 = .ok (.ifCond .ne 13, 3) := by decide +kernel
theorem dX5_soldShare_12 : decode cX5_soldShare 12 = .ok (.new 202, 3) := by decide +kernel
theorem dX5_soldShare_15 : decode cX5_soldShare 15 = .ok (.dup, 1) := by decide +kernel
theorem dX5_soldShare_16 : decode cX5_soldShare 16 = .ok (.ldc 210, 2) := by decide +kernel
theorem dX5_soldShare_18 : decode cX5_soldShare 18 = .ok (.invokespecial 206, 3) := by decide +kernel
theorem dX5_soldShare_21 : decode cX5_soldShare 21 = .ok (.athrow, 1) := by decide +kernel
theorem dX5_soldShare_22 : decode cX5_soldShare 22 = .ok (.aload_n 0, 1) := by decide +kernel
theorem dX5_soldShare_23 : decode cX5_soldShare 23 = .ok (.invokevirtual 88, 3) := by decide +kernel
theorem dX5_soldShare_26 : decode cX5_soldShare 26 = .ok (.getfield 189, 3) := by decide +kernel
theorem dX5_soldShare_29 : decode cX5_soldShare 29 = .ok (.i2f, 1) := by decide +kernel
theorem dX5_soldShare_30 : decode cX5_soldShare 30 = .ok (.iload_n 1, 1) := by decide +kernel
theorem dX5_soldShare_31 : decode cX5_soldShare 31 = .ok (.i2f, 1) := by decide +kernel
theorem dX5_soldShare_32 : decode cX5_soldShare 32 = .ok (.fdiv, 1) := by decide +kernel
theorem dX5_soldShare_33 : decode cX5_soldShare 33 = .ok (.freturn, 1) := by decide +kernel
theorem dX5_isConsistent_0 : decode cX5_isConsistent 0 = .ok (.aload_n 0, 1) := by decide +kernel
theorem dX5_isConsistent_1 : decode cX5_isConsistent 1 = .ok (.invokevirtual 88, 3) := by decide +kernel
theorem dX5_isConsistent_4 : decode cX5_isConsistent 4 = .ok (.astore_n 1, 1) := by decide +kernel
theorem dX5_isConsistent_5 : decode cX5_isConsistent 5 = .ok (.aload_n 1, 1) := by decide +kernel
theorem dX5_isConsistent_6 : decode cX5_isConsistent 6 = .ok (.invokevirtual 212, 3) := by decide +kernel
theorem dX5_isConsistent_9 : decode cX5_isConsistent 9 = .ok (.ifCond .eq 21, 3) := by decide +kernel
theorem dX5_isConsistent_12 : decode cX5_isConsistent 12 = .ok (.aload_n 1, 1) := by decide +kernel
theorem dX5_isConsistent_13 : decode cX5_isConsistent 13 = .ok (.invokevirtual 216, 3) := by decide +kernel
theorem dX5_isConsistent_16 : decode cX5_isConsistent 16 = .ok (.ifCond .eq 14, 3) := by decide +kernel
theorem dX5_isConsistent_19 : decode cX5_isConsistent 19 = .ok (.aload_n 1, 1) := by decide +kernel
theorem dX5_isConsistent_20 : decode cX5_isConsistent 20 = .ok (.invokevirtual 219, 3) := by decide +kernel
theorem dX5_isConsistent_23 : decode cX5_isConsistent 23 = .ok (.ifCond .eq 7, 3) := by decide +kernel
theorem dX5_isConsistent_26 : decode cX5_isConsistent 26 = .ok (.iconst 1, 1) := by decide +kernel
theorem dX5_isConsistent_27 : decode cX5_isConsistent 27 = .ok (.goto 4, 3) := by decide +kernel
theorem dX5_isConsistent_30 : decode cX5_isConsistent 30 = .ok (.iconst 0, 1) := by decide +kernel
theorem dX5_isConsistent_31 : decode cX5_isConsistent 31 = .ok (.ireturn, 1) := by decide +kernel
theorem dX5_type_0 : decode cX5_type 0 = .ok (.iload_n 1, 1) := by decide +kernel
theorem dX5_type_1 : decode cX5_type 1 = .ok (.bipush 32, 2) := by decide +kernel
theorem dX5_type_3 : decode cX5_type 3 = .ok (.if_icmp .lt 9, 3) := by decide +kernel
theorem dX5_type_6 : decode cX5_type 6 = .ok (.iload_n 1, 1) := by decide +kernel
theorem dX5_type_7 : decode cX5_type 7 = .ok (.bipush 126, 2) := by decide +kernel
theorem dX5_type_9 : decode cX5_type 9 = .ok (.if_icmp .le 13, 3) := by decide +kernel
theorem dX5_type_12 : decode cX5_type 12 = .ok (.new 243, 3) := by decide +kernel
theorem dX5_type_15 : decode cX5_type 15 = .ok (.dup, 1) := by decide +kernel
theorem dX5_type_16 : decode cX5_type 16 = .ok (.ldc 245, 2) := by decide +kernel
theorem dX5_type_18 : decode cX5_type 18 = .ok (.invokespecial 247, 3) := by decide +kernel
theorem dX5_type_21 : decode cX5_type 21 = .ok (.athrow, 1) := by decide +kernel
theorem dX5_type_22 : decode cX5_type 22 = .ok (.aload_n 0, 1) := by decide +kernel
theorem dX5_type_23 : decode cX5_type 23 = .ok (.getfield 23, 3) := by decide +kernel
theorem dX5_type_26 : decode cX5_type 26 = .ok (.invokevirtual 248, 3) := by decide +kernel
theorem dX5_type_29 : decode cX5_type 29 = .ok (.bipush 60, 2) := by decide +kernel
theorem dX5_type_31 : decode cX5_type 31 = .ok (.if_icmp .lt 13, 3) := by decide +kernel
theorem dX5_type_34 : decode cX5_type 34 = .ok (.new 249, 3) := by decide +kernel
theorem dX5_type_37 : decode cX5_type 37 = .ok (.dup, 1) := by decide +kernel
theorem dX5_type_38 : decode cX5_type 38 = .ok (.ldc 251, 2) := by decide +kernel
theorem dX5_type_40 : decode cX5_type 40 = .ok (.invokespecial 253, 3) := by decide +kernel
theorem dX5_type_43 : decode cX5_type 43 = .ok (.athrow, 1) := by decide +kernel
theorem dX5_type_44 : decode cX5_type 44 = .ok (.aload_n 0, 1) := by decide +kernel
theorem dX5_type_45 : decode cX5_type 45 = .ok (.getfield 23, 3) := by decide +kernel
theorem dX5_type_48 : decode cX5_type 48 = .ok (.iload_n 1, 1) := by decide +kernel
theorem dX5_type_49 : decode cX5_type 49 = .ok (.invokevirtual 254, 3) := by decide +kernel
theorem dX5_type_52 : decode cX5_type 52 = .ok (.ireturn, 1) := by decide +kernel
theorem dX5_runScript_0 : decode cX5_runScript 0 = .ok (.aload_n 0, 1) := by decide +kernel
theorem dX5_runScript_1 : decode cX5_runScript 1 = .ok (.getfield 23, 3) := by decide +kernel
theorem dX5_runScript_4 : decode cX5_runScript 4 = .ok (.invokevirtual 258, 3) := by decide +kernel
theorem dX5_runScript_7 : decode cX5_runScript 7 = .ok (.istore_n 1, 1) := by decide +kernel
theorem dX5_runScript_8 : decode cX5_runScript 8 = .ok (.iload_n 1, 1) := by decide +kernel
theorem dX5_runScript_9 : decode cX5_runScript 9 = .ok (.iconst (-1), 1) := by decide +kernel
theorem dX5_runScript_10 : decode cX5_runScript 10 = .ok (.if_icmp .eq 26, 3) := by decide +kernel
theorem dX5_runScript_13 : decode cX5_runScript 13 = .ok (.aload_n 0, 1) := by decide +kernel
theorem dX5_runScript_14 : decode cX5_runScript 14 = .ok (.getfield 23, 3) := by decide +kernel
theorem dX5_runScript_17 : decode cX5_runScript 17 = .ok (.invokevirtual 261, 3) := by decide +kernel
theorem dX5_runScript_20 : decode cX5_runScript 20 = .ok (.aload_n 0, 1) := by decide +kernel
theorem dX5_runScript_21 : decode cX5_runScript 21 = .ok (.iload_n 1, 1) := by decide +kernel
theorem dX5_runScript_22 : decode cX5_runScript 22 = .ok (.putfield 45, 3) := by decide +kernel
theorem dX5_runScript_25 : decode cX5_runScript 25 = .ok (.new 243, 3) := by decide +kernel
theorem dX5_runScript_28 : decode cX5_runScript 28 = .ok (.dup, 1) := by decide +kernel
theorem dX5_runScript_29 : decode cX5_runScript 29 = .ok (.ldc_w 264, 3) := by decide +kernel
theorem dX5_runScript_32 : decode cX5_runScript 32 = .ok (.invokespecial 247, 3) := by decide +kernel
theorem dX5_runScript_35 : decode cX5_runScript 35 = .ok (.athrow, 1) := by decide +kernel
theorem dX5_runScript_36 : decode cX5_runScript 36 = .ok (.aload_n 0, 1) := by decide +kernel
theorem dX5_runScript_37 : decode cX5_runScript 37 = .ok (.getfield 23, 3) := by decide +kernel
theorem dX5_runScript_40 : decode cX5_runScript 40 = .ok (.aload_n 0, 1) := by decide +kernel
theorem dX5_runScript_41 : decode cX5_runScript 41 = .ok (.invokevirtual 51, 3) := by decide +kernel
theorem dX5_runScript_44 : decode cX5_runScript 44 = .ok (.invokevirtual 266, 3) := by decide +kernel
theorem dX5_runScript_47 : decode cX5_runScript 47 = .ok (.istore_n 2, 1) := by decide +kernel
theorem dX5_runScript_48 : decode cX5_runScript 48 = .ok (.aload_n 0, 1) := by decide +kernel
theorem dX5_runScript_49 : decode cX5_runScript 49 = .ok (.getfield 23, 3) := by decide +kernel
theorem dX5_runScript_52 : decode cX5_runScript 52 = .ok (.getfield 270, 3) := by decide +kernel
theorem dX5_runScript_55 : decode cX5_runScript 55 = .ok (.istore_n 3, 1) := by decide +kernel
theorem dX5_runScript_56 : decode cX5_runScript 56 = .ok (.aload_n 0, 1) := by decide +kernel
theorem dX5_runScript_57 : decode cX5_runScript 57 = .ok (.getfield 23, 3) := by decide +kernel
theorem dX5_runScript_60 : decode cX5_runScript 60 = .ok (.invokevirtual 261, 3) := by decide +kernel
theorem dX5_runScript_63 : decode cX5_runScript 63 = .ok (.iload_n 2, 1) := by decide +kernel
theorem dX5_runScript_64 : decode cX5_runScript 64 = .ok (.iconst (-1), 1) := by decide +kernel
theorem dX5_runScript_65 : decode cX5_runScript 65 = .ok (.if_icmp .eq 19, 3) := by decide +kernel
theorem dX5_runScript_68 : decode cX5_runScript 68 = .ok (.aload_n 0, 1) := by decide +kernel
theorem dX5_runScript_69 : decode cX5_runScript 69 = .ok (.iload_n 2, 1) := by decide +kernel
theorem dX5_runScript_70 : decode cX5_runScript 70 = .ok (.putfield 48, 3) := by decide +kernel
theorem dX5_runScript_73 : decode cX5_runScript 73 = .ok (.new 249, 3) := by decide +kernel
theorem dX5_runScript_76 : decode cX5_runScript 76 = .ok (.dup, 1) := by decide +kernel
theorem dX5_runScript_77 : decode cX5_runScript 77 = .ok (.ldc_w 273, 3) := by decide +kernel
theorem dX5_runScript_80 : decode cX5_runScript 80 = .ok (.invokespecial 253, 3) := by decide +kernel
theorem dX5_runScript_83 : decode cX5_runScript 83 = .ok (.athrow, 1) := by decide +kernel
theorem dX5_runScript_84 : decode cX5_runScript 84 = .ok (.aload_n 0, 1) := by decide +kernel
theorem dX5_runScript_85 : decode cX5_runScript 85 = .ok (.iload_n 3, 1) := by decide +kernel
theorem dX5_runScript_86 : decode cX5_runScript 86 = .ok (.invokevirtual 59, 3) := by decide +kernel
theorem dX5_runScript_89 : decode cX5_runScript 89 = .ok (.ireturn, 1) := by decide +kernel
theorem dX5_errorPosition_0 : decode cX5_errorPosition 0 = .ok (.aload_n 0, 1) := by decide +kernel
theorem dX5_errorPosition_1 : decode cX5_errorPosition 1 = .ok (.getfield 45, 3) := by decide +kernel
theorem dX5_errorPosition_4 : decode cX5_errorPosition 4 = .ok (.iconst (-1), 1) := by decide +kernel
theorem dX5_errorPosition_5 : decode cX5_errorPosition 5 = .ok (.if_icmp .ne 14, 3) := by decide +kernel
theorem dX5_errorPosition_8 : decode cX5_errorPosition 8 = .ok (.new 121, 3) := by decide +kernel
theorem dX5_errorPosition_11 : decode cX5_errorPosition 11 = .ok (.dup, 1) := by decide +kernel
theorem dX5_errorPosition_12 : decode cX5_errorPosition 12 = .ok (.ldc_w 275, 3) := by decide +kernel
theorem dX5_errorPosition_15 : decode cX5_errorPosition 15 = .ok (.invokespecial 125, 3) := by decide +kernel
theorem dX5_errorPosition_18 : decode cX5_errorPosition 18 = .ok (.athrow, 1) := by decide +kernel
theorem dX5_errorPosition_19 : decode cX5_errorPosition 19 = .ok (.aload_n 0, 1) := by decide +kernel
theorem dX5_errorPosition_20 : decode cX5_errorPosition 20 = .ok (.getfield 45, 3) := by decide +kernel
theorem dX5_errorPosition_23 : decode cX5_errorPosition 23 = .ok (.ireturn, 1) := by decide +kernel
theorem dX5_failedCommand_0 : decode cX5_failedCommand 0 = .ok (.aload_n 0, 1) := by decide +kernel
theorem dX5_failedCommand_1 : decode cX5_failedCommand 1 = .ok (.getfield 48, 3) := by decide +kernel
theorem dX5_failedCommand_4 : decode cX5_failedCommand 4 = .ok (.iconst (-1), 1) := by decide +kernel
theorem dX5_failedCommand_5 : decode cX5_failedCommand 5 = .ok (.if_icmp .ne 14, 3) := by decide +kernel
theorem dX5_failedCommand_8 : decode cX5_failedCommand 8 = .ok (.new 121, 3) := by decide +kernel
theorem dX5_failedCommand_11 : decode cX5_failedCommand 11 = .ok (.dup, 1) := by decide +kernel
theorem dX5_failedCommand_12 : decode cX5_failedCommand 12 = .ok (.ldc_w 277, 3) := by decide +kernel
theorem dX5_failedCommand_15 : decode cX5_failedCommand 15 = .ok (.invokespecial 125, 3) := by decide +kernel
theorem dX5_failedCommand_18 : decode cX5_failedCommand 18 = .ok (.athrow, 1) := by decide +kernel
theorem dX5_failedCommand_19 : decode cX5_failedCommand 19 = .ok (.aload_n 0, 1) := by decide +kernel
theorem dX5_failedCommand_20 : decode cX5_failedCommand 20 = .ok (.getfield 48, 3) := by decide +kernel
theorem dX5_failedCommand_23 : decode cX5_failedCommand 23 = .ok (.ireturn, 1) := by decide +kernel
theorem dX5_undo_0 : decode cX5_undo 0 = .ok (.aload_n 0, 1) := by decide +kernel
theorem dX5_undo_1 : decode cX5_undo 1 = .ok (.getfield 38, 3) := by decide +kernel
theorem dX5_undo_4 : decode cX5_undo 4 = .ok (.ifCond .ne 14, 3) := by decide +kernel
theorem dX5_undo_7 : decode cX5_undo 7 = .ok (.new 249, 3) := by decide +kernel
theorem dX5_undo_10 : decode cX5_undo 10 = .ok (.dup, 1) := by decide +kernel
theorem dX5_undo_11 : decode cX5_undo 11 = .ok (.ldc_w 279, 3) := by decide +kernel
theorem dX5_undo_14 : decode cX5_undo 14 = .ok (.invokespecial 253, 3) := by decide +kernel
theorem dX5_undo_17 : decode cX5_undo 17 = .ok (.athrow, 1) := by decide +kernel
theorem dX5_undo_18 : decode cX5_undo 18 = .ok (.aload_n 0, 1) := by decide +kernel
theorem dX5_undo_19 : decode cX5_undo 19 = .ok (.aload_n 0, 1) := by decide +kernel
theorem dX5_undo_20 : decode cX5_undo 20 = .ok (.getfield 34, 3) := by decide +kernel
theorem dX5_undo_23 : decode cX5_undo 23 = .ok (.ifCond .ne 8, 3) := by decide +kernel
theorem dX5_undo_26 : decode cX5_undo 26 = .ok (.bipush 9, 2) := by decide +kernel
theorem dX5_undo_28 : decode cX5_undo 28 = .ok (.goto 9, 3) := by decide +kernel
theorem dX5_undo_31 : decode cX5_undo 31 = .ok (.aload_n 0, 1) := by decide +kernel
theorem dX5_undo_32 : decode cX5_undo 32 = .ok (.getfield 34, 3) := by decide +kernel
theorem dX5_undo_35 : decode cX5_undo 35 = .ok (.iconst 1, 1) := by decide +kernel
theorem dX5_undo_36 : decode cX5_undo 36 = .ok (.isub, 1) := by decide +kernel
theorem dX5_undo_37 : decode cX5_undo 37 = .ok (.putfield 34, 3) := by decide +kernel
theorem dX5_undo_40 : decode cX5_undo 40 = .ok (.aload_n 0, 1) := by decide +kernel
theorem dX5_undo_41 : decode cX5_undo 41 = .ok (.dup, 1) := by decide +kernel
theorem dX5_undo_42 : decode cX5_undo 42 = .ok (.getfield 38, 3) := by decide +kernel
theorem dX5_undo_45 : decode cX5_undo 45 = .ok (.iconst 1, 1) := by decide +kernel
theorem dX5_undo_46 : decode cX5_undo 46 = .ok (.isub, 1) := by decide +kernel
theorem dX5_undo_47 : decode cX5_undo 47 = .ok (.putfield 38, 3) := by decide +kernel
theorem dX5_undo_50 : decode cX5_undo 50 = .ok (.aload_n 0, 1) := by decide +kernel
theorem dX5_undo_51 : decode cX5_undo 51 = .ok (.getfield 38, 3) := by decide +kernel
theorem dX5_undo_54 : decode cX5_undo 54 = .ok (.ireturn, 1) := by decide +kernel
theorem dX5_save_0 : decode cX5_save 0 = .ok (.aload_n 0, 1) := by decide +kernel
theorem dX5_save_1 : decode cX5_save 1 = .ok (.getfield 16, 3) := by decide +kernel
theorem dX5_save_4 : decode cX5_save 4 = .ok (.aload_n 0, 1) := by decide +kernel
theorem dX5_save_5 : decode cX5_save 5 = .ok (.invokevirtual 88, 3) := by decide +kernel
theorem dX5_save_8 : decode cX5_save 8 = .ok (.invokevirtual 281, 3) := by decide +kernel
theorem dX5_save_11 : decode cX5_save 11 = .ok (.aload_n 0, 1) := by decide +kernel
theorem dX5_save_12 : decode cX5_save 12 = .ok (.iconst 1, 1) := by decide +kernel
theorem dX5_save_13 : decode cX5_save 13 = .ok (.putfield 41, 3) := by decide +kernel
theorem dX5_save_16 : decode cX5_save 16 = .ok (.aload_n 0, 1) := by decide +kernel
theorem dX5_save_17 : decode cX5_save 17 = .ok (.getfield 16, 3) := by decide +kernel
theorem dX5_save_20 : decode cX5_save 20 = .ok (.getfield 118, 3) := by decide +kernel
theorem dX5_save_23 : decode cX5_save 23 = .ok (.ireturn, 1) := by decide +kernel
theorem dX5_restore_0 : decode cX5_restore 0 = .ok (.aload_n 0, 1) := by decide +kernel
theorem dX5_restore_1 : decode cX5_restore 1 = .ok (.getfield 41, 3) := by decide +kernel
theorem dX5_restore_4 : decode cX5_restore 4 = .ok (.ifCond .ne 14, 3) := by decide +kernel
theorem dX5_restore_7 : decode cX5_restore 7 = .ok (.new 249, 3) := by decide +kernel
theorem dX5_restore_10 : decode cX5_restore 10 = .ok (.dup, 1) := by decide +kernel
theorem dX5_restore_11 : decode cX5_restore 11 = .ok (.ldc_w 285, 3) := by decide +kernel
theorem dX5_restore_14 : decode cX5_restore 14 = .ok (.invokespecial 253, 3) := by decide +kernel
theorem dX5_restore_17 : decode cX5_restore 17 = .ok (.athrow, 1) := by decide +kernel
theorem dX5_restore_18 : decode cX5_restore 18 = .ok (.aload_n 0, 1) := by decide +kernel
theorem dX5_restore_19 : decode cX5_restore 19 = .ok (.invokevirtual 88, 3) := by decide +kernel
theorem dX5_restore_22 : decode cX5_restore 22 = .ok (.aload_n 0, 1) := by decide +kernel
theorem dX5_restore_23 : decode cX5_restore 23 = .ok (.getfield 16, 3) := by decide +kernel
theorem dX5_restore_26 : decode cX5_restore 26 = .ok (.invokevirtual 281, 3) := by decide +kernel
theorem dX5_restore_29 : decode cX5_restore 29 = .ok (.aload_n 0, 1) := by decide +kernel
theorem dX5_restore_30 : decode cX5_restore 30 = .ok (.iconst 0, 1) := by decide +kernel
theorem dX5_restore_31 : decode cX5_restore 31 = .ok (.putfield 38, 3) := by decide +kernel
theorem dX5_restore_34 : decode cX5_restore 34 = .ok (.aload_n 0, 1) := by decide +kernel
theorem dX5_restore_35 : decode cX5_restore 35 = .ok (.getfield 16, 3) := by decide +kernel
theorem dX5_restore_38 : decode cX5_restore 38 = .ok (.getfield 118, 3) := by decide +kernel
theorem dX5_restore_41 : decode cX5_restore 41 = .ok (.ireturn, 1) := by decide +kernel
theorem dX5_now_0 : decode cX5_now 0 = .ok (.aload_n 0, 1) := by decide +kernel
theorem dX5_now_1 : decode cX5_now 1 = .ok (.getfield 11, 3) := by decide +kernel
theorem dX5_now_4 : decode cX5_now 4 = .ok (.aload_n 0, 1) := by decide +kernel
theorem dX5_now_5 : decode cX5_now 5 = .ok (.getfield 34, 3) := by decide +kernel
theorem dX5_now_8 : decode cX5_now 8 = .ok (.aaload, 1) := by decide +kernel
theorem dX5_now_9 : decode cX5_now 9 = .ok (.areturn, 1) := by decide +kernel
theorem dX5_following_0 : decode cX5_following 0 = .ok (.aload_n 0, 1) := by decide +kernel
theorem dX5_following_1 : decode cX5_following 1 = .ok (.getfield 34, 3) := by decide +kernel
theorem dX5_following_4 : decode cX5_following 4 = .ok (.bipush 9, 2) := by decide +kernel
theorem dX5_following_6 : decode cX5_following 6 = .ok (.if_icmp .ne 7, 3) := by decide +kernel
theorem dX5_following_9 : decode cX5_following 9 = .ok (.iconst 0, 1) := by decide +kernel
theorem dX5_following_10 : decode cX5_following 10 = .ok (.goto 9, 3) := by decide +kernel
theorem dX5_following_13 : decode cX5_following 13 = .ok (.aload_n 0, 1) := by decide +kernel
theorem dX5_following_14 : decode cX5_following 14 = .ok (.getfield 34, 3) := by decide +kernel
theorem dX5_following_17 : decode cX5_following 17 = .ok (.iconst 1, 1) := by decide +kernel
theorem dX5_following_18 : decode cX5_following 18 = .ok (.iadd, 1) := by decide +kernel
theorem dX5_following_19 : decode cX5_following 19 = .ok (.ireturn, 1) := by decide +kernel
theorem dX5_draft_0 : decode cX5_draft 0 = .ok (.aload_n 0, 1) := by decide +kernel
theorem dX5_draft_1 : decode cX5_draft 1 = .ok (.getfield 11, 3) := by decide +kernel
theorem dX5_draft_4 : decode cX5_draft 4 = .ok (.aload_n 0, 1) := by decide +kernel
theorem dX5_draft_5 : decode cX5_draft 5 = .ok (.invokevirtual 287, 3) := by decide +kernel
theorem dX5_draft_8 : decode cX5_draft 8 = .ok (.aaload, 1) := by decide +kernel
theorem dX5_draft_9 : decode cX5_draft 9 = .ok (.astore_n 1, 1) := by decide +kernel
theorem dX5_draft_10 : decode cX5_draft 10 = .ok (.aload_n 1, 1) := by decide +kernel
theorem dX5_draft_11 : decode cX5_draft 11 = .ok (.aload_n 0, 1) := by decide +kernel
theorem dX5_draft_12 : decode cX5_draft 12 = .ok (.invokevirtual 88, 3) := by decide +kernel
theorem dX5_draft_15 : decode cX5_draft 15 = .ok (.invokevirtual 281, 3) := by decide +kernel
theorem dX5_draft_18 : decode cX5_draft 18 = .ok (.aload_n 1, 1) := by decide +kernel
theorem dX5_draft_19 : decode cX5_draft 19 = .ok (.areturn, 1) := by decide +kernel
theorem dX5_kept_0 : decode cX5_kept 0 = .ok (.iload_n 1, 1) := by decide +kernel
theorem dX5_kept_1 : decode cX5_kept 1 = .ok (.invokestatic 97, 3) := by decide +kernel
theorem dX5_kept_4 : decode cX5_kept 4 = .ok (.istore_n 2, 1) := by decide +kernel
theorem dX5_kept_5 : decode cX5_kept 5 = .ok (.aload_n 0, 1) := by decide +kernel
theorem dX5_kept_6 : decode cX5_kept 6 = .ok (.aload_n 0, 1) := by decide +kernel
theorem dX5_kept_7 : decode cX5_kept 7 = .ok (.invokevirtual 287, 3) := by decide +kernel
theorem dX5_kept_10 : decode cX5_kept 10 = .ok (.putfield 34, 3) := by decide +kernel
theorem dX5_kept_13 : decode cX5_kept 13 = .ok (.aload_n 0, 1) := by decide +kernel
theorem dX5_kept_14 : decode cX5_kept 14 = .ok (.aload_n 0, 1) := by decide +kernel
theorem dX5_kept_15 : decode cX5_kept 15 = .ok (.getfield 38, 3) := by decide +kernel
theorem dX5_kept_18 : decode cX5_kept 18 = .ok (.iconst 1, 1) := by decide +kernel
theorem dX5_kept_19 : decode cX5_kept 19 = .ok (.iadd, 1) := by decide +kernel
theorem dX5_kept_20 : decode cX5_kept 20 = .ok (.bipush 8, 2) := by decide +kernel
theorem dX5_kept_22 : decode cX5_kept 22 = .ok (.invokestatic 290, 3) := by decide +kernel
theorem dX5_kept_25 : decode cX5_kept 25 = .ok (.putfield 38, 3) := by decide +kernel
theorem dX5_kept_28 : decode cX5_kept 28 = .ok (.iload_n 2, 1) := by decide +kernel
theorem dX5_kept_29 : decode cX5_kept 29 = .ok (.ireturn, 1) := by decide +kernel
theorem dX5_placeOf_0 : decode cX5_placeOf 0 = .ok (.aload_n 0, 1) := by decide +kernel
theorem dX5_placeOf_1 : decode cX5_placeOf 1 = .ok (.invokevirtual 88, 3) := by decide +kernel
theorem dX5_placeOf_4 : decode cX5_placeOf 4 = .ok (.iload_n 1, 1) := by decide +kernel
theorem dX5_placeOf_5 : decode cX5_placeOf 5 = .ok (.invokevirtual 295, 3) := by decide +kernel
theorem dX5_placeOf_8 : decode cX5_placeOf 8 = .ok (.invokestatic 97, 3) := by decide +kernel
theorem dX5_placeOf_11 : decode cX5_placeOf 11 = .ok (.ireturn, 1) := by decide +kernel
theorem dX5_answered_0 : decode cX5_answered 0 = .ok (.iload_n 0, 1) := by decide +kernel
theorem dX5_answered_1 : decode cX5_answered 1 = .ok (.tableswitch 90 (-5) (-1) #[79, 68, 57, 46, 35], 35) := by decide +kernel
theorem dX5_answered_36 : decode cX5_answered 36 = .ok (.new 234, 3) := by decide +kernel
theorem dX5_answered_39 : decode cX5_answered 39 = .ok (.dup, 1) := by decide +kernel
theorem dX5_answered_40 : decode cX5_answered 40 = .ok (.ldc_w 298, 3) := by decide +kernel
theorem dX5_answered_43 : decode cX5_answered 43 = .ok (.invokespecial 238, 3) := by decide +kernel
theorem dX5_answered_46 : decode cX5_answered 46 = .ok (.athrow, 1) := by decide +kernel
theorem dX5_answered_47 : decode cX5_answered 47 = .ok (.new 243, 3) := by decide +kernel
theorem dX5_answered_50 : decode cX5_answered 50 = .ok (.dup, 1) := by decide +kernel
theorem dX5_answered_51 : decode cX5_answered 51 = .ok (.ldc_w 300, 3) := by decide +kernel
theorem dX5_answered_54 : decode cX5_answered 54 = .ok (.invokespecial 247, 3) := by decide +kernel
theorem dX5_answered_57 : decode cX5_answered 57 = .ok (.athrow, 1) := by decide +kernel
theorem dX5_answered_58 : decode cX5_answered 58 = .ok (.new 249, 3) := by decide +kernel
theorem dX5_answered_61 : decode cX5_answered 61 = .ok (.dup, 1) := by decide +kernel
theorem dX5_answered_62 : decode cX5_answered 62 = .ok (.ldc_w 302, 3) := by decide +kernel
theorem dX5_answered_65 : decode cX5_answered 65 = .ok (.invokespecial 253, 3) := by decide +kernel
theorem dX5_answered_68 : decode cX5_answered 68 = .ok (.athrow, 1) := by decide +kernel
theorem dX5_answered_69 : decode cX5_answered 69 = .ok (.new 304, 3) := by decide +kernel
theorem dX5_answered_72 : decode cX5_answered 72 = .ok (.dup, 1) := by decide +kernel
theorem dX5_answered_73 : decode cX5_answered 73 = .ok (.ldc_w 306, 3) := by decide +kernel
theorem dX5_answered_76 : decode cX5_answered 76 = .ok (.invokespecial 308, 3) := by decide +kernel
theorem dX5_answered_79 : decode cX5_answered 79 = .ok (.athrow, 1) := by decide +kernel
theorem dX5_answered_80 : decode cX5_answered 80 = .ok (.new 121, 3) := by decide +kernel
theorem dX5_answered_83 : decode cX5_answered 83 = .ok (.dup, 1) := by decide +kernel
theorem dX5_answered_84 : decode cX5_answered 84 = .ok (.ldc_w 309, 3) := by decide +kernel
theorem dX5_answered_87 : decode cX5_answered 87 = .ok (.invokespecial 125, 3) := by decide +kernel
theorem dX5_answered_90 : decode cX5_answered 90 = .ok (.athrow, 1) := by decide +kernel
theorem dX5_answered_91 : decode cX5_answered 91 = .ok (.iload_n 0, 1) := by decide +kernel
theorem dX5_answered_92 : decode cX5_answered 92 = .ok (.ireturn, 1) := by decide +kernel
theorem dX5_copyRow_0 : decode cX5_copyRow 0 = .ok (.aload_n 0, 1) := by decide +kernel
theorem dX5_copyRow_1 : decode cX5_copyRow 1 = .ok (.iconst 0, 1) := by decide +kernel
theorem dX5_copyRow_2 : decode cX5_copyRow 2 = .ok (.aload_n 1, 1) := by decide +kernel
theorem dX5_copyRow_3 : decode cX5_copyRow 3 = .ok (.iconst 0, 1) := by decide +kernel
theorem dX5_copyRow_4 : decode cX5_copyRow 4 = .ok (.aload_n 0, 1) := by decide +kernel
theorem dX5_copyRow_5 : decode cX5_copyRow 5 = .ok (.arraylength, 1) := by decide +kernel
theorem dX5_copyRow_6 : decode cX5_copyRow 6 = .ok (.aload_n 1, 1) := by decide +kernel
theorem dX5_copyRow_7 : decode cX5_copyRow 7 = .ok (.arraylength, 1) := by decide +kernel
theorem dX5_copyRow_8 : decode cX5_copyRow 8 = .ok (.invokestatic 290, 3) := by decide +kernel
theorem dX5_copyRow_11 : decode cX5_copyRow 11 = .ok (.invokestatic 311, 3) := by decide +kernel
theorem dX5_copyRow_14 : decode cX5_copyRow 14 = .ok (.return_, 1) := by decide +kernel
