-- decode rows, as printed
theorem dL_addAlloy_0 : decode cL_addAlloy 0 = .ok (.aload 4, 2) := by decide +kernel
theorem dL_addAlloy_2 : decode cL_addAlloy 2 = .ok (.iconst 0, 1) := by decide +kernel
theorem dL_addAlloy_3 : decode cL_addAlloy 3 = .ok (.aload_n 0, 1) := by decide +kernel
theorem dL_addAlloy_4 : decode cL_addAlloy 4 = .ok (.iload_n 1, 1) := by decide +kernel
theorem dL_addAlloy_5 : decode cL_addAlloy 5 = .ok (.iload_n 2, 1) := by decide +kernel
theorem dL_addAlloy_6 : decode cL_addAlloy 6 = .ok (.iload_n 3, 1) := by decide +kernel
theorem dL_addAlloy_7 : decode cL_addAlloy 7 = .ok (.invokevirtual 7, 3) := by decide +kernel
theorem dL_addAlloy_10 : decode cL_addAlloy 10 = .ok (.i2l, 1) := by decide +kernel
theorem dL_addAlloy_11 : decode cL_addAlloy 11 = .ok (.lastore, 1) := by decide +kernel
theorem dL_addAlloy_12 : decode cL_addAlloy 12 = .ok (.goto 11, 3) := by decide +kernel
theorem dL_addAlloy_15 : decode cL_addAlloy 15 = .ok (.astore 5, 2) := by decide +kernel
theorem dL_addAlloy_17 : decode cL_addAlloy 17 = .ok (.iconst 1, 1) := by decide +kernel
theorem dL_addAlloy_18 : decode cL_addAlloy 18 = .ok (.ireturn, 1) := by decide +kernel
theorem dL_addAlloy_19 : decode cL_addAlloy 19 = .ok (.astore 5, 2) := by decide +kernel
theorem dL_addAlloy_21 : decode cL_addAlloy 21 = .ok (.iconst 2, 1) := by decide +kernel
theorem dL_addAlloy_22 : decode cL_addAlloy 22 = .ok (.ireturn, 1) := by decide +kernel
theorem dL_addAlloy_23 : decode cL_addAlloy 23 = .ok (.iconst 0, 1) := by decide +kernel
theorem dL_addAlloy_24 : decode cL_addAlloy 24 = .ok (.ireturn, 1) := by decide +kernel
theorem dL_addMould_0 : decode cL_addMould 0 = .ok (.aload_n 2, 1) := by decide +kernel
theorem dL_addMould_1 : decode cL_addMould 1 = .ok (.iconst 0, 1) := by decide +kernel
theorem dL_addMould_2 : decode cL_addMould 2 = .ok (.aload_n 0, 1) := by decide +kernel
theorem dL_addMould_3 : decode cL_addMould 3 = .ok (.iload_n 1, 1) := by decide +kernel
theorem dL_addMould_4 : decode cL_addMould 4 = .ok (.invokevirtual 17, 3) := by decide +kernel
theorem dL_addMould_7 : decode cL_addMould 7 = .ok (.i2l, 1) := by decide +kernel
theorem dL_addMould_8 : decode cL_addMould 8 = .ok (.lastore, 1) := by decide +kernel
theorem dL_addMould_9 : decode cL_addMould 9 = .ok (.goto 9, 3) := by decide +kernel
theorem dL_addMould_12 : decode cL_addMould 12 = .ok (.astore_n 3, 1) := by decide +kernel
theorem dL_addMould_13 : decode cL_addMould 13 = .ok (.iconst 1, 1) := by decide +kernel
theorem dL_addMould_14 : decode cL_addMould 14 = .ok (.ireturn, 1) := by decide +kernel
theorem dL_addMould_15 : decode cL_addMould 15 = .ok (.astore_n 3, 1) := by decide +kernel
theorem dL_addMould_16 : decode cL_addMould 16 = .ok (.iconst 2, 1) := by decide +kernel
theorem dL_addMould_17 : decode cL_addMould 17 = .ok (.ireturn, 1) := by decide +kernel
theorem dL_addMould_18 : decode cL_addMould 18 = .ok (.iconst 0, 1) := by decide +kernel
theorem dL_addMould_19 : decode cL_addMould 19 = .ok (.ireturn, 1) := by decide +kernel
theorem dL_buy_0 : decode cL_buy 0 = .ok (.aload_n 3, 1) := by decide +kernel
theorem dL_buy_1 : decode cL_buy 1 = .ok (.iconst 0, 1) := by decide +kernel
theorem dL_buy_2 : decode cL_buy 2 = .ok (.aload_n 0, 1) := by decide +kernel
theorem dL_buy_3 : decode cL_buy 3 = .ok (.iload_n 1, 1) := by decide +kernel
theorem dL_buy_4 : decode cL_buy 4 = .ok (.iload_n 2, 1) := by decide +kernel
theorem dL_buy_5 : decode cL_buy 5 = .ok (.invokevirtual 21, 3) := by decide +kernel
theorem dL_buy_8 : decode cL_buy 8 = .ok (.i2l, 1) := by decide +kernel
theorem dL_buy_9 : decode cL_buy 9 = .ok (.lastore, 1) := by decide +kernel
theorem dL_buy_10 : decode cL_buy 10 = .ok (.goto 15, 3) := by decide +kernel
theorem dL_buy_13 : decode cL_buy 13 = .ok (.astore 4, 2) := by decide +kernel
theorem dL_buy_15 : decode cL_buy 15 = .ok (.iconst 1, 1) := by decide +kernel
theorem dL_buy_16 : decode cL_buy 16 = .ok (.ireturn, 1) := by decide +kernel
theorem dL_buy_17 : decode cL_buy 17 = .ok (.astore 4, 2) := by decide +kernel
theorem dL_buy_19 : decode cL_buy 19 = .ok (.iconst 2, 1) := by decide +kernel
theorem dL_buy_20 : decode cL_buy 20 = .ok (.ireturn, 1) := by decide +kernel
theorem dL_buy_21 : decode cL_buy 21 = .ok (.astore 4, 2) := by decide +kernel
theorem dL_buy_23 : decode cL_buy 23 = .ok (.iconst 3, 1) := by decide +kernel
theorem dL_buy_24 : decode cL_buy 24 = .ok (.ireturn, 1) := by decide +kernel
theorem dL_buy_25 : decode cL_buy 25 = .ok (.iconst 0, 1) := by decide +kernel
theorem dL_buy_26 : decode cL_buy 26 = .ok (.ireturn, 1) := by decide +kernel
theorem dL_cast_0 : decode cL_cast 0 = .ok (.aload 4, 2) := by decide +kernel
theorem dL_cast_2 : decode cL_cast 2 = .ok (.iconst 0, 1) := by decide +kernel
theorem dL_cast_3 : decode cL_cast 3 = .ok (.aload_n 0, 1) := by decide +kernel
theorem dL_cast_4 : decode cL_cast 4 = .ok (.iload_n 1, 1) := by decide +kernel
theorem dL_cast_5 : decode cL_cast 5 = .ok (.iload_n 2, 1) := by decide +kernel
theorem dL_cast_6 : decode cL_cast 6 = .ok (.iload_n 3, 1) := by decide +kernel
theorem dL_cast_7 : decode cL_cast 7 = .ok (.invokevirtual 27, 3) := by decide +kernel
theorem dL_cast_10 : decode cL_cast 10 = .ok (.i2l, 1) := by decide +kernel
theorem dL_cast_11 : decode cL_cast 11 = .ok (.lastore, 1) := by decide +kernel
theorem dL_cast_12 : decode cL_cast 12 = .ok (.goto 19, 3) := by decide +kernel
theorem dL_cast_15 : decode cL_cast 15 = .ok (.astore 5, 2) := by decide +kernel
theorem dL_cast_17 : decode cL_cast 17 = .ok (.iconst 1, 1) := by decide +kernel
theorem dL_cast_18 : decode cL_cast 18 = .ok (.ireturn, 1) := by decide +kernel
theorem dL_cast_19 : decode cL_cast 19 = .ok (.astore 5, 2) := by decide +kernel
theorem dL_cast_21 : decode cL_cast 21 = .ok (.iconst 2, 1) := by decide +kernel
theorem dL_cast_22 : decode cL_cast 22 = .ok (.ireturn, 1) := by decide +kernel
theorem dL_cast_23 : decode cL_cast 23 = .ok (.astore 5, 2) := by decide +kernel
theorem dL_cast_25 : decode cL_cast 25 = .ok (.iconst 3, 1) := by decide +kernel
theorem dL_cast_26 : decode cL_cast 26 = .ok (.ireturn, 1) := by decide +kernel
theorem dL_cast_27 : decode cL_cast 27 = .ok (.astore 5, 2) := by decide +kernel
theorem dL_cast_29 : decode cL_cast 29 = .ok (.iconst 4, 1) := by decide +kernel
theorem dL_cast_30 : decode cL_cast 30 = .ok (.ireturn, 1) := by decide +kernel
theorem dL_cast_31 : decode cL_cast 31 = .ok (.iconst 0, 1) := by decide +kernel
theorem dL_cast_32 : decode cL_cast 32 = .ok (.ireturn, 1) := by decide +kernel
theorem dL_inspect_0 : decode cL_inspect 0 = .ok (.aload_n 2, 1) := by decide +kernel
theorem dL_inspect_1 : decode cL_inspect 1 = .ok (.iconst 0, 1) := by decide +kernel
theorem dL_inspect_2 : decode cL_inspect 2 = .ok (.aload_n 0, 1) := by decide +kernel
theorem dL_inspect_3 : decode cL_inspect 3 = .ok (.iload_n 1, 1) := by decide +kernel
theorem dL_inspect_4 : decode cL_inspect 4 = .ok (.invokevirtual 32, 3) := by decide +kernel
theorem dL_inspect_7 : decode cL_inspect 7 = .ok (.ifCond .eq 7, 3) := by decide +kernel
theorem dL_inspect_10 : decode cL_inspect 10 = .ok (.lconst 1, 1) := by decide +kernel
theorem dL_inspect_11 : decode cL_inspect 11 = .ok (.goto 4, 3) := by decide +kernel
theorem dL_inspect_14 : decode cL_inspect 14 = .ok (.lconst 0, 1) := by decide +kernel
theorem dL_inspect_15 : decode cL_inspect 15 = .ok (.lastore, 1) := by decide +kernel
theorem dL_inspect_16 : decode cL_inspect 16 = .ok (.goto 9, 3) := by decide +kernel
theorem dL_inspect_19 : decode cL_inspect 19 = .ok (.astore_n 3, 1) := by decide +kernel
theorem dL_inspect_20 : decode cL_inspect 20 = .ok (.iconst 1, 1) := by decide +kernel
theorem dL_inspect_21 : decode cL_inspect 21 = .ok (.ireturn, 1) := by decide +kernel
theorem dL_inspect_22 : decode cL_inspect 22 = .ok (.astore_n 3, 1) := by decide +kernel
theorem dL_inspect_23 : decode cL_inspect 23 = .ok (.iconst 2, 1) := by decide +kernel
theorem dL_inspect_24 : decode cL_inspect 24 = .ok (.ireturn, 1) := by decide +kernel
theorem dL_inspect_25 : decode cL_inspect 25 = .ok (.iconst 0, 1) := by decide +kernel
theorem dL_inspect_26 : decode cL_inspect 26 = .ok (.ireturn, 1) := by decide +kernel
theorem dL_melt_0 : decode cL_melt 0 = .ok (.aload_n 2, 1) := by decide +kernel
theorem dL_melt_1 : decode cL_melt 1 = .ok (.iconst 0, 1) := by decide +kernel
theorem dL_melt_2 : decode cL_melt 2 = .ok (.aload_n 0, 1) := by decide +kernel
theorem dL_melt_3 : decode cL_melt 3 = .ok (.iload_n 1, 1) := by decide +kernel
theorem dL_melt_4 : decode cL_melt 4 = .ok (.invokevirtual 38, 3) := by decide +kernel
theorem dL_melt_7 : decode cL_melt 7 = .ok (.i2l, 1) := by decide +kernel
theorem dL_melt_8 : decode cL_melt 8 = .ok (.lastore, 1) := by decide +kernel
theorem dL_melt_9 : decode cL_melt 9 = .ok (.goto 9, 3) := by decide +kernel
theorem dL_melt_12 : decode cL_melt 12 = .ok (.astore_n 3, 1) := by decide +kernel
theorem dL_melt_13 : decode cL_melt 13 = .ok (.iconst 1, 1) := by decide +kernel
theorem dL_melt_14 : decode cL_melt 14 = .ok (.ireturn, 1) := by decide +kernel
theorem dL_melt_15 : decode cL_melt 15 = .ok (.astore_n 3, 1) := by decide +kernel
theorem dL_melt_16 : decode cL_melt 16 = .ok (.iconst 2, 1) := by decide +kernel
theorem dL_melt_17 : decode cL_melt 17 = .ok (.ireturn, 1) := by decide +kernel
theorem dL_melt_18 : decode cL_melt 18 = .ok (.iconst 0, 1) := by decide +kernel
theorem dL_melt_19 : decode cL_melt 19 = .ok (.ireturn, 1) := by decide +kernel
theorem dL_renewMould_0 : decode cL_renewMould 0 = .ok (.aload_n 2, 1) := by decide +kernel
theorem dL_renewMould_1 : decode cL_renewMould 1 = .ok (.iconst 0, 1) := by decide +kernel
theorem dL_renewMould_2 : decode cL_renewMould 2 = .ok (.aload_n 0, 1) := by decide +kernel
theorem dL_renewMould_3 : decode cL_renewMould 3 = .ok (.iload_n 1, 1) := by decide +kernel
theorem dL_renewMould_4 : decode cL_renewMould 4 = .ok (.invokevirtual 41, 3) := by decide +kernel
theorem dL_renewMould_7 : decode cL_renewMould 7 = .ok (.i2l, 1) := by decide +kernel
theorem dL_renewMould_8 : decode cL_renewMould 8 = .ok (.lastore, 1) := by decide +kernel
theorem dL_renewMould_9 : decode cL_renewMould 9 = .ok (.goto 6, 3) := by decide +kernel
theorem dL_renewMould_12 : decode cL_renewMould 12 = .ok (.astore_n 3, 1) := by decide +kernel
theorem dL_renewMould_13 : decode cL_renewMould 13 = .ok (.iconst 1, 1) := by decide +kernel
theorem dL_renewMould_14 : decode cL_renewMould 14 = .ok (.ireturn, 1) := by decide +kernel
theorem dL_renewMould_15 : decode cL_renewMould 15 = .ok (.iconst 0, 1) := by decide +kernel
theorem dL_renewMould_16 : decode cL_renewMould 16 = .ok (.ireturn, 1) := by decide +kernel
theorem dL_setTolerance_0 : decode cL_setTolerance 0 = .ok (.aload_n 2, 1) := by decide +kernel
theorem dL_setTolerance_1 : decode cL_setTolerance 1 = .ok (.iconst 0, 1) := by decide +kernel
theorem dL_setTolerance_2 : decode cL_setTolerance 2 = .ok (.aload_n 0, 1) := by decide +kernel
theorem dL_setTolerance_3 : decode cL_setTolerance 3 = .ok (.iload_n 1, 1) := by decide +kernel
theorem dL_setTolerance_4 : decode cL_setTolerance 4 = .ok (.invokevirtual 44, 3) := by decide +kernel
theorem dL_setTolerance_7 : decode cL_setTolerance 7 = .ok (.i2l, 1) := by decide +kernel
theorem dL_setTolerance_8 : decode cL_setTolerance 8 = .ok (.lastore, 1) := by decide +kernel
theorem dL_setTolerance_9 : decode cL_setTolerance 9 = .ok (.goto 6, 3) := by decide +kernel
theorem dL_setTolerance_12 : decode cL_setTolerance 12 = .ok (.astore_n 3, 1) := by decide +kernel
theorem dL_setTolerance_13 : decode cL_setTolerance 13 = .ok (.iconst 1, 1) := by decide +kernel
theorem dL_setTolerance_14 : decode cL_setTolerance 14 = .ok (.ireturn, 1) := by decide +kernel
theorem dL_setTolerance_15 : decode cL_setTolerance 15 = .ok (.iconst 0, 1) := by decide +kernel
theorem dL_setTolerance_16 : decode cL_setTolerance 16 = .ok (.ireturn, 1) := by decide +kernel
theorem dL_setStep_0 : decode cL_setStep 0 = .ok (.aload_n 2, 1) := by decide +kernel
theorem dL_setStep_1 : decode cL_setStep 1 = .ok (.iconst 0, 1) := by decide +kernel
theorem dL_setStep_2 : decode cL_setStep 2 = .ok (.aload_n 0, 1) := by decide +kernel
theorem dL_setStep_3 : decode cL_setStep 3 = .ok (.iload_n 1, 1) := by decide +kernel
theorem dL_setStep_4 : decode cL_setStep 4 = .ok (.invokevirtual 47, 3) := by decide +kernel
theorem dL_setStep_7 : decode cL_setStep 7 = .ok (.i2l, 1) := by decide +kernel
theorem dL_setStep_8 : decode cL_setStep 8 = .ok (.lastore, 1) := by decide +kernel
theorem dL_setStep_9 : decode cL_setStep 9 = .ok (.goto 6, 3) := by decide +kernel
theorem dL_setStep_12 : decode cL_setStep 12 = .ok (.astore_n 3, 1) := by decide +kernel
theorem dL_setStep_13 : decode cL_setStep 13 = .ok (.iconst 1, 1) := by decide +kernel
theorem dL_setStep_14 : decode cL_setStep 14 = .ok (.ireturn, 1) := by decide +kernel
theorem dL_setStep_15 : decode cL_setStep 15 = .ok (.iconst 0, 1) := by decide +kernel
theorem dL_setStep_16 : decode cL_setStep 16 = .ok (.ireturn, 1) := by decide +kernel
theorem dL_parts_0 : decode cL_parts 0 = .ok (.aload_n 3, 1) := by decide +kernel
theorem dL_parts_1 : decode cL_parts 1 = .ok (.iconst 0, 1) := by decide +kernel
theorem dL_parts_2 : decode cL_parts 2 = .ok (.aload_n 0, 1) := by decide +kernel
theorem dL_parts_3 : decode cL_parts 3 = .ok (.iload_n 1, 1) := by decide +kernel
theorem dL_parts_4 : decode cL_parts 4 = .ok (.iload_n 2, 1) := by decide +kernel
theorem dL_parts_5 : decode cL_parts 5 = .ok (.invokevirtual 50, 3) := by decide +kernel
theorem dL_parts_8 : decode cL_parts 8 = .ok (.i2l, 1) := by decide +kernel
theorem dL_parts_9 : decode cL_parts 9 = .ok (.lastore, 1) := by decide +kernel
theorem dL_parts_10 : decode cL_parts 10 = .ok (.goto 7, 3) := by decide +kernel
theorem dL_parts_13 : decode cL_parts 13 = .ok (.astore 4, 2) := by decide +kernel
theorem dL_parts_15 : decode cL_parts 15 = .ok (.iconst 1, 1) := by decide +kernel
theorem dL_parts_16 : decode cL_parts 16 = .ok (.ireturn, 1) := by decide +kernel
theorem dL_parts_17 : decode cL_parts 17 = .ok (.iconst 0, 1) := by decide +kernel
theorem dL_parts_18 : decode cL_parts 18 = .ok (.ireturn, 1) := by decide +kernel
theorem dL_mouldLength_0 : decode cL_mouldLength 0 = .ok (.aload_n 2, 1) := by decide +kernel
theorem dL_mouldLength_1 : decode cL_mouldLength 1 = .ok (.iconst 0, 1) := by decide +kernel
theorem dL_mouldLength_2 : decode cL_mouldLength 2 = .ok (.aload_n 0, 1) := by decide +kernel
theorem dL_mouldLength_3 : decode cL_mouldLength 3 = .ok (.iload_n 1, 1) := by decide +kernel
theorem dL_mouldLength_4 : decode cL_mouldLength 4 = .ok (.invokevirtual 53, 3) := by decide +kernel
theorem dL_mouldLength_7 : decode cL_mouldLength 7 = .ok (.i2l, 1) := by decide +kernel
theorem dL_mouldLength_8 : decode cL_mouldLength 8 = .ok (.lastore, 1) := by decide +kernel
theorem dL_mouldLength_9 : decode cL_mouldLength 9 = .ok (.goto 6, 3) := by decide +kernel
theorem dL_mouldLength_12 : decode cL_mouldLength 12 = .ok (.astore_n 3, 1) := by decide +kernel
theorem dL_mouldLength_13 : decode cL_mouldLength 13 = .ok (.iconst 1, 1) := by decide +kernel
theorem dL_mouldLength_14 : decode cL_mouldLength 14 = .ok (.ireturn, 1) := by decide +kernel
theorem dL_mouldLength_15 : decode cL_mouldLength 15 = .ok (.iconst 0, 1) := by decide +kernel
theorem dL_mouldLength_16 : decode cL_mouldLength 16 = .ok (.ireturn, 1) := by decide +kernel
theorem dL_uses_0 : decode cL_uses 0 = .ok (.aload_n 2, 1) := by decide +kernel
theorem dL_uses_1 : decode cL_uses 1 = .ok (.iconst 0, 1) := by decide +kernel
theorem dL_uses_2 : decode cL_uses 2 = .ok (.aload_n 0, 1) := by decide +kernel
theorem dL_uses_3 : decode cL_uses 3 = .ok (.iload_n 1, 1) := by decide +kernel
theorem dL_uses_4 : decode cL_uses 4 = .ok (.invokevirtual 56, 3) := by decide +kernel
theorem dL_uses_7 : decode cL_uses 7 = .ok (.i2l, 1) := by decide +kernel
theorem dL_uses_8 : decode cL_uses 8 = .ok (.lastore, 1) := by decide +kernel
theorem dL_uses_9 : decode cL_uses 9 = .ok (.goto 6, 3) := by decide +kernel
theorem dL_uses_12 : decode cL_uses 12 = .ok (.astore_n 3, 1) := by decide +kernel
theorem dL_uses_13 : decode cL_uses 13 = .ok (.iconst 1, 1) := by decide +kernel
theorem dL_uses_14 : decode cL_uses 14 = .ok (.ireturn, 1) := by decide +kernel
theorem dL_uses_15 : decode cL_uses 15 = .ok (.iconst 0, 1) := by decide +kernel
theorem dL_uses_16 : decode cL_uses 16 = .ok (.ireturn, 1) := by decide +kernel
theorem dL_stock_0 : decode cL_stock 0 = .ok (.aload_n 2, 1) := by decide +kernel
theorem dL_stock_1 : decode cL_stock 1 = .ok (.iconst 0, 1) := by decide +kernel
theorem dL_stock_2 : decode cL_stock 2 = .ok (.aload_n 0, 1) := by decide +kernel
theorem dL_stock_3 : decode cL_stock 3 = .ok (.iload_n 1, 1) := by decide +kernel
theorem dL_stock_4 : decode cL_stock 4 = .ok (.invokevirtual 59, 3) := by decide +kernel
theorem dL_stock_7 : decode cL_stock 7 = .ok (.i2l, 1) := by decide +kernel
theorem dL_stock_8 : decode cL_stock 8 = .ok (.lastore, 1) := by decide +kernel
theorem dL_stock_9 : decode cL_stock 9 = .ok (.goto 6, 3) := by decide +kernel
theorem dL_stock_12 : decode cL_stock 12 = .ok (.astore_n 3, 1) := by decide +kernel
theorem dL_stock_13 : decode cL_stock 13 = .ok (.iconst 1, 1) := by decide +kernel
theorem dL_stock_14 : decode cL_stock 14 = .ok (.ireturn, 1) := by decide +kernel
theorem dL_stock_15 : decode cL_stock 15 = .ok (.iconst 0, 1) := by decide +kernel
theorem dL_stock_16 : decode cL_stock 16 = .ok (.ireturn, 1) := by decide +kernel
theorem dL_batchAt_0 : decode cL_batchAt 0 = .ok (.aload_n 2, 1) := by decide +kernel
theorem dL_batchAt_1 : decode cL_batchAt 1 = .ok (.iconst 0, 1) := by decide +kernel
theorem dL_batchAt_2 : decode cL_batchAt 2 = .ok (.aload_n 0, 1) := by decide +kernel
theorem dL_batchAt_3 : decode cL_batchAt 3 = .ok (.iload_n 1, 1) := by decide +kernel
theorem dL_batchAt_4 : decode cL_batchAt 4 = .ok (.invokevirtual 62, 3) := by decide +kernel
theorem dL_batchAt_7 : decode cL_batchAt 7 = .ok (.i2l, 1) := by decide +kernel
theorem dL_batchAt_8 : decode cL_batchAt 8 = .ok (.lastore, 1) := by decide +kernel
theorem dL_batchAt_9 : decode cL_batchAt 9 = .ok (.goto 6, 3) := by decide +kernel
theorem dL_batchAt_12 : decode cL_batchAt 12 = .ok (.astore_n 3, 1) := by decide +kernel
theorem dL_batchAt_13 : decode cL_batchAt 13 = .ok (.iconst 1, 1) := by decide +kernel
theorem dL_batchAt_14 : decode cL_batchAt 14 = .ok (.ireturn, 1) := by decide +kernel
theorem dL_batchAt_15 : decode cL_batchAt 15 = .ok (.iconst 0, 1) := by decide +kernel
theorem dL_batchAt_16 : decode cL_batchAt 16 = .ok (.ireturn, 1) := by decide +kernel
theorem dL_isFailed_0 : decode cL_isFailed 0 = .ok (.aload_n 2, 1) := by decide +kernel
theorem dL_isFailed_1 : decode cL_isFailed 1 = .ok (.iconst 0, 1) := by decide +kernel
theorem dL_isFailed_2 : decode cL_isFailed 2 = .ok (.aload_n 0, 1) := by decide +kernel
theorem dL_isFailed_3 : decode cL_isFailed 3 = .ok (.iload_n 1, 1) := by decide +kernel
theorem dL_isFailed_4 : decode cL_isFailed 4 = .ok (.invokevirtual 65, 3) := by decide +kernel
theorem dL_isFailed_7 : decode cL_isFailed 7 = .ok (.ifCond .eq 7, 3) := by decide +kernel
theorem dL_isFailed_10 : decode cL_isFailed 10 = .ok (.lconst 1, 1) := by decide +kernel
theorem dL_isFailed_11 : decode cL_isFailed 11 = .ok (.goto 4, 3) := by decide +kernel
theorem dL_isFailed_14 : decode cL_isFailed 14 = .ok (.lconst 0, 1) := by decide +kernel
theorem dL_isFailed_15 : decode cL_isFailed 15 = .ok (.lastore, 1) := by decide +kernel
theorem dL_isFailed_16 : decode cL_isFailed 16 = .ok (.goto 6, 3) := by decide +kernel
theorem dL_isFailed_19 : decode cL_isFailed 19 = .ok (.astore_n 3, 1) := by decide +kernel
theorem dL_isFailed_20 : decode cL_isFailed 20 = .ok (.iconst 1, 1) := by decide +kernel
theorem dL_isFailed_21 : decode cL_isFailed 21 = .ok (.ireturn, 1) := by decide +kernel
theorem dL_isFailed_22 : decode cL_isFailed 22 = .ok (.iconst 0, 1) := by decide +kernel
theorem dL_isFailed_23 : decode cL_isFailed 23 = .ok (.ireturn, 1) := by decide +kernel
theorem dL_batchSize_0 : decode cL_batchSize 0 = .ok (.aload_n 2, 1) := by decide +kernel
theorem dL_batchSize_1 : decode cL_batchSize 1 = .ok (.iconst 0, 1) := by decide +kernel
theorem dL_batchSize_2 : decode cL_batchSize 2 = .ok (.aload_n 0, 1) := by decide +kernel
theorem dL_batchSize_3 : decode cL_batchSize 3 = .ok (.iload_n 1, 1) := by decide +kernel
theorem dL_batchSize_4 : decode cL_batchSize 4 = .ok (.invokevirtual 68, 3) := by decide +kernel
theorem dL_batchSize_7 : decode cL_batchSize 7 = .ok (.i2l, 1) := by decide +kernel
theorem dL_batchSize_8 : decode cL_batchSize 8 = .ok (.lastore, 1) := by decide +kernel
theorem dL_batchSize_9 : decode cL_batchSize 9 = .ok (.goto 6, 3) := by decide +kernel
theorem dL_batchSize_12 : decode cL_batchSize 12 = .ok (.astore_n 3, 1) := by decide +kernel
theorem dL_batchSize_13 : decode cL_batchSize 13 = .ok (.iconst 1, 1) := by decide +kernel
theorem dL_batchSize_14 : decode cL_batchSize 14 = .ok (.ireturn, 1) := by decide +kernel
theorem dL_batchSize_15 : decode cL_batchSize 15 = .ok (.iconst 0, 1) := by decide +kernel
theorem dL_batchSize_16 : decode cL_batchSize 16 = .ok (.ireturn, 1) := by decide +kernel
theorem dL_firstBow_0 : decode cL_firstBow 0 = .ok (.aload_n 2, 1) := by decide +kernel
theorem dL_firstBow_1 : decode cL_firstBow 1 = .ok (.iconst 0, 1) := by decide +kernel
theorem dL_firstBow_2 : decode cL_firstBow 2 = .ok (.aload_n 0, 1) := by decide +kernel
theorem dL_firstBow_3 : decode cL_firstBow 3 = .ok (.iload_n 1, 1) := by decide +kernel
theorem dL_firstBow_4 : decode cL_firstBow 4 = .ok (.invokevirtual 71, 3) := by decide +kernel
theorem dL_firstBow_7 : decode cL_firstBow 7 = .ok (.i2l, 1) := by decide +kernel
theorem dL_firstBow_8 : decode cL_firstBow 8 = .ok (.lastore, 1) := by decide +kernel
theorem dL_firstBow_9 : decode cL_firstBow 9 = .ok (.goto 6, 3) := by decide +kernel
theorem dL_firstBow_12 : decode cL_firstBow 12 = .ok (.astore_n 3, 1) := by decide +kernel
theorem dL_firstBow_13 : decode cL_firstBow 13 = .ok (.iconst 1, 1) := by decide +kernel
theorem dL_firstBow_14 : decode cL_firstBow 14 = .ok (.ireturn, 1) := by decide +kernel
theorem dL_firstBow_15 : decode cL_firstBow 15 = .ok (.iconst 0, 1) := by decide +kernel
theorem dL_firstBow_16 : decode cL_firstBow 16 = .ok (.ireturn, 1) := by decide +kernel
theorem dL_squeak_0 : decode cL_squeak 0 = .ok (.aload_n 2, 1) := by decide +kernel
theorem dL_squeak_1 : decode cL_squeak 1 = .ok (.iconst 0, 1) := by decide +kernel
theorem dL_squeak_2 : decode cL_squeak 2 = .ok (.aload_n 0, 1) := by decide +kernel
theorem dL_squeak_3 : decode cL_squeak 3 = .ok (.iload_n 1, 1) := by decide +kernel
theorem dL_squeak_4 : decode cL_squeak 4 = .ok (.invokevirtual 74, 3) := by decide +kernel
theorem dL_squeak_7 : decode cL_squeak 7 = .ok (.i2l, 1) := by decide +kernel
theorem dL_squeak_8 : decode cL_squeak 8 = .ok (.lastore, 1) := by decide +kernel
theorem dL_squeak_9 : decode cL_squeak 9 = .ok (.goto 6, 3) := by decide +kernel
theorem dL_squeak_12 : decode cL_squeak 12 = .ok (.astore_n 3, 1) := by decide +kernel
theorem dL_squeak_13 : decode cL_squeak 13 = .ok (.iconst 1, 1) := by decide +kernel
theorem dL_squeak_14 : decode cL_squeak 14 = .ok (.ireturn, 1) := by decide +kernel
theorem dL_squeak_15 : decode cL_squeak 15 = .ok (.iconst 0, 1) := by decide +kernel
theorem dL_squeak_16 : decode cL_squeak 16 = .ok (.ireturn, 1) := by decide +kernel
theorem dL_isGood_0 : decode cL_isGood 0 = .ok (.aload_n 2, 1) := by decide +kernel
theorem dL_isGood_1 : decode cL_isGood 1 = .ok (.iconst 0, 1) := by decide +kernel
theorem dL_isGood_2 : decode cL_isGood 2 = .ok (.aload_n 0, 1) := by decide +kernel
theorem dL_isGood_3 : decode cL_isGood 3 = .ok (.iload_n 1, 1) := by decide +kernel
theorem dL_isGood_4 : decode cL_isGood 4 = .ok (.invokevirtual 77, 3) := by decide +kernel
theorem dL_isGood_7 : decode cL_isGood 7 = .ok (.ifCond .eq 7, 3) := by decide +kernel
theorem dL_isGood_10 : decode cL_isGood 10 = .ok (.lconst 1, 1) := by decide +kernel
theorem dL_isGood_11 : decode cL_isGood 11 = .ok (.goto 4, 3) := by decide +kernel
theorem dL_isGood_14 : decode cL_isGood 14 = .ok (.lconst 0, 1) := by decide +kernel
theorem dL_isGood_15 : decode cL_isGood 15 = .ok (.lastore, 1) := by decide +kernel
theorem dL_isGood_16 : decode cL_isGood 16 = .ok (.goto 6, 3) := by decide +kernel
theorem dL_isGood_19 : decode cL_isGood 19 = .ok (.astore_n 3, 1) := by decide +kernel
theorem dL_isGood_20 : decode cL_isGood 20 = .ok (.iconst 1, 1) := by decide +kernel
theorem dL_isGood_21 : decode cL_isGood 21 = .ok (.ireturn, 1) := by decide +kernel
theorem dL_isGood_22 : decode cL_isGood 22 = .ok (.iconst 0, 1) := by decide +kernel
theorem dL_isGood_23 : decode cL_isGood 23 = .ok (.ireturn, 1) := by decide +kernel
theorem dL_batchOf_0 : decode cL_batchOf 0 = .ok (.aload_n 2, 1) := by decide +kernel
theorem dL_batchOf_1 : decode cL_batchOf 1 = .ok (.iconst 0, 1) := by decide +kernel
theorem dL_batchOf_2 : decode cL_batchOf 2 = .ok (.aload_n 0, 1) := by decide +kernel
theorem dL_batchOf_3 : decode cL_batchOf 3 = .ok (.iload_n 1, 1) := by decide +kernel
theorem dL_batchOf_4 : decode cL_batchOf 4 = .ok (.invokevirtual 80, 3) := by decide +kernel
theorem dL_batchOf_7 : decode cL_batchOf 7 = .ok (.i2l, 1) := by decide +kernel
theorem dL_batchOf_8 : decode cL_batchOf 8 = .ok (.lastore, 1) := by decide +kernel
theorem dL_batchOf_9 : decode cL_batchOf 9 = .ok (.goto 6, 3) := by decide +kernel
theorem dL_batchOf_12 : decode cL_batchOf 12 = .ok (.astore_n 3, 1) := by decide +kernel
theorem dL_batchOf_13 : decode cL_batchOf 13 = .ok (.iconst 1, 1) := by decide +kernel
theorem dL_batchOf_14 : decode cL_batchOf 14 = .ok (.ireturn, 1) := by decide +kernel
theorem dL_batchOf_15 : decode cL_batchOf 15 = .ok (.iconst 0, 1) := by decide +kernel
theorem dL_batchOf_16 : decode cL_batchOf 16 = .ok (.ireturn, 1) := by decide +kernel
theorem dL_goodBows_0 : decode cL_goodBows 0 = .ok (.aload_n 2, 1) := by decide +kernel
theorem dL_goodBows_1 : decode cL_goodBows 1 = .ok (.iconst 0, 1) := by decide +kernel
theorem dL_goodBows_2 : decode cL_goodBows 2 = .ok (.aload_n 0, 1) := by decide +kernel
theorem dL_goodBows_3 : decode cL_goodBows 3 = .ok (.iload_n 1, 1) := by decide +kernel
theorem dL_goodBows_4 : decode cL_goodBows 4 = .ok (.invokevirtual 83, 3) := by decide +kernel
theorem dL_goodBows_7 : decode cL_goodBows 7 = .ok (.i2l, 1) := by decide +kernel
theorem dL_goodBows_8 : decode cL_goodBows 8 = .ok (.lastore, 1) := by decide +kernel
theorem dL_goodBows_9 : decode cL_goodBows 9 = .ok (.goto 6, 3) := by decide +kernel
theorem dL_goodBows_12 : decode cL_goodBows 12 = .ok (.astore_n 3, 1) := by decide +kernel
theorem dL_goodBows_13 : decode cL_goodBows 13 = .ok (.iconst 1, 1) := by decide +kernel
theorem dL_goodBows_14 : decode cL_goodBows 14 = .ok (.ireturn, 1) := by decide +kernel
theorem dL_goodBows_15 : decode cL_goodBows 15 = .ok (.iconst 0, 1) := by decide +kernel
theorem dL_goodBows_16 : decode cL_goodBows 16 = .ok (.ireturn, 1) := by decide +kernel
theorem dL_sampleSize_0 : decode cL_sampleSize 0 = .ok (.aload_n 2, 1) := by decide +kernel
theorem dL_sampleSize_1 : decode cL_sampleSize 1 = .ok (.iconst 0, 1) := by decide +kernel
theorem dL_sampleSize_2 : decode cL_sampleSize 2 = .ok (.aload_n 0, 1) := by decide +kernel
theorem dL_sampleSize_3 : decode cL_sampleSize 3 = .ok (.iload_n 1, 1) := by decide +kernel
theorem dL_sampleSize_4 : decode cL_sampleSize 4 = .ok (.invokevirtual 86, 3) := by decide +kernel
theorem dL_sampleSize_7 : decode cL_sampleSize 7 = .ok (.i2l, 1) := by decide +kernel
theorem dL_sampleSize_8 : decode cL_sampleSize 8 = .ok (.lastore, 1) := by decide +kernel
theorem dL_sampleSize_9 : decode cL_sampleSize 9 = .ok (.goto 6, 3) := by decide +kernel
theorem dL_sampleSize_12 : decode cL_sampleSize 12 = .ok (.astore_n 3, 1) := by decide +kernel
theorem dL_sampleSize_13 : decode cL_sampleSize 13 = .ok (.iconst 1, 1) := by decide +kernel
theorem dL_sampleSize_14 : decode cL_sampleSize 14 = .ok (.ireturn, 1) := by decide +kernel
theorem dL_sampleSize_15 : decode cL_sampleSize 15 = .ok (.iconst 0, 1) := by decide +kernel
theorem dL_sampleSize_16 : decode cL_sampleSize 16 = .ok (.ireturn, 1) := by decide +kernel
theorem dL_wouldPass_0 : decode cL_wouldPass 0 = .ok (.aload_n 2, 1) := by decide +kernel
theorem dL_wouldPass_1 : decode cL_wouldPass 1 = .ok (.iconst 0, 1) := by decide +kernel
theorem dL_wouldPass_2 : decode cL_wouldPass 2 = .ok (.aload_n 0, 1) := by decide +kernel
theorem dL_wouldPass_3 : decode cL_wouldPass 3 = .ok (.iload_n 1, 1) := by decide +kernel
theorem dL_wouldPass_4 : decode cL_wouldPass 4 = .ok (.invokevirtual 89, 3) := by decide +kernel
theorem dL_wouldPass_7 : decode cL_wouldPass 7 = .ok (.ifCond .eq 7, 3) := by decide +kernel
theorem dL_wouldPass_10 : decode cL_wouldPass 10 = .ok (.lconst 1, 1) := by decide +kernel
theorem dL_wouldPass_11 : decode cL_wouldPass 11 = .ok (.goto 4, 3) := by decide +kernel
theorem dL_wouldPass_14 : decode cL_wouldPass 14 = .ok (.lconst 0, 1) := by decide +kernel
theorem dL_wouldPass_15 : decode cL_wouldPass 15 = .ok (.lastore, 1) := by decide +kernel
theorem dL_wouldPass_16 : decode cL_wouldPass 16 = .ok (.goto 6, 3) := by decide +kernel
theorem dL_wouldPass_19 : decode cL_wouldPass 19 = .ok (.astore_n 3, 1) := by decide +kernel
theorem dL_wouldPass_20 : decode cL_wouldPass 20 = .ok (.iconst 1, 1) := by decide +kernel
theorem dL_wouldPass_21 : decode cL_wouldPass 21 = .ok (.ireturn, 1) := by decide +kernel
theorem dL_wouldPass_22 : decode cL_wouldPass 22 = .ok (.iconst 0, 1) := by decide +kernel
theorem dL_wouldPass_23 : decode cL_wouldPass 23 = .ok (.ireturn, 1) := by decide +kernel
theorem dL_neededTolerance_0 : decode cL_neededTolerance 0 = .ok (.aload_n 2, 1) := by decide +kernel
theorem dL_neededTolerance_1 : decode cL_neededTolerance 1 = .ok (.iconst 0, 1) := by decide +kernel
theorem dL_neededTolerance_2 : decode cL_neededTolerance 2 = .ok (.aload_n 0, 1) := by decide +kernel
theorem dL_neededTolerance_3 : decode cL_neededTolerance 3 = .ok (.iload_n 1, 1) := by decide +kernel
theorem dL_neededTolerance_4 : decode cL_neededTolerance 4 = .ok (.invokevirtual 92, 3) := by decide +kernel
theorem dL_neededTolerance_7 : decode cL_neededTolerance 7 = .ok (.i2l, 1) := by decide +kernel
theorem dL_neededTolerance_8 : decode cL_neededTolerance 8 = .ok (.lastore, 1) := by decide +kernel
theorem dL_neededTolerance_9 : decode cL_neededTolerance 9 = .ok (.goto 6, 3) := by decide +kernel
theorem dL_neededTolerance_12 : decode cL_neededTolerance 12 = .ok (.astore_n 3, 1) := by decide +kernel
theorem dL_neededTolerance_13 : decode cL_neededTolerance 13 = .ok (.iconst 1, 1) := by decide +kernel
theorem dL_neededTolerance_14 : decode cL_neededTolerance 14 = .ok (.ireturn, 1) := by decide +kernel
theorem dL_neededTolerance_15 : decode cL_neededTolerance 15 = .ok (.iconst 0, 1) := by decide +kernel
theorem dL_neededTolerance_16 : decode cL_neededTolerance 16 = .ok (.ireturn, 1) := by decide +kernel
theorem dL_neededToleranceByTrying_0 : decode cL_neededToleranceByTrying 0 = .ok (.aload_n 2, 1) := by decide +kernel
theorem dL_neededToleranceByTrying_1 : decode cL_neededToleranceByTrying 1 = .ok (.iconst 0, 1) := by decide +kernel
theorem dL_neededToleranceByTrying_2 : decode cL_neededToleranceByTrying 2 = .ok (.aload_n 0, 1) := by decide +kernel
theorem dL_neededToleranceByTrying_3 : decode cL_neededToleranceByTrying 3 = .ok (.iload_n 1, 1) := by decide +kernel
theorem dL_neededToleranceByTrying_4 : decode cL_neededToleranceByTrying 4 = .ok (.invokevirtual 95, 3) := by decide +kernel
theorem dL_neededToleranceByTrying_7 : decode cL_neededToleranceByTrying 7 = .ok (.i2l, 1) := by decide +kernel
theorem dL_neededToleranceByTrying_8 : decode cL_neededToleranceByTrying 8 = .ok (.lastore, 1) := by decide +kernel
theorem dL_neededToleranceByTrying_9 : decode cL_neededToleranceByTrying 9 = .ok (.goto 6, 3) := by decide +kernel
theorem dL_neededToleranceByTrying_12 : decode cL_neededToleranceByTrying 12 = .ok (.astore_n 3, 1) := by decide +kernel
theorem dL_neededToleranceByTrying_13 : decode cL_neededToleranceByTrying 13 = .ok (.iconst 1, 1) := by decide +kernel
theorem dL_neededToleranceByTrying_14 : decode cL_neededToleranceByTrying 14 = .ok (.ireturn, 1) := by decide +kernel
theorem dL_neededToleranceByTrying_15 : decode cL_neededToleranceByTrying 15 = .ok (.iconst 0, 1) := by decide +kernel
theorem dL_neededToleranceByTrying_16 : decode cL_neededToleranceByTrying 16 = .ok (.ireturn, 1) := by decide +kernel
theorem dL_nextSqueak_0 : decode cL_nextSqueak 0 = .ok (.aload_n 3, 1) := by decide +kernel
theorem dL_nextSqueak_1 : decode cL_nextSqueak 1 = .ok (.iconst 0, 1) := by decide +kernel
theorem dL_nextSqueak_2 : decode cL_nextSqueak 2 = .ok (.aload_n 0, 1) := by decide +kernel
theorem dL_nextSqueak_3 : decode cL_nextSqueak 3 = .ok (.iload_n 1, 1) := by decide +kernel
theorem dL_nextSqueak_4 : decode cL_nextSqueak 4 = .ok (.iload_n 2, 1) := by decide +kernel
theorem dL_nextSqueak_5 : decode cL_nextSqueak 5 = .ok (.invokevirtual 98, 3) := by decide +kernel
theorem dL_nextSqueak_8 : decode cL_nextSqueak 8 = .ok (.i2l, 1) := by decide +kernel
theorem dL_nextSqueak_9 : decode cL_nextSqueak 9 = .ok (.lastore, 1) := by decide +kernel
theorem dL_nextSqueak_10 : decode cL_nextSqueak 10 = .ok (.goto 7, 3) := by decide +kernel
theorem dL_nextSqueak_13 : decode cL_nextSqueak 13 = .ok (.astore 4, 2) := by decide +kernel
theorem dL_nextSqueak_15 : decode cL_nextSqueak 15 = .ok (.iconst 1, 1) := by decide +kernel
theorem dL_nextSqueak_16 : decode cL_nextSqueak 16 = .ok (.ireturn, 1) := by decide +kernel
theorem dL_nextSqueak_17 : decode cL_nextSqueak 17 = .ok (.iconst 0, 1) := by decide +kernel
theorem dL_nextSqueak_18 : decode cL_nextSqueak 18 = .ok (.ireturn, 1) := by decide +kernel
theorem dL_possibleBows_0 : decode cL_possibleBows 0 = .ok (.aload_n 2, 1) := by decide +kernel
theorem dL_possibleBows_1 : decode cL_possibleBows 1 = .ok (.iconst 0, 1) := by decide +kernel
theorem dL_possibleBows_2 : decode cL_possibleBows 2 = .ok (.aload_n 0, 1) := by decide +kernel
theorem dL_possibleBows_3 : decode cL_possibleBows 3 = .ok (.iload_n 1, 1) := by decide +kernel
theorem dL_possibleBows_4 : decode cL_possibleBows 4 = .ok (.invokevirtual 101, 3) := by decide +kernel
theorem dL_possibleBows_7 : decode cL_possibleBows 7 = .ok (.i2l, 1) := by decide +kernel
theorem dL_possibleBows_8 : decode cL_possibleBows 8 = .ok (.lastore, 1) := by decide +kernel
theorem dL_possibleBows_9 : decode cL_possibleBows 9 = .ok (.goto 6, 3) := by decide +kernel
theorem dL_possibleBows_12 : decode cL_possibleBows 12 = .ok (.astore_n 3, 1) := by decide +kernel
theorem dL_possibleBows_13 : decode cL_possibleBows 13 = .ok (.iconst 1, 1) := by decide +kernel
theorem dL_possibleBows_14 : decode cL_possibleBows 14 = .ok (.ireturn, 1) := by decide +kernel
theorem dL_possibleBows_15 : decode cL_possibleBows 15 = .ok (.iconst 0, 1) := by decide +kernel
theorem dL_possibleBows_16 : decode cL_possibleBows 16 = .ok (.ireturn, 1) := by decide +kernel
theorem dL_metalInBatches_0 : decode cL_metalInBatches 0 = .ok (.aload_n 2, 1) := by decide +kernel
theorem dL_metalInBatches_1 : decode cL_metalInBatches 1 = .ok (.iconst 0, 1) := by decide +kernel
theorem dL_metalInBatches_2 : decode cL_metalInBatches 2 = .ok (.aload_n 0, 1) := by decide +kernel
theorem dL_metalInBatches_3 : decode cL_metalInBatches 3 = .ok (.iload_n 1, 1) := by decide +kernel
theorem dL_metalInBatches_4 : decode cL_metalInBatches 4 = .ok (.invokevirtual 104, 3) := by decide +kernel
theorem dL_metalInBatches_7 : decode cL_metalInBatches 7 = .ok (.i2l, 1) := by decide +kernel
theorem dL_metalInBatches_8 : decode cL_metalInBatches 8 = .ok (.lastore, 1) := by decide +kernel
theorem dL_metalInBatches_9 : decode cL_metalInBatches 9 = .ok (.goto 6, 3) := by decide +kernel
theorem dL_metalInBatches_12 : decode cL_metalInBatches 12 = .ok (.astore_n 3, 1) := by decide +kernel
theorem dL_metalInBatches_13 : decode cL_metalInBatches 13 = .ok (.iconst 1, 1) := by decide +kernel
theorem dL_metalInBatches_14 : decode cL_metalInBatches 14 = .ok (.ireturn, 1) := by decide +kernel
theorem dL_metalInBatches_15 : decode cL_metalInBatches 15 = .ok (.iconst 0, 1) := by decide +kernel
theorem dL_metalInBatches_16 : decode cL_metalInBatches 16 = .ok (.ireturn, 1) := by decide +kernel
theorem dL_metalByAccounts_0 : decode cL_metalByAccounts 0 = .ok (.aload_n 2, 1) := by decide +kernel
theorem dL_metalByAccounts_1 : decode cL_metalByAccounts 1 = .ok (.iconst 0, 1) := by decide +kernel
theorem dL_metalByAccounts_2 : decode cL_metalByAccounts 2 = .ok (.aload_n 0, 1) := by decide +kernel
theorem dL_metalByAccounts_3 : decode cL_metalByAccounts 3 = .ok (.iload_n 1, 1) := by decide +kernel
theorem dL_metalByAccounts_4 : decode cL_metalByAccounts 4 = .ok (.invokevirtual 107, 3) := by decide +kernel
theorem dL_metalByAccounts_7 : decode cL_metalByAccounts 7 = .ok (.i2l, 1) := by decide +kernel
theorem dL_metalByAccounts_8 : decode cL_metalByAccounts 8 = .ok (.lastore, 1) := by decide +kernel
theorem dL_metalByAccounts_9 : decode cL_metalByAccounts 9 = .ok (.goto 6, 3) := by decide +kernel
theorem dL_metalByAccounts_12 : decode cL_metalByAccounts 12 = .ok (.astore_n 3, 1) := by decide +kernel
theorem dL_metalByAccounts_13 : decode cL_metalByAccounts 13 = .ok (.iconst 1, 1) := by decide +kernel
theorem dL_metalByAccounts_14 : decode cL_metalByAccounts 14 = .ok (.ireturn, 1) := by decide +kernel
theorem dL_metalByAccounts_15 : decode cL_metalByAccounts 15 = .ok (.iconst 0, 1) := by decide +kernel
theorem dL_metalByAccounts_16 : decode cL_metalByAccounts 16 = .ok (.ireturn, 1) := by decide +kernel
theorem dL_batchBySqueak_0 : decode cL_batchBySqueak 0 = .ok (.aload_n 2, 1) := by decide +kernel
theorem dL_batchBySqueak_1 : decode cL_batchBySqueak 1 = .ok (.iconst 0, 1) := by decide +kernel
theorem dL_batchBySqueak_2 : decode cL_batchBySqueak 2 = .ok (.aload_n 0, 1) := by decide +kernel
theorem dL_batchBySqueak_3 : decode cL_batchBySqueak 3 = .ok (.iload_n 1, 1) := by decide +kernel
theorem dL_batchBySqueak_4 : decode cL_batchBySqueak 4 = .ok (.invokevirtual 110, 3) := by decide +kernel
theorem dL_batchBySqueak_7 : decode cL_batchBySqueak 7 = .ok (.i2l, 1) := by decide +kernel
theorem dL_batchBySqueak_8 : decode cL_batchBySqueak 8 = .ok (.lastore, 1) := by decide +kernel
theorem dL_batchBySqueak_9 : decode cL_batchBySqueak 9 = .ok (.goto 6, 3) := by decide +kernel
theorem dL_batchBySqueak_12 : decode cL_batchBySqueak 12 = .ok (.astore_n 3, 1) := by decide +kernel
theorem dL_batchBySqueak_13 : decode cL_batchBySqueak 13 = .ok (.iconst 1, 1) := by decide +kernel
theorem dL_batchBySqueak_14 : decode cL_batchBySqueak 14 = .ok (.ireturn, 1) := by decide +kernel
theorem dL_batchBySqueak_15 : decode cL_batchBySqueak 15 = .ok (.iconst 0, 1) := by decide +kernel
theorem dL_batchBySqueak_16 : decode cL_batchBySqueak 16 = .ok (.ireturn, 1) := by decide +kernel
theorem dL_lostGrams_0 : decode cL_lostGrams 0 = .ok (.aload_n 2, 1) := by decide +kernel
theorem dL_lostGrams_1 : decode cL_lostGrams 1 = .ok (.iconst 0, 1) := by decide +kernel
theorem dL_lostGrams_2 : decode cL_lostGrams 2 = .ok (.aload_n 0, 1) := by decide +kernel
theorem dL_lostGrams_3 : decode cL_lostGrams 3 = .ok (.iload_n 1, 1) := by decide +kernel
theorem dL_lostGrams_4 : decode cL_lostGrams 4 = .ok (.invokevirtual 113, 3) := by decide +kernel
theorem dL_lostGrams_7 : decode cL_lostGrams 7 = .ok (.i2l, 1) := by decide +kernel
theorem dL_lostGrams_8 : decode cL_lostGrams 8 = .ok (.lastore, 1) := by decide +kernel
theorem dL_lostGrams_9 : decode cL_lostGrams 9 = .ok (.goto 6, 3) := by decide +kernel
theorem dL_lostGrams_12 : decode cL_lostGrams 12 = .ok (.astore_n 3, 1) := by decide +kernel
theorem dL_lostGrams_13 : decode cL_lostGrams 13 = .ok (.iconst 1, 1) := by decide +kernel
theorem dL_lostGrams_14 : decode cL_lostGrams 14 = .ok (.ireturn, 1) := by decide +kernel
theorem dL_lostGrams_15 : decode cL_lostGrams 15 = .ok (.iconst 0, 1) := by decide +kernel
theorem dL_lostGrams_16 : decode cL_lostGrams 16 = .ok (.ireturn, 1) := by decide +kernel
theorem dL_meanSqueak_0 : decode cL_meanSqueak 0 = .ok (.aload_n 1, 1) := by decide +kernel
theorem dL_meanSqueak_1 : decode cL_meanSqueak 1 = .ok (.iconst 0, 1) := by decide +kernel
theorem dL_meanSqueak_2 : decode cL_meanSqueak 2 = .ok (.aload_n 0, 1) := by decide +kernel
theorem dL_meanSqueak_3 : decode cL_meanSqueak 3 = .ok (.invokevirtual 116, 3) := by decide +kernel
theorem dL_meanSqueak_6 : decode cL_meanSqueak 6 = .ok (.dastore, 1) := by decide +kernel
theorem dL_meanSqueak_7 : decode cL_meanSqueak 7 = .ok (.goto 6, 3) := by decide +kernel
theorem dL_meanSqueak_10 : decode cL_meanSqueak 10 = .ok (.astore_n 2, 1) := by decide +kernel
theorem dL_meanSqueak_11 : decode cL_meanSqueak 11 = .ok (.iconst 1, 1) := by decide +kernel
theorem dL_meanSqueak_12 : decode cL_meanSqueak 12 = .ok (.ireturn, 1) := by decide +kernel
theorem dL_meanSqueak_13 : decode cL_meanSqueak 13 = .ok (.iconst 0, 1) := by decide +kernel
theorem dL_meanSqueak_14 : decode cL_meanSqueak 14 = .ok (.ireturn, 1) := by decide +kernel
theorem dL_soldShare_0 : decode cL_soldShare 0 = .ok (.aload_n 1, 1) := by decide +kernel
theorem dL_soldShare_1 : decode cL_soldShare 1 = .ok (.iconst 0, 1) := by decide +kernel
theorem dL_soldShare_2 : decode cL_soldShare 2 = .ok (.aload_n 0, 1) := by decide +kernel
theorem dL_soldShare_3 : decode cL_soldShare 3 = .ok (.invokevirtual 122, 3) := by decide +kernel
theorem dL_soldShare_6 : decode cL_soldShare 6 = .ok (.f2d, 1) := by decide +kernel
theorem dL_soldShare_7 : decode cL_soldShare 7 = .ok (.dastore, 1) := by decide +kernel
theorem dL_soldShare_8 : decode cL_soldShare 8 = .ok (.goto 6, 3) := by decide +kernel
theorem dL_soldShare_11 : decode cL_soldShare 11 = .ok (.astore_n 2, 1) := by decide +kernel
theorem dL_soldShare_12 : decode cL_soldShare 12 = .ok (.iconst 1, 1) := by decide +kernel
theorem dL_soldShare_13 : decode cL_soldShare 13 = .ok (.ireturn, 1) := by decide +kernel
theorem dL_soldShare_14 : decode cL_soldShare 14 = .ok (.iconst 0, 1) := by decide +kernel
theorem dL_soldShare_15 : decode cL_soldShare 15 = .ok (.ireturn, 1) := by decide +kernel
theorem dL_renderBatch_0 : decode cL_renderBatch 0 = .ok (.aload_n 2, 1) := by decide +kernel
theorem dL_renderBatch_1 : decode cL_renderBatch 1 = .ok (.iconst 0, 1) := by decide +kernel
theorem dL_renderBatch_2 : decode cL_renderBatch 2 = .ok (.aload_n 0, 1) := by decide +kernel
theorem dL_renderBatch_3 : decode cL_renderBatch 3 = .ok (.iload_n 1, 1) := by decide +kernel
theorem dL_renderBatch_4 : decode cL_renderBatch 4 = .ok (.invokevirtual 126, 3) := by decide +kernel
theorem dL_renderBatch_7 : decode cL_renderBatch 7 = .ok (.i2l, 1) := by decide +kernel
theorem dL_renderBatch_8 : decode cL_renderBatch 8 = .ok (.lastore, 1) := by decide +kernel
theorem dL_renderBatch_9 : decode cL_renderBatch 9 = .ok (.goto 6, 3) := by decide +kernel
theorem dL_renderBatch_12 : decode cL_renderBatch 12 = .ok (.astore_n 3, 1) := by decide +kernel
theorem dL_renderBatch_13 : decode cL_renderBatch 13 = .ok (.iconst 1, 1) := by decide +kernel
theorem dL_renderBatch_14 : decode cL_renderBatch 14 = .ok (.ireturn, 1) := by decide +kernel
theorem dL_renderBatch_15 : decode cL_renderBatch 15 = .ok (.iconst 0, 1) := by decide +kernel
theorem dL_renderBatch_16 : decode cL_renderBatch 16 = .ok (.ireturn, 1) := by decide +kernel
theorem dL_outputAt_0 : decode cL_outputAt 0 = .ok (.aload_n 2, 1) := by decide +kernel
theorem dL_outputAt_1 : decode cL_outputAt 1 = .ok (.iconst 0, 1) := by decide +kernel
theorem dL_outputAt_2 : decode cL_outputAt 2 = .ok (.aload_n 0, 1) := by decide +kernel
theorem dL_outputAt_3 : decode cL_outputAt 3 = .ok (.iload_n 1, 1) := by decide +kernel
theorem dL_outputAt_4 : decode cL_outputAt 4 = .ok (.invokevirtual 129, 3) := by decide +kernel
theorem dL_outputAt_7 : decode cL_outputAt 7 = .ok (.i2l, 1) := by decide +kernel
theorem dL_outputAt_8 : decode cL_outputAt 8 = .ok (.lastore, 1) := by decide +kernel
theorem dL_outputAt_9 : decode cL_outputAt 9 = .ok (.goto 6, 3) := by decide +kernel
theorem dL_outputAt_12 : decode cL_outputAt 12 = .ok (.astore_n 3, 1) := by decide +kernel
theorem dL_outputAt_13 : decode cL_outputAt 13 = .ok (.iconst 1, 1) := by decide +kernel
theorem dL_outputAt_14 : decode cL_outputAt 14 = .ok (.ireturn, 1) := by decide +kernel
theorem dL_outputAt_15 : decode cL_outputAt 15 = .ok (.iconst 0, 1) := by decide +kernel
theorem dL_outputAt_16 : decode cL_outputAt 16 = .ok (.ireturn, 1) := by decide +kernel
theorem dL_type_0 : decode cL_type 0 = .ok (.aload_n 2, 1) := by decide +kernel
theorem dL_type_1 : decode cL_type 1 = .ok (.iconst 0, 1) := by decide +kernel
theorem dL_type_2 : decode cL_type 2 = .ok (.aload_n 0, 1) := by decide +kernel
theorem dL_type_3 : decode cL_type 3 = .ok (.iload_n 1, 1) := by decide +kernel
theorem dL_type_4 : decode cL_type 4 = .ok (.invokevirtual 133, 3) := by decide +kernel
theorem dL_type_7 : decode cL_type 7 = .ok (.i2l, 1) := by decide +kernel
theorem dL_type_8 : decode cL_type 8 = .ok (.lastore, 1) := by decide +kernel
theorem dL_type_9 : decode cL_type 9 = .ok (.goto 9, 3) := by decide +kernel
theorem dL_type_12 : decode cL_type 12 = .ok (.astore_n 3, 1) := by decide +kernel
theorem dL_type_13 : decode cL_type 13 = .ok (.iconst 1, 1) := by decide +kernel
theorem dL_type_14 : decode cL_type 14 = .ok (.ireturn, 1) := by decide +kernel
theorem dL_type_15 : decode cL_type 15 = .ok (.astore_n 3, 1) := by decide +kernel
theorem dL_type_16 : decode cL_type 16 = .ok (.iconst 2, 1) := by decide +kernel
theorem dL_type_17 : decode cL_type 17 = .ok (.ireturn, 1) := by decide +kernel
theorem dL_type_18 : decode cL_type 18 = .ok (.iconst 0, 1) := by decide +kernel
theorem dL_type_19 : decode cL_type 19 = .ok (.ireturn, 1) := by decide +kernel
theorem dL_runScript_0 : decode cL_runScript 0 = .ok (.aload_n 1, 1) := by decide +kernel
theorem dL_runScript_1 : decode cL_runScript 1 = .ok (.iconst 0, 1) := by decide +kernel
theorem dL_runScript_2 : decode cL_runScript 2 = .ok (.aload_n 0, 1) := by decide +kernel
theorem dL_runScript_3 : decode cL_runScript 3 = .ok (.invokevirtual 137, 3) := by decide +kernel
theorem dL_runScript_6 : decode cL_runScript 6 = .ok (.i2l, 1) := by decide +kernel
theorem dL_runScript_7 : decode cL_runScript 7 = .ok (.lastore, 1) := by decide +kernel
theorem dL_runScript_8 : decode cL_runScript 8 = .ok (.goto 9, 3) := by decide +kernel
theorem dL_runScript_11 : decode cL_runScript 11 = .ok (.astore_n 2, 1) := by decide +kernel
theorem dL_runScript_12 : decode cL_runScript 12 = .ok (.iconst 1, 1) := by decide +kernel
theorem dL_runScript_13 : decode cL_runScript 13 = .ok (.ireturn, 1) := by decide +kernel
theorem dL_runScript_14 : decode cL_runScript 14 = .ok (.astore_n 2, 1) := by decide +kernel
theorem dL_runScript_15 : decode cL_runScript 15 = .ok (.iconst 2, 1) := by decide +kernel
theorem dL_runScript_16 : decode cL_runScript 16 = .ok (.ireturn, 1) := by decide +kernel
theorem dL_runScript_17 : decode cL_runScript 17 = .ok (.iconst 0, 1) := by decide +kernel
theorem dL_runScript_18 : decode cL_runScript 18 = .ok (.ireturn, 1) := by decide +kernel
theorem dL_errorPosition_0 : decode cL_errorPosition 0 = .ok (.aload_n 1, 1) := by decide +kernel
theorem dL_errorPosition_1 : decode cL_errorPosition 1 = .ok (.iconst 0, 1) := by decide +kernel
theorem dL_errorPosition_2 : decode cL_errorPosition 2 = .ok (.aload_n 0, 1) := by decide +kernel
theorem dL_errorPosition_3 : decode cL_errorPosition 3 = .ok (.invokevirtual 141, 3) := by decide +kernel
theorem dL_errorPosition_6 : decode cL_errorPosition 6 = .ok (.i2l, 1) := by decide +kernel
theorem dL_errorPosition_7 : decode cL_errorPosition 7 = .ok (.lastore, 1) := by decide +kernel
theorem dL_errorPosition_8 : decode cL_errorPosition 8 = .ok (.goto 6, 3) := by decide +kernel
theorem dL_errorPosition_11 : decode cL_errorPosition 11 = .ok (.astore_n 2, 1) := by decide +kernel
theorem dL_errorPosition_12 : decode cL_errorPosition 12 = .ok (.iconst 1, 1) := by decide +kernel
theorem dL_errorPosition_13 : decode cL_errorPosition 13 = .ok (.ireturn, 1) := by decide +kernel
theorem dL_errorPosition_14 : decode cL_errorPosition 14 = .ok (.iconst 0, 1) := by decide +kernel
theorem dL_errorPosition_15 : decode cL_errorPosition 15 = .ok (.ireturn, 1) := by decide +kernel
theorem dL_failedCommand_0 : decode cL_failedCommand 0 = .ok (.aload_n 1, 1) := by decide +kernel
theorem dL_failedCommand_1 : decode cL_failedCommand 1 = .ok (.iconst 0, 1) := by decide +kernel
theorem dL_failedCommand_2 : decode cL_failedCommand 2 = .ok (.aload_n 0, 1) := by decide +kernel
theorem dL_failedCommand_3 : decode cL_failedCommand 3 = .ok (.invokevirtual 144, 3) := by decide +kernel
theorem dL_failedCommand_6 : decode cL_failedCommand 6 = .ok (.i2l, 1) := by decide +kernel
theorem dL_failedCommand_7 : decode cL_failedCommand 7 = .ok (.lastore, 1) := by decide +kernel
theorem dL_failedCommand_8 : decode cL_failedCommand 8 = .ok (.goto 6, 3) := by decide +kernel
theorem dL_failedCommand_11 : decode cL_failedCommand 11 = .ok (.astore_n 2, 1) := by decide +kernel
theorem dL_failedCommand_12 : decode cL_failedCommand 12 = .ok (.iconst 1, 1) := by decide +kernel
theorem dL_failedCommand_13 : decode cL_failedCommand 13 = .ok (.ireturn, 1) := by decide +kernel
theorem dL_failedCommand_14 : decode cL_failedCommand 14 = .ok (.iconst 0, 1) := by decide +kernel
theorem dL_failedCommand_15 : decode cL_failedCommand 15 = .ok (.ireturn, 1) := by decide +kernel
theorem dL_undo_0 : decode cL_undo 0 = .ok (.aload_n 1, 1) := by decide +kernel
theorem dL_undo_1 : decode cL_undo 1 = .ok (.iconst 0, 1) := by decide +kernel
theorem dL_undo_2 : decode cL_undo 2 = .ok (.aload_n 0, 1) := by decide +kernel
theorem dL_undo_3 : decode cL_undo 3 = .ok (.invokevirtual 147, 3) := by decide +kernel
theorem dL_undo_6 : decode cL_undo 6 = .ok (.i2l, 1) := by decide +kernel
theorem dL_undo_7 : decode cL_undo 7 = .ok (.lastore, 1) := by decide +kernel
theorem dL_undo_8 : decode cL_undo 8 = .ok (.goto 6, 3) := by decide +kernel
theorem dL_undo_11 : decode cL_undo 11 = .ok (.astore_n 2, 1) := by decide +kernel
theorem dL_undo_12 : decode cL_undo 12 = .ok (.iconst 1, 1) := by decide +kernel
theorem dL_undo_13 : decode cL_undo 13 = .ok (.ireturn, 1) := by decide +kernel
theorem dL_undo_14 : decode cL_undo 14 = .ok (.iconst 0, 1) := by decide +kernel
theorem dL_undo_15 : decode cL_undo 15 = .ok (.ireturn, 1) := by decide +kernel
theorem dL_restore_0 : decode cL_restore 0 = .ok (.aload_n 1, 1) := by decide +kernel
theorem dL_restore_1 : decode cL_restore 1 = .ok (.iconst 0, 1) := by decide +kernel
theorem dL_restore_2 : decode cL_restore 2 = .ok (.aload_n 0, 1) := by decide +kernel
theorem dL_restore_3 : decode cL_restore 3 = .ok (.invokevirtual 150, 3) := by decide +kernel
theorem dL_restore_6 : decode cL_restore 6 = .ok (.i2l, 1) := by decide +kernel
theorem dL_restore_7 : decode cL_restore 7 = .ok (.lastore, 1) := by decide +kernel
theorem dL_restore_8 : decode cL_restore 8 = .ok (.goto 6, 3) := by decide +kernel
theorem dL_restore_11 : decode cL_restore 11 = .ok (.astore_n 2, 1) := by decide +kernel
theorem dL_restore_12 : decode cL_restore 12 = .ok (.iconst 1, 1) := by decide +kernel
theorem dL_restore_13 : decode cL_restore 13 = .ok (.ireturn, 1) := by decide +kernel
theorem dL_restore_14 : decode cL_restore 14 = .ok (.iconst 0, 1) := by decide +kernel
theorem dL_restore_15 : decode cL_restore 15 = .ok (.ireturn, 1) := by decide +kernel
