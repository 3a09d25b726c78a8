theorem dX12_fateNow_0 : decode cX12_fateNow 0 = .ok (.iload_n 1, 1) := by decide +kernel
theorem dX12_fateNow_1 : decode cX12_fateNow 1 = .ok (.ifCond .ne 10, 3) := by decide +kernel
theorem dX12_fateNow_4 : decode cX12_fateNow 4 = .ok (.aload_n 0, 1) := by decide +kernel
theorem dX12_fateNow_5 : decode cX12_fateNow 5 = .ok (.getfield 385, 3) := by decide +kernel
theorem dX12_fateNow_8 : decode cX12_fateNow 8 = .ok (.goto 31, 3) := by decide +kernel
theorem dX12_fateNow_11 : decode cX12_fateNow 11 = .ok (.iload_n 1, 1) := by decide +kernel
theorem dX12_fateNow_12 : decode cX12_fateNow 12 = .ok (.iconst 1, 1) := by decide +kernel
theorem dX12_fateNow_13 : decode cX12_fateNow 13 = .ok (.if_icmp .ne 10, 3) := by decide +kernel
theorem dX12_fateNow_16 : decode cX12_fateNow 16 = .ok (.aload_n 0, 1) := by decide +kernel
theorem dX12_fateNow_17 : decode cX12_fateNow 17 = .ok (.getfield 388, 3) := by decide +kernel
theorem dX12_fateNow_20 : decode cX12_fateNow 20 = .ok (.goto 19, 3) := by decide +kernel
theorem dX12_fateNow_23 : decode cX12_fateNow 23 = .ok (.iload_n 1, 1) := by decide +kernel
theorem dX12_fateNow_24 : decode cX12_fateNow 24 = .ok (.iconst 2, 1) := by decide +kernel
theorem dX12_fateNow_25 : decode cX12_fateNow 25 = .ok (.if_icmp .ne 10, 3) := by decide +kernel
theorem dX12_fateNow_28 : decode cX12_fateNow 28 = .ok (.aload_n 0, 1) := by decide +kernel
theorem dX12_fateNow_29 : decode cX12_fateNow 29 = .ok (.getfield 391, 3) := by decide +kernel
theorem dX12_fateNow_32 : decode cX12_fateNow 32 = .ok (.goto 7, 3) := by decide +kernel
theorem dX12_fateNow_35 : decode cX12_fateNow 35 = .ok (.aload_n 0, 1) := by decide +kernel
theorem dX12_fateNow_36 : decode cX12_fateNow 36 = .ok (.getfield 397, 3) := by decide +kernel
theorem dX12_fateNow_39 : decode cX12_fateNow 39 = .ok (.ireturn, 1) := by decide +kernel
theorem dX12_sideRule_0 : decode cX12_sideRule 0 = .ok (.aload_n 0, 1) := by decide +kernel
theorem dX12_sideRule_1 : decode cX12_sideRule 1 = .ok (.aload_n 0, 1) := by decide +kernel
theorem dX12_sideRule_2 : decode cX12_sideRule 2 = .ok (.iload_n 1, 1) := by decide +kernel
theorem dX12_sideRule_3 : decode cX12_sideRule 3 = .ok (.iload_n 2, 1) := by decide +kernel
theorem dX12_sideRule_4 : decode cX12_sideRule 4 = .ok (.invokevirtual 321, 3) := by decide +kernel
theorem dX12_sideRule_7 : decode cX12_sideRule 7 = .ok (.invokevirtual 324, 3) := by decide +kernel
theorem dX12_sideRule_10 : decode cX12_sideRule 10 = .ok (.ireturn, 1) := by decide +kernel
theorem dX12_forgets_0 : decode cX12_forgets 0 = .ok (.aload_n 0, 1) := by decide +kernel
theorem dX12_forgets_1 : decode cX12_forgets 1 = .ok (.aload_n 0, 1) := by decide +kernel
theorem dX12_forgets_2 : decode cX12_forgets 2 = .ok (.iload_n 1, 1) := by decide +kernel
theorem dX12_forgets_3 : decode cX12_forgets 3 = .ok (.iload_n 2, 1) := by decide +kernel
theorem dX12_forgets_4 : decode cX12_forgets 4 = .ok (.invokevirtual 321, 3) := by decide +kernel
theorem dX12_forgets_7 : decode cX12_forgets 7 = .ok (.iconst 2, 1) := by decide +kernel
theorem dX12_forgets_8 : decode cX12_forgets 8 = .ok (.invokevirtual 273, 3) := by decide +kernel
theorem dX12_forgets_11 : decode cX12_forgets 11 = .ok (.ireturn, 1) := by decide +kernel
theorem dX12_falls_0 : decode cX12_falls 0 = .ok (.iload_n 1, 1) := by decide +kernel
theorem dX12_falls_1 : decode cX12_falls 1 = .ok (.iconst 5, 1) := by decide +kernel
theorem dX12_falls_2 : decode cX12_falls 2 = .ok (.iand, 1) := by decide +kernel
theorem dX12_falls_3 : decode cX12_falls 3 = .ok (.iconst 1, 1) := by decide +kernel
theorem dX12_falls_4 : decode cX12_falls 4 = .ok (.ishl, 1) := by decide +kernel
theorem dX12_falls_5 : decode cX12_falls 5 = .ok (.iload_n 2, 1) := by decide +kernel
theorem dX12_falls_6 : decode cX12_falls 6 = .ok (.iconst 1, 1) := by decide +kernel
theorem dX12_falls_7 : decode cX12_falls 7 = .ok (.invokestatic 288, 3) := by decide +kernel
theorem dX12_falls_10 : decode cX12_falls 10 = .ok (.ifCond .eq 7, 3) := by decide +kernel
theorem dX12_falls_13 : decode cX12_falls 13 = .ok (.iconst 1, 1) := by decide +kernel
theorem dX12_falls_14 : decode cX12_falls 14 = .ok (.goto 4, 3) := by decide +kernel
theorem dX12_falls_17 : decode cX12_falls 17 = .ok (.iconst 0, 1) := by decide +kernel
theorem dX12_falls_18 : decode cX12_falls 18 = .ok (.ior, 1) := by decide +kernel
theorem dX12_falls_19 : decode cX12_falls 19 = .ok (.iload_n 2, 1) := by decide +kernel
theorem dX12_falls_20 : decode cX12_falls 20 = .ok (.iconst 0, 1) := by decide +kernel
theorem dX12_falls_21 : decode cX12_falls 21 = .ok (.invokestatic 288, 3) := by decide +kernel
theorem dX12_falls_24 : decode cX12_falls 24 = .ok (.ifCond .eq 7, 3) := by decide +kernel
theorem dX12_falls_27 : decode cX12_falls 27 = .ok (.iconst 4, 1) := by decide +kernel
theorem dX12_falls_28 : decode cX12_falls 28 = .ok (.goto 4, 3) := by decide +kernel
theorem dX12_falls_31 : decode cX12_falls 31 = .ok (.iconst 0, 1) := by decide +kernel
theorem dX12_falls_32 : decode cX12_falls 32 = .ok (.ior, 1) := by decide +kernel
theorem dX12_falls_33 : decode cX12_falls 33 = .ok (.istore 5, 2) := by decide +kernel
theorem dX12_falls_35 : decode cX12_falls 35 = .ok (.aload_n 0, 1) := by decide +kernel
theorem dX12_falls_36 : decode cX12_falls 36 = .ok (.getfield 95, 3) := by decide +kernel
theorem dX12_falls_39 : decode cX12_falls 39 = .ok (.iload 5, 2) := by decide +kernel
theorem dX12_falls_41 : decode cX12_falls 41 = .ok (.dup2, 1) := by decide +kernel
theorem dX12_falls_42 : decode cX12_falls 42 = .ok (.laload, 1) := by decide +kernel
theorem dX12_falls_43 : decode cX12_falls 43 = .ok (.lload_n 3, 1) := by decide +kernel
theorem dX12_falls_44 : decode cX12_falls 44 = .ok (.ladd, 1) := by decide +kernel
theorem dX12_falls_45 : decode cX12_falls 45 = .ok (.lastore, 1) := by decide +kernel
theorem dX12_falls_46 : decode cX12_falls 46 = .ok (.aload_n 0, 1) := by decide +kernel
theorem dX12_falls_47 : decode cX12_falls 47 = .ok (.dup, 1) := by decide +kernel
theorem dX12_falls_48 : decode cX12_falls 48 = .ok (.getfield 439, 3) := by decide +kernel
theorem dX12_falls_51 : decode cX12_falls 51 = .ok (.iload_n 2, 1) := by decide +kernel
theorem dX12_falls_52 : decode cX12_falls 52 = .ok (.ifCond .le 7, 3) := by decide +kernel
theorem dX12_falls_55 : decode cX12_falls 55 = .ok (.lload_n 3, 1) := by decide +kernel
theorem dX12_falls_56 : decode cX12_falls 56 = .ok (.goto 4, 3) := by decide +kernel
theorem dX12_falls_59 : decode cX12_falls 59 = .ok (.lconst 0, 1) := by decide +kernel
theorem dX12_falls_60 : decode cX12_falls 60 = .ok (.ladd, 1) := by decide +kernel
theorem dX12_falls_61 : decode cX12_falls 61 = .ok (.putfield 439, 3) := by decide +kernel
theorem dX12_falls_64 : decode cX12_falls 64 = .ok (.aload_n 0, 1) := by decide +kernel
theorem dX12_falls_65 : decode cX12_falls 65 = .ok (.dup, 1) := by decide +kernel
theorem dX12_falls_66 : decode cX12_falls 66 = .ok (.getfield 442, 3) := by decide +kernel
theorem dX12_falls_69 : decode cX12_falls 69 = .ok (.iload_n 2, 1) := by decide +kernel
theorem dX12_falls_70 : decode cX12_falls 70 = .ok (.iconst 3, 1) := by decide +kernel
theorem dX12_falls_71 : decode cX12_falls 71 = .ok (.if_icmp .ne 7, 3) := by decide +kernel
theorem dX12_falls_74 : decode cX12_falls 74 = .ok (.lload_n 3, 1) := by decide +kernel
theorem dX12_falls_75 : decode cX12_falls 75 = .ok (.goto 4, 3) := by decide +kernel
theorem dX12_falls_78 : decode cX12_falls 78 = .ok (.lconst 0, 1) := by decide +kernel
theorem dX12_falls_79 : decode cX12_falls 79 = .ok (.ladd, 1) := by decide +kernel
theorem dX12_falls_80 : decode cX12_falls 80 = .ok (.putfield 442, 3) := by decide +kernel
theorem dX12_falls_83 : decode cX12_falls 83 = .ok (.aload_n 0, 1) := by decide +kernel
theorem dX12_falls_84 : decode cX12_falls 84 = .ok (.dup, 1) := by decide +kernel
theorem dX12_falls_85 : decode cX12_falls 85 = .ok (.getfield 445, 3) := by decide +kernel
theorem dX12_falls_88 : decode cX12_falls 88 = .ok (.lload_n 3, 1) := by decide +kernel
theorem dX12_falls_89 : decode cX12_falls 89 = .ok (.iload_n 2, 1) := by decide +kernel
theorem dX12_falls_90 : decode cX12_falls 90 = .ok (.invokestatic 364, 3) := by decide +kernel
theorem dX12_falls_93 : decode cX12_falls 93 = .ok (.i2l, 1) := by decide +kernel
theorem dX12_falls_94 : decode cX12_falls 94 = .ok (.lmul, 1) := by decide +kernel
theorem dX12_falls_95 : decode cX12_falls 95 = .ok (.ladd, 1) := by decide +kernel
theorem dX12_falls_96 : decode cX12_falls 96 = .ok (.putfield 445, 3) := by decide +kernel
theorem dX12_falls_99 : decode cX12_falls 99 = .ok (.return_, 1) := by decide +kernel
theorem dX12_isChance_0 : decode cX12_isChance 0 = .ok (.aload_n 0, 1) := by decide +kernel
theorem dX12_isChance_1 : decode cX12_isChance 1 = .ok (.iload_n 1, 1) := by decide +kernel
theorem dX12_isChance_2 : decode cX12_isChance 2 = .ok (.invokevirtual 281, 3) := by decide +kernel
theorem dX12_isChance_5 : decode cX12_isChance 5 = .ok (.ifCond .eq 29, 3) := by decide +kernel
theorem dX12_isChance_8 : decode cX12_isChance 8 = .ok (.iload_n 2, 1) := by decide +kernel
theorem dX12_isChance_9 : decode cX12_isChance 9 = .ok (.i2l, 1) := by decide +kernel
theorem dX12_isChance_10 : decode cX12_isChance 10 = .ok (.lconst 1, 1) := by decide +kernel
theorem dX12_isChance_11 : decode cX12_isChance 11 = .ok (.ldc2_w 110, 3) := by decide +kernel
theorem dX12_isChance_14 : decode cX12_isChance 14 = .ok (.invokestatic 112, 3) := by decide +kernel
theorem dX12_isChance_17 : decode cX12_isChance 17 = .ok (.ifCond .eq 17, 3) := by decide +kernel
theorem dX12_isChance_20 : decode cX12_isChance 20 = .ok (.iload_n 3, 1) := by decide +kernel
theorem dX12_isChance_21 : decode cX12_isChance 21 = .ok (.i2l, 1) := by decide +kernel
theorem dX12_isChance_22 : decode cX12_isChance 22 = .ok (.lconst 0, 1) := by decide +kernel
theorem dX12_isChance_23 : decode cX12_isChance 23 = .ok (.lconst 1, 1) := by decide +kernel
theorem dX12_isChance_24 : decode cX12_isChance 24 = .ok (.invokestatic 112, 3) := by decide +kernel
theorem dX12_isChance_27 : decode cX12_isChance 27 = .ok (.ifCond .eq 7, 3) := by decide +kernel
theorem dX12_isChance_30 : decode cX12_isChance 30 = .ok (.iconst 1, 1) := by decide +kernel
theorem dX12_isChance_31 : decode cX12_isChance 31 = .ok (.goto 4, 3) := by decide +kernel
theorem dX12_isChance_34 : decode cX12_isChance 34 = .ok (.iconst 0, 1) := by decide +kernel
theorem dX12_isChance_35 : decode cX12_isChance 35 = .ok (.ireturn, 1) := by decide +kernel
theorem dX12_isWill_0 : decode cX12_isWill 0 = .ok (.aload_n 0, 1) := by decide +kernel
theorem dX12_isWill_1 : decode cX12_isWill 1 = .ok (.iload_n 1, 1) := by decide +kernel
theorem dX12_isWill_2 : decode cX12_isWill 2 = .ok (.invokevirtual 281, 3) := by decide +kernel
theorem dX12_isWill_5 : decode cX12_isWill 5 = .ok (.ifCond .eq 26, 3) := by decide +kernel
theorem dX12_isWill_8 : decode cX12_isWill 8 = .ok (.iload_n 2, 1) := by decide +kernel
theorem dX12_isWill_9 : decode cX12_isWill 9 = .ok (.invokestatic 340, 3) := by decide +kernel
theorem dX12_isWill_12 : decode cX12_isWill 12 = .ok (.ifCond .eq 19, 3) := by decide +kernel
theorem dX12_isWill_15 : decode cX12_isWill 15 = .ok (.iload_n 3, 1) := by decide +kernel
theorem dX12_isWill_16 : decode cX12_isWill 16 = .ok (.i2l, 1) := by decide +kernel
theorem dX12_isWill_17 : decode cX12_isWill 17 = .ok (.lconst 1, 1) := by decide +kernel
theorem dX12_isWill_18 : decode cX12_isWill 18 = .ok (.ldc2_w 485, 3) := by decide +kernel
theorem dX12_isWill_21 : decode cX12_isWill 21 = .ok (.invokestatic 112, 3) := by decide +kernel
theorem dX12_isWill_24 : decode cX12_isWill 24 = .ok (.ifCond .eq 7, 3) := by decide +kernel
theorem dX12_isWill_27 : decode cX12_isWill 27 = .ok (.iconst 1, 1) := by decide +kernel
theorem dX12_isWill_28 : decode cX12_isWill 28 = .ok (.goto 4, 3) := by decide +kernel
theorem dX12_isWill_31 : decode cX12_isWill 31 = .ok (.iconst 0, 1) := by decide +kernel
theorem dX12_isWill_32 : decode cX12_isWill 32 = .ok (.ireturn, 1) := by decide +kernel
theorem dX12_keep_0 : decode cX12_keep 0 = .ok (.aload_n 0, 1) := by decide +kernel
theorem dX12_keep_1 : decode cX12_keep 1 = .ok (.iconst 0, 1) := by decide +kernel
theorem dX12_keep_2 : decode cX12_keep 2 = .ok (.putfield 107, 3) := by decide +kernel
theorem dX12_keep_5 : decode cX12_keep 5 = .ok (.iload_n 1, 1) := by decide +kernel
theorem dX12_keep_6 : decode cX12_keep 6 = .ok (.i2l, 1) := by decide +kernel
theorem dX12_keep_7 : decode cX12_keep 7 = .ok (.lconst 0, 1) := by decide +kernel
theorem dX12_keep_8 : decode cX12_keep 8 = .ok (.ldc2_w 284, 3) := by decide +kernel
theorem dX12_keep_11 : decode cX12_keep 11 = .ok (.invokestatic 112, 3) := by decide +kernel
theorem dX12_keep_14 : decode cX12_keep 14 = .ok (.ifCond .ne 6, 3) := by decide +kernel
theorem dX12_keep_17 : decode cX12_keep 17 = .ok (.bipush (-2), 2) := by decide +kernel
theorem dX12_keep_19 : decode cX12_keep 19 = .ok (.ireturn, 1) := by decide +kernel
theorem dX12_keep_20 : decode cX12_keep 20 = .ok (.aload_n 0, 1) := by decide +kernel
theorem dX12_keep_21 : decode cX12_keep 21 = .ok (.iconst 0, 1) := by decide +kernel
theorem dX12_keep_22 : decode cX12_keep 22 = .ok (.iconst 1, 1) := by decide +kernel
theorem dX12_keep_23 : decode cX12_keep 23 = .ok (.iload_n 1, 1) := by decide +kernel
theorem dX12_keep_24 : decode cX12_keep 24 = .ok (.iadd, 1) := by decide +kernel
theorem dX12_keep_25 : decode cX12_keep 25 = .ok (.invokevirtual 263, 3) := by decide +kernel
theorem dX12_keep_28 : decode cX12_keep 28 = .ok (.aload_n 0, 1) := by decide +kernel
theorem dX12_keep_29 : decode cX12_keep 29 = .ok (.getfield 49, 3) := by decide +kernel
theorem dX12_keep_32 : decode cX12_keep 32 = .ok (.iload_n 1, 1) := by decide +kernel
theorem dX12_keep_33 : decode cX12_keep 33 = .ok (.iconst 1, 1) := by decide +kernel
theorem dX12_keep_34 : decode cX12_keep 34 = .ok (.bastore, 1) := by decide +kernel
theorem dX12_keep_35 : decode cX12_keep 35 = .ok (.iconst 0, 1) := by decide +kernel
theorem dX12_keep_36 : decode cX12_keep 36 = .ok (.ireturn, 1) := by decide +kernel
theorem dX12_on_0 : decode cX12_on 0 = .ok (.aload_n 0, 1) := by decide +kernel
theorem dX12_on_1 : decode cX12_on 1 = .ok (.iconst 0, 1) := by decide +kernel
theorem dX12_on_2 : decode cX12_on 2 = .ok (.putfield 107, 3) := by decide +kernel
theorem dX12_on_5 : decode cX12_on 5 = .ok (.iload_n 1, 1) := by decide +kernel
theorem dX12_on_6 : decode cX12_on 6 = .ok (.i2l, 1) := by decide +kernel
theorem dX12_on_7 : decode cX12_on 7 = .ok (.lconst 0, 1) := by decide +kernel
theorem dX12_on_8 : decode cX12_on 8 = .ok (.ldc2_w 284, 3) := by decide +kernel
theorem dX12_on_11 : decode cX12_on 11 = .ok (.invokestatic 112, 3) := by decide +kernel
theorem dX12_on_14 : decode cX12_on 14 = .ok (.ifCond .ne 6, 3) := by decide +kernel
theorem dX12_on_17 : decode cX12_on 17 = .ok (.bipush (-2), 2) := by decide +kernel
theorem dX12_on_19 : decode cX12_on 19 = .ok (.ireturn, 1) := by decide +kernel
theorem dX12_on_20 : decode cX12_on 20 = .ok (.aload_n 0, 1) := by decide +kernel
theorem dX12_on_21 : decode cX12_on 21 = .ok (.getfield 49, 3) := by decide +kernel
theorem dX12_on_24 : decode cX12_on 24 = .ok (.iload_n 1, 1) := by decide +kernel
theorem dX12_on_25 : decode cX12_on 25 = .ok (.baload, 1) := by decide +kernel
theorem dX12_on_26 : decode cX12_on 26 = .ok (.ifCond .ne 6, 3) := by decide +kernel
theorem dX12_on_29 : decode cX12_on 29 = .ok (.bipush (-6), 2) := by decide +kernel
theorem dX12_on_31 : decode cX12_on 31 = .ok (.ireturn, 1) := by decide +kernel
theorem dX12_on_32 : decode cX12_on 32 = .ok (.aload_n 0, 1) := by decide +kernel
theorem dX12_on_33 : decode cX12_on 33 = .ok (.iconst 1, 1) := by decide +kernel
theorem dX12_on_34 : decode cX12_on 34 = .ok (.iload_n 1, 1) := by decide +kernel
theorem dX12_on_35 : decode cX12_on 35 = .ok (.iadd, 1) := by decide +kernel
theorem dX12_on_36 : decode cX12_on 36 = .ok (.iconst 0, 1) := by decide +kernel
theorem dX12_on_37 : decode cX12_on 37 = .ok (.invokevirtual 263, 3) := by decide +kernel
theorem dX12_on_40 : decode cX12_on 40 = .ok (.iconst 0, 1) := by decide +kernel
theorem dX12_on_41 : decode cX12_on 41 = .ok (.ireturn, 1) := by decide +kernel
