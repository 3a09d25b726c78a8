theorem dX12_streak_0 : decode cX12_streak 0 = .ok (.aload_n 0, 1) := by decide +kernel
theorem dX12_streak_1 : decode cX12_streak 1 = .ok (.iconst 0, 1) := by decide +kernel
theorem dX12_streak_2 : decode cX12_streak 2 = .ok (.putfield 107, 3) := by decide +kernel
theorem dX12_streak_5 : decode cX12_streak 5 = .ok (.aload_n 0, 1) := by decide +kernel
theorem dX12_streak_6 : decode cX12_streak 6 = .ok (.iload_n 1, 1) := by decide +kernel
theorem dX12_streak_7 : decode cX12_streak 7 = .ok (.invokevirtual 281, 3) := by decide +kernel
theorem dX12_streak_10 : decode cX12_streak 10 = .ok (.ifCond .eq 13, 3) := by decide +kernel
theorem dX12_streak_13 : decode cX12_streak 13 = .ok (.iload_n 2, 1) := by decide +kernel
theorem dX12_streak_14 : decode cX12_streak 14 = .ok (.i2l, 1) := by decide +kernel
theorem dX12_streak_15 : decode cX12_streak 15 = .ok (.lconst 0, 1) := by decide +kernel
theorem dX12_streak_16 : decode cX12_streak 16 = .ok (.lconst 1, 1) := by decide +kernel
theorem dX12_streak_17 : decode cX12_streak 17 = .ok (.invokestatic 112, 3) := by decide +kernel
theorem dX12_streak_20 : decode cX12_streak 20 = .ok (.ifCond .ne 6, 3) := by decide +kernel
theorem dX12_streak_23 : decode cX12_streak 23 = .ok (.bipush (-2), 2) := by decide +kernel
theorem dX12_streak_25 : decode cX12_streak 25 = .ok (.ireturn, 1) := by decide +kernel
theorem dX12_streak_26 : decode cX12_streak 26 = .ok (.aload_n 0, 1) := by decide +kernel
theorem dX12_streak_27 : decode cX12_streak 27 = .ok (.invokevirtual 346, 3) := by decide +kernel
theorem dX12_streak_30 : decode cX12_streak 30 = .ok (.iconst 0, 1) := by decide +kernel
theorem dX12_streak_31 : decode cX12_streak 31 = .ok (.istore_n 3, 1) := by decide +kernel
theorem dX12_streak_32 : decode cX12_streak 32 = .ok (.iconst (-1), 1) := by decide +kernel
theorem dX12_streak_33 : decode cX12_streak 33 = .ok (.istore 4, 2) := by decide +kernel
theorem dX12_streak_35 : decode cX12_streak 35 = .ok (.iconst 0, 1) := by decide +kernel
theorem dX12_streak_36 : decode cX12_streak 36 = .ok (.istore 5, 2) := by decide +kernel
theorem dX12_streak_38 : decode cX12_streak 38 = .ok (.iconst 0, 1) := by decide +kernel
theorem dX12_streak_39 : decode cX12_streak 39 = .ok (.istore 6, 2) := by decide +kernel
theorem dX12_streak_41 : decode cX12_streak 41 = .ok (.iload 6, 2) := by decide +kernel
theorem dX12_streak_43 : decode cX12_streak 43 = .ok (.aload_n 0, 1) := by decide +kernel
theorem dX12_streak_44 : decode cX12_streak 44 = .ok (.getfield 34, 3) := by decide +kernel
theorem dX12_streak_47 : decode cX12_streak 47 = .ok (.iconst 0, 1) := by decide +kernel
theorem dX12_streak_48 : decode cX12_streak 48 = .ok (.iaload, 1) := by decide +kernel
theorem dX12_streak_49 : decode cX12_streak 49 = .ok (.if_icmp .ge 62, 3) := by decide +kernel
theorem dX12_streak_52 : decode cX12_streak 52 = .ok (.aload_n 0, 1) := by decide +kernel
theorem dX12_streak_53 : decode cX12_streak 53 = .ok (.iload_n 1, 1) := by decide +kernel
theorem dX12_streak_54 : decode cX12_streak 54 = .ok (.iconst 0, 1) := by decide +kernel
theorem dX12_streak_55 : decode cX12_streak 55 = .ok (.iload 6, 2) := by decide +kernel
theorem dX12_streak_57 : decode cX12_streak 57 = .ok (.invokevirtual 352, 3) := by decide +kernel
theorem dX12_streak_60 : decode cX12_streak 60 = .ok (.ifCond .eq 21, 3) := by decide +kernel
theorem dX12_streak_63 : decode cX12_streak 63 = .ok (.aload_n 0, 1) := by decide +kernel
theorem dX12_streak_64 : decode cX12_streak 64 = .ok (.iload_n 1, 1) := by decide +kernel
theorem dX12_streak_65 : decode cX12_streak 65 = .ok (.iconst 1, 1) := by decide +kernel
theorem dX12_streak_66 : decode cX12_streak 66 = .ok (.iload 6, 2) := by decide +kernel
theorem dX12_streak_68 : decode cX12_streak 68 = .ok (.invokevirtual 352, 3) := by decide +kernel
theorem dX12_streak_71 : decode cX12_streak 71 = .ok (.ifCond .eq 10, 3) := by decide +kernel
theorem dX12_streak_74 : decode cX12_streak 74 = .ok (.iload 5, 2) := by decide +kernel
theorem dX12_streak_76 : decode cX12_streak 76 = .ok (.iconst 1, 1) := by decide +kernel
theorem dX12_streak_77 : decode cX12_streak 77 = .ok (.iadd, 1) := by decide +kernel
theorem dX12_streak_78 : decode cX12_streak 78 = .ok (.goto 4, 3) := by decide +kernel
theorem dX12_streak_81 : decode cX12_streak 81 = .ok (.iconst 0, 1) := by decide +kernel
theorem dX12_streak_82 : decode cX12_streak 82 = .ok (.istore 5, 2) := by decide +kernel
theorem dX12_streak_84 : decode cX12_streak 84 = .ok (.iload 5, 2) := by decide +kernel
theorem dX12_streak_86 : decode cX12_streak 86 = .ok (.iload_n 3, 1) := by decide +kernel
theorem dX12_streak_87 : decode cX12_streak 87 = .ok (.if_icmp .gt 6, 3) := by decide +kernel
theorem dX12_streak_90 : decode cX12_streak 90 = .ok (.goto 15, 3) := by decide +kernel
theorem dX12_streak_93 : decode cX12_streak 93 = .ok (.iload 5, 2) := by decide +kernel
theorem dX12_streak_95 : decode cX12_streak 95 = .ok (.istore_n 3, 1) := by decide +kernel
theorem dX12_streak_96 : decode cX12_streak 96 = .ok (.iload 6, 2) := by decide +kernel
theorem dX12_streak_98 : decode cX12_streak 98 = .ok (.iload 5, 2) := by decide +kernel
theorem dX12_streak_100 : decode cX12_streak 100 = .ok (.isub, 1) := by decide +kernel
theorem dX12_streak_101 : decode cX12_streak 101 = .ok (.iconst 1, 1) := by decide +kernel
theorem dX12_streak_102 : decode cX12_streak 102 = .ok (.iadd, 1) := by decide +kernel
theorem dX12_streak_103 : decode cX12_streak 103 = .ok (.istore 4, 2) := by decide +kernel
theorem dX12_streak_105 : decode cX12_streak 105 = .ok (.iinc 6 1, 3) := by decide +kernel
theorem dX12_streak_108 : decode cX12_streak 108 = .ok (.goto (-67), 3) := by decide +kernel
theorem dX12_streak_111 : decode cX12_streak 111 = .ok (.iload_n 2, 1) := by decide +kernel
theorem dX12_streak_112 : decode cX12_streak 112 = .ok (.ifCond .ne 7, 3) := by decide +kernel
theorem dX12_streak_115 : decode cX12_streak 115 = .ok (.iload_n 3, 1) := by decide +kernel
theorem dX12_streak_116 : decode cX12_streak 116 = .ok (.goto 5, 3) := by decide +kernel
theorem dX12_streak_119 : decode cX12_streak 119 = .ok (.iload 4, 2) := by decide +kernel
theorem dX12_streak_121 : decode cX12_streak 121 = .ok (.ireturn, 1) := by decide +kernel
theorem dX12_fateNow_0 : decode cX12_fateNow 0 = .ok (.iload_n 1, 1) := by decide +kernel
theorem dX12_fateNow_1 : decode cX12_fateNow 1 = .ok (.ifCond .ne 10, 3) := by decide +kernel
theorem dX12_fateNow_4 : decode cX12_fateNow 4 = .ok (.aload_n 0, 1) := by decide +kernel
theorem dX12_fateNow_5 : decode cX12_fateNow 5 = .ok (.getfield 385, 3) := by decide +kernel
theorem dX12_fateNow_8 : decode cX12_fateNow 8 = .ok (.goto 31, 3) := by decide +kernel
theorem dX12_fateNow_11 : decode cX12_fateNow 11 = .ok (.iload_n 1, 1) := by decide +kernel
theorem dX12_fateNow_12 : decode cX12_fateNow 12 = .ok (.iconst 1, 1) := by decide +kernel
theorem dX12_fateNow_13 : decode cX12_fateNow 13 = .ok (.if_icmp .ne 10, 3) := by decide +kernel
theorem dX12_fateNow_16 : decode cX12_fateNow 16 = .ok (.aload_n 0, 1) := by decide +kernel
theorem dX12_fateNow_17 : decode cX12_fateNow 17 = .ok (.getfield 388, 3) := by decide +kernel
theorem dX12_fateNow_20 : decode cX12_fateNow 20 = .ok (.goto 19, 3) := by decide +kernel
theorem dX12_fateNow_23 : decode cX12_fateNow 23 = .ok (.iload_n 1, 1) := by decide +kernel
theorem dX12_fateNow_24 : decode cX12_fateNow 24 = .ok (.iconst 2, 1) := by decide +kernel
theorem dX12_fateNow_25 : decode cX12_fateNow 25 = .ok (.if_icmp .ne 10, 3) := by decide +kernel
theorem dX12_fateNow_28 : decode cX12_fateNow 28 = .ok (.aload_n 0, 1) := by decide +kernel
theorem dX12_fateNow_29 : decode cX12_fateNow 29 = .ok (.getfield 391, 3) := by decide +kernel
theorem dX12_fateNow_32 : decode cX12_fateNow 32 = .ok (.goto 7, 3) := by decide +kernel
theorem dX12_fateNow_35 : decode cX12_fateNow 35 = .ok (.aload_n 0, 1) := by decide +kernel
theorem dX12_fateNow_36 : decode cX12_fateNow 36 = .ok (.getfield 397, 3) := by decide +kernel
theorem dX12_fateNow_39 : decode cX12_fateNow 39 = .ok (.ireturn, 1) := by decide +kernel
theorem dX12_sideRule_0 : decode cX12_sideRule 0 = .ok (.aload_n 0, 1) := by decide +kernel
theorem dX12_sideRule_1 : decode cX12_sideRule 1 = .ok (.aload_n 0, 1) := by decide +kernel
theorem dX12_sideRule_2 : decode cX12_sideRule 2 = .ok (.iload_n 1, 1) := by decide +kernel
theorem dX12_sideRule_3 : decode cX12_sideRule 3 = .ok (.iload_n 2, 1) := by decide +kernel
theorem dX12_sideRule_4 : decode cX12_sideRule 4 = .ok (.invokevirtual 321, 3) := by decide +kernel
theorem dX12_sideRule_7 : decode cX12_sideRule 7 = .ok (.invokevirtual 324, 3) := by decide +kernel
theorem dX12_sideRule_10 : decode cX12_sideRule 10 = .ok (.ireturn, 1) := by decide +kernel
theorem dX12_forgets_0 : decode cX12_forgets 0 = .ok (.aload_n 0, 1) := by decide +kernel
theorem dX12_forgets_1 : decode cX12_forgets 1 = .ok (.aload_n 0, 1) := by decide +kernel
theorem dX12_forgets_2 : decode cX12_forgets 2 = .ok (.iload_n 1, 1) := by decide +kernel
theorem dX12_forgets_3 : decode cX12_forgets 3 = .ok (.iload_n 2, 1) := by decide +kernel
theorem dX12_forgets_4 : decode cX12_forgets 4 = .ok (.invokevirtual 321, 3) := by decide +kernel
theorem dX12_forgets_7 : decode cX12_forgets 7 = .ok (.iconst 2, 1) := by decide +kernel
theorem dX12_forgets_8 : decode cX12_forgets 8 = .ok (.invokevirtual 273, 3) := by decide +kernel
theorem dX12_forgets_11 : decode cX12_forgets 11 = .ok (.ireturn, 1) := by decide +kernel
theorem dX12_falls_0 : decode cX12_falls 0 = .ok (.iload_n 1, 1) := by decide +kernel
theorem dX12_falls_1 : decode cX12_falls 1 = .ok (.iconst 5, 1) := by decide +kernel
theorem dX12_falls_2 : decode cX12_falls 2 = .ok (.iand, 1) := by decide +kernel
theorem dX12_falls_3 : decode cX12_falls 3 = .ok (.iconst 1, 1) := by decide +kernel
theorem dX12_falls_4 : decode cX12_falls 4 = .ok (.ishl, 1) := by decide +kernel
theorem dX12_falls_5 : decode cX12_falls 5 = .ok (.iload_n 2, 1) := by decide +kernel
theorem dX12_falls_6 : decode cX12_falls 6 = .ok (.iconst 1, 1) := by decide +kernel
theorem dX12_falls_7 : decode cX12_falls 7 = .ok (.invokestatic 288, 3) := by decide +kernel
theorem dX12_falls_10 : decode cX12_falls 10 = .ok (.ifCond .eq 7, 3) := by decide +kernel
theorem dX12_falls_13 : decode cX12_falls 13 = .ok (.iconst 1, 1) := by decide +kernel
theorem dX12_falls_14 : decode cX12_falls 14 = .ok (.goto 4, 3) := by decide +kernel
theorem dX12_falls_17 : decode cX12_falls 17 = .ok (.iconst 0, 1) := by decide +kernel
theorem dX12_falls_18 : decode cX12_falls 18 = .ok (.ior, 1) := by decide +kernel
theorem dX12_falls_19 : decode cX12_falls 19 = .ok (.iload_n 2, 1) := by decide +kernel
theorem dX12_falls_20 : decode cX12_falls 20 = .ok (.iconst 0, 1) := by decide +kernel
theorem dX12_falls_21 : decode cX12_falls 21 = .ok (.invokestatic 288, 3) := by decide +kernel
theorem dX12_falls_24 : decode cX12_falls 24 = .ok (.ifCond .eq 7, 3) := by decide +kernel
theorem dX12_falls_27 : decode cX12_falls 27 = .ok (.iconst 4, 1) := by decide +kernel
theorem dX12_falls_28 : decode cX12_falls 28 = .ok (.goto 4, 3) := by decide +kernel
theorem dX12_falls_31 : decode cX12_falls 31 = .ok (.iconst 0, 1) := by decide +kernel
theorem dX12_falls_32 : decode cX12_falls 32 = .ok (.ior, 1) := by decide +kernel
theorem dX12_falls_33 : decode cX12_falls 33 = .ok (.istore 5, 2) := by decide +kernel
theorem dX12_falls_35 : decode cX12_falls 35 = .ok (.aload_n 0, 1) := by decide +kernel
theorem dX12_falls_36 : decode cX12_falls 36 = .ok (.getfield 95, 3) := by decide +kernel
theorem dX12_falls_39 : decode cX12_falls 39 = .ok (.iload 5, 2) := by decide +kernel
theorem dX12_falls_41 : decode cX12_falls 41 = .ok (.dup2, 1) := by decide +kernel
theorem dX12_falls_42 : decode cX12_falls 42 = .ok (.laload, 1) := by decide +kernel
theorem dX12_falls_43 : decode cX12_falls 43 = .ok (.lload_n 3, 1) := by decide +kernel
theorem dX12_falls_44 : decode cX12_falls 44 = .ok (.ladd, 1) := by decide +kernel
theorem dX12_falls_45 : decode cX12_falls 45 = .ok (.lastore, 1) := by decide +kernel
theorem dX12_falls_46 : decode cX12_falls 46 = .ok (.aload_n 0, 1) := by decide +kernel
theorem dX12_falls_47 : decode cX12_falls 47 = .ok (.dup, 1) := by decide +kernel
theorem dX12_falls_48 : decode cX12_falls 48 = .ok (.getfield 439, 3) := by decide +kernel
theorem dX12_falls_51 : decode cX12_falls 51 = .ok (.iload_n 2, 1) := by decide +kernel
theorem dX12_falls_52 : decode cX12_falls 52 = .ok (.ifCond .le 7, 3) := by decide +kernel
theorem dX12_falls_55 : decode cX12_falls 55 = .ok (.lload_n 3, 1) := by decide +kernel
theorem dX12_falls_56 : decode cX12_falls 56 = .ok (.goto 4, 3) := by decide +kernel
theorem dX12_falls_59 : decode cX12_falls 59 = .ok (.lconst 0, 1) := by decide +kernel
theorem dX12_falls_60 : decode cX12_falls 60 = .ok (.ladd, 1) := by decide +kernel
theorem dX12_falls_61 : decode cX12_falls 61 = .ok (.putfield 439, 3) := by decide +kernel
theorem dX12_falls_64 : decode cX12_falls 64 = .ok (.aload_n 0, 1) := by decide +kernel
theorem dX12_falls_65 : decode cX12_falls 65 = .ok (.dup, 1) := by decide +kernel
theorem dX12_falls_66 : decode cX12_falls 66 = .ok (.getfield 442, 3) := by decide +kernel
theorem dX12_falls_69 : decode cX12_falls 69 = .ok (.iload_n 2, 1) := by decide +kernel
theorem dX12_falls_70 : decode cX12_falls 70 = .ok (.iconst 3, 1) := by decide +kernel
theorem dX12_falls_71 : decode cX12_falls 71 = .ok (.if_icmp .ne 7, 3) := by decide +kernel
theorem dX12_falls_74 : decode cX12_falls 74 = .ok (.lload_n 3, 1) := by decide +kernel
theorem dX12_falls_75 : decode cX12_falls 75 = .ok (.goto 4, 3) := by decide +kernel
theorem dX12_falls_78 : decode cX12_falls 78 = .ok (.lconst 0, 1) := by decide +kernel
theorem dX12_falls_79 : decode cX12_falls 79 = .ok (.ladd, 1) := by decide +kernel
theorem dX12_falls_80 : decode cX12_falls 80 = .ok (.putfield 442, 3) := by decide +kernel
theorem dX12_falls_83 : decode cX12_falls 83 = .ok (.aload_n 0, 1) := by decide +kernel
theorem dX12_falls_84 : decode cX12_falls 84 = .ok (.dup, 1) := by decide +kernel
theorem dX12_falls_85 : decode cX12_falls 85 = .ok (.getfield 445, 3) := by decide +kernel
theorem dX12_falls_88 : decode cX12_falls 88 = .ok (.lload_n 3, 1) := by decide +kernel
theorem dX12_falls_89 : decode cX12_falls 89 = .ok (.iload_n 2, 1) := by decide +kernel
theorem dX12_falls_90 : decode cX12_falls 90 = .ok (.invokestatic 364, 3) := by decide +kernel
theorem dX12_falls_93 : decode cX12_falls 93 = .ok (.i2l, 1) := by decide +kernel
theorem dX12_falls_94 : decode cX12_falls 94 = .ok (.lmul, 1) := by decide +kernel
theorem dX12_falls_95 : decode cX12_falls 95 = .ok (.ladd, 1) := by decide +kernel
theorem dX12_falls_96 : decode cX12_falls 96 = .ok (.putfield 445, 3) := by decide +kernel
theorem dX12_falls_99 : decode cX12_falls 99 = .ok (.return_, 1) := by decide +kernel
theorem dX12_isChance_0 : decode cX12_isChance 0 = .ok (.aload_n 0, 1) := by decide +kernel
theorem dX12_isChance_1 : decode cX12_isChance 1 = .ok (.iload_n 1, 1) := by decide +kernel
theorem dX12_isChance_2 : decode cX12_isChance 2 = .ok (.invokevirtual 281, 3) := by decide +kernel
theorem dX12_isChance_5 : decode cX12_isChance 5 = .ok (.ifCond .eq 29, 3) := by decide +kernel
theorem dX12_isChance_8 : decode cX12_isChance 8 = .ok (.iload_n 2, 1) := by decide +kernel
theorem dX12_isChance_9 : decode cX12_isChance 9 = .ok (.i2l, 1) := by decide +kernel
theorem dX12_isChance_10 : decode cX12_isChance 10 = .ok (.lconst 1, 1) := by decide +kernel
theorem dX12_isChance_11 : decode cX12_isChance 11 = .ok (.ldc2_w 110, 3) := by decide +kernel
theorem dX12_isChance_14 : decode cX12_isChance 14 = .ok (.invokestatic 112, 3) := by decide +kernel
theorem dX12_isChance_17 : decode cX12_isChance 17 = .ok (.ifCond .eq 17, 3) := by decide +kernel
theorem dX12_isChance_20 : decode cX12_isChance 20 = .ok (.iload_n 3, 1) := by decide +kernel
theorem dX12_isChance_21 : decode cX12_isChance 21 = .ok (.i2l, 1) := by decide +kernel
theorem dX12_isChance_22 : decode cX12_isChance 22 = .ok (.lconst 0, 1) := by decide +kernel
theorem dX12_isChance_23 : decode cX12_isChance 23 = .ok (.lconst 1, 1) := by decide +kernel
theorem dX12_isChance_24 : decode cX12_isChance 24 = .ok (.invokestatic 112, 3) := by decide +kernel
theorem dX12_isChance_27 : decode cX12_isChance 27 = .ok (.ifCond .eq 7, 3) := by decide +kernel
theorem dX12_isChance_30 : decode cX12_isChance 30 = .ok (.iconst 1, 1) := by decide +kernel
theorem dX12_isChance_31 : decode cX12_isChance 31 = .ok (.goto 4, 3) := by decide +kernel
theorem dX12_isChance_34 : decode cX12_isChance 34 = .ok (.iconst 0, 1) := by decide +kernel
theorem dX12_isChance_35 : decode cX12_isChance 35 = .ok (.ireturn, 1) := by decide +kernel
theorem dX12_isWill_0 : decode cX12_isWill 0 = .ok (.aload_n 0, 1) := by decide +kernel
theorem dX12_isWill_1 : decode cX12_isWill 1 = .ok (.iload_n 1, 1) := by decide +kernel
theorem dX12_isWill_2 : decode cX12_isWill 2 = .ok (.invokevirtual 281, 3) := by decide +kernel
theorem dX12_isWill_5 : decode cX12_isWill 5 = .ok (.ifCond .eq 26, 3) := by decide +kernel
theorem dX12_isWill_8 : decode cX12_isWill 8 = .ok (.iload_n 2, 1) := by decide +kernel
theorem dX12_isWill_9 : decode cX12_isWill 9 = .ok (.invokestatic 340, 3) := by decide +kernel
theorem dX12_isWill_12 : decode cX12_isWill 12 = .ok (.ifCond .eq 19, 3) := by decide +kernel
theorem dX12_isWill_15 : decode cX12_isWill 15 = .ok (.iload_n 3, 1) := by decide +kernel
theorem dX12_isWill_16 : decode cX12_isWill 16 = .ok (.i2l, 1) := by decide +kernel
theorem dX12_isWill_17 : decode cX12_isWill 17 = .ok (.lconst 1, 1) := by decide +kernel
theorem dX12_isWill_18 : decode cX12_isWill 18 = .ok (.ldc2_w 485, 3) := by decide +kernel
theorem dX12_isWill_21 : decode cX12_isWill 21 = .ok (.invokestatic 112, 3) := by decide +kernel
theorem dX12_isWill_24 : decode cX12_isWill 24 = .ok (.ifCond .eq 7, 3) := by decide +kernel
theorem dX12_isWill_27 : decode cX12_isWill 27 = .ok (.iconst 1, 1) := by decide +kernel
theorem dX12_isWill_28 : decode cX12_isWill 28 = .ok (.goto 4, 3) := by decide +kernel
theorem dX12_isWill_31 : decode cX12_isWill 31 = .ok (.iconst 0, 1) := by decide +kernel
theorem dX12_isWill_32 : decode cX12_isWill 32 = .ok (.ireturn, 1) := by decide +kernel
theorem dX12_train_0 : decode cX12_train 0 = .ok (.aload_n 0, 1) := by decide +kernel
theorem dX12_train_1 : decode cX12_train 1 = .ok (.iconst 0, 1) := by decide +kernel
theorem dX12_train_2 : decode cX12_train 2 = .ok (.putfield 107, 3) := by decide +kernel
theorem dX12_train_5 : decode cX12_train 5 = .ok (.aload_n 0, 1) := by decide +kernel
theorem dX12_train_6 : decode cX12_train 6 = .ok (.iload_n 1, 1) := by decide +kernel
theorem dX12_train_7 : decode cX12_train 7 = .ok (.invokevirtual 276, 3) := by decide +kernel
theorem dX12_train_10 : decode cX12_train 10 = .ok (.ifCond .eq 46, 3) := by decide +kernel
theorem dX12_train_13 : decode cX12_train 13 = .ok (.iload_n 2, 1) := by decide +kernel
theorem dX12_train_14 : decode cX12_train 14 = .ok (.i2l, 1) := by decide +kernel
theorem dX12_train_15 : decode cX12_train 15 = .ok (.lconst 0, 1) := by decide +kernel
theorem dX12_train_16 : decode cX12_train 16 = .ok (.ldc2_w 284, 3) := by decide +kernel
theorem dX12_train_19 : decode cX12_train 19 = .ok (.invokestatic 112, 3) := by decide +kernel
theorem dX12_train_22 : decode cX12_train 22 = .ok (.ifCond .eq 34, 3) := by decide +kernel
theorem dX12_train_25 : decode cX12_train 25 = .ok (.iload_n 3, 1) := by decide +kernel
theorem dX12_train_26 : decode cX12_train 26 = .ok (.i2l, 1) := by decide +kernel
theorem dX12_train_27 : decode cX12_train 27 = .ok (.lconst 0, 1) := by decide +kernel
theorem dX12_train_28 : decode cX12_train 28 = .ok (.iload_n 2, 1) := by decide +kernel
theorem dX12_train_29 : decode cX12_train 29 = .ok (.ifCond .ne 9, 3) := by decide +kernel
theorem dX12_train_32 : decode cX12_train 32 = .ok (.ldc2_w 286, 3) := by decide +kernel
theorem dX12_train_35 : decode cX12_train 35 = .ok (.goto 15, 3) := by decide +kernel
theorem dX12_train_38 : decode cX12_train 38 = .ok (.iload_n 2, 1) := by decide +kernel
theorem dX12_train_39 : decode cX12_train 39 = .ok (.iconst 1, 1) := by decide +kernel
theorem dX12_train_40 : decode cX12_train 40 = .ok (.if_icmp .ne 7, 3) := by decide +kernel
theorem dX12_train_43 : decode cX12_train 43 = .ok (.lconst 1, 1) := by decide +kernel
theorem dX12_train_44 : decode cX12_train 44 = .ok (.goto 6, 3) := by decide +kernel
theorem dX12_train_47 : decode cX12_train 47 = .ok (.ldc2_w 538, 3) := by decide +kernel
theorem dX12_train_50 : decode cX12_train 50 = .ok (.invokestatic 112, 3) := by decide +kernel
theorem dX12_train_53 : decode cX12_train 53 = .ok (.ifCond .ne 6, 3) := by decide +kernel
theorem dX12_train_56 : decode cX12_train 56 = .ok (.bipush (-2), 2) := by decide +kernel
theorem dX12_train_58 : decode cX12_train 58 = .ok (.ireturn, 1) := by decide +kernel
theorem dX12_train_59 : decode cX12_train 59 = .ok (.aload_n 0, 1) := by decide +kernel
theorem dX12_train_60 : decode cX12_train 60 = .ok (.iload_n 1, 1) := by decide +kernel
theorem dX12_train_61 : decode cX12_train 61 = .ok (.iload_n 2, 1) := by decide +kernel
theorem dX12_train_62 : decode cX12_train 62 = .ok (.invokevirtual 273, 3) := by decide +kernel
theorem dX12_train_65 : decode cX12_train 65 = .ok (.istore 4, 2) := by decide +kernel
theorem dX12_train_67 : decode cX12_train 67 = .ok (.aload_n 0, 1) := by decide +kernel
theorem dX12_train_68 : decode cX12_train 68 = .ok (.getfield 37, 3) := by decide +kernel
theorem dX12_train_71 : decode cX12_train 71 = .ok (.iconst 5, 1) := by decide +kernel
theorem dX12_train_72 : decode cX12_train 72 = .ok (.iload_n 1, 1) := by decide +kernel
theorem dX12_train_73 : decode cX12_train 73 = .ok (.imul, 1) := by decide +kernel
theorem dX12_train_74 : decode cX12_train 74 = .ok (.iload_n 2, 1) := by decide +kernel
theorem dX12_train_75 : decode cX12_train 75 = .ok (.iadd, 1) := by decide +kernel
theorem dX12_train_76 : decode cX12_train 76 = .ok (.iload_n 3, 1) := by decide +kernel
theorem dX12_train_77 : decode cX12_train 77 = .ok (.iastore, 1) := by decide +kernel
theorem dX12_train_78 : decode cX12_train 78 = .ok (.iload 4, 2) := by decide +kernel
theorem dX12_train_80 : decode cX12_train 80 = .ok (.ireturn, 1) := by decide +kernel
theorem dX12_begin_0 : decode cX12_begin 0 = .ok (.aload_n 0, 1) := by decide +kernel
theorem dX12_begin_1 : decode cX12_begin 1 = .ok (.iconst 0, 1) := by decide +kernel
theorem dX12_begin_2 : decode cX12_begin 2 = .ok (.putfield 107, 3) := by decide +kernel
theorem dX12_begin_5 : decode cX12_begin 5 = .ok (.aload_n 0, 1) := by decide +kernel
theorem dX12_begin_6 : decode cX12_begin 6 = .ok (.iload_n 1, 1) := by decide +kernel
theorem dX12_begin_7 : decode cX12_begin 7 = .ok (.invokevirtual 281, 3) := by decide +kernel
theorem dX12_begin_10 : decode cX12_begin 10 = .ok (.ifCond .eq 15, 3) := by decide +kernel
theorem dX12_begin_13 : decode cX12_begin 13 = .ok (.iload_n 2, 1) := by decide +kernel
theorem dX12_begin_14 : decode cX12_begin 14 = .ok (.i2l, 1) := by decide +kernel
theorem dX12_begin_15 : decode cX12_begin 15 = .ok (.lconst 0, 1) := by decide +kernel
theorem dX12_begin_16 : decode cX12_begin 16 = .ok (.ldc2_w 286, 3) := by decide +kernel
theorem dX12_begin_19 : decode cX12_begin 19 = .ok (.invokestatic 112, 3) := by decide +kernel
theorem dX12_begin_22 : decode cX12_begin 22 = .ok (.ifCond .ne 6, 3) := by decide +kernel
theorem dX12_begin_25 : decode cX12_begin 25 = .ok (.bipush (-2), 2) := by decide +kernel
theorem dX12_begin_27 : decode cX12_begin 27 = .ok (.ireturn, 1) := by decide +kernel
theorem dX12_begin_28 : decode cX12_begin 28 = .ok (.aload_n 0, 1) := by decide +kernel
theorem dX12_begin_29 : decode cX12_begin 29 = .ok (.getfield 40, 3) := by decide +kernel
theorem dX12_begin_32 : decode cX12_begin 32 = .ok (.iconst 3, 1) := by decide +kernel
theorem dX12_begin_33 : decode cX12_begin 33 = .ok (.iload_n 1, 1) := by decide +kernel
theorem dX12_begin_34 : decode cX12_begin 34 = .ok (.imul, 1) := by decide +kernel
theorem dX12_begin_35 : decode cX12_begin 35 = .ok (.iconst 2, 1) := by decide +kernel
theorem dX12_begin_36 : decode cX12_begin 36 = .ok (.iadd, 1) := by decide +kernel
theorem dX12_begin_37 : decode cX12_begin 37 = .ok (.iaload, 1) := by decide +kernel
theorem dX12_begin_38 : decode cX12_begin 38 = .ok (.istore_n 3, 1) := by decide +kernel
theorem dX12_begin_39 : decode cX12_begin 39 = .ok (.aload_n 0, 1) := by decide +kernel
theorem dX12_begin_40 : decode cX12_begin 40 = .ok (.getfield 40, 3) := by decide +kernel
theorem dX12_begin_43 : decode cX12_begin 43 = .ok (.iconst 3, 1) := by decide +kernel
theorem dX12_begin_44 : decode cX12_begin 44 = .ok (.iload_n 1, 1) := by decide +kernel
theorem dX12_begin_45 : decode cX12_begin 45 = .ok (.imul, 1) := by decide +kernel
theorem dX12_begin_46 : decode cX12_begin 46 = .ok (.iconst 2, 1) := by decide +kernel
theorem dX12_begin_47 : decode cX12_begin 47 = .ok (.iadd, 1) := by decide +kernel
theorem dX12_begin_48 : decode cX12_begin 48 = .ok (.iload_n 2, 1) := by decide +kernel
theorem dX12_begin_49 : decode cX12_begin 49 = .ok (.iastore, 1) := by decide +kernel
theorem dX12_begin_50 : decode cX12_begin 50 = .ok (.iload_n 3, 1) := by decide +kernel
theorem dX12_begin_51 : decode cX12_begin 51 = .ok (.ireturn, 1) := by decide +kernel
theorem dX12_withBit_0 : decode cX12_withBit 0 = .ok (.iload_n 3, 1) := by decide +kernel
theorem dX12_withBit_1 : decode cX12_withBit 1 = .ok (.iconst 1, 1) := by decide +kernel
theorem dX12_withBit_2 : decode cX12_withBit 2 = .ok (.if_icmp .ne 11, 3) := by decide +kernel
theorem dX12_withBit_5 : decode cX12_withBit 5 = .ok (.lload_n 0, 1) := by decide +kernel
theorem dX12_withBit_6 : decode cX12_withBit 6 = .ok (.lconst 1, 1) := by decide +kernel
theorem dX12_withBit_7 : decode cX12_withBit 7 = .ok (.iload_n 2, 1) := by decide +kernel
theorem dX12_withBit_8 : decode cX12_withBit 8 = .ok (.lshl, 1) := by decide +kernel
theorem dX12_withBit_9 : decode cX12_withBit 9 = .ok (.lor, 1) := by decide +kernel
theorem dX12_withBit_10 : decode cX12_withBit 10 = .ok (.goto 12, 3) := by decide +kernel
theorem dX12_withBit_13 : decode cX12_withBit 13 = .ok (.lload_n 0, 1) := by decide +kernel
theorem dX12_withBit_14 : decode cX12_withBit 14 = .ok (.lconst 1, 1) := by decide +kernel
theorem dX12_withBit_15 : decode cX12_withBit 15 = .ok (.iload_n 2, 1) := by decide +kernel
theorem dX12_withBit_16 : decode cX12_withBit 16 = .ok (.lshl, 1) := by decide +kernel
theorem dX12_withBit_17 : decode cX12_withBit 17 = .ok (.ldc2_w 151, 3) := by decide +kernel
theorem dX12_withBit_20 : decode cX12_withBit 20 = .ok (.lxor, 1) := by decide +kernel
theorem dX12_withBit_21 : decode cX12_withBit 21 = .ok (.land, 1) := by decide +kernel
theorem dX12_withBit_22 : decode cX12_withBit 22 = .ok (.lreturn, 1) := by decide +kernel
theorem dX12_lose_0 : decode cX12_lose 0 = .ok (.aload_n 0, 1) := by decide +kernel
theorem dX12_lose_1 : decode cX12_lose 1 = .ok (.iconst 0, 1) := by decide +kernel
theorem dX12_lose_2 : decode cX12_lose 2 = .ok (.putfield 107, 3) := by decide +kernel
theorem dX12_lose_5 : decode cX12_lose 5 = .ok (.aload_n 0, 1) := by decide +kernel
theorem dX12_lose_6 : decode cX12_lose 6 = .ok (.iload_n 1, 1) := by decide +kernel
theorem dX12_lose_7 : decode cX12_lose 7 = .ok (.invokevirtual 281, 3) := by decide +kernel
theorem dX12_lose_10 : decode cX12_lose 10 = .ok (.ifCond .eq 30, 3) := by decide +kernel
theorem dX12_lose_13 : decode cX12_lose 13 = .ok (.iload_n 2, 1) := by decide +kernel
theorem dX12_lose_14 : decode cX12_lose 14 = .ok (.invokestatic 340, 3) := by decide +kernel
theorem dX12_lose_17 : decode cX12_lose 17 = .ok (.ifCond .eq 23, 3) := by decide +kernel
theorem dX12_lose_20 : decode cX12_lose 20 = .ok (.aload_n 0, 1) := by decide +kernel
theorem dX12_lose_21 : decode cX12_lose 21 = .ok (.iload_n 3, 1) := by decide +kernel
theorem dX12_lose_22 : decode cX12_lose 22 = .ok (.i2l, 1) := by decide +kernel
theorem dX12_lose_23 : decode cX12_lose 23 = .ok (.invokevirtual 343, 3) := by decide +kernel
theorem dX12_lose_26 : decode cX12_lose 26 = .ok (.ifCond .eq 14, 3) := by decide +kernel
theorem dX12_lose_29 : decode cX12_lose 29 = .ok (.iload 4, 2) := by decide +kernel
theorem dX12_lose_31 : decode cX12_lose 31 = .ok (.i2l, 1) := by decide +kernel
theorem dX12_lose_32 : decode cX12_lose 32 = .ok (.lconst 0, 1) := by decide +kernel
theorem dX12_lose_33 : decode cX12_lose 33 = .ok (.lconst 1, 1) := by decide +kernel
theorem dX12_lose_34 : decode cX12_lose 34 = .ok (.invokestatic 112, 3) := by decide +kernel
theorem dX12_lose_37 : decode cX12_lose 37 = .ok (.ifCond .ne 6, 3) := by decide +kernel
theorem dX12_lose_40 : decode cX12_lose 40 = .ok (.bipush (-2), 2) := by decide +kernel
theorem dX12_lose_42 : decode cX12_lose 42 = .ok (.ireturn, 1) := by decide +kernel
theorem dX12_lose_43 : decode cX12_lose 43 = .ok (.aload_n 0, 1) := by decide +kernel
theorem dX12_lose_44 : decode cX12_lose 44 = .ok (.getfield 43, 3) := by decide +kernel
theorem dX12_lose_47 : decode cX12_lose 47 = .ok (.iconst 2, 1) := by decide +kernel
theorem dX12_lose_48 : decode cX12_lose 48 = .ok (.iload_n 1, 1) := by decide +kernel
theorem dX12_lose_49 : decode cX12_lose 49 = .ok (.imul, 1) := by decide +kernel
theorem dX12_lose_50 : decode cX12_lose 50 = .ok (.iload_n 2, 1) := by decide +kernel
theorem dX12_lose_51 : decode cX12_lose 51 = .ok (.iadd, 1) := by decide +kernel
theorem dX12_lose_52 : decode cX12_lose 52 = .ok (.laload, 1) := by decide +kernel
theorem dX12_lose_53 : decode cX12_lose 53 = .ok (.iload_n 3, 1) := by decide +kernel
theorem dX12_lose_54 : decode cX12_lose 54 = .ok (.lshr, 1) := by decide +kernel
theorem dX12_lose_55 : decode cX12_lose 55 = .ok (.lconst 1, 1) := by decide +kernel
theorem dX12_lose_56 : decode cX12_lose 56 = .ok (.land, 1) := by decide +kernel
theorem dX12_lose_57 : decode cX12_lose 57 = .ok (.l2i, 1) := by decide +kernel
theorem dX12_lose_58 : decode cX12_lose 58 = .ok (.istore 5, 2) := by decide +kernel
theorem dX12_lose_60 : decode cX12_lose 60 = .ok (.aload_n 0, 1) := by decide +kernel
theorem dX12_lose_61 : decode cX12_lose 61 = .ok (.getfield 43, 3) := by decide +kernel
theorem dX12_lose_64 : decode cX12_lose 64 = .ok (.iconst 2, 1) := by decide +kernel
theorem dX12_lose_65 : decode cX12_lose 65 = .ok (.iload_n 1, 1) := by decide +kernel
theorem dX12_lose_66 : decode cX12_lose 66 = .ok (.imul, 1) := by decide +kernel
theorem dX12_lose_67 : decode cX12_lose 67 = .ok (.iload_n 2, 1) := by decide +kernel
theorem dX12_lose_68 : decode cX12_lose 68 = .ok (.iadd, 1) := by decide +kernel
theorem dX12_lose_69 : decode cX12_lose 69 = .ok (.aload_n 0, 1) := by decide +kernel
theorem dX12_lose_70 : decode cX12_lose 70 = .ok (.getfield 43, 3) := by decide +kernel
theorem dX12_lose_73 : decode cX12_lose 73 = .ok (.iconst 2, 1) := by decide +kernel
theorem dX12_lose_74 : decode cX12_lose 74 = .ok (.iload_n 1, 1) := by decide +kernel
theorem dX12_lose_75 : decode cX12_lose 75 = .ok (.imul, 1) := by decide +kernel
theorem dX12_lose_76 : decode cX12_lose 76 = .ok (.iload_n 2, 1) := by decide +kernel
theorem dX12_lose_77 : decode cX12_lose 77 = .ok (.iadd, 1) := by decide +kernel
theorem dX12_lose_78 : decode cX12_lose 78 = .ok (.laload, 1) := by decide +kernel
theorem dX12_lose_79 : decode cX12_lose 79 = .ok (.iload_n 3, 1) := by decide +kernel
theorem dX12_lose_80 : decode cX12_lose 80 = .ok (.iload 4, 2) := by decide +kernel
theorem dX12_lose_82 : decode cX12_lose 82 = .ok (.invokestatic 540, 3) := by decide +kernel
theorem dX12_lose_85 : decode cX12_lose 85 = .ok (.lastore, 1) := by decide +kernel
theorem dX12_lose_86 : decode cX12_lose 86 = .ok (.iload 5, 2) := by decide +kernel
theorem dX12_lose_88 : decode cX12_lose 88 = .ok (.ireturn, 1) := by decide +kernel
theorem dX12_calls_0 : decode cX12_calls 0 = .ok (.aload_n 0, 1) := by decide +kernel
theorem dX12_calls_1 : decode cX12_calls 1 = .ok (.iconst 0, 1) := by decide +kernel
theorem dX12_calls_2 : decode cX12_calls 2 = .ok (.putfield 107, 3) := by decide +kernel
theorem dX12_calls_5 : decode cX12_calls 5 = .ok (.aload_n 0, 1) := by decide +kernel
theorem dX12_calls_6 : decode cX12_calls 6 = .ok (.iload_n 1, 1) := by decide +kernel
theorem dX12_calls_7 : decode cX12_calls 7 = .ok (.i2l, 1) := by decide +kernel
theorem dX12_calls_8 : decode cX12_calls 8 = .ok (.invokevirtual 343, 3) := by decide +kernel
theorem dX12_calls_11 : decode cX12_calls 11 = .ok (.ifCond .eq 13, 3) := by decide +kernel
theorem dX12_calls_14 : decode cX12_calls 14 = .ok (.iload_n 2, 1) := by decide +kernel
theorem dX12_calls_15 : decode cX12_calls 15 = .ok (.i2l, 1) := by decide +kernel
theorem dX12_calls_16 : decode cX12_calls 16 = .ok (.lconst 0, 1) := by decide +kernel
theorem dX12_calls_17 : decode cX12_calls 17 = .ok (.lconst 1, 1) := by decide +kernel
theorem dX12_calls_18 : decode cX12_calls 18 = .ok (.invokestatic 112, 3) := by decide +kernel
theorem dX12_calls_21 : decode cX12_calls 21 = .ok (.ifCond .ne 6, 3) := by decide +kernel
theorem dX12_calls_24 : decode cX12_calls 24 = .ok (.bipush (-2), 2) := by decide +kernel
theorem dX12_calls_26 : decode cX12_calls 26 = .ok (.ireturn, 1) := by decide +kernel
theorem dX12_calls_27 : decode cX12_calls 27 = .ok (.aload_n 0, 1) := by decide +kernel
theorem dX12_calls_28 : decode cX12_calls 28 = .ok (.getfield 46, 3) := by decide +kernel
theorem dX12_calls_31 : decode cX12_calls 31 = .ok (.iconst 0, 1) := by decide +kernel
theorem dX12_calls_32 : decode cX12_calls 32 = .ok (.laload, 1) := by decide +kernel
theorem dX12_calls_33 : decode cX12_calls 33 = .ok (.iload_n 1, 1) := by decide +kernel
theorem dX12_calls_34 : decode cX12_calls 34 = .ok (.lshr, 1) := by decide +kernel
theorem dX12_calls_35 : decode cX12_calls 35 = .ok (.lconst 1, 1) := by decide +kernel
theorem dX12_calls_36 : decode cX12_calls 36 = .ok (.land, 1) := by decide +kernel
theorem dX12_calls_37 : decode cX12_calls 37 = .ok (.l2i, 1) := by decide +kernel
theorem dX12_calls_38 : decode cX12_calls 38 = .ok (.istore_n 3, 1) := by decide +kernel
theorem dX12_calls_39 : decode cX12_calls 39 = .ok (.aload_n 0, 1) := by decide +kernel
theorem dX12_calls_40 : decode cX12_calls 40 = .ok (.getfield 46, 3) := by decide +kernel
theorem dX12_calls_43 : decode cX12_calls 43 = .ok (.iconst 0, 1) := by decide +kernel
theorem dX12_calls_44 : decode cX12_calls 44 = .ok (.aload_n 0, 1) := by decide +kernel
theorem dX12_calls_45 : decode cX12_calls 45 = .ok (.getfield 46, 3) := by decide +kernel
theorem dX12_calls_48 : decode cX12_calls 48 = .ok (.iconst 0, 1) := by decide +kernel
theorem dX12_calls_49 : decode cX12_calls 49 = .ok (.laload, 1) := by decide +kernel
theorem dX12_calls_50 : decode cX12_calls 50 = .ok (.iload_n 1, 1) := by decide +kernel
theorem dX12_calls_51 : decode cX12_calls 51 = .ok (.iload_n 2, 1) := by decide +kernel
theorem dX12_calls_52 : decode cX12_calls 52 = .ok (.invokestatic 540, 3) := by decide +kernel
theorem dX12_calls_55 : decode cX12_calls 55 = .ok (.lastore, 1) := by decide +kernel
theorem dX12_calls_56 : decode cX12_calls 56 = .ok (.iload_n 3, 1) := by decide +kernel
theorem dX12_calls_57 : decode cX12_calls 57 = .ok (.ireturn, 1) := by decide +kernel
theorem dX12_bitsOf_0 : decode cX12_bitsOf 0 = .ok (.iconst 0, 1) := by decide +kernel
theorem dX12_bitsOf_1 : decode cX12_bitsOf 1 = .ok (.istore_n 2, 1) := by decide +kernel
theorem dX12_bitsOf_2 : decode cX12_bitsOf 2 = .ok (.lload_n 0, 1) := by decide +kernel
theorem dX12_bitsOf_3 : decode cX12_bitsOf 3 = .ok (.lstore_n 3, 1) := by decide +kernel
theorem dX12_bitsOf_4 : decode cX12_bitsOf 4 = .ok (.lload_n 3, 1) := by decide +kernel
theorem dX12_bitsOf_5 : decode cX12_bitsOf 5 = .ok (.lconst 0, 1) := by decide +kernel
theorem dX12_bitsOf_6 : decode cX12_bitsOf 6 = .ok (.lcmp, 1) := by decide +kernel
theorem dX12_bitsOf_7 : decode cX12_bitsOf 7 = .ok (.ifCond .eq 15, 3) := by decide +kernel
theorem dX12_bitsOf_10 : decode cX12_bitsOf 10 = .ok (.iinc 2 1, 3) := by decide +kernel
theorem dX12_bitsOf_13 : decode cX12_bitsOf 13 = .ok (.lload_n 3, 1) := by decide +kernel
theorem dX12_bitsOf_14 : decode cX12_bitsOf 14 = .ok (.lload_n 3, 1) := by decide +kernel
theorem dX12_bitsOf_15 : decode cX12_bitsOf 15 = .ok (.lconst 1, 1) := by decide +kernel
theorem dX12_bitsOf_16 : decode cX12_bitsOf 16 = .ok (.lsub, 1) := by decide +kernel
theorem dX12_bitsOf_17 : decode cX12_bitsOf 17 = .ok (.land, 1) := by decide +kernel
theorem dX12_bitsOf_18 : decode cX12_bitsOf 18 = .ok (.lstore_n 3, 1) := by decide +kernel
theorem dX12_bitsOf_19 : decode cX12_bitsOf 19 = .ok (.goto (-15), 3) := by decide +kernel
theorem dX12_bitsOf_22 : decode cX12_bitsOf 22 = .ok (.iload_n 2, 1) := by decide +kernel
theorem dX12_bitsOf_23 : decode cX12_bitsOf 23 = .ok (.ireturn, 1) := by decide +kernel
theorem dX12_count_0 : decode cX12_count 0 = .ok (.aload_n 0, 1) := by decide +kernel
theorem dX12_count_1 : decode cX12_count 1 = .ok (.iconst 0, 1) := by decide +kernel
theorem dX12_count_2 : decode cX12_count 2 = .ok (.putfield 107, 3) := by decide +kernel
theorem dX12_count_5 : decode cX12_count 5 = .ok (.iconst 0, 1) := by decide +kernel
theorem dX12_count_6 : decode cX12_count 6 = .ok (.istore_n 2, 1) := by decide +kernel
theorem dX12_count_7 : decode cX12_count 7 = .ok (.iload_n 1, 1) := by decide +kernel
theorem dX12_count_8 : decode cX12_count 8 = .ok (.tableswitch 180 0 9 #[56, 63, 70, 77, 84, 91, 101, 135, 142, 147], 56) := by decide +kernel
theorem dX12_count_64 : decode cX12_count 64 = .ok (.aload_n 0, 1) := by decide +kernel
theorem dX12_count_65 : decode cX12_count 65 = .ok (.getfield 34, 3) := by decide +kernel
theorem dX12_count_68 : decode cX12_count 68 = .ok (.iconst 3, 1) := by decide +kernel
theorem dX12_count_69 : decode cX12_count 69 = .ok (.iaload, 1) := by decide +kernel
theorem dX12_count_70 : decode cX12_count 70 = .ok (.ireturn, 1) := by decide +kernel
theorem dX12_count_71 : decode cX12_count 71 = .ok (.aload_n 0, 1) := by decide +kernel
theorem dX12_count_72 : decode cX12_count 72 = .ok (.getfield 34, 3) := by decide +kernel
theorem dX12_count_75 : decode cX12_count 75 = .ok (.iconst 4, 1) := by decide +kernel
theorem dX12_count_76 : decode cX12_count 76 = .ok (.iaload, 1) := by decide +kernel
theorem dX12_count_77 : decode cX12_count 77 = .ok (.ireturn, 1) := by decide +kernel
theorem dX12_count_78 : decode cX12_count 78 = .ok (.aload_n 0, 1) := by decide +kernel
theorem dX12_count_79 : decode cX12_count 79 = .ok (.getfield 34, 3) := by decide +kernel
theorem dX12_count_82 : decode cX12_count 82 = .ok (.iconst 0, 1) := by decide +kernel
theorem dX12_count_83 : decode cX12_count 83 = .ok (.iaload, 1) := by decide +kernel
theorem dX12_count_84 : decode cX12_count 84 = .ok (.ireturn, 1) := by decide +kernel
theorem dX12_count_85 : decode cX12_count 85 = .ok (.aload_n 0, 1) := by decide +kernel
theorem dX12_count_86 : decode cX12_count 86 = .ok (.getfield 34, 3) := by decide +kernel
theorem dX12_count_89 : decode cX12_count 89 = .ok (.iconst 1, 1) := by decide +kernel
theorem dX12_count_90 : decode cX12_count 90 = .ok (.iaload, 1) := by decide +kernel
theorem dX12_count_91 : decode cX12_count 91 = .ok (.ireturn, 1) := by decide +kernel
theorem dX12_count_92 : decode cX12_count 92 = .ok (.aload_n 0, 1) := by decide +kernel
theorem dX12_count_93 : decode cX12_count 93 = .ok (.getfield 34, 3) := by decide +kernel
theorem dX12_count_96 : decode cX12_count 96 = .ok (.iconst 2, 1) := by decide +kernel
theorem dX12_count_97 : decode cX12_count 97 = .ok (.iaload, 1) := by decide +kernel
theorem dX12_count_98 : decode cX12_count 98 = .ok (.ireturn, 1) := by decide +kernel
theorem dX12_count_99 : decode cX12_count 99 = .ok (.aload_n 0, 1) := by decide +kernel
theorem dX12_count_100 : decode cX12_count 100 = .ok (.getfield 46, 3) := by decide +kernel
theorem dX12_count_103 : decode cX12_count 103 = .ok (.iconst 0, 1) := by decide +kernel
theorem dX12_count_104 : decode cX12_count 104 = .ok (.laload, 1) := by decide +kernel
theorem dX12_count_105 : decode cX12_count 105 = .ok (.invokestatic 544, 3) := by decide +kernel
theorem dX12_count_108 : decode cX12_count 108 = .ok (.ireturn, 1) := by decide +kernel
theorem dX12_count_109 : decode cX12_count 109 = .ok (.iconst 0, 1) := by decide +kernel
theorem dX12_count_110 : decode cX12_count 110 = .ok (.istore_n 3, 1) := by decide +kernel
theorem dX12_count_111 : decode cX12_count 111 = .ok (.iload_n 3, 1) := by decide +kernel
theorem dX12_count_112 : decode cX12_count 112 = .ok (.iconst 2, 1) := by decide +kernel
theorem dX12_count_113 : decode cX12_count 113 = .ok (.aload_n 0, 1) := by decide +kernel
theorem dX12_count_114 : decode cX12_count 114 = .ok (.getfield 34, 3) := by decide +kernel
theorem dX12_count_117 : decode cX12_count 117 = .ok (.iconst 4, 1) := by decide +kernel
theorem dX12_count_118 : decode cX12_count 118 = .ok (.iaload, 1) := by decide +kernel
theorem dX12_count_119 : decode cX12_count 119 = .ok (.imul, 1) := by decide +kernel
theorem dX12_count_120 : decode cX12_count 120 = .ok (.if_icmp .ge 21, 3) := by decide +kernel
theorem dX12_count_123 : decode cX12_count 123 = .ok (.iload_n 2, 1) := by decide +kernel
theorem dX12_count_124 : decode cX12_count 124 = .ok (.aload_n 0, 1) := by decide +kernel
theorem dX12_count_125 : decode cX12_count 125 = .ok (.getfield 43, 3) := by decide +kernel
theorem dX12_count_128 : decode cX12_count 128 = .ok (.iload_n 3, 1) := by decide +kernel
theorem dX12_count_129 : decode cX12_count 129 = .ok (.laload, 1) := by decide +kernel
theorem dX12_count_130 : decode cX12_count 130 = .ok (.invokestatic 544, 3) := by decide +kernel
theorem dX12_count_133 : decode cX12_count 133 = .ok (.iadd, 1) := by decide +kernel
theorem dX12_count_134 : decode cX12_count 134 = .ok (.istore_n 2, 1) := by decide +kernel
theorem dX12_count_135 : decode cX12_count 135 = .ok (.iinc 3 1, 3) := by decide +kernel
theorem dX12_count_138 : decode cX12_count 138 = .ok (.goto (-27), 3) := by decide +kernel
theorem dX12_count_141 : decode cX12_count 141 = .ok (.iload_n 2, 1) := by decide +kernel
theorem dX12_count_142 : decode cX12_count 142 = .ok (.ireturn, 1) := by decide +kernel
theorem dX12_count_143 : decode cX12_count 143 = .ok (.aload_n 0, 1) := by decide +kernel
theorem dX12_count_144 : decode cX12_count 144 = .ok (.getfield 31, 3) := by decide +kernel
theorem dX12_count_147 : decode cX12_count 147 = .ok (.iconst 0, 1) := by decide +kernel
theorem dX12_count_148 : decode cX12_count 148 = .ok (.iaload, 1) := by decide +kernel
theorem dX12_count_149 : decode cX12_count 149 = .ok (.ireturn, 1) := by decide +kernel
theorem dX12_count_150 : decode cX12_count 150 = .ok (.aload_n 0, 1) := by decide +kernel
theorem dX12_count_151 : decode cX12_count 151 = .ok (.getfield 124, 3) := by decide +kernel
theorem dX12_count_154 : decode cX12_count 154 = .ok (.ireturn, 1) := by decide +kernel
theorem dX12_count_155 : decode cX12_count 155 = .ok (.iconst 0, 1) := by decide +kernel
theorem dX12_count_156 : decode cX12_count 156 = .ok (.istore_n 3, 1) := by decide +kernel
theorem dX12_count_157 : decode cX12_count 157 = .ok (.iload_n 3, 1) := by decide +kernel
theorem dX12_count_158 : decode cX12_count 158 = .ok (.iconst 4, 1) := by decide +kernel
theorem dX12_count_159 : decode cX12_count 159 = .ok (.if_icmp .ge 27, 3) := by decide +kernel
theorem dX12_count_162 : decode cX12_count 162 = .ok (.iload_n 2, 1) := by decide +kernel
theorem dX12_count_163 : decode cX12_count 163 = .ok (.aload_n 0, 1) := by decide +kernel
theorem dX12_count_164 : decode cX12_count 164 = .ok (.getfield 7, 3) := by decide +kernel
theorem dX12_count_167 : decode cX12_count 167 = .ok (.iload_n 3, 1) := by decide +kernel
theorem dX12_count_168 : decode cX12_count 168 = .ok (.iaload, 1) := by decide +kernel
theorem dX12_count_169 : decode cX12_count 169 = .ok (.iconst (-1), 1) := by decide +kernel
theorem dX12_count_170 : decode cX12_count 170 = .ok (.if_icmp .ne 7, 3) := by decide +kernel
theorem dX12_count_173 : decode cX12_count 173 = .ok (.iconst 0, 1) := by decide +kernel
theorem dX12_count_174 : decode cX12_count 174 = .ok (.goto 4, 3) := by decide +kernel
theorem dX12_count_177 : decode cX12_count 177 = .ok (.iconst 1, 1) := by decide +kernel
theorem dX12_count_178 : decode cX12_count 178 = .ok (.iadd, 1) := by decide +kernel
theorem dX12_count_179 : decode cX12_count 179 = .ok (.istore_n 2, 1) := by decide +kernel
theorem dX12_count_180 : decode cX12_count 180 = .ok (.iinc 3 1, 3) := by decide +kernel
theorem dX12_count_183 : decode cX12_count 183 = .ok (.goto (-26), 3) := by decide +kernel
theorem dX12_count_186 : decode cX12_count 186 = .ok (.iload_n 2, 1) := by decide +kernel
theorem dX12_count_187 : decode cX12_count 187 = .ok (.ireturn, 1) := by decide +kernel
theorem dX12_count_188 : decode cX12_count 188 = .ok (.iconst (-1), 1) := by decide +kernel
theorem dX12_count_189 : decode cX12_count 189 = .ok (.ireturn, 1) := by decide +kernel
theorem dX12_keep_0 : decode cX12_keep 0 = .ok (.aload_n 0, 1) := by decide +kernel
theorem dX12_keep_1 : decode cX12_keep 1 = .ok (.iconst 0, 1) := by decide +kernel
theorem dX12_keep_2 : decode cX12_keep 2 = .ok (.putfield 107, 3) := by decide +kernel
theorem dX12_keep_5 : decode cX12_keep 5 = .ok (.iload_n 1, 1) := by decide +kernel
theorem dX12_keep_6 : decode cX12_keep 6 = .ok (.i2l, 1) := by decide +kernel
theorem dX12_keep_7 : decode cX12_keep 7 = .ok (.lconst 0, 1) := by decide +kernel
theorem dX12_keep_8 : decode cX12_keep 8 = .ok (.ldc2_w 284, 3) := by decide +kernel
theorem dX12_keep_11 : decode cX12_keep 11 = .ok (.invokestatic 112, 3) := by decide +kernel
theorem dX12_keep_14 : decode cX12_keep 14 = .ok (.ifCond .ne 6, 3) := by decide +kernel
theorem dX12_keep_17 : decode cX12_keep 17 = .ok (.bipush (-2), 2) := by decide +kernel
theorem dX12_keep_19 : decode cX12_keep 19 = .ok (.ireturn, 1) := by decide +kernel
theorem dX12_keep_20 : decode cX12_keep 20 = .ok (.aload_n 0, 1) := by decide +kernel
theorem dX12_keep_21 : decode cX12_keep 21 = .ok (.iconst 0, 1) := by decide +kernel
theorem dX12_keep_22 : decode cX12_keep 22 = .ok (.iconst 1, 1) := by decide +kernel
theorem dX12_keep_23 : decode cX12_keep 23 = .ok (.iload_n 1, 1) := by decide +kernel
theorem dX12_keep_24 : decode cX12_keep 24 = .ok (.iadd, 1) := by decide +kernel
theorem dX12_keep_25 : decode cX12_keep 25 = .ok (.invokevirtual 263, 3) := by decide +kernel
theorem dX12_keep_28 : decode cX12_keep 28 = .ok (.aload_n 0, 1) := by decide +kernel
theorem dX12_keep_29 : decode cX12_keep 29 = .ok (.getfield 49, 3) := by decide +kernel
theorem dX12_keep_32 : decode cX12_keep 32 = .ok (.iload_n 1, 1) := by decide +kernel
theorem dX12_keep_33 : decode cX12_keep 33 = .ok (.iconst 1, 1) := by decide +kernel
theorem dX12_keep_34 : decode cX12_keep 34 = .ok (.bastore, 1) := by decide +kernel
theorem dX12_keep_35 : decode cX12_keep 35 = .ok (.iconst 0, 1) := by decide +kernel
theorem dX12_keep_36 : decode cX12_keep 36 = .ok (.ireturn, 1) := by decide +kernel
theorem dX12_on_0 : decode cX12_on 0 = .ok (.aload_n 0, 1) := by decide +kernel
theorem dX12_on_1 : decode cX12_on 1 = .ok (.iconst 0, 1) := by decide +kernel
theorem dX12_on_2 : decode cX12_on 2 = .ok (.putfield 107, 3) := by decide +kernel
theorem dX12_on_5 : decode cX12_on 5 = .ok (.iload_n 1, 1) := by decide +kernel
theorem dX12_on_6 : decode cX12_on 6 = .ok (.i2l, 1) := by decide +kernel
theorem dX12_on_7 : decode cX12_on 7 = .ok (.lconst 0, 1) := by decide +kernel
theorem dX12_on_8 : decode cX12_on 8 = .ok (.ldc2_w 284, 3) := by decide +kernel
theorem dX12_on_11 : decode cX12_on 11 = .ok (.invokestatic 112, 3) := by decide +kernel
theorem dX12_on_14 : decode cX12_on 14 = .ok (.ifCond .ne 6, 3) := by decide +kernel
theorem dX12_on_17 : decode cX12_on 17 = .ok (.bipush (-2), 2) := by decide +kernel
theorem dX12_on_19 : decode cX12_on 19 = .ok (.ireturn, 1) := by decide +kernel
theorem dX12_on_20 : decode cX12_on 20 = .ok (.aload_n 0, 1) := by decide +kernel
theorem dX12_on_21 : decode cX12_on 21 = .ok (.getfield 49, 3) := by decide +kernel
theorem dX12_on_24 : decode cX12_on 24 = .ok (.iload_n 1, 1) := by decide +kernel
theorem dX12_on_25 : decode cX12_on 25 = .ok (.baload, 1) := by decide +kernel
theorem dX12_on_26 : decode cX12_on 26 = .ok (.ifCond .ne 6, 3) := by decide +kernel
theorem dX12_on_29 : decode cX12_on 29 = .ok (.bipush (-6), 2) := by decide +kernel
theorem dX12_on_31 : decode cX12_on 31 = .ok (.ireturn, 1) := by decide +kernel
theorem dX12_on_32 : decode cX12_on 32 = .ok (.aload_n 0, 1) := by decide +kernel
theorem dX12_on_33 : decode cX12_on 33 = .ok (.iconst 1, 1) := by decide +kernel
theorem dX12_on_34 : decode cX12_on 34 = .ok (.iload_n 1, 1) := by decide +kernel
theorem dX12_on_35 : decode cX12_on 35 = .ok (.iadd, 1) := by decide +kernel
theorem dX12_on_36 : decode cX12_on 36 = .ok (.iconst 0, 1) := by decide +kernel
theorem dX12_on_37 : decode cX12_on 37 = .ok (.invokevirtual 263, 3) := by decide +kernel
theorem dX12_on_40 : decode cX12_on 40 = .ok (.iconst 0, 1) := by decide +kernel
theorem dX12_on_41 : decode cX12_on 41 = .ok (.ireturn, 1) := by decide +kernel
