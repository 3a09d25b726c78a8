theorem dX12_poorest_0 : decode cX12_poorest 0 = .ok (.aload_n 0, 1) := by decide +kernel
theorem dX12_poorest_1 : decode cX12_poorest 1 = .ok (.iconst 0, 1) := by decide +kernel
theorem dX12_poorest_2 : decode cX12_poorest 2 = .ok (.putfield 107, 3) := by decide +kernel
theorem dX12_poorest_5 : decode cX12_poorest 5 = .ok (.aload_n 0, 1) := by decide +kernel
theorem dX12_poorest_6 : decode cX12_poorest 6 = .ok (.invokevirtual 373, 3) := by decide +kernel
theorem dX12_poorest_9 : decode cX12_poorest 9 = .ok (.ifCond .ne 6, 3) := by decide +kernel
theorem dX12_poorest_12 : decode cX12_poorest 12 = .ok (.bipush (-2), 2) := by decide +kernel
theorem dX12_poorest_14 : decode cX12_poorest 14 = .ok (.ireturn, 1) := by decide +kernel
theorem dX12_poorest_15 : decode cX12_poorest 15 = .ok (.aload_n 0, 1) := by decide +kernel
theorem dX12_poorest_16 : decode cX12_poorest 16 = .ok (.invokevirtual 346, 3) := by decide +kernel
theorem dX12_poorest_19 : decode cX12_poorest 19 = .ok (.iconst 0, 1) := by decide +kernel
theorem dX12_poorest_20 : decode cX12_poorest 20 = .ok (.istore_n 1, 1) := by decide +kernel
theorem dX12_poorest_21 : decode cX12_poorest 21 = .ok (.iconst 1, 1) := by decide +kernel
theorem dX12_poorest_22 : decode cX12_poorest 22 = .ok (.istore_n 2, 1) := by decide +kernel
theorem dX12_poorest_23 : decode cX12_poorest 23 = .ok (.iload_n 2, 1) := by decide +kernel
theorem dX12_poorest_24 : decode cX12_poorest 24 = .ok (.aload_n 0, 1) := by decide +kernel
theorem dX12_poorest_25 : decode cX12_poorest 25 = .ok (.getfield 34, 3) := by decide +kernel
theorem dX12_poorest_28 : decode cX12_poorest 28 = .ok (.iconst 0, 1) := by decide +kernel
theorem dX12_poorest_29 : decode cX12_poorest 29 = .ok (.iaload, 1) := by decide +kernel
theorem dX12_poorest_30 : decode cX12_poorest 30 = .ok (.if_icmp .ge 26, 3) := by decide +kernel
theorem dX12_poorest_33 : decode cX12_poorest 33 = .ok (.aload_n 0, 1) := by decide +kernel
theorem dX12_poorest_34 : decode cX12_poorest 34 = .ok (.iload_n 2, 1) := by decide +kernel
theorem dX12_poorest_35 : decode cX12_poorest 35 = .ok (.iconst 0, 1) := by decide +kernel
theorem dX12_poorest_36 : decode cX12_poorest 36 = .ok (.invokevirtual 355, 3) := by decide +kernel
theorem dX12_poorest_39 : decode cX12_poorest 39 = .ok (.aload_n 0, 1) := by decide +kernel
theorem dX12_poorest_40 : decode cX12_poorest 40 = .ok (.iload_n 1, 1) := by decide +kernel
theorem dX12_poorest_41 : decode cX12_poorest 41 = .ok (.iconst 0, 1) := by decide +kernel
theorem dX12_poorest_42 : decode cX12_poorest 42 = .ok (.invokevirtual 355, 3) := by decide +kernel
theorem dX12_poorest_45 : decode cX12_poorest 45 = .ok (.if_icmp .ge 5, 3) := by decide +kernel
theorem dX12_poorest_48 : decode cX12_poorest 48 = .ok (.iload_n 2, 1) := by decide +kernel
theorem dX12_poorest_49 : decode cX12_poorest 49 = .ok (.istore_n 1, 1) := by decide +kernel
theorem dX12_poorest_50 : decode cX12_poorest 50 = .ok (.iinc 2 1, 3) := by decide +kernel
theorem dX12_poorest_53 : decode cX12_poorest 53 = .ok (.goto (-30), 3) := by decide +kernel
theorem dX12_poorest_56 : decode cX12_poorest 56 = .ok (.iload_n 1, 1) := by decide +kernel
theorem dX12_poorest_57 : decode cX12_poorest 57 = .ok (.ireturn, 1) := by decide +kernel
theorem dX12_odds_0 : decode cX12_odds 0 = .ok (.aload_n 0, 1) := by decide +kernel
theorem dX12_odds_1 : decode cX12_odds 1 = .ok (.iconst 0, 1) := by decide +kernel
theorem dX12_odds_2 : decode cX12_odds 2 = .ok (.putfield 107, 3) := by decide +kernel
theorem dX12_odds_5 : decode cX12_odds 5 = .ok (.aload_n 0, 1) := by decide +kernel
theorem dX12_odds_6 : decode cX12_odds 6 = .ok (.iload_n 1, 1) := by decide +kernel
theorem dX12_odds_7 : decode cX12_odds 7 = .ok (.invokevirtual 281, 3) := by decide +kernel
theorem dX12_odds_10 : decode cX12_odds 10 = .ok (.ifCond .ne 6, 3) := by decide +kernel
theorem dX12_odds_13 : decode cX12_odds 13 = .ok (.bipush (-100), 2) := by decide +kernel
theorem dX12_odds_15 : decode cX12_odds 15 = .ok (.ireturn, 1) := by decide +kernel
theorem dX12_odds_16 : decode cX12_odds 16 = .ok (.aload_n 0, 1) := by decide +kernel
theorem dX12_odds_17 : decode cX12_odds 17 = .ok (.invokevirtual 346, 3) := by decide +kernel
theorem dX12_odds_20 : decode cX12_odds 20 = .ok (.iconst 0, 1) := by decide +kernel
theorem dX12_odds_21 : decode cX12_odds 21 = .ok (.istore_n 2, 1) := by decide +kernel
theorem dX12_odds_22 : decode cX12_odds 22 = .ok (.iconst 0, 1) := by decide +kernel
theorem dX12_odds_23 : decode cX12_odds 23 = .ok (.istore_n 3, 1) := by decide +kernel
theorem dX12_odds_24 : decode cX12_odds 24 = .ok (.iload_n 3, 1) := by decide +kernel
theorem dX12_odds_25 : decode cX12_odds 25 = .ok (.aload_n 0, 1) := by decide +kernel
theorem dX12_odds_26 : decode cX12_odds 26 = .ok (.getfield 34, 3) := by decide +kernel
theorem dX12_odds_29 : decode cX12_odds 29 = .ok (.iconst 0, 1) := by decide +kernel
theorem dX12_odds_30 : decode cX12_odds 30 = .ok (.iaload, 1) := by decide +kernel
theorem dX12_odds_31 : decode cX12_odds 31 = .ok (.if_icmp .ge 43, 3) := by decide +kernel
theorem dX12_odds_34 : decode cX12_odds 34 = .ok (.iload_n 2, 1) := by decide +kernel
theorem dX12_odds_35 : decode cX12_odds 35 = .ok (.aload_n 0, 1) := by decide +kernel
theorem dX12_odds_36 : decode cX12_odds 36 = .ok (.iload_n 1, 1) := by decide +kernel
theorem dX12_odds_37 : decode cX12_odds 37 = .ok (.iconst 0, 1) := by decide +kernel
theorem dX12_odds_38 : decode cX12_odds 38 = .ok (.iload_n 3, 1) := by decide +kernel
theorem dX12_odds_39 : decode cX12_odds 39 = .ok (.invokevirtual 349, 3) := by decide +kernel
theorem dX12_odds_42 : decode cX12_odds 42 = .ok (.ifCond .le 7, 3) := by decide +kernel
theorem dX12_odds_45 : decode cX12_odds 45 = .ok (.iconst 1, 1) := by decide +kernel
theorem dX12_odds_46 : decode cX12_odds 46 = .ok (.goto 4, 3) := by decide +kernel
theorem dX12_odds_49 : decode cX12_odds 49 = .ok (.iconst 0, 1) := by decide +kernel
theorem dX12_odds_50 : decode cX12_odds 50 = .ok (.aload_n 0, 1) := by decide +kernel
theorem dX12_odds_51 : decode cX12_odds 51 = .ok (.iload_n 1, 1) := by decide +kernel
theorem dX12_odds_52 : decode cX12_odds 52 = .ok (.iconst 1, 1) := by decide +kernel
theorem dX12_odds_53 : decode cX12_odds 53 = .ok (.iload_n 3, 1) := by decide +kernel
theorem dX12_odds_54 : decode cX12_odds 54 = .ok (.invokevirtual 349, 3) := by decide +kernel
theorem dX12_odds_57 : decode cX12_odds 57 = .ok (.ifCond .le 7, 3) := by decide +kernel
theorem dX12_odds_60 : decode cX12_odds 60 = .ok (.iconst 1, 1) := by decide +kernel
theorem dX12_odds_61 : decode cX12_odds 61 = .ok (.goto 4, 3) := by decide +kernel
theorem dX12_odds_64 : decode cX12_odds 64 = .ok (.iconst 0, 1) := by decide +kernel
theorem dX12_odds_65 : decode cX12_odds 65 = .ok (.isub, 1) := by decide +kernel
theorem dX12_odds_66 : decode cX12_odds 66 = .ok (.iadd, 1) := by decide +kernel
theorem dX12_odds_67 : decode cX12_odds 67 = .ok (.istore_n 2, 1) := by decide +kernel
theorem dX12_odds_68 : decode cX12_odds 68 = .ok (.iinc 3 1, 3) := by decide +kernel
theorem dX12_odds_71 : decode cX12_odds 71 = .ok (.goto (-47), 3) := by decide +kernel
theorem dX12_odds_74 : decode cX12_odds 74 = .ok (.iload_n 2, 1) := by decide +kernel
theorem dX12_odds_75 : decode cX12_odds 75 = .ok (.ireturn, 1) := by decide +kernel
theorem dX12_streak_0 : decode cX12_streak 0 = .ok (.aload_n 0, 1) := by decide +kernel
theorem dX12_streak_1 : decode cX12_streak 1 = .ok (.iconst 0, 1) := by decide +kernel
theorem dX12_streak_2 : decode cX12_streak 2 = .ok (.putfield 107, 3) := by decide +kernel
theorem dX12_streak_5 : decode cX12_streak 5 = .ok (.aload_n 0, 1) := by decide +kernel
theorem dX12_streak_6 : decode cX12_streak 6 = .ok (.iload_n 1, 1) := by decide +kernel
theorem dX12_streak_7 : decode cX12_streak 7 = .ok (.invokevirtual 281, 3) := by decide +kernel
theorem dX12_streak_10 : decode cX12_streak 10 = .ok (.ifCond .eq 13, 3) := by decide +kernel
theorem dX12_streak_13 : decode cX12_streak 13 = .ok (.iload_n 2, 1) := by decide +kernel
theorem dX12_streak_14 : decode cX12_streak 14 = .ok (.i2l, 1) := by decide +kernel
theorem dX12_streak_15 : decode cX12_streak 15 = .ok (.lconst 0, 1) := by decide +kernel
theorem dX12_streak_16 : decode cX12_streak 16 = .ok (.lconst 1, 1) := by decide +kernel
theorem dX12_streak_17 : decode cX12_streak 17 = .ok (.invokestatic 112, 3) := by decide +kernel
theorem dX12_streak_20 : decode cX12_streak 20 = .ok (.ifCond .ne 6, 3) := by decide +kernel
theorem dX12_streak_23 : decode cX12_streak 23 = .ok (.bipush (-2), 2) := by decide +kernel
theorem dX12_streak_25 : decode cX12_streak 25 = .ok (.ireturn, 1) := by decide +kernel
theorem dX12_streak_26 : decode cX12_streak 26 = .ok (.aload_n 0, 1) := by decide +kernel
theorem dX12_streak_27 : decode cX12_streak 27 = .ok (.invokevirtual 346, 3) := by decide +kernel
theorem dX12_streak_30 : decode cX12_streak 30 = .ok (.iconst 0, 1) := by decide +kernel
theorem dX12_streak_31 : decode cX12_streak 31 = .ok (.istore_n 3, 1) := by decide +kernel
theorem dX12_streak_32 : decode cX12_streak 32 = .ok (.iconst (-1), 1) := by decide +kernel
theorem dX12_streak_33 : decode cX12_streak 33 = .ok (.istore 4, 2) := by decide +kernel
theorem dX12_streak_35 : decode cX12_streak 35 = .ok (.iconst 0, 1) := by decide +kernel
theorem dX12_streak_36 : decode cX12_streak 36 = .ok (.istore 5, 2) := by decide +kernel
theorem dX12_streak_38 : decode cX12_streak 38 = .ok (.iconst 0, 1) := by decide +kernel
theorem dX12_streak_39 : decode cX12_streak 39 = .ok (.istore 6, 2) := by decide +kernel
theorem dX12_streak_41 : decode cX12_streak 41 = .ok (.iload 6, 2) := by decide +kernel
theorem dX12_streak_43 : decode cX12_streak 43 = .ok (.aload_n 0, 1) := by decide +kernel
theorem dX12_streak_44 : decode cX12_streak 44 = .ok (.getfield 34, 3) := by decide +kernel
theorem dX12_streak_47 : decode cX12_streak 47 = .ok (.iconst 0, 1) := by decide +kernel
theorem dX12_streak_48 : decode cX12_streak 48 = .ok (.iaload, 1) := by decide +kernel
theorem dX12_streak_49 : decode cX12_streak 49 = .ok (.if_icmp .ge 62, 3) := by decide +kernel
theorem dX12_streak_52 : decode cX12_streak 52 = .ok (.aload_n 0, 1) := by decide +kernel
theorem dX12_streak_53 : decode cX12_streak 53 = .ok (.iload_n 1, 1) := by decide +kernel
theorem dX12_streak_54 : decode cX12_streak 54 = .ok (.iconst 0, 1) := by decide +kernel
theorem dX12_streak_55 : decode cX12_streak 55 = .ok (.iload 6, 2) := by decide +kernel
theorem dX12_streak_57 : decode cX12_streak 57 = .ok (.invokevirtual 352, 3) := by decide +kernel
theorem dX12_streak_60 : decode cX12_streak 60 = .ok (.ifCond .eq 21, 3) := by decide +kernel
theorem dX12_streak_63 : decode cX12_streak 63 = .ok (.aload_n 0, 1) := by decide +kernel
theorem dX12_streak_64 : decode cX12_streak 64 = .ok (.iload_n 1, 1) := by decide +kernel
theorem dX12_streak_65 : decode cX12_streak 65 = .ok (.iconst 1, 1) := by decide +kernel
theorem dX12_streak_66 : decode cX12_streak 66 = .ok (.iload 6, 2) := by decide +kernel
theorem dX12_streak_68 : decode cX12_streak 68 = .ok (.invokevirtual 352, 3) := by decide +kernel
theorem dX12_streak_71 : decode cX12_streak 71 = .ok (.ifCond .eq 10, 3) := by decide +kernel
theorem dX12_streak_74 : decode cX12_streak 74 = .ok (.iload 5, 2) := by decide +kernel
theorem dX12_streak_76 : decode cX12_streak 76 = .ok (.iconst 1, 1) := by decide +kernel
theorem dX12_streak_77 : decode cX12_streak 77 = .ok (.iadd, 1) := by decide +kernel
theorem dX12_streak_78 : decode cX12_streak 78 = .ok (.goto 4, 3) := by decide +kernel
theorem dX12_streak_81 : decode cX12_streak 81 = .ok (.iconst 0, 1) := by decide +kernel
theorem dX12_streak_82 : decode cX12_streak 82 = .ok (.istore 5, 2) := by decide +kernel
theorem dX12_streak_84 : decode cX12_streak 84 = .ok (.iload 5, 2) := by decide +kernel
theorem dX12_streak_86 : decode cX12_streak 86 = .ok (.iload_n 3, 1) := by decide +kernel
theorem dX12_streak_87 : decode cX12_streak 87 = .ok (.if_icmp .gt 6, 3) := by decide +kernel
theorem dX12_streak_90 : decode cX12_streak 90 = .ok (.goto 15, 3) := by decide +kernel
theorem dX12_streak_93 : decode cX12_streak 93 = .ok (.iload 5, 2) := by decide +kernel
theorem dX12_streak_95 : decode cX12_streak 95 = .ok (.istore_n 3, 1) := by decide +kernel
theorem dX12_streak_96 : decode cX12_streak 96 = .ok (.iload 6, 2) := by decide +kernel
theorem dX12_streak_98 : decode cX12_streak 98 = .ok (.iload 5, 2) := by decide +kernel
theorem dX12_streak_100 : decode cX12_streak 100 = .ok (.isub, 1) := by decide +kernel
theorem dX12_streak_101 : decode cX12_streak 101 = .ok (.iconst 1, 1) := by decide +kernel
theorem dX12_streak_102 : decode cX12_streak 102 = .ok (.iadd, 1) := by decide +kernel
theorem dX12_streak_103 : decode cX12_streak 103 = .ok (.istore 4, 2) := by decide +kernel
theorem dX12_streak_105 : decode cX12_streak 105 = .ok (.iinc 6 1, 3) := by decide +kernel
theorem dX12_streak_108 : decode cX12_streak 108 = .ok (.goto (-67), 3) := by decide +kernel
theorem dX12_streak_111 : decode cX12_streak 111 = .ok (.iload_n 2, 1) := by decide +kernel
theorem dX12_streak_112 : decode cX12_streak 112 = .ok (.ifCond .ne 7, 3) := by decide +kernel
theorem dX12_streak_115 : decode cX12_streak 115 = .ok (.iload_n 3, 1) := by decide +kernel
theorem dX12_streak_116 : decode cX12_streak 116 = .ok (.goto 5, 3) := by decide +kernel
theorem dX12_streak_119 : decode cX12_streak 119 = .ok (.iload 4, 2) := by decide +kernel
theorem dX12_streak_121 : decode cX12_streak 121 = .ok (.ireturn, 1) := by decide +kernel
theorem dX12_withBit_0 : decode cX12_withBit 0 = .ok (.iload_n 3, 1) := by decide +kernel
theorem dX12_withBit_1 : decode cX12_withBit 1 = .ok (.iconst 1, 1) := by decide +kernel
theorem dX12_withBit_2 : decode cX12_withBit 2 = .ok (.if_icmp .ne 11, 3) := by decide +kernel
theorem dX12_withBit_5 : decode cX12_withBit 5 = .ok (.lload_n 0, 1) := by decide +kernel
theorem dX12_withBit_6 : decode cX12_withBit 6 = .ok (.lconst 1, 1) := by decide +kernel
theorem dX12_withBit_7 : decode cX12_withBit 7 = .ok (.iload_n 2, 1) := by decide +kernel
theorem dX12_withBit_8 : decode cX12_withBit 8 = .ok (.lshl, 1) := by decide +kernel
theorem dX12_withBit_9 : decode cX12_withBit 9 = .ok (.lor, 1) := by decide +kernel
theorem dX12_withBit_10 : decode cX12_withBit 10 = .ok (.goto 12, 3) := by decide +kernel
theorem dX12_withBit_13 : decode cX12_withBit 13 = .ok (.lload_n 0, 1) := by decide +kernel
theorem dX12_withBit_14 : decode cX12_withBit 14 = .ok (.lconst 1, 1) := by decide +kernel
theorem dX12_withBit_15 : decode cX12_withBit 15 = .ok (.iload_n 2, 1) := by decide +kernel
theorem dX12_withBit_16 : decode cX12_withBit 16 = .ok (.lshl, 1) := by decide +kernel
theorem dX12_withBit_17 : decode cX12_withBit 17 = .ok (.ldc2_w 151, 3) := by decide +kernel
theorem dX12_withBit_20 : decode cX12_withBit 20 = .ok (.lxor, 1) := by decide +kernel
theorem dX12_withBit_21 : decode cX12_withBit 21 = .ok (.land, 1) := by decide +kernel
theorem dX12_withBit_22 : decode cX12_withBit 22 = .ok (.lreturn, 1) := by decide +kernel
theorem dX12_bitsOf_0 : decode cX12_bitsOf 0 = .ok (.iconst 0, 1) := by decide +kernel
theorem dX12_bitsOf_1 : decode cX12_bitsOf 1 = .ok (.istore_n 2, 1) := by decide +kernel
theorem dX12_bitsOf_2 : decode cX12_bitsOf 2 = .ok (.lload_n 0, 1) := by decide +kernel
theorem dX12_bitsOf_3 : decode cX12_bitsOf 3 = .ok (.lstore_n 3, 1) := by decide +kernel
theorem dX12_bitsOf_4 : decode cX12_bitsOf 4 = .ok (.lload_n 3, 1) := by decide +kernel
theorem dX12_bitsOf_5 : decode cX12_bitsOf 5 = .ok (.lconst 0, 1) := by decide +kernel
theorem dX12_bitsOf_6 : decode cX12_bitsOf 6 = .ok (.lcmp, 1) := by decide +kernel
theorem dX12_bitsOf_7 : decode cX12_bitsOf 7 = .ok (.ifCond .eq 15, 3) := by decide +kernel
theorem dX12_bitsOf_10 : decode cX12_bitsOf 10 = .ok (.iinc 2 1, 3) := by decide +kernel
theorem dX12_bitsOf_13 : decode cX12_bitsOf 13 = .ok (.lload_n 3, 1) := by decide +kernel
theorem dX12_bitsOf_14 : decode cX12_bitsOf 14 = .ok (.lload_n 3, 1) := by decide +kernel
theorem dX12_bitsOf_15 : decode cX12_bitsOf 15 = .ok (.lconst 1, 1) := by decide +kernel
theorem dX12_bitsOf_16 : decode cX12_bitsOf 16 = .ok (.lsub, 1) := by decide +kernel
theorem dX12_bitsOf_17 : decode cX12_bitsOf 17 = .ok (.land, 1) := by decide +kernel
theorem dX12_bitsOf_18 : decode cX12_bitsOf 18 = .ok (.lstore_n 3, 1) := by decide +kernel
theorem dX12_bitsOf_19 : decode cX12_bitsOf 19 = .ok (.goto (-15), 3) := by decide +kernel
theorem dX12_bitsOf_22 : decode cX12_bitsOf 22 = .ok (.iload_n 2, 1) := by decide +kernel
theorem dX12_bitsOf_23 : decode cX12_bitsOf 23 = .ok (.ireturn, 1) := by decide +kernel
