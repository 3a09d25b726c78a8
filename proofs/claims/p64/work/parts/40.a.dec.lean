theorem dX11_poorest_0 : decode cX11_poorest 0 = .ok (.aload_n 0, 1) := by decide +kernel
theorem dX11_poorest_1 : decode cX11_poorest 1 = .ok (.getfield 19, 3) := by decide +kernel
theorem dX11_poorest_4 : decode cX11_poorest 4 = .ok (.invokevirtual 220, 3) := by decide +kernel
theorem dX11_poorest_7 : decode cX11_poorest 7 = .ok (.ifCond .ne 6, 3) := by decide +kernel
theorem dX11_poorest_10 : decode cX11_poorest 10 = .ok (.bipush (-2), 2) := by decide +kernel
theorem dX11_poorest_12 : decode cX11_poorest 12 = .ok (.ireturn, 1) := by decide +kernel
theorem dX11_poorest_13 : decode cX11_poorest 13 = .ok (.aload_n 0, 1) := by decide +kernel
theorem dX11_poorest_14 : decode cX11_poorest 14 = .ok (.invokevirtual 159, 3) := by decide +kernel
theorem dX11_poorest_17 : decode cX11_poorest 17 = .ok (.astore_n 1, 1) := by decide +kernel
theorem dX11_poorest_18 : decode cX11_poorest 18 = .ok (.iconst 0, 1) := by decide +kernel
theorem dX11_poorest_19 : decode cX11_poorest 19 = .ok (.istore_n 2, 1) := by decide +kernel
theorem dX11_poorest_20 : decode cX11_poorest 20 = .ok (.iconst 1, 1) := by decide +kernel
theorem dX11_poorest_21 : decode cX11_poorest 21 = .ok (.istore_n 3, 1) := by decide +kernel
theorem dX11_poorest_22 : decode cX11_poorest 22 = .ok (.iload_n 3, 1) := by decide +kernel
theorem dX11_poorest_23 : decode cX11_poorest 23 = .ok (.aload_n 0, 1) := by decide +kernel
theorem dX11_poorest_24 : decode cX11_poorest 24 = .ok (.getfield 19, 3) := by decide +kernel
theorem dX11_poorest_27 : decode cX11_poorest 27 = .ok (.getfield 177, 3) := by decide +kernel
theorem dX11_poorest_30 : decode cX11_poorest 30 = .ok (.if_icmp .ge 32, 3) := by decide +kernel
theorem dX11_poorest_33 : decode cX11_poorest 33 = .ok (.aload_n 1, 1) := by decide +kernel
theorem dX11_poorest_34 : decode cX11_poorest 34 = .ok (.aload_n 0, 1) := by decide +kernel
theorem dX11_poorest_35 : decode cX11_poorest 35 = .ok (.getfield 19, 3) := by decide +kernel
theorem dX11_poorest_38 : decode cX11_poorest 38 = .ok (.iload_n 3, 1) := by decide +kernel
theorem dX11_poorest_39 : decode cX11_poorest 39 = .ok (.invokevirtual 187, 3) := by decide +kernel
theorem dX11_poorest_42 : decode cX11_poorest 42 = .ok (.aload_n 1, 1) := by decide +kernel
theorem dX11_poorest_43 : decode cX11_poorest 43 = .ok (.aload_n 0, 1) := by decide +kernel
theorem dX11_poorest_44 : decode cX11_poorest 44 = .ok (.getfield 19, 3) := by decide +kernel
theorem dX11_poorest_47 : decode cX11_poorest 47 = .ok (.iload_n 2, 1) := by decide +kernel
theorem dX11_poorest_48 : decode cX11_poorest 48 = .ok (.invokevirtual 187, 3) := by decide +kernel
theorem dX11_poorest_51 : decode cX11_poorest 51 = .ok (.if_icmp .ge 5, 3) := by decide +kernel
theorem dX11_poorest_54 : decode cX11_poorest 54 = .ok (.iload_n 3, 1) := by decide +kernel
theorem dX11_poorest_55 : decode cX11_poorest 55 = .ok (.istore_n 2, 1) := by decide +kernel
theorem dX11_poorest_56 : decode cX11_poorest 56 = .ok (.iinc 3 1, 3) := by decide +kernel
theorem dX11_poorest_59 : decode cX11_poorest 59 = .ok (.goto (-37), 3) := by decide +kernel
theorem dX11_poorest_62 : decode cX11_poorest 62 = .ok (.iload_n 2, 1) := by decide +kernel
theorem dX11_poorest_63 : decode cX11_poorest 63 = .ok (.ireturn, 1) := by decide +kernel
theorem dX11_odds_0 : decode cX11_odds 0 = .ok (.aload_n 0, 1) := by decide +kernel
theorem dX11_odds_1 : decode cX11_odds 1 = .ok (.getfield 19, 3) := by decide +kernel
theorem dX11_odds_4 : decode cX11_odds 4 = .ok (.iload_n 1, 1) := by decide +kernel
theorem dX11_odds_5 : decode cX11_odds 5 = .ok (.invokevirtual 135, 3) := by decide +kernel
theorem dX11_odds_8 : decode cX11_odds 8 = .ok (.ifCond .ne 6, 3) := by decide +kernel
theorem dX11_odds_11 : decode cX11_odds 11 = .ok (.bipush (-100), 2) := by decide +kernel
theorem dX11_odds_13 : decode cX11_odds 13 = .ok (.ireturn, 1) := by decide +kernel
theorem dX11_odds_14 : decode cX11_odds 14 = .ok (.aload_n 0, 1) := by decide +kernel
theorem dX11_odds_15 : decode cX11_odds 15 = .ok (.invokevirtual 159, 3) := by decide +kernel
theorem dX11_odds_18 : decode cX11_odds 18 = .ok (.astore_n 2, 1) := by decide +kernel
theorem dX11_odds_19 : decode cX11_odds 19 = .ok (.aload_n 2, 1) := by decide +kernel
theorem dX11_odds_20 : decode cX11_odds 20 = .ok (.iconst 2, 1) := by decide +kernel
theorem dX11_odds_21 : decode cX11_odds 21 = .ok (.iload_n 1, 1) := by decide +kernel
theorem dX11_odds_22 : decode cX11_odds 22 = .ok (.imul, 1) := by decide +kernel
theorem dX11_odds_23 : decode cX11_odds 23 = .ok (.invokevirtual 197, 3) := by decide +kernel
theorem dX11_odds_26 : decode cX11_odds 26 = .ok (.invokestatic 212, 3) := by decide +kernel
theorem dX11_odds_29 : decode cX11_odds 29 = .ok (.aload_n 2, 1) := by decide +kernel
theorem dX11_odds_30 : decode cX11_odds 30 = .ok (.iconst 2, 1) := by decide +kernel
theorem dX11_odds_31 : decode cX11_odds 31 = .ok (.iload_n 1, 1) := by decide +kernel
theorem dX11_odds_32 : decode cX11_odds 32 = .ok (.imul, 1) := by decide +kernel
theorem dX11_odds_33 : decode cX11_odds 33 = .ok (.iconst 1, 1) := by decide +kernel
theorem dX11_odds_34 : decode cX11_odds 34 = .ok (.iadd, 1) := by decide +kernel
theorem dX11_odds_35 : decode cX11_odds 35 = .ok (.invokevirtual 197, 3) := by decide +kernel
theorem dX11_odds_38 : decode cX11_odds 38 = .ok (.invokestatic 212, 3) := by decide +kernel
theorem dX11_odds_41 : decode cX11_odds 41 = .ok (.isub, 1) := by decide +kernel
theorem dX11_odds_42 : decode cX11_odds 42 = .ok (.ireturn, 1) := by decide +kernel
theorem dX11_streak_0 : decode cX11_streak 0 = .ok (.aload_n 0, 1) := by decide +kernel
theorem dX11_streak_1 : decode cX11_streak 1 = .ok (.getfield 19, 3) := by decide +kernel
theorem dX11_streak_4 : decode cX11_streak 4 = .ok (.iload_n 1, 1) := by decide +kernel
theorem dX11_streak_5 : decode cX11_streak 5 = .ok (.invokevirtual 135, 3) := by decide +kernel
theorem dX11_streak_8 : decode cX11_streak 8 = .ok (.ifCond .eq 11, 3) := by decide +kernel
theorem dX11_streak_11 : decode cX11_streak 11 = .ok (.iload_n 2, 1) := by decide +kernel
theorem dX11_streak_12 : decode cX11_streak 12 = .ok (.iconst 2, 1) := by decide +kernel
theorem dX11_streak_13 : decode cX11_streak 13 = .ok (.invokestatic 148, 3) := by decide +kernel
theorem dX11_streak_16 : decode cX11_streak 16 = .ok (.ifCond .ne 6, 3) := by decide +kernel
theorem dX11_streak_19 : decode cX11_streak 19 = .ok (.bipush (-2), 2) := by decide +kernel
theorem dX11_streak_21 : decode cX11_streak 21 = .ok (.ireturn, 1) := by decide +kernel
theorem dX11_streak_22 : decode cX11_streak 22 = .ok (.aload_n 0, 1) := by decide +kernel
theorem dX11_streak_23 : decode cX11_streak 23 = .ok (.invokevirtual 159, 3) := by decide +kernel
theorem dX11_streak_26 : decode cX11_streak 26 = .ok (.astore_n 3, 1) := by decide +kernel
theorem dX11_streak_27 : decode cX11_streak 27 = .ok (.aload_n 3, 1) := by decide +kernel
theorem dX11_streak_28 : decode cX11_streak 28 = .ok (.getfield 174, 3) := by decide +kernel
theorem dX11_streak_31 : decode cX11_streak 31 = .ok (.iconst 2, 1) := by decide +kernel
theorem dX11_streak_32 : decode cX11_streak 32 = .ok (.iload_n 1, 1) := by decide +kernel
theorem dX11_streak_33 : decode cX11_streak 33 = .ok (.imul, 1) := by decide +kernel
theorem dX11_streak_34 : decode cX11_streak 34 = .ok (.laload, 1) := by decide +kernel
theorem dX11_streak_35 : decode cX11_streak 35 = .ok (.aload_n 3, 1) := by decide +kernel
theorem dX11_streak_36 : decode cX11_streak 36 = .ok (.getfield 174, 3) := by decide +kernel
theorem dX11_streak_39 : decode cX11_streak 39 = .ok (.iconst 2, 1) := by decide +kernel
theorem dX11_streak_40 : decode cX11_streak 40 = .ok (.iload_n 1, 1) := by decide +kernel
theorem dX11_streak_41 : decode cX11_streak 41 = .ok (.imul, 1) := by decide +kernel
theorem dX11_streak_42 : decode cX11_streak 42 = .ok (.iconst 1, 1) := by decide +kernel
theorem dX11_streak_43 : decode cX11_streak 43 = .ok (.iadd, 1) := by decide +kernel
theorem dX11_streak_44 : decode cX11_streak 44 = .ok (.laload, 1) := by decide +kernel
theorem dX11_streak_45 : decode cX11_streak 45 = .ok (.land, 1) := by decide +kernel
theorem dX11_streak_46 : decode cX11_streak 46 = .ok (.lstore 4, 2) := by decide +kernel
theorem dX11_streak_48 : decode cX11_streak 48 = .ok (.iconst 0, 1) := by decide +kernel
theorem dX11_streak_49 : decode cX11_streak 49 = .ok (.istore 6, 2) := by decide +kernel
theorem dX11_streak_51 : decode cX11_streak 51 = .ok (.iconst 0, 1) := by decide +kernel
theorem dX11_streak_52 : decode cX11_streak 52 = .ok (.istore 7, 2) := by decide +kernel
theorem dX11_streak_54 : decode cX11_streak 54 = .ok (.iconst (-1), 1) := by decide +kernel
theorem dX11_streak_55 : decode cX11_streak 55 = .ok (.istore 8, 2) := by decide +kernel
theorem dX11_streak_57 : decode cX11_streak 57 = .ok (.iconst 0, 1) := by decide +kernel
theorem dX11_streak_58 : decode cX11_streak 58 = .ok (.istore 9, 2) := by decide +kernel
theorem dX11_streak_60 : decode cX11_streak 60 = .ok (.iload 9, 2) := by decide +kernel
theorem dX11_streak_62 : decode cX11_streak 62 = .ok (.aload_n 0, 1) := by decide +kernel
theorem dX11_streak_63 : decode cX11_streak 63 = .ok (.getfield 19, 3) := by decide +kernel
theorem dX11_streak_66 : decode cX11_streak 66 = .ok (.getfield 177, 3) := by decide +kernel
theorem dX11_streak_69 : decode cX11_streak 69 = .ok (.if_icmp .ge 49, 3) := by decide +kernel
theorem dX11_streak_72 : decode cX11_streak 72 = .ok (.lload 4, 2) := by decide +kernel
theorem dX11_streak_74 : decode cX11_streak 74 = .ok (.iload 9, 2) := by decide +kernel
theorem dX11_streak_76 : decode cX11_streak 76 = .ok (.invokestatic 167, 3) := by decide +kernel
theorem dX11_streak_79 : decode cX11_streak 79 = .ok (.ifCond .eq 10, 3) := by decide +kernel
theorem dX11_streak_82 : decode cX11_streak 82 = .ok (.iload 6, 2) := by decide +kernel
theorem dX11_streak_84 : decode cX11_streak 84 = .ok (.iconst 1, 1) := by decide +kernel
theorem dX11_streak_85 : decode cX11_streak 85 = .ok (.iadd, 1) := by decide +kernel
theorem dX11_streak_86 : decode cX11_streak 86 = .ok (.goto 4, 3) := by decide +kernel
theorem dX11_streak_89 : decode cX11_streak 89 = .ok (.iconst 0, 1) := by decide +kernel
theorem dX11_streak_90 : decode cX11_streak 90 = .ok (.istore 6, 2) := by decide +kernel
theorem dX11_streak_92 : decode cX11_streak 92 = .ok (.iload 6, 2) := by decide +kernel
theorem dX11_streak_94 : decode cX11_streak 94 = .ok (.iload 7, 2) := by decide +kernel
theorem dX11_streak_96 : decode cX11_streak 96 = .ok (.if_icmp .le 16, 3) := by decide +kernel
theorem dX11_streak_99 : decode cX11_streak 99 = .ok (.iload 6, 2) := by decide +kernel
theorem dX11_streak_101 : decode cX11_streak 101 = .ok (.istore 7, 2) := by decide +kernel
theorem dX11_streak_103 : decode cX11_streak 103 = .ok (.iload 9, 2) := by decide +kernel
theorem dX11_streak_105 : decode cX11_streak 105 = .ok (.iload 6, 2) := by decide +kernel
theorem dX11_streak_107 : decode cX11_streak 107 = .ok (.isub, 1) := by decide +kernel
theorem dX11_streak_108 : decode cX11_streak 108 = .ok (.iconst 1, 1) := by decide +kernel
theorem dX11_streak_109 : decode cX11_streak 109 = .ok (.iadd, 1) := by decide +kernel
theorem dX11_streak_110 : decode cX11_streak 110 = .ok (.istore 8, 2) := by decide +kernel
theorem dX11_streak_112 : decode cX11_streak 112 = .ok (.iinc 9 1, 3) := by decide +kernel
theorem dX11_streak_115 : decode cX11_streak 115 = .ok (.goto (-55), 3) := by decide +kernel
theorem dX11_streak_118 : decode cX11_streak 118 = .ok (.iload_n 2, 1) := by decide +kernel
theorem dX11_streak_119 : decode cX11_streak 119 = .ok (.ifCond .ne 8, 3) := by decide +kernel
theorem dX11_streak_122 : decode cX11_streak 122 = .ok (.iload 7, 2) := by decide +kernel
theorem dX11_streak_124 : decode cX11_streak 124 = .ok (.goto 5, 3) := by decide +kernel
theorem dX11_streak_127 : decode cX11_streak 127 = .ok (.iload 8, 2) := by decide +kernel
theorem dX11_streak_129 : decode cX11_streak 129 = .ok (.ireturn, 1) := by decide +kernel
theorem dX11_fate_0 : decode cX11_fate 0 = .ok (.iload_n 1, 1) := by decide +kernel
theorem dX11_fate_1 : decode cX11_fate 1 = .ok (.iload_n 2, 1) := by decide +kernel
theorem dX11_fate_2 : decode cX11_fate 2 = .ok (.invokestatic 232, 3) := by decide +kernel
theorem dX11_fate_5 : decode cX11_fate 5 = .ok (.ifCond .eq 21, 3) := by decide +kernel
theorem dX11_fate_8 : decode cX11_fate 8 = .ok (.iload_n 3, 1) := by decide +kernel
theorem dX11_fate_9 : decode cX11_fate 9 = .ok (.bipush 16, 2) := by decide +kernel
theorem dX11_fate_11 : decode cX11_fate 11 = .ok (.invokestatic 148, 3) := by decide +kernel
theorem dX11_fate_14 : decode cX11_fate 14 = .ok (.ifCond .eq 12, 3) := by decide +kernel
theorem dX11_fate_17 : decode cX11_fate 17 = .ok (.iload 4, 2) := by decide +kernel
theorem dX11_fate_19 : decode cX11_fate 19 = .ok (.iconst 4, 1) := by decide +kernel
theorem dX11_fate_20 : decode cX11_fate 20 = .ok (.invokestatic 148, 3) := by decide +kernel
theorem dX11_fate_23 : decode cX11_fate 23 = .ok (.ifCond .ne 6, 3) := by decide +kernel
theorem dX11_fate_26 : decode cX11_fate 26 = .ok (.bipush (-2), 2) := by decide +kernel
theorem dX11_fate_28 : decode cX11_fate 28 = .ok (.ireturn, 1) := by decide +kernel
theorem dX11_fate_29 : decode cX11_fate 29 = .ok (.aload_n 0, 1) := by decide +kernel
theorem dX11_fate_30 : decode cX11_fate 30 = .ok (.getfield 44, 3) := by decide +kernel
theorem dX11_fate_33 : decode cX11_fate 33 = .ok (.iload_n 1, 1) := by decide +kernel
theorem dX11_fate_34 : decode cX11_fate 34 = .ok (.iload_n 2, 1) := by decide +kernel
theorem dX11_fate_35 : decode cX11_fate 35 = .ok (.iload_n 3, 1) := by decide +kernel
theorem dX11_fate_36 : decode cX11_fate 36 = .ok (.invokevirtual 235, 3) := by decide +kernel
theorem dX11_fate_39 : decode cX11_fate 39 = .ok (.aload_n 0, 1) := by decide +kernel
theorem dX11_fate_40 : decode cX11_fate 40 = .ok (.getfield 44, 3) := by decide +kernel
theorem dX11_fate_43 : decode cX11_fate 43 = .ok (.iload 4, 2) := by decide +kernel
theorem dX11_fate_45 : decode cX11_fate 45 = .ok (.invokevirtual 239, 3) := by decide +kernel
theorem dX11_fate_48 : decode cX11_fate 48 = .ok (.ireturn, 1) := by decide +kernel
theorem dX11_goes_0 : decode cX11_goes 0 = .ok (.aload_n 0, 1) := by decide +kernel
theorem dX11_goes_1 : decode cX11_goes 1 = .ok (.getfield 19, 3) := by decide +kernel
theorem dX11_goes_4 : decode cX11_goes 4 = .ok (.iload_n 1, 1) := by decide +kernel
theorem dX11_goes_5 : decode cX11_goes 5 = .ok (.invokevirtual 135, 3) := by decide +kernel
theorem dX11_goes_8 : decode cX11_goes 8 = .ok (.ifCond .eq 11, 3) := by decide +kernel
theorem dX11_goes_11 : decode cX11_goes 11 = .ok (.iload_n 2, 1) := by decide +kernel
theorem dX11_goes_12 : decode cX11_goes 12 = .ok (.iconst 4, 1) := by decide +kernel
theorem dX11_goes_13 : decode cX11_goes 13 = .ok (.invokestatic 148, 3) := by decide +kernel
theorem dX11_goes_16 : decode cX11_goes 16 = .ok (.ifCond .ne 6, 3) := by decide +kernel
theorem dX11_goes_19 : decode cX11_goes 19 = .ok (.bipush (-2), 2) := by decide +kernel
theorem dX11_goes_21 : decode cX11_goes 21 = .ok (.ireturn, 1) := by decide +kernel
theorem dX11_goes_22 : decode cX11_goes 22 = .ok (.aload_n 0, 1) := by decide +kernel
theorem dX11_goes_23 : decode cX11_goes 23 = .ok (.iload_n 1, 1) := by decide +kernel
theorem dX11_goes_24 : decode cX11_goes 24 = .ok (.aload_n 0, 1) := by decide +kernel
theorem dX11_goes_25 : decode cX11_goes 25 = .ok (.getfield 19, 3) := by decide +kernel
theorem dX11_goes_28 : decode cX11_goes 28 = .ok (.getfield 141, 3) := by decide +kernel
theorem dX11_goes_31 : decode cX11_goes 31 = .ok (.iload_n 1, 1) := by decide +kernel
theorem dX11_goes_32 : decode cX11_goes 32 = .ok (.iaload, 1) := by decide +kernel
theorem dX11_goes_33 : decode cX11_goes 33 = .ok (.invokevirtual 242, 3) := by decide +kernel
theorem dX11_goes_36 : decode cX11_goes 36 = .ok (.aload_n 0, 1) := by decide +kernel
theorem dX11_goes_37 : decode cX11_goes 37 = .ok (.getfield 44, 3) := by decide +kernel
theorem dX11_goes_40 : decode cX11_goes 40 = .ok (.iload_n 2, 1) := by decide +kernel
theorem dX11_goes_41 : decode cX11_goes 41 = .ok (.invokevirtual 239, 3) := by decide +kernel
theorem dX11_goes_44 : decode cX11_goes 44 = .ok (.ireturn, 1) := by decide +kernel
theorem dX11_basin_0 : decode cX11_basin 0 = .ok (.iload_n 1, 1) := by decide +kernel
theorem dX11_basin_1 : decode cX11_basin 1 = .ok (.iload_n 2, 1) := by decide +kernel
theorem dX11_basin_2 : decode cX11_basin 2 = .ok (.invokestatic 232, 3) := by decide +kernel
theorem dX11_basin_5 : decode cX11_basin 5 = .ok (.ifCond .eq 11, 3) := by decide +kernel
theorem dX11_basin_8 : decode cX11_basin 8 = .ok (.iload_n 3, 1) := by decide +kernel
theorem dX11_basin_9 : decode cX11_basin 9 = .ok (.iconst 3, 1) := by decide +kernel
theorem dX11_basin_10 : decode cX11_basin 10 = .ok (.invokestatic 148, 3) := by decide +kernel
theorem dX11_basin_13 : decode cX11_basin 13 = .ok (.ifCond .ne 6, 3) := by decide +kernel
theorem dX11_basin_16 : decode cX11_basin 16 = .ok (.bipush (-2), 2) := by decide +kernel
theorem dX11_basin_18 : decode cX11_basin 18 = .ok (.ireturn, 1) := by decide +kernel
theorem dX11_basin_19 : decode cX11_basin 19 = .ok (.iconst 0, 1) := by decide +kernel
theorem dX11_basin_20 : decode cX11_basin 20 = .ok (.istore 4, 2) := by decide +kernel
theorem dX11_basin_22 : decode cX11_basin 22 = .ok (.iconst 0, 1) := by decide +kernel
theorem dX11_basin_23 : decode cX11_basin 23 = .ok (.istore 5, 2) := by decide +kernel
theorem dX11_basin_25 : decode cX11_basin 25 = .ok (.iload 5, 2) := by decide +kernel
theorem dX11_basin_27 : decode cX11_basin 27 = .ok (.bipush 16, 2) := by decide +kernel
theorem dX11_basin_29 : decode cX11_basin 29 = .ok (.if_icmp .ge 34, 3) := by decide +kernel
theorem dX11_basin_32 : decode cX11_basin 32 = .ok (.aload_n 0, 1) := by decide +kernel
theorem dX11_basin_33 : decode cX11_basin 33 = .ok (.getfield 44, 3) := by decide +kernel
theorem dX11_basin_36 : decode cX11_basin 36 = .ok (.iload_n 1, 1) := by decide +kernel
theorem dX11_basin_37 : decode cX11_basin 37 = .ok (.iload_n 2, 1) := by decide +kernel
theorem dX11_basin_38 : decode cX11_basin 38 = .ok (.iload 5, 2) := by decide +kernel
theorem dX11_basin_40 : decode cX11_basin 40 = .ok (.invokevirtual 235, 3) := by decide +kernel
theorem dX11_basin_43 : decode cX11_basin 43 = .ok (.aload_n 0, 1) := by decide +kernel
theorem dX11_basin_44 : decode cX11_basin 44 = .ok (.getfield 44, 3) := by decide +kernel
theorem dX11_basin_47 : decode cX11_basin 47 = .ok (.invokevirtual 246, 3) := by decide +kernel
theorem dX11_basin_50 : decode cX11_basin 50 = .ok (.iload_n 3, 1) := by decide +kernel
theorem dX11_basin_51 : decode cX11_basin 51 = .ok (.if_icmp .ne 6, 3) := by decide +kernel
theorem dX11_basin_54 : decode cX11_basin 54 = .ok (.iinc 4 1, 3) := by decide +kernel
theorem dX11_basin_57 : decode cX11_basin 57 = .ok (.iinc 5 1, 3) := by decide +kernel
theorem dX11_basin_60 : decode cX11_basin 60 = .ok (.goto (-35), 3) := by decide +kernel
theorem dX11_basin_63 : decode cX11_basin 63 = .ok (.iload 4, 2) := by decide +kernel
theorem dX11_basin_65 : decode cX11_basin 65 = .ok (.ireturn, 1) := by decide +kernel
theorem dX11_longest_0 : decode cX11_longest 0 = .ok (.iload_n 1, 1) := by decide +kernel
theorem dX11_longest_1 : decode cX11_longest 1 = .ok (.iload_n 2, 1) := by decide +kernel
theorem dX11_longest_2 : decode cX11_longest 2 = .ok (.invokestatic 232, 3) := by decide +kernel
theorem dX11_longest_5 : decode cX11_longest 5 = .ok (.ifCond .ne 6, 3) := by decide +kernel
theorem dX11_longest_8 : decode cX11_longest 8 = .ok (.bipush (-2), 2) := by decide +kernel
theorem dX11_longest_10 : decode cX11_longest 10 = .ok (.ireturn, 1) := by decide +kernel
theorem dX11_longest_11 : decode cX11_longest 11 = .ok (.iconst 0, 1) := by decide +kernel
theorem dX11_longest_12 : decode cX11_longest 12 = .ok (.istore_n 3, 1) := by decide +kernel
theorem dX11_longest_13 : decode cX11_longest 13 = .ok (.iconst 0, 1) := by decide +kernel
theorem dX11_longest_14 : decode cX11_longest 14 = .ok (.istore 4, 2) := by decide +kernel
theorem dX11_longest_16 : decode cX11_longest 16 = .ok (.iload 4, 2) := by decide +kernel
theorem dX11_longest_18 : decode cX11_longest 18 = .ok (.bipush 16, 2) := by decide +kernel
theorem dX11_longest_20 : decode cX11_longest 20 = .ok (.if_icmp .ge 32, 3) := by decide +kernel
theorem dX11_longest_23 : decode cX11_longest 23 = .ok (.aload_n 0, 1) := by decide +kernel
theorem dX11_longest_24 : decode cX11_longest 24 = .ok (.getfield 44, 3) := by decide +kernel
theorem dX11_longest_27 : decode cX11_longest 27 = .ok (.iload_n 1, 1) := by decide +kernel
theorem dX11_longest_28 : decode cX11_longest 28 = .ok (.iload_n 2, 1) := by decide +kernel
theorem dX11_longest_29 : decode cX11_longest 29 = .ok (.iload 4, 2) := by decide +kernel
theorem dX11_longest_31 : decode cX11_longest 31 = .ok (.invokevirtual 235, 3) := by decide +kernel
theorem dX11_longest_34 : decode cX11_longest 34 = .ok (.iload_n 3, 1) := by decide +kernel
theorem dX11_longest_35 : decode cX11_longest 35 = .ok (.aload_n 0, 1) := by decide +kernel
theorem dX11_longest_36 : decode cX11_longest 36 = .ok (.getfield 44, 3) := by decide +kernel
theorem dX11_longest_39 : decode cX11_longest 39 = .ok (.getfield 250, 3) := by decide +kernel
theorem dX11_longest_42 : decode cX11_longest 42 = .ok (.invokestatic 251, 3) := by decide +kernel
theorem dX11_longest_45 : decode cX11_longest 45 = .ok (.istore_n 3, 1) := by decide +kernel
theorem dX11_longest_46 : decode cX11_longest 46 = .ok (.iinc 4 1, 3) := by decide +kernel
theorem dX11_longest_49 : decode cX11_longest 49 = .ok (.goto (-33), 3) := by decide +kernel
theorem dX11_longest_52 : decode cX11_longest 52 = .ok (.iload_n 3, 1) := by decide +kernel
theorem dX11_longest_53 : decode cX11_longest 53 = .ok (.ireturn, 1) := by decide +kernel
theorem dX11_faithful_0 : decode cX11_faithful 0 = .ok (.iload_n 1, 1) := by decide +kernel
theorem dX11_faithful_1 : decode cX11_faithful 1 = .ok (.bipush 32, 2) := by decide +kernel
theorem dX11_faithful_3 : decode cX11_faithful 3 = .ok (.invokestatic 148, 3) := by decide +kernel
theorem dX11_faithful_6 : decode cX11_faithful 6 = .ok (.ifCond .ne 6, 3) := by decide +kernel
theorem dX11_faithful_9 : decode cX11_faithful 9 = .ok (.bipush (-2), 2) := by decide +kernel
theorem dX11_faithful_11 : decode cX11_faithful 11 = .ok (.ireturn, 1) := by decide +kernel
theorem dX11_faithful_12 : decode cX11_faithful 12 = .ok (.iconst 0, 1) := by decide +kernel
theorem dX11_faithful_13 : decode cX11_faithful 13 = .ok (.istore_n 2, 1) := by decide +kernel
theorem dX11_faithful_14 : decode cX11_faithful 14 = .ok (.iconst 0, 1) := by decide +kernel
theorem dX11_faithful_15 : decode cX11_faithful 15 = .ok (.istore_n 3, 1) := by decide +kernel
theorem dX11_faithful_16 : decode cX11_faithful 16 = .ok (.iload_n 3, 1) := by decide +kernel
theorem dX11_faithful_17 : decode cX11_faithful 17 = .ok (.bipush 32, 2) := by decide +kernel
theorem dX11_faithful_19 : decode cX11_faithful 19 = .ok (.if_icmp .ge 24, 3) := by decide +kernel
theorem dX11_faithful_22 : decode cX11_faithful 22 = .ok (.aload_n 0, 1) := by decide +kernel
theorem dX11_faithful_23 : decode cX11_faithful 23 = .ok (.getfield 44, 3) := by decide +kernel
theorem dX11_faithful_26 : decode cX11_faithful 26 = .ok (.iload_n 1, 1) := by decide +kernel
theorem dX11_faithful_27 : decode cX11_faithful 27 = .ok (.iload_n 3, 1) := by decide +kernel
theorem dX11_faithful_28 : decode cX11_faithful 28 = .ok (.invokevirtual 256, 3) := by decide +kernel
theorem dX11_faithful_31 : decode cX11_faithful 31 = .ok (.ifCond .ne 6, 3) := by decide +kernel
theorem dX11_faithful_34 : decode cX11_faithful 34 = .ok (.iinc 2 1, 3) := by decide +kernel
theorem dX11_faithful_37 : decode cX11_faithful 37 = .ok (.iinc 3 1, 3) := by decide +kernel
theorem dX11_faithful_40 : decode cX11_faithful 40 = .ok (.goto (-24), 3) := by decide +kernel
theorem dX11_faithful_43 : decode cX11_faithful 43 = .ok (.iload_n 2, 1) := by decide +kernel
theorem dX11_faithful_44 : decode cX11_faithful 44 = .ok (.ireturn, 1) := by decide +kernel
theorem dX11_lost_0 : decode cX11_lost 0 = .ok (.aload_n 0, 1) := by decide +kernel
theorem dX11_lost_1 : decode cX11_lost 1 = .ok (.getfield 19, 3) := by decide +kernel
theorem dX11_lost_4 : decode cX11_lost 4 = .ok (.iload_n 1, 1) := by decide +kernel
theorem dX11_lost_5 : decode cX11_lost 5 = .ok (.invokevirtual 135, 3) := by decide +kernel
theorem dX11_lost_8 : decode cX11_lost 8 = .ok (.ifCond .eq 14, 3) := by decide +kernel
theorem dX11_lost_11 : decode cX11_lost 11 = .ok (.iload_n 2, 1) := by decide +kernel
theorem dX11_lost_12 : decode cX11_lost 12 = .ok (.invokestatic 152, 3) := by decide +kernel
theorem dX11_lost_15 : decode cX11_lost 15 = .ok (.ifCond .eq 7, 3) := by decide +kernel
theorem dX11_lost_18 : decode cX11_lost 18 = .ok (.iload_n 3, 1) := by decide +kernel
theorem dX11_lost_19 : decode cX11_lost 19 = .ok (.ifCond .ge 6, 3) := by decide +kernel
theorem dX11_lost_22 : decode cX11_lost 22 = .ok (.bipush (-2), 2) := by decide +kernel
theorem dX11_lost_24 : decode cX11_lost 24 = .ok (.ireturn, 1) := by decide +kernel
theorem dX11_lost_25 : decode cX11_lost 25 = .ok (.aload_n 0, 1) := by decide +kernel
theorem dX11_lost_26 : decode cX11_lost 26 = .ok (.iload_n 1, 1) := by decide +kernel
theorem dX11_lost_27 : decode cX11_lost 27 = .ok (.aload_n 0, 1) := by decide +kernel
theorem dX11_lost_28 : decode cX11_lost 28 = .ok (.getfield 19, 3) := by decide +kernel
theorem dX11_lost_31 : decode cX11_lost 31 = .ok (.getfield 141, 3) := by decide +kernel
theorem dX11_lost_34 : decode cX11_lost 34 = .ok (.iload_n 1, 1) := by decide +kernel
theorem dX11_lost_35 : decode cX11_lost 35 = .ok (.iaload, 1) := by decide +kernel
theorem dX11_lost_36 : decode cX11_lost 36 = .ok (.invokevirtual 242, 3) := by decide +kernel
theorem dX11_lost_39 : decode cX11_lost 39 = .ok (.iload_n 3, 1) := by decide +kernel
theorem dX11_lost_40 : decode cX11_lost 40 = .ok (.aload_n 0, 1) := by decide +kernel
theorem dX11_lost_41 : decode cX11_lost 41 = .ok (.getfield 44, 3) := by decide +kernel
theorem dX11_lost_44 : decode cX11_lost 44 = .ok (.getfield 250, 3) := by decide +kernel
theorem dX11_lost_47 : decode cX11_lost 47 = .ok (.if_icmp .lt 6, 3) := by decide +kernel
theorem dX11_lost_50 : decode cX11_lost 50 = .ok (.bipush (-2), 2) := by decide +kernel
theorem dX11_lost_52 : decode cX11_lost 52 = .ok (.ireturn, 1) := by decide +kernel
theorem dX11_lost_53 : decode cX11_lost 53 = .ok (.aload_n 0, 1) := by decide +kernel
theorem dX11_lost_54 : decode cX11_lost 54 = .ok (.iload_n 1, 1) := by decide +kernel
theorem dX11_lost_55 : decode cX11_lost 55 = .ok (.aload_n 0, 1) := by decide +kernel
theorem dX11_lost_56 : decode cX11_lost 56 = .ok (.getfield 44, 3) := by decide +kernel
theorem dX11_lost_59 : decode cX11_lost 59 = .ok (.iload_n 3, 1) := by decide +kernel
theorem dX11_lost_60 : decode cX11_lost 60 = .ok (.iload_n 2, 1) := by decide +kernel
theorem dX11_lost_61 : decode cX11_lost 61 = .ok (.invokevirtual 259, 3) := by decide +kernel
theorem dX11_lost_64 : decode cX11_lost 64 = .ok (.invokevirtual 242, 3) := by decide +kernel
theorem dX11_lost_67 : decode cX11_lost 67 = .ok (.aload_n 0, 1) := by decide +kernel
theorem dX11_lost_68 : decode cX11_lost 68 = .ok (.getfield 44, 3) := by decide +kernel
theorem dX11_lost_71 : decode cX11_lost 71 = .ok (.invokevirtual 246, 3) := by decide +kernel
theorem dX11_lost_74 : decode cX11_lost 74 = .ok (.ireturn, 1) := by decide +kernel
