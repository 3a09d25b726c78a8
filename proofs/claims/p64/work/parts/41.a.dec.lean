theorem dX11_back_0 : decode cX11_back 0 = .ok (.aload_n 0, 1) := by decide +kernel
theorem dX11_back_1 : decode cX11_back 1 = .ok (.getfield 19, 3) := by decide +kernel
theorem dX11_back_4 : decode cX11_back 4 = .ok (.iload_n 1, 1) := by decide +kernel
theorem dX11_back_5 : decode cX11_back 5 = .ok (.invokevirtual 135, 3) := by decide +kernel
theorem dX11_back_8 : decode cX11_back 8 = .ok (.ifCond .eq 10, 3) := by decide +kernel
theorem dX11_back_11 : decode cX11_back 11 = .ok (.iload_n 2, 1) := by decide +kernel
theorem dX11_back_12 : decode cX11_back 12 = .ok (.invokestatic 152, 3) := by decide +kernel
theorem dX11_back_15 : decode cX11_back 15 = .ok (.ifCond .ne 6, 3) := by decide +kernel
theorem dX11_back_18 : decode cX11_back 18 = .ok (.bipush (-2), 2) := by decide +kernel
theorem dX11_back_20 : decode cX11_back 20 = .ok (.ireturn, 1) := by decide +kernel
theorem dX11_back_21 : decode cX11_back 21 = .ok (.aload_n 0, 1) := by decide +kernel
theorem dX11_back_22 : decode cX11_back 22 = .ok (.iload_n 1, 1) := by decide +kernel
theorem dX11_back_23 : decode cX11_back 23 = .ok (.aload_n 0, 1) := by decide +kernel
theorem dX11_back_24 : decode cX11_back 24 = .ok (.getfield 19, 3) := by decide +kernel
theorem dX11_back_27 : decode cX11_back 27 = .ok (.getfield 141, 3) := by decide +kernel
theorem dX11_back_30 : decode cX11_back 30 = .ok (.iload_n 1, 1) := by decide +kernel
theorem dX11_back_31 : decode cX11_back 31 = .ok (.iaload, 1) := by decide +kernel
theorem dX11_back_32 : decode cX11_back 32 = .ok (.invokevirtual 242, 3) := by decide +kernel
theorem dX11_back_35 : decode cX11_back 35 = .ok (.aload_n 0, 1) := by decide +kernel
theorem dX11_back_36 : decode cX11_back 36 = .ok (.getfield 44, 3) := by decide +kernel
theorem dX11_back_39 : decode cX11_back 39 = .ok (.getfield 262, 3) := by decide +kernel
theorem dX11_back_42 : decode cX11_back 42 = .ok (.istore_n 3, 1) := by decide +kernel
theorem dX11_back_43 : decode cX11_back 43 = .ok (.aload_n 0, 1) := by decide +kernel
theorem dX11_back_44 : decode cX11_back 44 = .ok (.getfield 44, 3) := by decide +kernel
theorem dX11_back_47 : decode cX11_back 47 = .ok (.getfield 250, 3) := by decide +kernel
theorem dX11_back_50 : decode cX11_back 50 = .ok (.istore 4, 2) := by decide +kernel
theorem dX11_back_52 : decode cX11_back 52 = .ok (.iconst 0, 1) := by decide +kernel
theorem dX11_back_53 : decode cX11_back 53 = .ok (.istore 5, 2) := by decide +kernel
theorem dX11_back_55 : decode cX11_back 55 = .ok (.iconst 0, 1) := by decide +kernel
theorem dX11_back_56 : decode cX11_back 56 = .ok (.istore 6, 2) := by decide +kernel
theorem dX11_back_58 : decode cX11_back 58 = .ok (.iload 6, 2) := by decide +kernel
theorem dX11_back_60 : decode cX11_back 60 = .ok (.iload 4, 2) := by decide +kernel
theorem dX11_back_62 : decode cX11_back 62 = .ok (.if_icmp .ge 50, 3) := by decide +kernel
theorem dX11_back_65 : decode cX11_back 65 = .ok (.aload_n 0, 1) := by decide +kernel
theorem dX11_back_66 : decode cX11_back 66 = .ok (.iload_n 1, 1) := by decide +kernel
theorem dX11_back_67 : decode cX11_back 67 = .ok (.iload_n 3, 1) := by decide +kernel
theorem dX11_back_68 : decode cX11_back 68 = .ok (.invokevirtual 242, 3) := by decide +kernel
theorem dX11_back_71 : decode cX11_back 71 = .ok (.aload_n 0, 1) := by decide +kernel
theorem dX11_back_72 : decode cX11_back 72 = .ok (.iload_n 1, 1) := by decide +kernel
theorem dX11_back_73 : decode cX11_back 73 = .ok (.aload_n 0, 1) := by decide +kernel
theorem dX11_back_74 : decode cX11_back 74 = .ok (.getfield 44, 3) := by decide +kernel
theorem dX11_back_77 : decode cX11_back 77 = .ok (.iload 6, 2) := by decide +kernel
theorem dX11_back_79 : decode cX11_back 79 = .ok (.iload_n 2, 1) := by decide +kernel
theorem dX11_back_80 : decode cX11_back 80 = .ok (.invokevirtual 259, 3) := by decide +kernel
theorem dX11_back_83 : decode cX11_back 83 = .ok (.invokevirtual 242, 3) := by decide +kernel
theorem dX11_back_86 : decode cX11_back 86 = .ok (.aload_n 0, 1) := by decide +kernel
theorem dX11_back_87 : decode cX11_back 87 = .ok (.getfield 44, 3) := by decide +kernel
theorem dX11_back_90 : decode cX11_back 90 = .ok (.iload_n 3, 1) := by decide +kernel
theorem dX11_back_91 : decode cX11_back 91 = .ok (.invokevirtual 265, 3) := by decide +kernel
theorem dX11_back_94 : decode cX11_back 94 = .ok (.ifCond .eq 12, 3) := by decide +kernel
theorem dX11_back_97 : decode cX11_back 97 = .ok (.iload 5, 2) := by decide +kernel
theorem dX11_back_99 : decode cX11_back 99 = .ok (.iconst 1, 1) := by decide +kernel
theorem dX11_back_100 : decode cX11_back 100 = .ok (.iload 6, 2) := by decide +kernel
theorem dX11_back_102 : decode cX11_back 102 = .ok (.ishl, 1) := by decide +kernel
theorem dX11_back_103 : decode cX11_back 103 = .ok (.ior, 1) := by decide +kernel
theorem dX11_back_104 : decode cX11_back 104 = .ok (.istore 5, 2) := by decide +kernel
theorem dX11_back_106 : decode cX11_back 106 = .ok (.iinc 6 1, 3) := by decide +kernel
theorem dX11_back_109 : decode cX11_back 109 = .ok (.goto (-51), 3) := by decide +kernel
theorem dX11_back_112 : decode cX11_back 112 = .ok (.iload 5, 2) := by decide +kernel
theorem dX11_back_114 : decode cX11_back 114 = .ok (.ireturn, 1) := by decide +kernel
theorem dX11_strike_0 : decode cX11_strike 0 = .ok (.aload_n 0, 1) := by decide +kernel
theorem dX11_strike_1 : decode cX11_strike 1 = .ok (.getfield 19, 3) := by decide +kernel
theorem dX11_strike_4 : decode cX11_strike 4 = .ok (.iload_n 1, 1) := by decide +kernel
theorem dX11_strike_5 : decode cX11_strike 5 = .ok (.invokevirtual 184, 3) := by decide +kernel
theorem dX11_strike_8 : decode cX11_strike 8 = .ok (.ifCond .eq 12, 3) := by decide +kernel
theorem dX11_strike_11 : decode cX11_strike 11 = .ok (.aload_n 0, 1) := by decide +kernel
theorem dX11_strike_12 : decode cX11_strike 12 = .ok (.iload_n 1, 1) := by decide +kernel
theorem dX11_strike_13 : decode cX11_strike 13 = .ok (.iconst 0, 1) := by decide +kernel
theorem dX11_strike_14 : decode cX11_strike 14 = .ok (.invokevirtual 268, 3) := by decide +kernel
theorem dX11_strike_17 : decode cX11_strike 17 = .ok (.goto 5, 3) := by decide +kernel
theorem dX11_strike_20 : decode cX11_strike 20 = .ok (.bipush (-2), 2) := by decide +kernel
theorem dX11_strike_22 : decode cX11_strike 22 = .ok (.ireturn, 1) := by decide +kernel
theorem dX11_saves_0 : decode cX11_saves 0 = .ok (.aload_n 0, 1) := by decide +kernel
theorem dX11_saves_1 : decode cX11_saves 1 = .ok (.getfield 19, 3) := by decide +kernel
theorem dX11_saves_4 : decode cX11_saves 4 = .ok (.iload_n 1, 1) := by decide +kernel
theorem dX11_saves_5 : decode cX11_saves 5 = .ok (.invokevirtual 184, 3) := by decide +kernel
theorem dX11_saves_8 : decode cX11_saves 8 = .ok (.ifCond .eq 12, 3) := by decide +kernel
theorem dX11_saves_11 : decode cX11_saves 11 = .ok (.aload_n 0, 1) := by decide +kernel
theorem dX11_saves_12 : decode cX11_saves 12 = .ok (.iload_n 1, 1) := by decide +kernel
theorem dX11_saves_13 : decode cX11_saves 13 = .ok (.iconst 1, 1) := by decide +kernel
theorem dX11_saves_14 : decode cX11_saves 14 = .ok (.invokevirtual 268, 3) := by decide +kernel
theorem dX11_saves_17 : decode cX11_saves 17 = .ok (.goto 5, 3) := by decide +kernel
theorem dX11_saves_20 : decode cX11_saves 20 = .ok (.bipush (-2), 2) := by decide +kernel
theorem dX11_saves_22 : decode cX11_saves 22 = .ok (.ireturn, 1) := by decide +kernel
theorem dX11_mildest_0 : decode cX11_mildest 0 = .ok (.aload_n 0, 1) := by decide +kernel
theorem dX11_mildest_1 : decode cX11_mildest 1 = .ok (.getfield 19, 3) := by decide +kernel
theorem dX11_mildest_4 : decode cX11_mildest 4 = .ok (.invokevirtual 220, 3) := by decide +kernel
theorem dX11_mildest_7 : decode cX11_mildest 7 = .ok (.ifCond .ne 6, 3) := by decide +kernel
theorem dX11_mildest_10 : decode cX11_mildest 10 = .ok (.bipush (-2), 2) := by decide +kernel
theorem dX11_mildest_12 : decode cX11_mildest 12 = .ok (.ireturn, 1) := by decide +kernel
theorem dX11_mildest_13 : decode cX11_mildest 13 = .ok (.iconst 0, 1) := by decide +kernel
theorem dX11_mildest_14 : decode cX11_mildest 14 = .ok (.istore_n 1, 1) := by decide +kernel
theorem dX11_mildest_15 : decode cX11_mildest 15 = .ok (.bipush 17, 2) := by decide +kernel
theorem dX11_mildest_17 : decode cX11_mildest 17 = .ok (.istore_n 2, 1) := by decide +kernel
theorem dX11_mildest_18 : decode cX11_mildest 18 = .ok (.iconst 0, 1) := by decide +kernel
theorem dX11_mildest_19 : decode cX11_mildest 19 = .ok (.istore_n 3, 1) := by decide +kernel
theorem dX11_mildest_20 : decode cX11_mildest 20 = .ok (.iload_n 3, 1) := by decide +kernel
theorem dX11_mildest_21 : decode cX11_mildest 21 = .ok (.aload_n 0, 1) := by decide +kernel
theorem dX11_mildest_22 : decode cX11_mildest 22 = .ok (.getfield 19, 3) := by decide +kernel
theorem dX11_mildest_25 : decode cX11_mildest 25 = .ok (.getfield 177, 3) := by decide +kernel
theorem dX11_mildest_28 : decode cX11_mildest 28 = .ok (.if_icmp .ge 28, 3) := by decide +kernel
theorem dX11_mildest_31 : decode cX11_mildest 31 = .ok (.aload_n 0, 1) := by decide +kernel
theorem dX11_mildest_32 : decode cX11_mildest 32 = .ok (.iload_n 3, 1) := by decide +kernel
theorem dX11_mildest_33 : decode cX11_mildest 33 = .ok (.iconst 0, 1) := by decide +kernel
theorem dX11_mildest_34 : decode cX11_mildest 34 = .ok (.invokevirtual 268, 3) := by decide +kernel
theorem dX11_mildest_37 : decode cX11_mildest 37 = .ok (.istore 4, 2) := by decide +kernel
theorem dX11_mildest_39 : decode cX11_mildest 39 = .ok (.iload 4, 2) := by decide +kernel
theorem dX11_mildest_41 : decode cX11_mildest 41 = .ok (.iload_n 2, 1) := by decide +kernel
theorem dX11_mildest_42 : decode cX11_mildest 42 = .ok (.if_icmp .ge 8, 3) := by decide +kernel
theorem dX11_mildest_45 : decode cX11_mildest 45 = .ok (.iload 4, 2) := by decide +kernel
theorem dX11_mildest_47 : decode cX11_mildest 47 = .ok (.istore_n 2, 1) := by decide +kernel
theorem dX11_mildest_48 : decode cX11_mildest 48 = .ok (.iload_n 3, 1) := by decide +kernel
theorem dX11_mildest_49 : decode cX11_mildest 49 = .ok (.istore_n 1, 1) := by decide +kernel
theorem dX11_mildest_50 : decode cX11_mildest 50 = .ok (.iinc 3 1, 3) := by decide +kernel
theorem dX11_mildest_53 : decode cX11_mildest 53 = .ok (.goto (-33), 3) := by decide +kernel
theorem dX11_mildest_56 : decode cX11_mildest 56 = .ok (.iload_n 1, 1) := by decide +kernel
theorem dX11_mildest_57 : decode cX11_mildest 57 = .ok (.ireturn, 1) := by decide +kernel
theorem dX11_alive_0 : decode cX11_alive 0 = .ok (.aload_n 0, 1) := by decide +kernel
theorem dX11_alive_1 : decode cX11_alive 1 = .ok (.iload_n 1, 1) := by decide +kernel
theorem dX11_alive_2 : decode cX11_alive 2 = .ok (.iload_n 2, 1) := by decide +kernel
theorem dX11_alive_3 : decode cX11_alive 3 = .ok (.iload_n 3, 1) := by decide +kernel
theorem dX11_alive_4 : decode cX11_alive 4 = .ok (.invokevirtual 272, 3) := by decide +kernel
theorem dX11_alive_7 : decode cX11_alive 7 = .ok (.ifCond .ne 7, 3) := by decide +kernel
theorem dX11_alive_10 : decode cX11_alive 10 = .ok (.ldc2_w 275, 3) := by decide +kernel
theorem dX11_alive_13 : decode cX11_alive 13 = .ok (.lreturn, 1) := by decide +kernel
theorem dX11_alive_14 : decode cX11_alive 14 = .ok (.aload_n 0, 1) := by decide +kernel
theorem dX11_alive_15 : decode cX11_alive 15 = .ok (.getfield 51, 3) := by decide +kernel
theorem dX11_alive_18 : decode cX11_alive 18 = .ok (.aload_n 0, 1) := by decide +kernel
theorem dX11_alive_19 : decode cX11_alive 19 = .ok (.getfield 19, 3) := by decide +kernel
theorem dX11_alive_22 : decode cX11_alive 22 = .ok (.iload_n 1, 1) := by decide +kernel
theorem dX11_alive_23 : decode cX11_alive 23 = .ok (.iload_n 2, 1) := by decide +kernel
theorem dX11_alive_24 : decode cX11_alive 24 = .ok (.invokevirtual 277, 3) := by decide +kernel
theorem dX11_alive_27 : decode cX11_alive 27 = .ok (.aload_n 0, 1) := by decide +kernel
theorem dX11_alive_28 : decode cX11_alive 28 = .ok (.getfield 51, 3) := by decide +kernel
theorem dX11_alive_31 : decode cX11_alive 31 = .ok (.aload_n 0, 1) := by decide +kernel
theorem dX11_alive_32 : decode cX11_alive 32 = .ok (.getfield 51, 3) := by decide +kernel
theorem dX11_alive_35 : decode cX11_alive 35 = .ok (.getfield 281, 3) := by decide +kernel
theorem dX11_alive_38 : decode cX11_alive 38 = .ok (.iload_n 3, 1) := by decide +kernel
theorem dX11_alive_39 : decode cX11_alive 39 = .ok (.invokevirtual 285, 3) := by decide +kernel
theorem dX11_alive_42 : decode cX11_alive 42 = .ok (.lreturn, 1) := by decide +kernel
theorem dX11_both_0 : decode cX11_both 0 = .ok (.aload_n 0, 1) := by decide +kernel
theorem dX11_both_1 : decode cX11_both 1 = .ok (.iload_n 1, 1) := by decide +kernel
theorem dX11_both_2 : decode cX11_both 2 = .ok (.iload_n 2, 1) := by decide +kernel
theorem dX11_both_3 : decode cX11_both 3 = .ok (.iload_n 3, 1) := by decide +kernel
theorem dX11_both_4 : decode cX11_both 4 = .ok (.invokevirtual 272, 3) := by decide +kernel
theorem dX11_both_7 : decode cX11_both 7 = .ok (.ifCond .ne 7, 3) := by decide +kernel
theorem dX11_both_10 : decode cX11_both 10 = .ok (.ldc2_w 275, 3) := by decide +kernel
theorem dX11_both_13 : decode cX11_both 13 = .ok (.lreturn, 1) := by decide +kernel
theorem dX11_both_14 : decode cX11_both 14 = .ok (.aload_n 0, 1) := by decide +kernel
theorem dX11_both_15 : decode cX11_both 15 = .ok (.getfield 51, 3) := by decide +kernel
theorem dX11_both_18 : decode cX11_both 18 = .ok (.aload_n 0, 1) := by decide +kernel
theorem dX11_both_19 : decode cX11_both 19 = .ok (.getfield 19, 3) := by decide +kernel
theorem dX11_both_22 : decode cX11_both 22 = .ok (.iload_n 1, 1) := by decide +kernel
theorem dX11_both_23 : decode cX11_both 23 = .ok (.iload_n 2, 1) := by decide +kernel
theorem dX11_both_24 : decode cX11_both 24 = .ok (.invokevirtual 277, 3) := by decide +kernel
theorem dX11_both_27 : decode cX11_both 27 = .ok (.aload_n 0, 1) := by decide +kernel
theorem dX11_both_28 : decode cX11_both 28 = .ok (.getfield 51, 3) := by decide +kernel
theorem dX11_both_31 : decode cX11_both 31 = .ok (.aload_n 0, 1) := by decide +kernel
theorem dX11_both_32 : decode cX11_both 32 = .ok (.getfield 51, 3) := by decide +kernel
theorem dX11_both_35 : decode cX11_both 35 = .ok (.getfield 289, 3) := by decide +kernel
theorem dX11_both_38 : decode cX11_both 38 = .ok (.iload_n 3, 1) := by decide +kernel
theorem dX11_both_39 : decode cX11_both 39 = .ok (.invokevirtual 285, 3) := by decide +kernel
theorem dX11_both_42 : decode cX11_both 42 = .ok (.lreturn, 1) := by decide +kernel
theorem dX11_mean_0 : decode cX11_mean 0 = .ok (.aload_n 0, 1) := by decide +kernel
theorem dX11_mean_1 : decode cX11_mean 1 = .ok (.iload_n 1, 1) := by decide +kernel
theorem dX11_mean_2 : decode cX11_mean 2 = .ok (.iload_n 2, 1) := by decide +kernel
theorem dX11_mean_3 : decode cX11_mean 3 = .ok (.iload_n 3, 1) := by decide +kernel
theorem dX11_mean_4 : decode cX11_mean 4 = .ok (.invokevirtual 272, 3) := by decide +kernel
theorem dX11_mean_7 : decode cX11_mean 7 = .ok (.ifCond .ne 7, 3) := by decide +kernel
theorem dX11_mean_10 : decode cX11_mean 10 = .ok (.ldc2_w 275, 3) := by decide +kernel
theorem dX11_mean_13 : decode cX11_mean 13 = .ok (.lreturn, 1) := by decide +kernel
theorem dX11_mean_14 : decode cX11_mean 14 = .ok (.aload_n 0, 1) := by decide +kernel
theorem dX11_mean_15 : decode cX11_mean 15 = .ok (.getfield 51, 3) := by decide +kernel
theorem dX11_mean_18 : decode cX11_mean 18 = .ok (.aload_n 0, 1) := by decide +kernel
theorem dX11_mean_19 : decode cX11_mean 19 = .ok (.getfield 19, 3) := by decide +kernel
theorem dX11_mean_22 : decode cX11_mean 22 = .ok (.iload_n 1, 1) := by decide +kernel
theorem dX11_mean_23 : decode cX11_mean 23 = .ok (.iload_n 2, 1) := by decide +kernel
theorem dX11_mean_24 : decode cX11_mean 24 = .ok (.invokevirtual 277, 3) := by decide +kernel
theorem dX11_mean_27 : decode cX11_mean 27 = .ok (.aload_n 0, 1) := by decide +kernel
theorem dX11_mean_28 : decode cX11_mean 28 = .ok (.getfield 51, 3) := by decide +kernel
theorem dX11_mean_31 : decode cX11_mean 31 = .ok (.aload_n 0, 1) := by decide +kernel
theorem dX11_mean_32 : decode cX11_mean 32 = .ok (.getfield 51, 3) := by decide +kernel
theorem dX11_mean_35 : decode cX11_mean 35 = .ok (.getfield 292, 3) := by decide +kernel
theorem dX11_mean_38 : decode cX11_mean 38 = .ok (.iload_n 3, 1) := by decide +kernel
theorem dX11_mean_39 : decode cX11_mean 39 = .ok (.invokevirtual 285, 3) := by decide +kernel
theorem dX11_mean_42 : decode cX11_mean 42 = .ok (.lreturn, 1) := by decide +kernel
theorem dX11_ending_0 : decode cX11_ending 0 = .ok (.aload_n 0, 1) := by decide +kernel
theorem dX11_ending_1 : decode cX11_ending 1 = .ok (.iload_n 1, 1) := by decide +kernel
theorem dX11_ending_2 : decode cX11_ending 2 = .ok (.iload_n 2, 1) := by decide +kernel
theorem dX11_ending_3 : decode cX11_ending 3 = .ok (.iload_n 3, 1) := by decide +kernel
theorem dX11_ending_4 : decode cX11_ending 4 = .ok (.invokevirtual 295, 3) := by decide +kernel
theorem dX11_ending_7 : decode cX11_ending 7 = .ok (.ifCond .ne 6, 3) := by decide +kernel
theorem dX11_ending_10 : decode cX11_ending 10 = .ok (.bipush (-2), 2) := by decide +kernel
theorem dX11_ending_12 : decode cX11_ending 12 = .ok (.ireturn, 1) := by decide +kernel
theorem dX11_ending_13 : decode cX11_ending 13 = .ok (.aload_n 0, 1) := by decide +kernel
theorem dX11_ending_14 : decode cX11_ending 14 = .ok (.getfield 58, 3) := by decide +kernel
theorem dX11_ending_17 : decode cX11_ending 17 = .ok (.aload_n 0, 1) := by decide +kernel
theorem dX11_ending_18 : decode cX11_ending 18 = .ok (.getfield 19, 3) := by decide +kernel
theorem dX11_ending_21 : decode cX11_ending 21 = .ok (.iload_n 1, 1) := by decide +kernel
theorem dX11_ending_22 : decode cX11_ending 22 = .ok (.iload_n 2, 1) := by decide +kernel
theorem dX11_ending_23 : decode cX11_ending 23 = .ok (.iload_n 3, 1) := by decide +kernel
theorem dX11_ending_24 : decode cX11_ending 24 = .ok (.aload_n 0, 1) := by decide +kernel
theorem dX11_ending_25 : decode cX11_ending 25 = .ok (.getfield 44, 3) := by decide +kernel
theorem dX11_ending_28 : decode cX11_ending 28 = .ok (.invokevirtual 298, 3) := by decide +kernel
theorem dX11_ending_31 : decode cX11_ending 31 = .ok (.aload_n 0, 1) := by decide +kernel
theorem dX11_ending_32 : decode cX11_ending 32 = .ok (.getfield 58, 3) := by decide +kernel
theorem dX11_ending_35 : decode cX11_ending 35 = .ok (.invokevirtual 302, 3) := by decide +kernel
theorem dX11_ending_38 : decode cX11_ending 38 = .ok (.ireturn, 1) := by decide +kernel
