theorem dX12_common_0 : decode cX12_common 0 = .ok (.lload_n 2, 1) := by decide +kernel
theorem dX12_common_1 : decode cX12_common 1 = .ok (.lconst 0, 1) := by decide +kernel
theorem dX12_common_2 : decode cX12_common 2 = .ok (.lcmp, 1) := by decide +kernel
theorem dX12_common_3 : decode cX12_common 3 = .ok (.ifCond .ne 7, 3) := by decide +kernel
theorem dX12_common_6 : decode cX12_common 6 = .ok (.lload_n 0, 1) := by decide +kernel
theorem dX12_common_7 : decode cX12_common 7 = .ok (.goto 10, 3) := by decide +kernel
theorem dX12_common_10 : decode cX12_common 10 = .ok (.lload_n 2, 1) := by decide +kernel
theorem dX12_common_11 : decode cX12_common 11 = .ok (.lload_n 0, 1) := by decide +kernel
theorem dX12_common_12 : decode cX12_common 12 = .ok (.lload_n 2, 1) := by decide +kernel
theorem dX12_common_13 : decode cX12_common 13 = .ok (.lrem, 1) := by decide +kernel
theorem dX12_common_14 : decode cX12_common 14 = .ok (.invokestatic 453, 3) := by decide +kernel
theorem dX12_common_17 : decode cX12_common 17 = .ok (.lreturn, 1) := by decide +kernel
theorem dX12_told_0 : decode cX12_told 0 = .ok (.iload 4, 2) := by decide +kernel
theorem dX12_told_2 : decode cX12_told 2 = .ok (.ifCond .ne 7, 3) := by decide +kernel
theorem dX12_told_5 : decode cX12_told 5 = .ok (.lload_n 0, 1) := by decide +kernel
theorem dX12_told_6 : decode cX12_told 6 = .ok (.goto 4, 3) := by decide +kernel
theorem dX12_told_9 : decode cX12_told 9 = .ok (.lload_n 2, 1) := by decide +kernel
theorem dX12_told_10 : decode cX12_told 10 = .ok (.lload_n 0, 1) := by decide +kernel
theorem dX12_told_11 : decode cX12_told 11 = .ok (.lload_n 2, 1) := by decide +kernel
theorem dX12_told_12 : decode cX12_told 12 = .ok (.invokestatic 453, 3) := by decide +kernel
theorem dX12_told_15 : decode cX12_told 15 = .ok (.ldiv, 1) := by decide +kernel
theorem dX12_told_16 : decode cX12_told 16 = .ok (.lreturn, 1) := by decide +kernel
theorem dX12_alive_0 : decode cX12_alive 0 = .ok (.aload_n 0, 1) := by decide +kernel
theorem dX12_alive_1 : decode cX12_alive 1 = .ok (.iconst 0, 1) := by decide +kernel
theorem dX12_alive_2 : decode cX12_alive 2 = .ok (.putfield 107, 3) := by decide +kernel
theorem dX12_alive_5 : decode cX12_alive 5 = .ok (.aload_n 0, 1) := by decide +kernel
theorem dX12_alive_6 : decode cX12_alive 6 = .ok (.iload_n 1, 1) := by decide +kernel
theorem dX12_alive_7 : decode cX12_alive 7 = .ok (.iload_n 2, 1) := by decide +kernel
theorem dX12_alive_8 : decode cX12_alive 8 = .ok (.iload_n 3, 1) := by decide +kernel
theorem dX12_alive_9 : decode cX12_alive 9 = .ok (.invokevirtual 457, 3) := by decide +kernel
theorem dX12_alive_12 : decode cX12_alive 12 = .ok (.ifCond .ne 7, 3) := by decide +kernel
theorem dX12_alive_15 : decode cX12_alive 15 = .ok (.ldc2_w 460, 3) := by decide +kernel
theorem dX12_alive_18 : decode cX12_alive 18 = .ok (.lreturn, 1) := by decide +kernel
theorem dX12_alive_19 : decode cX12_alive 19 = .ok (.aload_n 0, 1) := by decide +kernel
theorem dX12_alive_20 : decode cX12_alive 20 = .ok (.iload_n 1, 1) := by decide +kernel
theorem dX12_alive_21 : decode cX12_alive 21 = .ok (.iload_n 2, 1) := by decide +kernel
theorem dX12_alive_22 : decode cX12_alive 22 = .ok (.invokevirtual 462, 3) := by decide +kernel
theorem dX12_alive_25 : decode cX12_alive 25 = .ok (.lstore 4, 2) := by decide +kernel
theorem dX12_alive_27 : decode cX12_alive 27 = .ok (.aload_n 0, 1) := by decide +kernel
theorem dX12_alive_28 : decode cX12_alive 28 = .ok (.getfield 439, 3) := by decide +kernel
theorem dX12_alive_31 : decode cX12_alive 31 = .ok (.lload 4, 2) := by decide +kernel
theorem dX12_alive_33 : decode cX12_alive 33 = .ok (.iload_n 3, 1) := by decide +kernel
theorem dX12_alive_34 : decode cX12_alive 34 = .ok (.invokestatic 466, 3) := by decide +kernel
theorem dX12_alive_37 : decode cX12_alive 37 = .ok (.lreturn, 1) := by decide +kernel
theorem dX12_both_0 : decode cX12_both 0 = .ok (.aload_n 0, 1) := by decide +kernel
theorem dX12_both_1 : decode cX12_both 1 = .ok (.iconst 0, 1) := by decide +kernel
theorem dX12_both_2 : decode cX12_both 2 = .ok (.putfield 107, 3) := by decide +kernel
theorem dX12_both_5 : decode cX12_both 5 = .ok (.aload_n 0, 1) := by decide +kernel
theorem dX12_both_6 : decode cX12_both 6 = .ok (.iload_n 1, 1) := by decide +kernel
theorem dX12_both_7 : decode cX12_both 7 = .ok (.iload_n 2, 1) := by decide +kernel
theorem dX12_both_8 : decode cX12_both 8 = .ok (.iload_n 3, 1) := by decide +kernel
theorem dX12_both_9 : decode cX12_both 9 = .ok (.invokevirtual 457, 3) := by decide +kernel
theorem dX12_both_12 : decode cX12_both 12 = .ok (.ifCond .ne 7, 3) := by decide +kernel
theorem dX12_both_15 : decode cX12_both 15 = .ok (.ldc2_w 460, 3) := by decide +kernel
theorem dX12_both_18 : decode cX12_both 18 = .ok (.lreturn, 1) := by decide +kernel
theorem dX12_both_19 : decode cX12_both 19 = .ok (.aload_n 0, 1) := by decide +kernel
theorem dX12_both_20 : decode cX12_both 20 = .ok (.iload_n 1, 1) := by decide +kernel
theorem dX12_both_21 : decode cX12_both 21 = .ok (.iload_n 2, 1) := by decide +kernel
theorem dX12_both_22 : decode cX12_both 22 = .ok (.invokevirtual 462, 3) := by decide +kernel
theorem dX12_both_25 : decode cX12_both 25 = .ok (.lstore 4, 2) := by decide +kernel
theorem dX12_both_27 : decode cX12_both 27 = .ok (.aload_n 0, 1) := by decide +kernel
theorem dX12_both_28 : decode cX12_both 28 = .ok (.getfield 442, 3) := by decide +kernel
theorem dX12_both_31 : decode cX12_both 31 = .ok (.lload 4, 2) := by decide +kernel
theorem dX12_both_33 : decode cX12_both 33 = .ok (.iload_n 3, 1) := by decide +kernel
theorem dX12_both_34 : decode cX12_both 34 = .ok (.invokestatic 466, 3) := by decide +kernel
theorem dX12_both_37 : decode cX12_both 37 = .ok (.lreturn, 1) := by decide +kernel
theorem dX12_mean_0 : decode cX12_mean 0 = .ok (.aload_n 0, 1) := by decide +kernel
theorem dX12_mean_1 : decode cX12_mean 1 = .ok (.iconst 0, 1) := by decide +kernel
theorem dX12_mean_2 : decode cX12_mean 2 = .ok (.putfield 107, 3) := by decide +kernel
theorem dX12_mean_5 : decode cX12_mean 5 = .ok (.aload_n 0, 1) := by decide +kernel
theorem dX12_mean_6 : decode cX12_mean 6 = .ok (.iload_n 1, 1) := by decide +kernel
theorem dX12_mean_7 : decode cX12_mean 7 = .ok (.iload_n 2, 1) := by decide +kernel
theorem dX12_mean_8 : decode cX12_mean 8 = .ok (.iload_n 3, 1) := by decide +kernel
theorem dX12_mean_9 : decode cX12_mean 9 = .ok (.invokevirtual 457, 3) := by decide +kernel
theorem dX12_mean_12 : decode cX12_mean 12 = .ok (.ifCond .ne 7, 3) := by decide +kernel
theorem dX12_mean_15 : decode cX12_mean 15 = .ok (.ldc2_w 460, 3) := by decide +kernel
theorem dX12_mean_18 : decode cX12_mean 18 = .ok (.lreturn, 1) := by decide +kernel
theorem dX12_mean_19 : decode cX12_mean 19 = .ok (.aload_n 0, 1) := by decide +kernel
theorem dX12_mean_20 : decode cX12_mean 20 = .ok (.iload_n 1, 1) := by decide +kernel
theorem dX12_mean_21 : decode cX12_mean 21 = .ok (.iload_n 2, 1) := by decide +kernel
theorem dX12_mean_22 : decode cX12_mean 22 = .ok (.invokevirtual 462, 3) := by decide +kernel
theorem dX12_mean_25 : decode cX12_mean 25 = .ok (.lstore 4, 2) := by decide +kernel
theorem dX12_mean_27 : decode cX12_mean 27 = .ok (.aload_n 0, 1) := by decide +kernel
theorem dX12_mean_28 : decode cX12_mean 28 = .ok (.getfield 445, 3) := by decide +kernel
theorem dX12_mean_31 : decode cX12_mean 31 = .ok (.lload 4, 2) := by decide +kernel
theorem dX12_mean_33 : decode cX12_mean 33 = .ok (.iload_n 3, 1) := by decide +kernel
theorem dX12_mean_34 : decode cX12_mean 34 = .ok (.invokestatic 466, 3) := by decide +kernel
theorem dX12_mean_37 : decode cX12_mean 37 = .ok (.lreturn, 1) := by decide +kernel
theorem dX12_pen_0 : decode cX12_pen 0 = .ok (.aload_n 0, 1) := by decide +kernel
theorem dX12_pen_1 : decode cX12_pen 1 = .ok (.iconst 0, 1) := by decide +kernel
theorem dX12_pen_2 : decode cX12_pen 2 = .ok (.putfield 107, 3) := by decide +kernel
theorem dX12_pen_5 : decode cX12_pen 5 = .ok (.aload_n 0, 1) := by decide +kernel
theorem dX12_pen_6 : decode cX12_pen 6 = .ok (.iload_n 1, 1) := by decide +kernel
theorem dX12_pen_7 : decode cX12_pen 7 = .ok (.iload_n 2, 1) := by decide +kernel
theorem dX12_pen_8 : decode cX12_pen 8 = .ok (.iload_n 3, 1) := by decide +kernel
theorem dX12_pen_9 : decode cX12_pen 9 = .ok (.invokevirtual 487, 3) := by decide +kernel
theorem dX12_pen_12 : decode cX12_pen 12 = .ok (.ifCond .eq 16, 3) := by decide +kernel
theorem dX12_pen_15 : decode cX12_pen 15 = .ok (.aload_n 0, 1) := by decide +kernel
theorem dX12_pen_16 : decode cX12_pen 16 = .ok (.iload_n 1, 1) := by decide +kernel
theorem dX12_pen_17 : decode cX12_pen 17 = .ok (.iload_n 2, 1) := by decide +kernel
theorem dX12_pen_18 : decode cX12_pen 18 = .ok (.iload_n 3, 1) := by decide +kernel
theorem dX12_pen_19 : decode cX12_pen 19 = .ok (.iload 4, 2) := by decide +kernel
theorem dX12_pen_21 : decode cX12_pen 21 = .ok (.iconst 1, 1) := by decide +kernel
theorem dX12_pen_22 : decode cX12_pen 22 = .ok (.invokevirtual 490, 3) := by decide +kernel
theorem dX12_pen_25 : decode cX12_pen 25 = .ok (.goto 5, 3) := by decide +kernel
theorem dX12_pen_28 : decode cX12_pen 28 = .ok (.bipush (-2), 2) := by decide +kernel
theorem dX12_pen_30 : decode cX12_pen 30 = .ok (.ireturn, 1) := by decide +kernel
