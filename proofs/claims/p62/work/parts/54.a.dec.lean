theorem dX11_mean_0 : decode cX11_mean 0 = .ok (.aload_n 0, 1) := by decide +kernel
theorem dX11_mean_1 : decode cX11_mean 1 = .ok (.iload_n 1, 1) := by decide +kernel
theorem dX11_mean_2 : decode cX11_mean 2 = .ok (.iload_n 2, 1) := by decide +kernel
theorem dX11_mean_3 : decode cX11_mean 3 = .ok (.iload_n 3, 1) := by decide +kernel
theorem dX11_mean_4 : decode cX11_mean 4 = .ok (.invokevirtual 272, 3) := by decide +kernel
theorem dX11_mean_7 : decode cX11_mean 7 = .ok (.ifCond .ne 7, 3) := by decide +kernel
theorem dX11_mean_10 : decode cX11_mean 10 = .ok (.ldc2_w 275, 3) := by decide +kernel
theorem dX11_mean_13 : decode cX11_mean 13 = .ok (.lreturn, 1) := by decide +kernel
theorem dX11_mean_14 : decode cX11_mean 14 = .ok (.aload_n 0, 1) := by decide +kernel
theorem dX11_mean_15 : decode cX11_mean 15 = .ok (.getfield 51, 3) := by decide +kernel
theorem dX11_mean_18 : decode cX11_mean 18 = .ok (.aload_n 0, 1) := by decide +kernel
theorem dX11_mean_19 : decode cX11_mean 19 = .ok (.getfield 19, 3) := by decide +kernel
theorem dX11_mean_22 : decode cX11_mean 22 = .ok (.iload_n 1, 1) := by decide +kernel
theorem dX11_mean_23 : decode cX11_mean 23 = .ok (.iload_n 2, 1) := by decide +kernel
theorem dX11_mean_24 : decode cX11_mean 24 = .ok (.invokevirtual 277, 3) := by decide +kernel
theorem dX11_mean_27 : decode cX11_mean 27 = .ok (.aload_n 0, 1) := by decide +kernel
theorem dX11_mean_28 : decode cX11_mean 28 = .ok (.getfield 51, 3) := by decide +kernel
theorem dX11_mean_31 : decode cX11_mean 31 = .ok (.aload_n 0, 1) := by decide +kernel
theorem dX11_mean_32 : decode cX11_mean 32 = .ok (.getfield 51, 3) := by decide +kernel
theorem dX11_mean_35 : decode cX11_mean 35 = .ok (.getfield 292, 3) := by decide +kernel
theorem dX11_mean_38 : decode cX11_mean 38 = .ok (.iload_n 3, 1) := by decide +kernel
theorem dX11_mean_39 : decode cX11_mean 39 = .ok (.invokevirtual 285, 3) := by decide +kernel
theorem dX11_mean_42 : decode cX11_mean 42 = .ok (.lreturn, 1) := by decide +kernel
theorem dX11_ending_0 : decode cX11_ending 0 = .ok (.aload_n 0, 1) := by decide +kernel
theorem dX11_ending_1 : decode cX11_ending 1 = .ok (.iload_n 1, 1) := by decide +kernel
theorem dX11_ending_2 : decode cX11_ending 2 = .ok (.iload_n 2, 1) := by decide +kernel
theorem dX11_ending_3 : decode cX11_ending 3 = .ok (.iload_n 3, 1) := by decide +kernel
theorem dX11_ending_4 : decode cX11_ending 4 = .ok (.invokevirtual 295, 3) := by decide +kernel
theorem dX11_ending_7 : decode cX11_ending 7 = .ok (.ifCond .ne 6, 3) := by decide +kernel
theorem dX11_ending_10 : decode cX11_ending 10 = .ok (.bipush (-2), 2) := by decide +kernel
theorem dX11_ending_12 : decode cX11_ending 12 = .ok (.ireturn, 1) := by decide +kernel
theorem dX11_ending_13 : decode cX11_ending 13 = .ok (.aload_n 0, 1) := by decide +kernel
theorem dX11_ending_14 : decode cX11_ending 14 = .ok (.getfield 58, 3) := by decide +kernel
theorem dX11_ending_17 : decode cX11_ending 17 = .ok (.aload_n 0, 1) := by decide +kernel
theorem dX11_ending_18 : decode cX11_ending 18 = .ok (.getfield 19, 3) := by decide +kernel
theorem dX11_ending_21 : decode cX11_ending 21 = .ok (.iload_n 1, 1) := by decide +kernel
theorem dX11_ending_22 : decode cX11_ending 22 = .ok (.iload_n 2, 1) := by decide +kernel
theorem dX11_ending_23 : decode cX11_ending 23 = .ok (.iload_n 3, 1) := by decide +kernel
theorem dX11_ending_24 : decode cX11_ending 24 = .ok (.aload_n 0, 1) := by decide +kernel
theorem dX11_ending_25 : decode cX11_ending 25 = .ok (.getfield 44, 3) := by decide +kernel
theorem dX11_ending_28 : decode cX11_ending 28 = .ok (.invokevirtual 298, 3) := by decide +kernel
theorem dX11_ending_31 : decode cX11_ending 31 = .ok (.aload_n 0, 1) := by decide +kernel
theorem dX11_ending_32 : decode cX11_ending 32 = .ok (.getfield 58, 3) := by decide +kernel
theorem dX11_ending_35 : decode cX11_ending 35 = .ok (.invokevirtual 302, 3) := by decide +kernel
theorem dX11_ending_38 : decode cX11_ending 38 = .ok (.ireturn, 1) := by decide +kernel
theorem dX11_step_0 : decode cX11_step 0 = .ok (.aload_n 0, 1) := by decide +kernel
theorem dX11_step_1 : decode cX11_step 1 = .ok (.iload_n 1, 1) := by decide +kernel
theorem dX11_step_2 : decode cX11_step 2 = .ok (.iload_n 2, 1) := by decide +kernel
theorem dX11_step_3 : decode cX11_step 3 = .ok (.iload_n 3, 1) := by decide +kernel
theorem dX11_step_4 : decode cX11_step 4 = .ok (.invokevirtual 295, 3) := by decide +kernel
theorem dX11_step_7 : decode cX11_step 7 = .ok (.ifCond .eq 12, 3) := by decide +kernel
theorem dX11_step_10 : decode cX11_step 10 = .ok (.iload 4, 2) := by decide +kernel
theorem dX11_step_12 : decode cX11_step 12 = .ok (.iload_n 3, 1) := by decide +kernel
theorem dX11_step_13 : decode cX11_step 13 = .ok (.invokestatic 148, 3) := by decide +kernel
theorem dX11_step_16 : decode cX11_step 16 = .ok (.ifCond .ne 6, 3) := by decide +kernel
theorem dX11_step_19 : decode cX11_step 19 = .ok (.bipush (-2), 2) := by decide +kernel
theorem dX11_step_21 : decode cX11_step 21 = .ok (.ireturn, 1) := by decide +kernel
theorem dX11_step_22 : decode cX11_step 22 = .ok (.aload_n 0, 1) := by decide +kernel
theorem dX11_step_23 : decode cX11_step 23 = .ok (.getfield 58, 3) := by decide +kernel
theorem dX11_step_26 : decode cX11_step 26 = .ok (.aload_n 0, 1) := by decide +kernel
theorem dX11_step_27 : decode cX11_step 27 = .ok (.getfield 19, 3) := by decide +kernel
theorem dX11_step_30 : decode cX11_step 30 = .ok (.iload_n 1, 1) := by decide +kernel
theorem dX11_step_31 : decode cX11_step 31 = .ok (.iload_n 2, 1) := by decide +kernel
theorem dX11_step_32 : decode cX11_step 32 = .ok (.iload_n 3, 1) := by decide +kernel
theorem dX11_step_33 : decode cX11_step 33 = .ok (.aload_n 0, 1) := by decide +kernel
theorem dX11_step_34 : decode cX11_step 34 = .ok (.getfield 44, 3) := by decide +kernel
theorem dX11_step_37 : decode cX11_step 37 = .ok (.invokevirtual 298, 3) := by decide +kernel
theorem dX11_step_40 : decode cX11_step 40 = .ok (.aload_n 0, 1) := by decide +kernel
theorem dX11_step_41 : decode cX11_step 41 = .ok (.getfield 58, 3) := by decide +kernel
theorem dX11_step_44 : decode cX11_step 44 = .ok (.iload 4, 2) := by decide +kernel
theorem dX11_step_46 : decode cX11_step 46 = .ok (.invokevirtual 305, 3) := by decide +kernel
theorem dX11_step_49 : decode cX11_step 49 = .ok (.ireturn, 1) := by decide +kernel
theorem dX11_keeping_0 : decode cX11_keeping 0 = .ok (.aload_n 0, 1) := by decide +kernel
theorem dX11_keeping_1 : decode cX11_keeping 1 = .ok (.iload_n 1, 1) := by decide +kernel
theorem dX11_keeping_2 : decode cX11_keeping 2 = .ok (.iload_n 2, 1) := by decide +kernel
theorem dX11_keeping_3 : decode cX11_keeping 3 = .ok (.iload_n 3, 1) := by decide +kernel
theorem dX11_keeping_4 : decode cX11_keeping 4 = .ok (.invokevirtual 295, 3) := by decide +kernel
theorem dX11_keeping_7 : decode cX11_keeping 7 = .ok (.ifCond .ne 6, 3) := by decide +kernel
theorem dX11_keeping_10 : decode cX11_keeping 10 = .ok (.bipush (-2), 2) := by decide +kernel
theorem dX11_keeping_12 : decode cX11_keeping 12 = .ok (.ireturn, 1) := by decide +kernel
theorem dX11_keeping_13 : decode cX11_keeping 13 = .ok (.aload_n 0, 1) := by decide +kernel
theorem dX11_keeping_14 : decode cX11_keeping 14 = .ok (.getfield 58, 3) := by decide +kernel
theorem dX11_keeping_17 : decode cX11_keeping 17 = .ok (.aload_n 0, 1) := by decide +kernel
theorem dX11_keeping_18 : decode cX11_keeping 18 = .ok (.getfield 19, 3) := by decide +kernel
theorem dX11_keeping_21 : decode cX11_keeping 21 = .ok (.iload_n 1, 1) := by decide +kernel
theorem dX11_keeping_22 : decode cX11_keeping 22 = .ok (.iload_n 2, 1) := by decide +kernel
theorem dX11_keeping_23 : decode cX11_keeping 23 = .ok (.iload_n 3, 1) := by decide +kernel
theorem dX11_keeping_24 : decode cX11_keeping 24 = .ok (.invokevirtual 308, 3) := by decide +kernel
theorem dX11_keeping_27 : decode cX11_keeping 27 = .ok (.aload_n 0, 1) := by decide +kernel
theorem dX11_keeping_28 : decode cX11_keeping 28 = .ok (.getfield 58, 3) := by decide +kernel
theorem dX11_keeping_31 : decode cX11_keeping 31 = .ok (.invokevirtual 302, 3) := by decide +kernel
theorem dX11_keeping_34 : decode cX11_keeping 34 = .ok (.ireturn, 1) := by decide +kernel
theorem dX11_pen_0 : decode cX11_pen 0 = .ok (.aload_n 0, 1) := by decide +kernel
theorem dX11_pen_1 : decode cX11_pen 1 = .ok (.iload_n 1, 1) := by decide +kernel
theorem dX11_pen_2 : decode cX11_pen 2 = .ok (.iload_n 2, 1) := by decide +kernel
theorem dX11_pen_3 : decode cX11_pen 3 = .ok (.iload_n 3, 1) := by decide +kernel
theorem dX11_pen_4 : decode cX11_pen 4 = .ok (.invokevirtual 295, 3) := by decide +kernel
theorem dX11_pen_7 : decode cX11_pen 7 = .ok (.ifCond .eq 12, 3) := by decide +kernel
theorem dX11_pen_10 : decode cX11_pen 10 = .ok (.iload 4, 2) := by decide +kernel
theorem dX11_pen_12 : decode cX11_pen 12 = .ok (.iload_n 3, 1) := by decide +kernel
theorem dX11_pen_13 : decode cX11_pen 13 = .ok (.invokestatic 148, 3) := by decide +kernel
theorem dX11_pen_16 : decode cX11_pen 16 = .ok (.ifCond .ne 6, 3) := by decide +kernel
theorem dX11_pen_19 : decode cX11_pen 19 = .ok (.bipush (-2), 2) := by decide +kernel
theorem dX11_pen_21 : decode cX11_pen 21 = .ok (.ireturn, 1) := by decide +kernel
theorem dX11_pen_22 : decode cX11_pen 22 = .ok (.aload_n 0, 1) := by decide +kernel
theorem dX11_pen_23 : decode cX11_pen 23 = .ok (.getfield 58, 3) := by decide +kernel
theorem dX11_pen_26 : decode cX11_pen 26 = .ok (.aload_n 0, 1) := by decide +kernel
theorem dX11_pen_27 : decode cX11_pen 27 = .ok (.getfield 19, 3) := by decide +kernel
theorem dX11_pen_30 : decode cX11_pen 30 = .ok (.iload_n 1, 1) := by decide +kernel
theorem dX11_pen_31 : decode cX11_pen 31 = .ok (.iload_n 2, 1) := by decide +kernel
theorem dX11_pen_32 : decode cX11_pen 32 = .ok (.iload_n 3, 1) := by decide +kernel
theorem dX11_pen_33 : decode cX11_pen 33 = .ok (.invokevirtual 308, 3) := by decide +kernel
theorem dX11_pen_36 : decode cX11_pen 36 = .ok (.aload_n 0, 1) := by decide +kernel
theorem dX11_pen_37 : decode cX11_pen 37 = .ok (.getfield 58, 3) := by decide +kernel
theorem dX11_pen_40 : decode cX11_pen 40 = .ok (.iload 4, 2) := by decide +kernel
theorem dX11_pen_42 : decode cX11_pen 42 = .ok (.invokevirtual 305, 3) := by decide +kernel
theorem dX11_pen_45 : decode cX11_pen 45 = .ok (.ireturn, 1) := by decide +kernel
