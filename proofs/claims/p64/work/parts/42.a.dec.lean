theorem dX11_step_0 : decode cX11_step 0 = .ok (.aload_n 0, 1) := by decide +kernel
theorem dX11_step_1 : decode cX11_step 1 = .ok (.iload_n 1, 1) := by decide +kernel
theorem dX11_step_2 : decode cX11_step 2 = .ok (.iload_n 2, 1) := by decide +kernel
theorem dX11_step_3 : decode cX11_step 3 = .ok (.iload_n 3, 1) := by decide +kernel
theorem dX11_step_4 : decode cX11_step 4 = .ok (.invokevirtual 295, 3) := by decide +kernel
theorem dX11_step_7 : decode cX11_step 7 = .ok (.ifCond .eq 12, 3) := by decide +kernel
theorem dX11_step_10 : decode cX11_step 10 = .ok (.iload 4, 2) := by decide +kernel
theorem dX11_step_12 : decode cX11_step 12 = .ok (.iload_n 3, 1) := by decide +kernel
theorem dX11_step_13 : decode cX11_step 13 = .ok (.invokestatic 148, 3) := by decide +kernel
theorem dX11_step_16 : decode cX11_step 16 = .ok (.ifCond .ne 6, 3) := by decide +kernel
theorem dX11_step_19 : decode cX11_step 19 = .ok (.bipush (-2), 2) := by decide +kernel
theorem dX11_step_21 : decode cX11_step 21 = .ok (.ireturn, 1) := by decide +kernel
theorem dX11_step_22 : decode cX11_step 22 = .ok (.aload_n 0, 1) := by decide +kernel
theorem dX11_step_23 : decode cX11_step 23 = .ok (.getfield 58, 3) := by decide +kernel
theorem dX11_step_26 : decode cX11_step 26 = .ok (.aload_n 0, 1) := by decide +kernel
theorem dX11_step_27 : decode cX11_step 27 = .ok (.getfield 19, 3) := by decide +kernel
theorem dX11_step_30 : decode cX11_step 30 = .ok (.iload_n 1, 1) := by decide +kernel
theorem dX11_step_31 : decode cX11_step 31 = .ok (.iload_n 2, 1) := by decide +kernel
theorem dX11_step_32 : decode cX11_step 32 = .ok (.iload_n 3, 1) := by decide +kernel
theorem dX11_step_33 : decode cX11_step 33 = .ok (.aload_n 0, 1) := by decide +kernel
theorem dX11_step_34 : decode cX11_step 34 = .ok (.getfield 44, 3) := by decide +kernel
theorem dX11_step_37 : decode cX11_step 37 = .ok (.invokevirtual 298, 3) := by decide +kernel
theorem dX11_step_40 : decode cX11_step 40 = .ok (.aload_n 0, 1) := by decide +kernel
theorem dX11_step_41 : decode cX11_step 41 = .ok (.getfield 58, 3) := by decide +kernel
theorem dX11_step_44 : decode cX11_step 44 = .ok (.iload 4, 2) := by decide +kernel
theorem dX11_step_46 : decode cX11_step 46 = .ok (.invokevirtual 305, 3) := by decide +kernel
theorem dX11_step_49 : decode cX11_step 49 = .ok (.ireturn, 1) := by decide +kernel
theorem dX11_keeping_0 : decode cX11_keeping 0 = .ok (.aload_n 0, 1) := by decide +kernel
theorem dX11_keeping_1 : decode cX11_keeping 1 = .ok (.iload_n 1, 1) := by decide +kernel
theorem dX11_keeping_2 : decode cX11_keeping 2 = .ok (.iload_n 2, 1) := by decide +kernel
theorem dX11_keeping_3 : decode cX11_keeping 3 = .ok (.iload_n 3, 1) := by decide +kernel
theorem dX11_keeping_4 : decode cX11_keeping 4 = .ok (.invokevirtual 295, 3) := by decide +kernel
theorem dX11_keeping_7 : decode cX11_keeping 7 = .ok (.ifCond .ne 6, 3) := by decide +kernel
theorem dX11_keeping_10 : decode cX11_keeping 10 = .ok (.bipush (-2), 2) := by decide +kernel
theorem dX11_keeping_12 : decode cX11_keeping 12 = .ok (.ireturn, 1) := by decide +kernel
theorem dX11_keeping_13 : decode cX11_keeping 13 = .ok (.aload_n 0, 1) := by decide +kernel
theorem dX11_keeping_14 : decode cX11_keeping 14 = .ok (.getfield 58, 3) := by decide +kernel
theorem dX11_keeping_17 : decode cX11_keeping 17 = .ok (.aload_n 0, 1) := by decide +kernel
theorem dX11_keeping_18 : decode cX11_keeping 18 = .ok (.getfield 19, 3) := by decide +kernel
theorem dX11_keeping_21 : decode cX11_keeping 21 = .ok (.iload_n 1, 1) := by decide +kernel
theorem dX11_keeping_22 : decode cX11_keeping 22 = .ok (.iload_n 2, 1) := by decide +kernel
theorem dX11_keeping_23 : decode cX11_keeping 23 = .ok (.iload_n 3, 1) := by decide +kernel
theorem dX11_keeping_24 : decode cX11_keeping 24 = .ok (.invokevirtual 308, 3) := by decide +kernel
theorem dX11_keeping_27 : decode cX11_keeping 27 = .ok (.aload_n 0, 1) := by decide +kernel
theorem dX11_keeping_28 : decode cX11_keeping 28 = .ok (.getfield 58, 3) := by decide +kernel
theorem dX11_keeping_31 : decode cX11_keeping 31 = .ok (.invokevirtual 302, 3) := by decide +kernel
theorem dX11_keeping_34 : decode cX11_keeping 34 = .ok (.ireturn, 1) := by decide +kernel
theorem dX11_pen_0 : decode cX11_pen 0 = .ok (.aload_n 0, 1) := by decide +kernel
theorem dX11_pen_1 : decode cX11_pen 1 = .ok (.iload_n 1, 1) := by decide +kernel
theorem dX11_pen_2 : decode cX11_pen 2 = .ok (.iload_n 2, 1) := by decide +kernel
theorem dX11_pen_3 : decode cX11_pen 3 = .ok (.iload_n 3, 1) := by decide +kernel
theorem dX11_pen_4 : decode cX11_pen 4 = .ok (.invokevirtual 295, 3) := by decide +kernel
theorem dX11_pen_7 : decode cX11_pen 7 = .ok (.ifCond .eq 12, 3) := by decide +kernel
theorem dX11_pen_10 : decode cX11_pen 10 = .ok (.iload 4, 2) := by decide +kernel
theorem dX11_pen_12 : decode cX11_pen 12 = .ok (.iload_n 3, 1) := by decide +kernel
theorem dX11_pen_13 : decode cX11_pen 13 = .ok (.invokestatic 148, 3) := by decide +kernel
theorem dX11_pen_16 : decode cX11_pen 16 = .ok (.ifCond .ne 6, 3) := by decide +kernel
theorem dX11_pen_19 : decode cX11_pen 19 = .ok (.bipush (-2), 2) := by decide +kernel
theorem dX11_pen_21 : decode cX11_pen 21 = .ok (.ireturn, 1) := by decide +kernel
theorem dX11_pen_22 : decode cX11_pen 22 = .ok (.aload_n 0, 1) := by decide +kernel
theorem dX11_pen_23 : decode cX11_pen 23 = .ok (.getfield 58, 3) := by decide +kernel
theorem dX11_pen_26 : decode cX11_pen 26 = .ok (.aload_n 0, 1) := by decide +kernel
theorem dX11_pen_27 : decode cX11_pen 27 = .ok (.getfield 19, 3) := by decide +kernel
theorem dX11_pen_30 : decode cX11_pen 30 = .ok (.iload_n 1, 1) := by decide +kernel
theorem dX11_pen_31 : decode cX11_pen 31 = .ok (.iload_n 2, 1) := by decide +kernel
theorem dX11_pen_32 : decode cX11_pen 32 = .ok (.iload_n 3, 1) := by decide +kernel
theorem dX11_pen_33 : decode cX11_pen 33 = .ok (.invokevirtual 308, 3) := by decide +kernel
theorem dX11_pen_36 : decode cX11_pen 36 = .ok (.aload_n 0, 1) := by decide +kernel
theorem dX11_pen_37 : decode cX11_pen 37 = .ok (.getfield 58, 3) := by decide +kernel
theorem dX11_pen_40 : decode cX11_pen 40 = .ok (.iload 4, 2) := by decide +kernel
theorem dX11_pen_42 : decode cX11_pen 42 = .ok (.invokevirtual 305, 3) := by decide +kernel
theorem dX11_pen_45 : decode cX11_pen 45 = .ok (.ireturn, 1) := by decide +kernel
theorem dX11_quit_0 : decode cX11_quit 0 = .ok (.aload_n 0, 1) := by decide +kernel
theorem dX11_quit_1 : decode cX11_quit 1 = .ok (.iload_n 1, 1) := by decide +kernel
theorem dX11_quit_2 : decode cX11_quit 2 = .ok (.iload_n 2, 1) := by decide +kernel
theorem dX11_quit_3 : decode cX11_quit 3 = .ok (.iload_n 3, 1) := by decide +kernel
theorem dX11_quit_4 : decode cX11_quit 4 = .ok (.invokevirtual 155, 3) := by decide +kernel
theorem dX11_quit_7 : decode cX11_quit 7 = .ok (.ifCond .ne 6, 3) := by decide +kernel
theorem dX11_quit_10 : decode cX11_quit 10 = .ok (.bipush (-2), 2) := by decide +kernel
theorem dX11_quit_12 : decode cX11_quit 12 = .ok (.ireturn, 1) := by decide +kernel
theorem dX11_quit_13 : decode cX11_quit 13 = .ok (.aload_n 0, 1) := by decide +kernel
theorem dX11_quit_14 : decode cX11_quit 14 = .ok (.iload_n 1, 1) := by decide +kernel
theorem dX11_quit_15 : decode cX11_quit 15 = .ok (.iload_n 2, 1) := by decide +kernel
theorem dX11_quit_16 : decode cX11_quit 16 = .ok (.iload_n 3, 1) := by decide +kernel
theorem dX11_quit_17 : decode cX11_quit 17 = .ok (.invokevirtual 312, 3) := by decide +kernel
theorem dX11_quit_20 : decode cX11_quit 20 = .ok (.ireturn, 1) := by decide +kernel
theorem dX11_when_0 : decode cX11_when 0 = .ok (.aload_n 0, 1) := by decide +kernel
theorem dX11_when_1 : decode cX11_when 1 = .ok (.getfield 19, 3) := by decide +kernel
theorem dX11_when_4 : decode cX11_when 4 = .ok (.iload_n 1, 1) := by decide +kernel
theorem dX11_when_5 : decode cX11_when 5 = .ok (.invokevirtual 135, 3) := by decide +kernel
theorem dX11_when_8 : decode cX11_when 8 = .ok (.ifCond .eq 10, 3) := by decide +kernel
theorem dX11_when_11 : decode cX11_when 11 = .ok (.iload_n 2, 1) := by decide +kernel
theorem dX11_when_12 : decode cX11_when 12 = .ok (.invokestatic 152, 3) := by decide +kernel
theorem dX11_when_15 : decode cX11_when 15 = .ok (.ifCond .ne 6, 3) := by decide +kernel
theorem dX11_when_18 : decode cX11_when 18 = .ok (.bipush (-2), 2) := by decide +kernel
theorem dX11_when_20 : decode cX11_when 20 = .ok (.ireturn, 1) := by decide +kernel
theorem dX11_when_21 : decode cX11_when 21 = .ok (.iconst 0, 1) := by decide +kernel
theorem dX11_when_22 : decode cX11_when 22 = .ok (.istore_n 3, 1) := by decide +kernel
theorem dX11_when_23 : decode cX11_when 23 = .ok (.bipush 41, 2) := by decide +kernel
theorem dX11_when_25 : decode cX11_when 25 = .ok (.istore 4, 2) := by decide +kernel
theorem dX11_when_27 : decode cX11_when 27 = .ok (.iconst 0, 1) := by decide +kernel
theorem dX11_when_28 : decode cX11_when 28 = .ok (.istore 5, 2) := by decide +kernel
theorem dX11_when_30 : decode cX11_when 30 = .ok (.iload 5, 2) := by decide +kernel
theorem dX11_when_32 : decode cX11_when 32 = .ok (.aload_n 0, 1) := by decide +kernel
theorem dX11_when_33 : decode cX11_when 33 = .ok (.getfield 19, 3) := by decide +kernel
theorem dX11_when_36 : decode cX11_when 36 = .ok (.getfield 177, 3) := by decide +kernel
theorem dX11_when_39 : decode cX11_when 39 = .ok (.if_icmp .ge 33, 3) := by decide +kernel
theorem dX11_when_42 : decode cX11_when 42 = .ok (.aload_n 0, 1) := by decide +kernel
theorem dX11_when_43 : decode cX11_when 43 = .ok (.iload_n 1, 1) := by decide +kernel
theorem dX11_when_44 : decode cX11_when 44 = .ok (.iload_n 2, 1) := by decide +kernel
theorem dX11_when_45 : decode cX11_when 45 = .ok (.iload 5, 2) := by decide +kernel
theorem dX11_when_47 : decode cX11_when 47 = .ok (.invokevirtual 312, 3) := by decide +kernel
theorem dX11_when_50 : decode cX11_when 50 = .ok (.istore 6, 2) := by decide +kernel
theorem dX11_when_52 : decode cX11_when 52 = .ok (.iload 6, 2) := by decide +kernel
theorem dX11_when_54 : decode cX11_when 54 = .ok (.iload 4, 2) := by decide +kernel
theorem dX11_when_56 : decode cX11_when 56 = .ok (.if_icmp .ge 10, 3) := by decide +kernel
theorem dX11_when_59 : decode cX11_when 59 = .ok (.iload 6, 2) := by decide +kernel
theorem dX11_when_61 : decode cX11_when 61 = .ok (.istore 4, 2) := by decide +kernel
theorem dX11_when_63 : decode cX11_when 63 = .ok (.iload 5, 2) := by decide +kernel
theorem dX11_when_65 : decode cX11_when 65 = .ok (.istore_n 3, 1) := by decide +kernel
theorem dX11_when_66 : decode cX11_when 66 = .ok (.iinc 5 1, 3) := by decide +kernel
theorem dX11_when_69 : decode cX11_when 69 = .ok (.goto (-39), 3) := by decide +kernel
theorem dX11_when_72 : decode cX11_when 72 = .ok (.iload_n 3, 1) := by decide +kernel
theorem dX11_when_73 : decode cX11_when 73 = .ok (.ireturn, 1) := by decide +kernel
theorem dX11_best_0 : decode cX11_best 0 = .ok (.aload_n 0, 1) := by decide +kernel
theorem dX11_best_1 : decode cX11_best 1 = .ok (.getfield 19, 3) := by decide +kernel
theorem dX11_best_4 : decode cX11_best 4 = .ok (.iload_n 1, 1) := by decide +kernel
theorem dX11_best_5 : decode cX11_best 5 = .ok (.invokevirtual 115, 3) := by decide +kernel
theorem dX11_best_8 : decode cX11_best 8 = .ok (.ifCond .eq 13, 3) := by decide +kernel
theorem dX11_best_11 : decode cX11_best 11 = .ok (.aload_n 0, 1) := by decide +kernel
theorem dX11_best_12 : decode cX11_best 12 = .ok (.iconst 1, 1) := by decide +kernel
theorem dX11_best_13 : decode cX11_best 13 = .ok (.iload_n 1, 1) := by decide +kernel
theorem dX11_best_14 : decode cX11_best 14 = .ok (.ishl, 1) := by decide +kernel
theorem dX11_best_15 : decode cX11_best 15 = .ok (.invokevirtual 316, 3) := by decide +kernel
theorem dX11_best_18 : decode cX11_best 18 = .ok (.goto 5, 3) := by decide +kernel
theorem dX11_best_21 : decode cX11_best 21 = .ok (.bipush (-2), 2) := by decide +kernel
theorem dX11_best_23 : decode cX11_best 23 = .ok (.ireturn, 1) := by decide +kernel
theorem dX11_bestCost_0 : decode cX11_bestCost 0 = .ok (.aload_n 0, 1) := by decide +kernel
theorem dX11_bestCost_1 : decode cX11_bestCost 1 = .ok (.getfield 19, 3) := by decide +kernel
theorem dX11_bestCost_4 : decode cX11_bestCost 4 = .ok (.iload_n 1, 1) := by decide +kernel
theorem dX11_bestCost_5 : decode cX11_bestCost 5 = .ok (.invokevirtual 115, 3) := by decide +kernel
theorem dX11_bestCost_8 : decode cX11_bestCost 8 = .ok (.ifCond .eq 20, 3) := by decide +kernel
theorem dX11_bestCost_11 : decode cX11_bestCost 11 = .ok (.aload_n 0, 1) := by decide +kernel
theorem dX11_bestCost_12 : decode cX11_bestCost 12 = .ok (.iconst 1, 1) := by decide +kernel
theorem dX11_bestCost_13 : decode cX11_bestCost 13 = .ok (.iload_n 1, 1) := by decide +kernel
theorem dX11_bestCost_14 : decode cX11_bestCost 14 = .ok (.ishl, 1) := by decide +kernel
theorem dX11_bestCost_15 : decode cX11_bestCost 15 = .ok (.aload_n 0, 1) := by decide +kernel
theorem dX11_bestCost_16 : decode cX11_bestCost 16 = .ok (.iconst 1, 1) := by decide +kernel
theorem dX11_bestCost_17 : decode cX11_bestCost 17 = .ok (.iload_n 1, 1) := by decide +kernel
theorem dX11_bestCost_18 : decode cX11_bestCost 18 = .ok (.ishl, 1) := by decide +kernel
theorem dX11_bestCost_19 : decode cX11_bestCost 19 = .ok (.invokevirtual 316, 3) := by decide +kernel
theorem dX11_bestCost_22 : decode cX11_bestCost 22 = .ok (.invokevirtual 319, 3) := by decide +kernel
theorem dX11_bestCost_25 : decode cX11_bestCost 25 = .ok (.goto 5, 3) := by decide +kernel
theorem dX11_bestCost_28 : decode cX11_bestCost 28 = .ok (.bipush (-2), 2) := by decide +kernel
theorem dX11_bestCost_30 : decode cX11_bestCost 30 = .ok (.ireturn, 1) := by decide +kernel
theorem dX11_family_0 : decode cX11_family 0 = .ok (.aload_n 0, 1) := by decide +kernel
theorem dX11_family_1 : decode cX11_family 1 = .ok (.getfield 19, 3) := by decide +kernel
theorem dX11_family_4 : decode cX11_family 4 = .ok (.iload_n 1, 1) := by decide +kernel
theorem dX11_family_5 : decode cX11_family 5 = .ok (.invokevirtual 322, 3) := by decide +kernel
theorem dX11_family_8 : decode cX11_family 8 = .ok (.ifCond .eq 11, 3) := by decide +kernel
theorem dX11_family_11 : decode cX11_family 11 = .ok (.aload_n 0, 1) := by decide +kernel
theorem dX11_family_12 : decode cX11_family 12 = .ok (.iload_n 1, 1) := by decide +kernel
theorem dX11_family_13 : decode cX11_family 13 = .ok (.invokevirtual 316, 3) := by decide +kernel
theorem dX11_family_16 : decode cX11_family 16 = .ok (.goto 5, 3) := by decide +kernel
theorem dX11_family_19 : decode cX11_family 19 = .ok (.bipush (-2), 2) := by decide +kernel
theorem dX11_family_21 : decode cX11_family 21 = .ok (.ireturn, 1) := by decide +kernel
theorem dX11_together_0 : decode cX11_together 0 = .ok (.aload_n 0, 1) := by decide +kernel
theorem dX11_together_1 : decode cX11_together 1 = .ok (.getfield 19, 3) := by decide +kernel
theorem dX11_together_4 : decode cX11_together 4 = .ok (.iload_n 1, 1) := by decide +kernel
theorem dX11_together_5 : decode cX11_together 5 = .ok (.invokevirtual 322, 3) := by decide +kernel
theorem dX11_together_8 : decode cX11_together 8 = .ok (.ifCond .eq 16, 3) := by decide +kernel
theorem dX11_together_11 : decode cX11_together 11 = .ok (.aload_n 0, 1) := by decide +kernel
theorem dX11_together_12 : decode cX11_together 12 = .ok (.iload_n 1, 1) := by decide +kernel
theorem dX11_together_13 : decode cX11_together 13 = .ok (.aload_n 0, 1) := by decide +kernel
theorem dX11_together_14 : decode cX11_together 14 = .ok (.iload_n 1, 1) := by decide +kernel
theorem dX11_together_15 : decode cX11_together 15 = .ok (.invokevirtual 316, 3) := by decide +kernel
theorem dX11_together_18 : decode cX11_together 18 = .ok (.invokevirtual 319, 3) := by decide +kernel
theorem dX11_together_21 : decode cX11_together 21 = .ok (.goto 5, 3) := by decide +kernel
theorem dX11_together_24 : decode cX11_together 24 = .ok (.bipush (-2), 2) := by decide +kernel
theorem dX11_together_26 : decode cX11_together 26 = .ok (.ireturn, 1) := by decide +kernel
