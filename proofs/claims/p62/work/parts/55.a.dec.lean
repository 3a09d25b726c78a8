theorem dX11_quit_0 : decode cX11_quit 0 = .ok (.aload_n 0, 1) := by decide +kernel
theorem dX11_quit_1 : decode cX11_quit 1 = .ok (.iload_n 1, 1) := by decide +kernel
theorem dX11_quit_2 : decode cX11_quit 2 = .ok (.iload_n 2, 1) := by decide +kernel
theorem dX11_quit_3 : decode cX11_quit 3 = .ok (.iload_n 3, 1) := by decide +kernel
theorem dX11_quit_4 : decode cX11_quit 4 = .ok (.invokevirtual 155, 3) := by decide +kernel
theorem dX11_quit_7 : decode cX11_quit 7 = .ok (.ifCond .ne 6, 3) := by decide +kernel
theorem dX11_quit_10 : decode cX11_quit 10 = .ok (.bipush (-2), 2) := by decide +kernel
theorem dX11_quit_12 : decode cX11_quit 12 = .ok (.ireturn, 1) := by decide +kernel
theorem dX11_quit_13 : decode cX11_quit 13 = .ok (.aload_n 0, 1) := by decide +kernel
theorem dX11_quit_14 : decode cX11_quit 14 = .ok (.iload_n 1, 1) := by decide +kernel
theorem dX11_quit_15 : decode cX11_quit 15 = .ok (.iload_n 2, 1) := by decide +kernel
theorem dX11_quit_16 : decode cX11_quit 16 = .ok (.iload_n 3, 1) := by decide +kernel
theorem dX11_quit_17 : decode cX11_quit 17 = .ok (.invokevirtual 312, 3) := by decide +kernel
theorem dX11_quit_20 : decode cX11_quit 20 = .ok (.ireturn, 1) := by decide +kernel
theorem dX11_when_0 : decode cX11_when 0 = .ok (.aload_n 0, 1) := by decide +kernel
theorem dX11_when_1 : decode cX11_when 1 = .ok (.getfield 19, 3) := by decide +kernel
theorem dX11_when_4 : decode cX11_when 4 = .ok (.iload_n 1, 1) := by decide +kernel
theorem dX11_when_5 : decode cX11_when 5 = .ok (.invokevirtual 135, 3) := by decide +kernel
theorem dX11_when_8 : decode cX11_when 8 = .ok (.ifCond .eq 10, 3) := by decide +kernel
theorem dX11_when_11 : decode cX11_when 11 = .ok (.iload_n 2, 1) := by decide +kernel
theorem dX11_when_12 : decode cX11_when 12 = .ok (.invokestatic 152, 3) := by decide +kernel
theorem dX11_when_15 : decode cX11_when 15 = .ok (.ifCond .ne 6, 3) := by decide +kernel
theorem dX11_when_18 : decode cX11_when 18 = .ok (.bipush (-2), 2) := by decide +kernel
theorem dX11_when_20 : decode cX11_when 20 = .ok (.ireturn, 1) := by decide +kernel
theorem dX11_when_21 : decode cX11_when 21 = .ok (.iconst 0, 1) := by decide +kernel
theorem dX11_when_22 : decode cX11_when 22 = .ok (.istore_n 3, 1) := by decide +kernel
theorem dX11_when_23 : decode cX11_when 23 = .ok (.bipush 41, 2) := by decide +kernel
theorem dX11_when_25 : decode cX11_when 25 = .ok (.istore 4, 2) := by decide +kernel
theorem dX11_when_27 : decode cX11_when 27 = .ok (.iconst 0, 1) := by decide +kernel
theorem dX11_when_28 : decode cX11_when 28 = .ok (.istore 5, 2) := by decide +kernel
theorem dX11_when_30 : decode cX11_when 30 = .ok (.iload 5, 2) := by decide +kernel
theorem dX11_when_32 : decode cX11_when 32 = .ok (.aload_n 0, 1) := by decide +kernel
theorem dX11_when_33 : decode cX11_when 33 = .ok (.getfield 19, 3) := by decide +kernel
theorem dX11_when_36 : decode cX11_when 36 = .ok (.getfield 177, 3) := by decide +kernel
theorem dX11_when_39 : decode cX11_when 39 = .ok (.if_icmp .ge 33, 3) := by decide +kernel
theorem dX11_when_42 : decode cX11_when 42 = .ok (.aload_n 0, 1) := by decide +kernel
theorem dX11_when_43 : decode cX11_when 43 = .ok (.iload_n 1, 1) := by decide +kernel
theorem dX11_when_44 : decode cX11_when 44 = .ok (.iload_n 2, 1) := by decide +kernel
theorem dX11_when_45 : decode cX11_when 45 = .ok (.iload 5, 2) := by decide +kernel
theorem dX11_when_47 : decode cX11_when 47 = .ok (.invokevirtual 312, 3) := by decide +kernel
theorem dX11_when_50 : decode cX11_when 50 = .ok (.istore 6, 2) := by decide +kernel
theorem dX11_when_52 : decode cX11_when 52 = .ok (.iload 6, 2) := by decide +kernel
theorem dX11_when_54 : decode cX11_when 54 = .ok (.iload 4, 2) := by decide +kernel
theorem dX11_when_56 : decode cX11_when 56 = .ok (.if_icmp .ge 10, 3) := by decide +kernel
theorem dX11_when_59 : decode cX11_when 59 = .ok (.iload 6, 2) := by decide +kernel
theorem dX11_when_61 : decode cX11_when 61 = .ok (.istore 4, 2) := by decide +kernel
theorem dX11_when_63 : decode cX11_when 63 = .ok (.iload 5, 2) := by decide +kernel
theorem dX11_when_65 : decode cX11_when 65 = .ok (.istore_n 3, 1) := by decide +kernel
theorem dX11_when_66 : decode cX11_when 66 = .ok (.iinc 5 1, 3) := by decide +kernel
theorem dX11_when_69 : decode cX11_when 69 = .ok (.goto (-39), 3) := by decide +kernel
theorem dX11_when_72 : decode cX11_when 72 = .ok (.iload_n 3, 1) := by decide +kernel
theorem dX11_when_73 : decode cX11_when 73 = .ok (.ireturn, 1) := by decide +kernel
theorem dX11_best_0 : decode cX11_best 0 = .ok (.aload_n 0, 1) := by decide +kernel
theorem dX11_best_1 : decode cX11_best 1 = .ok (.getfield 19, 3) := by decide +kernel
theorem dX11_best_4 : decode cX11_best 4 = .ok (.iload_n 1, 1) := by decide +kernel
theorem dX11_best_5 : decode cX11_best 5 = .ok (.invokevirtual 115, 3) := by decide +kernel
theorem dX11_best_8 : decode cX11_best 8 = .ok (.ifCond .eq 13, 3) := by decide +kernel
theorem dX11_best_11 : decode cX11_best 11 = .ok (.aload_n 0, 1) := by decide +kernel
theorem dX11_best_12 : decode cX11_best 12 = .ok (.iconst 1, 1) := by decide +kernel
theorem dX11_best_13 : decode cX11_best 13 = .ok (.iload_n 1, 1) := by decide +kernel
theorem dX11_best_14 : decode cX11_best 14 = .ok (.ishl, 1) := by decide +kernel
theorem dX11_best_15 : decode cX11_best 15 = .ok (.invokevirtual 316, 3) := by decide +kernel
theorem dX11_best_18 : decode cX11_best 18 = .ok (.goto 5, 3) := by decide +kernel
theorem dX11_best_21 : decode cX11_best 21 = .ok (.bipush (-2), 2) := by decide +kernel
theorem dX11_best_23 : decode cX11_best 23 = .ok (.ireturn, 1) := by decide +kernel
theorem dX11_bestCost_0 : decode cX11_bestCost 0 = .ok (.aload_n 0, 1) := by decide +kernel
theorem dX11_bestCost_1 : decode cX11_bestCost 1 = .ok (.getfield 19, 3) := by decide +kernel
theorem dX11_bestCost_4 : decode cX11_bestCost 4 = .ok (.iload_n 1, 1) := by decide +kernel
theorem dX11_bestCost_5 : decode cX11_bestCost 5 = .ok (.invokevirtual 115, 3) := by decide +kernel
theorem dX11_bestCost_8 : decode cX11_bestCost 8 = .ok (.ifCond .eq 20, 3) := by decide +kernel
theorem dX11_bestCost_11 : decode cX11_bestCost 11 = .ok (.aload_n 0, 1) := by decide +kernel
theorem dX11_bestCost_12 : decode cX11_bestCost 12 = .ok (.iconst 1, 1) := by decide +kernel
theorem dX11_bestCost_13 : decode cX11_bestCost 13 = .ok (.iload_n 1, 1) := by decide +kernel
theorem dX11_bestCost_14 : decode cX11_bestCost 14 = .ok (.ishl, 1) := by decide +kernel
theorem dX11_bestCost_15 : decode cX11_bestCost 15 = .ok (.aload_n 0, 1) := by decide +kernel
theorem dX11_bestCost_16 : decode cX11_bestCost 16 = .ok (.iconst 1, 1) := by decide +kernel
theorem dX11_bestCost_17 : decode cX11_bestCost 17 = .ok (.iload_n 1, 1) := by decide +kernel
theorem dX11_bestCost_18 : decode cX11_bestCost 18 = .ok (.ishl, 1) := by decide +kernel
theorem dX11_bestCost_19 : decode cX11_bestCost 19 = .ok (.invokevirtual 316, 3) := by decide +kernel
theorem dX11_bestCost_22 : decode cX11_bestCost 22 = .ok (.invokevirtual 319, 3) := by decide +kernel
theorem dX11_bestCost_25 : decode cX11_bestCost 25 = .ok (.goto 5, 3) := by decide +kernel
theorem dX11_bestCost_28 : decode cX11_bestCost 28 = .ok (.bipush (-2), 2) := by decide +kernel
theorem dX11_bestCost_30 : decode cX11_bestCost 30 = .ok (.ireturn, 1) := by decide +kernel
