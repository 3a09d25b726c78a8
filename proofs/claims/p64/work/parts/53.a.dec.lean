theorem dX12_hurts_0 : decode cX12_hurts 0 = .ok (.aload_n 0, 1) := by decide +kernel
theorem dX12_hurts_1 : decode cX12_hurts 1 = .ok (.iconst 0, 1) := by decide +kernel
theorem dX12_hurts_2 : decode cX12_hurts 2 = .ok (.putfield 107, 3) := by decide +kernel
theorem dX12_hurts_5 : decode cX12_hurts 5 = .ok (.aload_n 0, 1) := by decide +kernel
theorem dX12_hurts_6 : decode cX12_hurts 6 = .ok (.iload_n 1, 1) := by decide +kernel
theorem dX12_hurts_7 : decode cX12_hurts 7 = .ok (.invokevirtual 276, 3) := by decide +kernel
theorem dX12_hurts_10 : decode cX12_hurts 10 = .ok (.ifCond .eq 13, 3) := by decide +kernel
theorem dX12_hurts_13 : decode cX12_hurts 13 = .ok (.iload_n 2, 1) := by decide +kernel
theorem dX12_hurts_14 : decode cX12_hurts 14 = .ok (.i2l, 1) := by decide +kernel
theorem dX12_hurts_15 : decode cX12_hurts 15 = .ok (.lconst 0, 1) := by decide +kernel
theorem dX12_hurts_16 : decode cX12_hurts 16 = .ok (.lconst 1, 1) := by decide +kernel
theorem dX12_hurts_17 : decode cX12_hurts 17 = .ok (.invokestatic 112, 3) := by decide +kernel
theorem dX12_hurts_20 : decode cX12_hurts 20 = .ok (.ifCond .ne 6, 3) := by decide +kernel
theorem dX12_hurts_23 : decode cX12_hurts 23 = .ok (.bipush (-2), 2) := by decide +kernel
theorem dX12_hurts_25 : decode cX12_hurts 25 = .ok (.ireturn, 1) := by decide +kernel
theorem dX12_hurts_26 : decode cX12_hurts 26 = .ok (.aload_n 0, 1) := by decide +kernel
theorem dX12_hurts_27 : decode cX12_hurts 27 = .ok (.invokevirtual 346, 3) := by decide +kernel
theorem dX12_hurts_30 : decode cX12_hurts 30 = .ok (.aload_n 0, 1) := by decide +kernel
theorem dX12_hurts_31 : decode cX12_hurts 31 = .ok (.iload_n 1, 1) := by decide +kernel
theorem dX12_hurts_32 : decode cX12_hurts 32 = .ok (.iload_n 2, 1) := by decide +kernel
theorem dX12_hurts_33 : decode cX12_hurts 33 = .ok (.invokevirtual 367, 3) := by decide +kernel
theorem dX12_hurts_36 : decode cX12_hurts 36 = .ok (.ireturn, 1) := by decide +kernel
theorem dX12_costOf_0 : decode cX12_costOf 0 = .ok (.iconst 0, 1) := by decide +kernel
theorem dX12_costOf_1 : decode cX12_costOf 1 = .ok (.istore_n 2, 1) := by decide +kernel
theorem dX12_costOf_2 : decode cX12_costOf 2 = .ok (.iconst 0, 1) := by decide +kernel
theorem dX12_costOf_3 : decode cX12_costOf 3 = .ok (.istore_n 3, 1) := by decide +kernel
theorem dX12_costOf_4 : decode cX12_costOf 4 = .ok (.iload_n 3, 1) := by decide +kernel
theorem dX12_costOf_5 : decode cX12_costOf 5 = .ok (.aload_n 0, 1) := by decide +kernel
theorem dX12_costOf_6 : decode cX12_costOf 6 = .ok (.getfield 34, 3) := by decide +kernel
theorem dX12_costOf_9 : decode cX12_costOf 9 = .ok (.iconst 0, 1) := by decide +kernel
theorem dX12_costOf_10 : decode cX12_costOf 10 = .ok (.iaload, 1) := by decide +kernel
theorem dX12_costOf_11 : decode cX12_costOf 11 = .ok (.if_icmp .ge 18, 3) := by decide +kernel
theorem dX12_costOf_14 : decode cX12_costOf 14 = .ok (.iload_n 2, 1) := by decide +kernel
theorem dX12_costOf_15 : decode cX12_costOf 15 = .ok (.aload_n 0, 1) := by decide +kernel
theorem dX12_costOf_16 : decode cX12_costOf 16 = .ok (.iload_n 1, 1) := by decide +kernel
theorem dX12_costOf_17 : decode cX12_costOf 17 = .ok (.iload_n 3, 1) := by decide +kernel
theorem dX12_costOf_18 : decode cX12_costOf 18 = .ok (.invokevirtual 358, 3) := by decide +kernel
theorem dX12_costOf_21 : decode cX12_costOf 21 = .ok (.iadd, 1) := by decide +kernel
theorem dX12_costOf_22 : decode cX12_costOf 22 = .ok (.istore_n 2, 1) := by decide +kernel
theorem dX12_costOf_23 : decode cX12_costOf 23 = .ok (.iinc 3 1, 3) := by decide +kernel
theorem dX12_costOf_26 : decode cX12_costOf 26 = .ok (.goto (-22), 3) := by decide +kernel
theorem dX12_costOf_29 : decode cX12_costOf 29 = .ok (.iload_n 2, 1) := by decide +kernel
theorem dX12_costOf_30 : decode cX12_costOf 30 = .ok (.aload_n 0, 1) := by decide +kernel
theorem dX12_costOf_31 : decode cX12_costOf 31 = .ok (.getfield 34, 3) := by decide +kernel
theorem dX12_costOf_34 : decode cX12_costOf 34 = .ok (.iconst 1, 1) := by decide +kernel
theorem dX12_costOf_35 : decode cX12_costOf 35 = .ok (.iaload, 1) := by decide +kernel
theorem dX12_costOf_36 : decode cX12_costOf 36 = .ok (.imul, 1) := by decide +kernel
theorem dX12_costOf_37 : decode cX12_costOf 37 = .ok (.aload_n 0, 1) := by decide +kernel
theorem dX12_costOf_38 : decode cX12_costOf 38 = .ok (.iload_n 1, 1) := by decide +kernel
theorem dX12_costOf_39 : decode cX12_costOf 39 = .ok (.iconst 0, 1) := by decide +kernel
theorem dX12_costOf_40 : decode cX12_costOf 40 = .ok (.invokevirtual 367, 3) := by decide +kernel
theorem dX12_costOf_43 : decode cX12_costOf 43 = .ok (.aload_n 0, 1) := by decide +kernel
theorem dX12_costOf_44 : decode cX12_costOf 44 = .ok (.getfield 34, 3) := by decide +kernel
theorem dX12_costOf_47 : decode cX12_costOf 47 = .ok (.iconst 2, 1) := by decide +kernel
theorem dX12_costOf_48 : decode cX12_costOf 48 = .ok (.iaload, 1) := by decide +kernel
theorem dX12_costOf_49 : decode cX12_costOf 49 = .ok (.imul, 1) := by decide +kernel
theorem dX12_costOf_50 : decode cX12_costOf 50 = .ok (.iadd, 1) := by decide +kernel
theorem dX12_costOf_51 : decode cX12_costOf 51 = .ok (.ireturn, 1) := by decide +kernel
theorem dX12_cost_0 : decode cX12_cost 0 = .ok (.aload_n 0, 1) := by decide +kernel
theorem dX12_cost_1 : decode cX12_cost 1 = .ok (.iconst 0, 1) := by decide +kernel
theorem dX12_cost_2 : decode cX12_cost 2 = .ok (.putfield 107, 3) := by decide +kernel
theorem dX12_cost_5 : decode cX12_cost 5 = .ok (.aload_n 0, 1) := by decide +kernel
theorem dX12_cost_6 : decode cX12_cost 6 = .ok (.iload_n 1, 1) := by decide +kernel
theorem dX12_cost_7 : decode cX12_cost 7 = .ok (.invokevirtual 276, 3) := by decide +kernel
theorem dX12_cost_10 : decode cX12_cost 10 = .ok (.ifCond .ne 6, 3) := by decide +kernel
theorem dX12_cost_13 : decode cX12_cost 13 = .ok (.bipush (-2), 2) := by decide +kernel
theorem dX12_cost_15 : decode cX12_cost 15 = .ok (.ireturn, 1) := by decide +kernel
theorem dX12_cost_16 : decode cX12_cost 16 = .ok (.aload_n 0, 1) := by decide +kernel
theorem dX12_cost_17 : decode cX12_cost 17 = .ok (.invokevirtual 346, 3) := by decide +kernel
theorem dX12_cost_20 : decode cX12_cost 20 = .ok (.aload_n 0, 1) := by decide +kernel
theorem dX12_cost_21 : decode cX12_cost 21 = .ok (.iload_n 1, 1) := by decide +kernel
theorem dX12_cost_22 : decode cX12_cost 22 = .ok (.invokevirtual 370, 3) := by decide +kernel
theorem dX12_cost_25 : decode cX12_cost 25 = .ok (.ireturn, 1) := by decide +kernel
theorem dX12_dearest_0 : decode cX12_dearest 0 = .ok (.aload_n 0, 1) := by decide +kernel
theorem dX12_dearest_1 : decode cX12_dearest 1 = .ok (.iconst 0, 1) := by decide +kernel
theorem dX12_dearest_2 : decode cX12_dearest 2 = .ok (.putfield 107, 3) := by decide +kernel
theorem dX12_dearest_5 : decode cX12_dearest 5 = .ok (.aload_n 0, 1) := by decide +kernel
theorem dX12_dearest_6 : decode cX12_dearest 6 = .ok (.invokevirtual 373, 3) := by decide +kernel
theorem dX12_dearest_9 : decode cX12_dearest 9 = .ok (.ifCond .ne 6, 3) := by decide +kernel
theorem dX12_dearest_12 : decode cX12_dearest 12 = .ok (.bipush (-2), 2) := by decide +kernel
theorem dX12_dearest_14 : decode cX12_dearest 14 = .ok (.ireturn, 1) := by decide +kernel
theorem dX12_dearest_15 : decode cX12_dearest 15 = .ok (.aload_n 0, 1) := by decide +kernel
theorem dX12_dearest_16 : decode cX12_dearest 16 = .ok (.invokevirtual 346, 3) := by decide +kernel
theorem dX12_dearest_19 : decode cX12_dearest 19 = .ok (.iconst (-1), 1) := by decide +kernel
theorem dX12_dearest_20 : decode cX12_dearest 20 = .ok (.istore_n 1, 1) := by decide +kernel
theorem dX12_dearest_21 : decode cX12_dearest 21 = .ok (.iconst 0, 1) := by decide +kernel
theorem dX12_dearest_22 : decode cX12_dearest 22 = .ok (.istore_n 2, 1) := by decide +kernel
theorem dX12_dearest_23 : decode cX12_dearest 23 = .ok (.iload_n 2, 1) := by decide +kernel
theorem dX12_dearest_24 : decode cX12_dearest 24 = .ok (.aload_n 0, 1) := by decide +kernel
theorem dX12_dearest_25 : decode cX12_dearest 25 = .ok (.getfield 34, 3) := by decide +kernel
theorem dX12_dearest_28 : decode cX12_dearest 28 = .ok (.iconst 3, 1) := by decide +kernel
theorem dX12_dearest_29 : decode cX12_dearest 29 = .ok (.iaload, 1) := by decide +kernel
theorem dX12_dearest_30 : decode cX12_dearest 30 = .ok (.if_icmp .ge 29, 3) := by decide +kernel
theorem dX12_dearest_33 : decode cX12_dearest 33 = .ok (.iload_n 1, 1) := by decide +kernel
theorem dX12_dearest_34 : decode cX12_dearest 34 = .ok (.iconst (-1), 1) := by decide +kernel
theorem dX12_dearest_35 : decode cX12_dearest 35 = .ok (.if_icmp .eq 16, 3) := by decide +kernel
theorem dX12_dearest_38 : decode cX12_dearest 38 = .ok (.aload_n 0, 1) := by decide +kernel
theorem dX12_dearest_39 : decode cX12_dearest 39 = .ok (.iload_n 2, 1) := by decide +kernel
theorem dX12_dearest_40 : decode cX12_dearest 40 = .ok (.invokevirtual 370, 3) := by decide +kernel
theorem dX12_dearest_43 : decode cX12_dearest 43 = .ok (.aload_n 0, 1) := by decide +kernel
theorem dX12_dearest_44 : decode cX12_dearest 44 = .ok (.iload_n 1, 1) := by decide +kernel
theorem dX12_dearest_45 : decode cX12_dearest 45 = .ok (.invokevirtual 370, 3) := by decide +kernel
theorem dX12_dearest_48 : decode cX12_dearest 48 = .ok (.if_icmp .le 5, 3) := by decide +kernel
theorem dX12_dearest_51 : decode cX12_dearest 51 = .ok (.iload_n 2, 1) := by decide +kernel
theorem dX12_dearest_52 : decode cX12_dearest 52 = .ok (.istore_n 1, 1) := by decide +kernel
theorem dX12_dearest_53 : decode cX12_dearest 53 = .ok (.iinc 2 1, 3) := by decide +kernel
theorem dX12_dearest_56 : decode cX12_dearest 56 = .ok (.goto (-33), 3) := by decide +kernel
theorem dX12_dearest_59 : decode cX12_dearest 59 = .ok (.iload_n 1, 1) := by decide +kernel
theorem dX12_dearest_60 : decode cX12_dearest 60 = .ok (.ireturn, 1) := by decide +kernel
theorem dX12_lastOf_0 : decode cX12_lastOf 0 = .ok (.iconst (-1), 1) := by decide +kernel
theorem dX12_lastOf_1 : decode cX12_lastOf 1 = .ok (.istore_n 2, 1) := by decide +kernel
theorem dX12_lastOf_2 : decode cX12_lastOf 2 = .ok (.iconst 0, 1) := by decide +kernel
theorem dX12_lastOf_3 : decode cX12_lastOf 3 = .ok (.istore_n 3, 1) := by decide +kernel
theorem dX12_lastOf_4 : decode cX12_lastOf 4 = .ok (.iload_n 3, 1) := by decide +kernel
theorem dX12_lastOf_5 : decode cX12_lastOf 5 = .ok (.aload_n 0, 1) := by decide +kernel
theorem dX12_lastOf_6 : decode cX12_lastOf 6 = .ok (.getfield 34, 3) := by decide +kernel
theorem dX12_lastOf_9 : decode cX12_lastOf 9 = .ok (.iconst 0, 1) := by decide +kernel
theorem dX12_lastOf_10 : decode cX12_lastOf 10 = .ok (.iaload, 1) := by decide +kernel
theorem dX12_lastOf_11 : decode cX12_lastOf 11 = .ok (.if_icmp .ge 33, 3) := by decide +kernel
theorem dX12_lastOf_14 : decode cX12_lastOf 14 = .ok (.aload_n 0, 1) := by decide +kernel
theorem dX12_lastOf_15 : decode cX12_lastOf 15 = .ok (.iload_n 1, 1) := by decide +kernel
theorem dX12_lastOf_16 : decode cX12_lastOf 16 = .ok (.iconst 0, 1) := by decide +kernel
theorem dX12_lastOf_17 : decode cX12_lastOf 17 = .ok (.iload_n 3, 1) := by decide +kernel
theorem dX12_lastOf_18 : decode cX12_lastOf 18 = .ok (.invokevirtual 349, 3) := by decide +kernel
theorem dX12_lastOf_21 : decode cX12_lastOf 21 = .ok (.aload_n 0, 1) := by decide +kernel
theorem dX12_lastOf_22 : decode cX12_lastOf 22 = .ok (.iload_n 1, 1) := by decide +kernel
theorem dX12_lastOf_23 : decode cX12_lastOf 23 = .ok (.iconst 1, 1) := by decide +kernel
theorem dX12_lastOf_24 : decode cX12_lastOf 24 = .ok (.iload_n 3, 1) := by decide +kernel
theorem dX12_lastOf_25 : decode cX12_lastOf 25 = .ok (.invokevirtual 349, 3) := by decide +kernel
theorem dX12_lastOf_28 : decode cX12_lastOf 28 = .ok (.iadd, 1) := by decide +kernel
theorem dX12_lastOf_29 : decode cX12_lastOf 29 = .ok (.ifCond .le 7, 3) := by decide +kernel
theorem dX12_lastOf_32 : decode cX12_lastOf 32 = .ok (.iload_n 3, 1) := by decide +kernel
theorem dX12_lastOf_33 : decode cX12_lastOf 33 = .ok (.goto 4, 3) := by decide +kernel
theorem dX12_lastOf_36 : decode cX12_lastOf 36 = .ok (.iload_n 2, 1) := by decide +kernel
theorem dX12_lastOf_37 : decode cX12_lastOf 37 = .ok (.istore_n 2, 1) := by decide +kernel
theorem dX12_lastOf_38 : decode cX12_lastOf 38 = .ok (.iinc 3 1, 3) := by decide +kernel
theorem dX12_lastOf_41 : decode cX12_lastOf 41 = .ok (.goto (-37), 3) := by decide +kernel
theorem dX12_lastOf_44 : decode cX12_lastOf 44 = .ok (.iload_n 2, 1) := by decide +kernel
theorem dX12_lastOf_45 : decode cX12_lastOf 45 = .ok (.ireturn, 1) := by decide +kernel
theorem dX12_last_0 : decode cX12_last 0 = .ok (.aload_n 0, 1) := by decide +kernel
theorem dX12_last_1 : decode cX12_last 1 = .ok (.iconst 0, 1) := by decide +kernel
theorem dX12_last_2 : decode cX12_last 2 = .ok (.putfield 107, 3) := by decide +kernel
theorem dX12_last_5 : decode cX12_last 5 = .ok (.aload_n 0, 1) := by decide +kernel
theorem dX12_last_6 : decode cX12_last 6 = .ok (.iload_n 1, 1) := by decide +kernel
theorem dX12_last_7 : decode cX12_last 7 = .ok (.invokevirtual 281, 3) := by decide +kernel
theorem dX12_last_10 : decode cX12_last 10 = .ok (.ifCond .ne 6, 3) := by decide +kernel
theorem dX12_last_13 : decode cX12_last 13 = .ok (.bipush (-2), 2) := by decide +kernel
theorem dX12_last_15 : decode cX12_last 15 = .ok (.ireturn, 1) := by decide +kernel
theorem dX12_last_16 : decode cX12_last 16 = .ok (.aload_n 0, 1) := by decide +kernel
theorem dX12_last_17 : decode cX12_last 17 = .ok (.invokevirtual 346, 3) := by decide +kernel
theorem dX12_last_20 : decode cX12_last 20 = .ok (.aload_n 0, 1) := by decide +kernel
theorem dX12_last_21 : decode cX12_last 21 = .ok (.iload_n 1, 1) := by decide +kernel
theorem dX12_last_22 : decode cX12_last 22 = .ok (.invokevirtual 376, 3) := by decide +kernel
theorem dX12_last_25 : decode cX12_last 25 = .ok (.ireturn, 1) := by decide +kernel
theorem dX12_overNow_0 : decode cX12_overNow 0 = .ok (.iconst 0, 1) := by decide +kernel
theorem dX12_overNow_1 : decode cX12_overNow 1 = .ok (.istore_n 1, 1) := by decide +kernel
theorem dX12_overNow_2 : decode cX12_overNow 2 = .ok (.iconst 0, 1) := by decide +kernel
theorem dX12_overNow_3 : decode cX12_overNow 3 = .ok (.istore_n 2, 1) := by decide +kernel
theorem dX12_overNow_4 : decode cX12_overNow 4 = .ok (.iload_n 2, 1) := by decide +kernel
theorem dX12_overNow_5 : decode cX12_overNow 5 = .ok (.aload_n 0, 1) := by decide +kernel
theorem dX12_overNow_6 : decode cX12_overNow 6 = .ok (.getfield 34, 3) := by decide +kernel
theorem dX12_overNow_9 : decode cX12_overNow 9 = .ok (.iconst 4, 1) := by decide +kernel
theorem dX12_overNow_10 : decode cX12_overNow 10 = .ok (.iaload, 1) := by decide +kernel
theorem dX12_overNow_11 : decode cX12_overNow 11 = .ok (.if_icmp .ge 33, 3) := by decide +kernel
theorem dX12_overNow_14 : decode cX12_overNow 14 = .ok (.iload_n 1, 1) := by decide +kernel
theorem dX12_overNow_15 : decode cX12_overNow 15 = .ok (.aload_n 0, 1) := by decide +kernel
theorem dX12_overNow_16 : decode cX12_overNow 16 = .ok (.iload_n 2, 1) := by decide +kernel
theorem dX12_overNow_17 : decode cX12_overNow 17 = .ok (.invokevirtual 376, 3) := by decide +kernel
theorem dX12_overNow_20 : decode cX12_overNow 20 = .ok (.aload_n 0, 1) := by decide +kernel
theorem dX12_overNow_21 : decode cX12_overNow 21 = .ok (.getfield 34, 3) := by decide +kernel
theorem dX12_overNow_24 : decode cX12_overNow 24 = .ok (.iconst 0, 1) := by decide +kernel
theorem dX12_overNow_25 : decode cX12_overNow 25 = .ok (.iaload, 1) := by decide +kernel
theorem dX12_overNow_26 : decode cX12_overNow 26 = .ok (.iconst 1, 1) := by decide +kernel
theorem dX12_overNow_27 : decode cX12_overNow 27 = .ok (.isub, 1) := by decide +kernel
theorem dX12_overNow_28 : decode cX12_overNow 28 = .ok (.if_icmp .ge 7, 3) := by decide +kernel
theorem dX12_overNow_31 : decode cX12_overNow 31 = .ok (.iconst 1, 1) := by decide +kernel
theorem dX12_overNow_32 : decode cX12_overNow 32 = .ok (.goto 4, 3) := by decide +kernel
theorem dX12_overNow_35 : decode cX12_overNow 35 = .ok (.iconst 0, 1) := by decide +kernel
theorem dX12_overNow_36 : decode cX12_overNow 36 = .ok (.iadd, 1) := by decide +kernel
theorem dX12_overNow_37 : decode cX12_overNow 37 = .ok (.istore_n 1, 1) := by decide +kernel
theorem dX12_overNow_38 : decode cX12_overNow 38 = .ok (.iinc 2 1, 3) := by decide +kernel
theorem dX12_overNow_41 : decode cX12_overNow 41 = .ok (.goto (-37), 3) := by decide +kernel
theorem dX12_overNow_44 : decode cX12_overNow 44 = .ok (.iload_n 1, 1) := by decide +kernel
theorem dX12_overNow_45 : decode cX12_overNow 45 = .ok (.ireturn, 1) := by decide +kernel
theorem dX12_over_0 : decode cX12_over 0 = .ok (.aload_n 0, 1) := by decide +kernel
theorem dX12_over_1 : decode cX12_over 1 = .ok (.iconst 0, 1) := by decide +kernel
theorem dX12_over_2 : decode cX12_over 2 = .ok (.putfield 107, 3) := by decide +kernel
theorem dX12_over_5 : decode cX12_over 5 = .ok (.aload_n 0, 1) := by decide +kernel
theorem dX12_over_6 : decode cX12_over 6 = .ok (.invokevirtual 373, 3) := by decide +kernel
theorem dX12_over_9 : decode cX12_over 9 = .ok (.ifCond .ne 6, 3) := by decide +kernel
theorem dX12_over_12 : decode cX12_over 12 = .ok (.bipush (-2), 2) := by decide +kernel
theorem dX12_over_14 : decode cX12_over 14 = .ok (.ireturn, 1) := by decide +kernel
theorem dX12_over_15 : decode cX12_over 15 = .ok (.aload_n 0, 1) := by decide +kernel
theorem dX12_over_16 : decode cX12_over 16 = .ok (.invokevirtual 346, 3) := by decide +kernel
theorem dX12_over_19 : decode cX12_over 19 = .ok (.aload_n 0, 1) := by decide +kernel
theorem dX12_over_20 : decode cX12_over 20 = .ok (.invokevirtual 379, 3) := by decide +kernel
theorem dX12_over_23 : decode cX12_over 23 = .ok (.ireturn, 1) := by decide +kernel
theorem dX12_poorest_0 : decode cX12_poorest 0 = .ok (.aload_n 0, 1) := by decide +kernel
theorem dX12_poorest_1 : decode cX12_poorest 1 = .ok (.iconst 0, 1) := by decide +kernel
theorem dX12_poorest_2 : decode cX12_poorest 2 = .ok (.putfield 107, 3) := by decide +kernel
theorem dX12_poorest_5 : decode cX12_poorest 5 = .ok (.aload_n 0, 1) := by decide +kernel
theorem dX12_poorest_6 : decode cX12_poorest 6 = .ok (.invokevirtual 373, 3) := by decide +kernel
theorem dX12_poorest_9 : decode cX12_poorest 9 = .ok (.ifCond .ne 6, 3) := by decide +kernel
theorem dX12_poorest_12 : decode cX12_poorest 12 = .ok (.bipush (-2), 2) := by decide +kernel
theorem dX12_poorest_14 : decode cX12_poorest 14 = .ok (.ireturn, 1) := by decide +kernel
theorem dX12_poorest_15 : decode cX12_poorest 15 = .ok (.aload_n 0, 1) := by decide +kernel
theorem dX12_poorest_16 : decode cX12_poorest 16 = .ok (.invokevirtual 346, 3) := by decide +kernel
theorem dX12_poorest_19 : decode cX12_poorest 19 = .ok (.iconst 0, 1) := by decide +kernel
theorem dX12_poorest_20 : decode cX12_poorest 20 = .ok (.istore_n 1, 1) := by decide +kernel
theorem dX12_poorest_21 : decode cX12_poorest 21 = .ok (.iconst 1, 1) := by decide +kernel
theorem dX12_poorest_22 : decode cX12_poorest 22 = .ok (.istore_n 2, 1) := by decide +kernel
theorem dX12_poorest_23 : decode cX12_poorest 23 = .ok (.iload_n 2, 1) := by decide +kernel
theorem dX12_poorest_24 : decode cX12_poorest 24 = .ok (.aload_n 0, 1) := by decide +kernel
theorem dX12_poorest_25 : decode cX12_poorest 25 = .ok (.getfield 34, 3) := by decide +kernel
theorem dX12_poorest_28 : decode cX12_poorest 28 = .ok (.iconst 0, 1) := by decide +kernel
theorem dX12_poorest_29 : decode cX12_poorest 29 = .ok (.iaload, 1) := by decide +kernel
theorem dX12_poorest_30 : decode cX12_poorest 30 = .ok (.if_icmp .ge 26, 3) := by decide +kernel
theorem dX12_poorest_33 : decode cX12_poorest 33 = .ok (.aload_n 0, 1) := by decide +kernel
theorem dX12_poorest_34 : decode cX12_poorest 34 = .ok (.iload_n 2, 1) := by decide +kernel
theorem dX12_poorest_35 : decode cX12_poorest 35 = .ok (.iconst 0, 1) := by decide +kernel
theorem dX12_poorest_36 : decode cX12_poorest 36 = .ok (.invokevirtual 355, 3) := by decide +kernel
theorem dX12_poorest_39 : decode cX12_poorest 39 = .ok (.aload_n 0, 1) := by decide +kernel
theorem dX12_poorest_40 : decode cX12_poorest 40 = .ok (.iload_n 1, 1) := by decide +kernel
theorem dX12_poorest_41 : decode cX12_poorest 41 = .ok (.iconst 0, 1) := by decide +kernel
theorem dX12_poorest_42 : decode cX12_poorest 42 = .ok (.invokevirtual 355, 3) := by decide +kernel
theorem dX12_poorest_45 : decode cX12_poorest 45 = .ok (.if_icmp .ge 5, 3) := by decide +kernel
theorem dX12_poorest_48 : decode cX12_poorest 48 = .ok (.iload_n 2, 1) := by decide +kernel
theorem dX12_poorest_49 : decode cX12_poorest 49 = .ok (.istore_n 1, 1) := by decide +kernel
theorem dX12_poorest_50 : decode cX12_poorest 50 = .ok (.iinc 2 1, 3) := by decide +kernel
theorem dX12_poorest_53 : decode cX12_poorest 53 = .ok (.goto (-30), 3) := by decide +kernel
theorem dX12_poorest_56 : decode cX12_poorest 56 = .ok (.iload_n 1, 1) := by decide +kernel
theorem dX12_poorest_57 : decode cX12_poorest 57 = .ok (.ireturn, 1) := by decide +kernel
theorem dX12_odds_0 : decode cX12_odds 0 = .ok (.aload_n 0, 1) := by decide +kernel
theorem dX12_odds_1 : decode cX12_odds 1 = .ok (.iconst 0, 1) := by decide +kernel
theorem dX12_odds_2 : decode cX12_odds 2 = .ok (.putfield 107, 3) := by decide +kernel
theorem dX12_odds_5 : decode cX12_odds 5 = .ok (.aload_n 0, 1) := by decide +kernel
theorem dX12_odds_6 : decode cX12_odds 6 = .ok (.iload_n 1, 1) := by decide +kernel
theorem dX12_odds_7 : decode cX12_odds 7 = .ok (.invokevirtual 281, 3) := by decide +kernel
theorem dX12_odds_10 : decode cX12_odds 10 = .ok (.ifCond .ne 6, 3) := by decide +kernel
theorem dX12_odds_13 : decode cX12_odds 13 = .ok (.bipush (-100), 2) := by decide +kernel
theorem dX12_odds_15 : decode cX12_odds 15 = .ok (.ireturn, 1) := by decide +kernel
theorem dX12_odds_16 : decode cX12_odds 16 = .ok (.aload_n 0, 1) := by decide +kernel
theorem dX12_odds_17 : decode cX12_odds 17 = .ok (.invokevirtual 346, 3) := by decide +kernel
theorem dX12_odds_20 : decode cX12_odds 20 = .ok (.iconst 0, 1) := by decide +kernel
theorem dX12_odds_21 : decode cX12_odds 21 = .ok (.istore_n 2, 1) := by decide +kernel
theorem dX12_odds_22 : decode cX12_odds 22 = .ok (.iconst 0, 1) := by decide +kernel
theorem dX12_odds_23 : decode cX12_odds 23 = .ok (.istore_n 3, 1) := by decide +kernel
theorem dX12_odds_24 : decode cX12_odds 24 = .ok (.iload_n 3, 1) := by decide +kernel
theorem dX12_odds_25 : decode cX12_odds 25 = .ok (.aload_n 0, 1) := by decide +kernel
theorem dX12_odds_26 : decode cX12_odds 26 = .ok (.getfield 34, 3) := by decide +kernel
theorem dX12_odds_29 : decode cX12_odds 29 = .ok (.iconst 0, 1) := by decide +kernel
theorem dX12_odds_30 : decode cX12_odds 30 = .ok (.iaload, 1) := by decide +kernel
theorem dX12_odds_31 : decode cX12_odds 31 = .ok (.if_icmp .ge 43, 3) := by decide +kernel
theorem dX12_odds_34 : decode cX12_odds 34 = .ok (.iload_n 2, 1) := by decide +kernel
theorem dX12_odds_35 : decode cX12_odds 35 = .ok (.aload_n 0, 1) := by decide +kernel
theorem dX12_odds_36 : decode cX12_odds 36 = .ok (.iload_n 1, 1) := by decide +kernel
theorem dX12_odds_37 : decode cX12_odds 37 = .ok (.iconst 0, 1) := by decide +kernel
theorem dX12_odds_38 : decode cX12_odds 38 = .ok (.iload_n 3, 1) := by decide +kernel
theorem dX12_odds_39 : decode cX12_odds 39 = .ok (.invokevirtual 349, 3) := by decide +kernel
theorem dX12_odds_42 : decode cX12_odds 42 = .ok (.ifCond .le 7, 3) := by decide +kernel
theorem dX12_odds_45 : decode cX12_odds 45 = .ok (.iconst 1, 1) := by decide +kernel
theorem dX12_odds_46 : decode cX12_odds 46 = .ok (.goto 4, 3) := by decide +kernel
theorem dX12_odds_49 : decode cX12_odds 49 = .ok (.iconst 0, 1) := by decide +kernel
theorem dX12_odds_50 : decode cX12_odds 50 = .ok (.aload_n 0, 1) := by decide +kernel
theorem dX12_odds_51 : decode cX12_odds 51 = .ok (.iload_n 1, 1) := by decide +kernel
theorem dX12_odds_52 : decode cX12_odds 52 = .ok (.iconst 1, 1) := by decide +kernel
theorem dX12_odds_53 : decode cX12_odds 53 = .ok (.iload_n 3, 1) := by decide +kernel
theorem dX12_odds_54 : decode cX12_odds 54 = .ok (.invokevirtual 349, 3) := by decide +kernel
theorem dX12_odds_57 : decode cX12_odds 57 = .ok (.ifCond .le 7, 3) := by decide +kernel
theorem dX12_odds_60 : decode cX12_odds 60 = .ok (.iconst 1, 1) := by decide +kernel
theorem dX12_odds_61 : decode cX12_odds 61 = .ok (.goto 4, 3) := by decide +kernel
theorem dX12_odds_64 : decode cX12_odds 64 = .ok (.iconst 0, 1) := by decide +kernel
theorem dX12_odds_65 : decode cX12_odds 65 = .ok (.isub, 1) := by decide +kernel
theorem dX12_odds_66 : decode cX12_odds 66 = .ok (.iadd, 1) := by decide +kernel
theorem dX12_odds_67 : decode cX12_odds 67 = .ok (.istore_n 2, 1) := by decide +kernel
theorem dX12_odds_68 : decode cX12_odds 68 = .ok (.iinc 3 1, 3) := by decide +kernel
theorem dX12_odds_71 : decode cX12_odds 71 = .ok (.goto (-47), 3) := by decide +kernel
theorem dX12_odds_74 : decode cX12_odds 74 = .ok (.iload_n 2, 1) := by decide +kernel
theorem dX12_odds_75 : decode cX12_odds 75 = .ok (.ireturn, 1) := by decide +kernel
