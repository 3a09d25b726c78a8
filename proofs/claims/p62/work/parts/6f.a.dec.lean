theorem dX12_cost_0 : decode cX12_cost 0 = .ok (.aload_n 0, 1) := by decide +kernel
theorem dX12_cost_1 : decode cX12_cost 1 = .ok (.iconst 0, 1) := by decide +kernel
theorem dX12_cost_2 : decode cX12_cost 2 = .ok (.putfield 107, 3) := by decide +kernel
theorem dX12_cost_5 : decode cX12_cost 5 = .ok (.aload_n 0, 1) := by decide +kernel
theorem dX12_cost_6 : decode cX12_cost 6 = .ok (.iload_n 1, 1) := by decide +kernel
theorem dX12_cost_7 : decode cX12_cost 7 = .ok (.invokevirtual 276, 3) := by decide +kernel
theorem dX12_cost_10 : decode cX12_cost 10 = .ok (.ifCond .ne 6, 3) := by decide +kernel
theorem dX12_cost_13 : decode cX12_cost 13 = .ok (.bipush (-2), 2) := by decide +kernel
theorem dX12_cost_15 : decode cX12_cost 15 = .ok (.ireturn, 1) := by decide +kernel
theorem dX12_cost_16 : decode cX12_cost 16 = .ok (.aload_n 0, 1) := by decide +kernel
theorem dX12_cost_17 : decode cX12_cost 17 = .ok (.invokevirtual 346, 3) := by decide +kernel
theorem dX12_cost_20 : decode cX12_cost 20 = .ok (.aload_n 0, 1) := by decide +kernel
theorem dX12_cost_21 : decode cX12_cost 21 = .ok (.iload_n 1, 1) := by decide +kernel
theorem dX12_cost_22 : decode cX12_cost 22 = .ok (.invokevirtual 370, 3) := by decide +kernel
theorem dX12_cost_25 : decode cX12_cost 25 = .ok (.ireturn, 1) := by decide +kernel
theorem dX12_dearest_0 : decode cX12_dearest 0 = .ok (.aload_n 0, 1) := by decide +kernel
theorem dX12_dearest_1 : decode cX12_dearest 1 = .ok (.iconst 0, 1) := by decide +kernel
theorem dX12_dearest_2 : decode cX12_dearest 2 = .ok (.putfield 107, 3) := by decide +kernel
theorem dX12_dearest_5 : decode cX12_dearest 5 = .ok (.aload_n 0, 1) := by decide +kernel
theorem dX12_dearest_6 : decode cX12_dearest 6 = .ok (.invokevirtual 373, 3) := by decide +kernel
theorem dX12_dearest_9 : decode cX12_dearest 9 = .ok (.ifCond .ne 6, 3) := by decide +kernel
theorem dX12_dearest_12 : decode cX12_dearest 12 = .ok (.bipush (-2), 2) := by decide +kernel
theorem dX12_dearest_14 : decode cX12_dearest 14 = .ok (.ireturn, 1) := by decide +kernel
theorem dX12_dearest_15 : decode cX12_dearest 15 = .ok (.aload_n 0, 1) := by decide +kernel
theorem dX12_dearest_16 : decode cX12_dearest 16 = .ok (.invokevirtual 346, 3) := by decide +kernel
theorem dX12_dearest_19 : decode cX12_dearest 19 = .ok (.iconst (-1), 1) := by decide +kernel
theorem dX12_dearest_20 : decode cX12_dearest 20 = .ok (.istore_n 1, 1) := by decide +kernel
theorem dX12_dearest_21 : decode cX12_dearest 21 = .ok (.iconst 0, 1) := by decide +kernel
theorem dX12_dearest_22 : decode cX12_dearest 22 = .ok (.istore_n 2, 1) := by decide +kernel
theorem dX12_dearest_23 : decode cX12_dearest 23 = .ok (.iload_n 2, 1) := by decide +kernel
theorem dX12_dearest_24 : decode cX12_dearest 24 = .ok (.aload_n 0, 1) := by decide +kernel
theorem dX12_dearest_25 : decode cX12_dearest 25 = .ok (.getfield 34, 3) := by decide +kernel
theorem dX12_dearest_28 : decode cX12_dearest 28 = .ok (.iconst 3, 1) := by decide +kernel
theorem dX12_dearest_29 : decode cX12_dearest 29 = .ok (.iaload, 1) := by decide +kernel
theorem dX12_dearest_30 : decode cX12_dearest 30 = .ok (.if_icmp .ge 29, 3) := by decide +kernel
theorem dX12_dearest_33 : decode cX12_dearest 33 = .ok (.iload_n 1, 1) := by decide +kernel
theorem dX12_dearest_34 : decode cX12_dearest 34 = .ok (.iconst (-1), 1) := by decide +kernel
theorem dX12_dearest_35 : decode cX12_dearest 35 = .ok (.if_icmp .eq 16, 3) := by decide +kernel
theorem dX12_dearest_38 : decode cX12_dearest 38 = .ok (.aload_n 0, 1) := by decide +kernel
theorem dX12_dearest_39 : decode cX12_dearest 39 = .ok (.iload_n 2, 1) := by decide +kernel
theorem dX12_dearest_40 : decode cX12_dearest 40 = .ok (.invokevirtual 370, 3) := by decide +kernel
theorem dX12_dearest_43 : decode cX12_dearest 43 = .ok (.aload_n 0, 1) := by decide +kernel
theorem dX12_dearest_44 : decode cX12_dearest 44 = .ok (.iload_n 1, 1) := by decide +kernel
theorem dX12_dearest_45 : decode cX12_dearest 45 = .ok (.invokevirtual 370, 3) := by decide +kernel
theorem dX12_dearest_48 : decode cX12_dearest 48 = .ok (.if_icmp .le 5, 3) := by decide +kernel
theorem dX12_dearest_51 : decode cX12_dearest 51 = .ok (.iload_n 2, 1) := by decide +kernel
theorem dX12_dearest_52 : decode cX12_dearest 52 = .ok (.istore_n 1, 1) := by decide +kernel
theorem dX12_dearest_53 : decode cX12_dearest 53 = .ok (.iinc 2 1, 3) := by decide +kernel
theorem dX12_dearest_56 : decode cX12_dearest 56 = .ok (.goto (-33), 3) := by decide +kernel
theorem dX12_dearest_59 : decode cX12_dearest 59 = .ok (.iload_n 1, 1) := by decide +kernel
theorem dX12_dearest_60 : decode cX12_dearest 60 = .ok (.ireturn, 1) := by decide +kernel
theorem dX12_lastOf_0 : decode cX12_lastOf 0 = .ok (.iconst (-1), 1) := by decide +kernel
theorem dX12_lastOf_1 : decode cX12_lastOf 1 = .ok (.istore_n 2, 1) := by decide +kernel
theorem dX12_lastOf_2 : decode cX12_lastOf 2 = .ok (.iconst 0, 1) := by decide +kernel
theorem dX12_lastOf_3 : decode cX12_lastOf 3 = .ok (.istore_n 3, 1) := by decide +kernel
theorem dX12_lastOf_4 : decode cX12_lastOf 4 = .ok (.iload_n 3, 1) := by decide +kernel
theorem dX12_lastOf_5 : decode cX12_lastOf 5 = .ok (.aload_n 0, 1) := by decide +kernel
theorem dX12_lastOf_6 : decode cX12_lastOf 6 = .ok (.getfield 34, 3) := by decide +kernel
theorem dX12_lastOf_9 : decode cX12_lastOf 9 = .ok (.iconst 0, 1) := by decide +kernel
theorem dX12_lastOf_10 : decode cX12_lastOf 10 = .ok (.iaload, 1) := by decide +kernel
theorem dX12_lastOf_11 : decode cX12_lastOf 11 = .ok (.if_icmp .ge 33, 3) := by decide +kernel
theorem dX12_lastOf_14 : decode cX12_lastOf 14 = .ok (.aload_n 0, 1) := by decide +kernel
theorem dX12_lastOf_15 : decode cX12_lastOf 15 = .ok (.iload_n 1, 1) := by decide +kernel
theorem dX12_lastOf_16 : decode cX12_lastOf 16 = .ok (.iconst 0, 1) := by decide +kernel
theorem dX12_lastOf_17 : decode cX12_lastOf 17 = .ok (.iload_n 3, 1) := by decide +kernel
theorem dX12_lastOf_18 : decode cX12_lastOf 18 = .ok (.invokevirtual 349, 3) := by decide +kernel
theorem dX12_lastOf_21 : decode cX12_lastOf 21 = .ok (.aload_n 0, 1) := by decide +kernel
theorem dX12_lastOf_22 : decode cX12_lastOf 22 = .ok (.iload_n 1, 1) := by decide +kernel
theorem dX12_lastOf_23 : decode cX12_lastOf 23 = .ok (.iconst 1, 1) := by decide +kernel
theorem dX12_lastOf_24 : decode cX12_lastOf 24 = .ok (.iload_n 3, 1) := by decide +kernel
theorem dX12_lastOf_25 : decode cX12_lastOf 25 = .ok (.invokevirtual 349, 3) := by decide +kernel
theorem dX12_lastOf_28 : decode cX12_lastOf 28 = .ok (.iadd, 1) := by decide +kernel
theorem dX12_lastOf_29 : decode cX12_lastOf 29 = .ok (.ifCond .le 7, 3) := by decide +kernel
theorem dX12_lastOf_32 : decode cX12_lastOf 32 = .ok (.iload_n 3, 1) := by decide +kernel
theorem dX12_lastOf_33 : decode cX12_lastOf 33 = .ok (.goto 4, 3) := by decide +kernel
theorem dX12_lastOf_36 : decode cX12_lastOf 36 = .ok (.iload_n 2, 1) := by decide +kernel
theorem dX12_lastOf_37 : decode cX12_lastOf 37 = .ok (.istore_n 2, 1) := by decide +kernel
theorem dX12_lastOf_38 : decode cX12_lastOf 38 = .ok (.iinc 3 1, 3) := by decide +kernel
theorem dX12_lastOf_41 : decode cX12_lastOf 41 = .ok (.goto (-37), 3) := by decide +kernel
theorem dX12_lastOf_44 : decode cX12_lastOf 44 = .ok (.iload_n 2, 1) := by decide +kernel
theorem dX12_lastOf_45 : decode cX12_lastOf 45 = .ok (.ireturn, 1) := by decide +kernel
theorem dX12_last_0 : decode cX12_last 0 = .ok (.aload_n 0, 1) := by decide +kernel
theorem dX12_last_1 : decode cX12_last 1 = .ok (.iconst 0, 1) := by decide +kernel
theorem dX12_last_2 : decode cX12_last 2 = .ok (.putfield 107, 3) := by decide +kernel
theorem dX12_last_5 : decode cX12_last 5 = .ok (.aload_n 0, 1) := by decide +kernel
theorem dX12_last_6 : decode cX12_last 6 = .ok (.iload_n 1, 1) := by decide +kernel
theorem dX12_last_7 : decode cX12_last 7 = .ok (.invokevirtual 281, 3) := by decide +kernel
theorem dX12_last_10 : decode cX12_last 10 = .ok (.ifCond .ne 6, 3) := by decide +kernel
theorem dX12_last_13 : decode cX12_last 13 = .ok (.bipush (-2), 2) := by decide +kernel
theorem dX12_last_15 : decode cX12_last 15 = .ok (.ireturn, 1) := by decide +kernel
theorem dX12_last_16 : decode cX12_last 16 = .ok (.aload_n 0, 1) := by decide +kernel
theorem dX12_last_17 : decode cX12_last 17 = .ok (.invokevirtual 346, 3) := by decide +kernel
theorem dX12_last_20 : decode cX12_last 20 = .ok (.aload_n 0, 1) := by decide +kernel
theorem dX12_last_21 : decode cX12_last 21 = .ok (.iload_n 1, 1) := by decide +kernel
theorem dX12_last_22 : decode cX12_last 22 = .ok (.invokevirtual 376, 3) := by decide +kernel
theorem dX12_last_25 : decode cX12_last 25 = .ok (.ireturn, 1) := by decide +kernel
theorem dX12_overNow_0 : decode cX12_overNow 0 = .ok (.iconst 0, 1) := by decide +kernel
theorem dX12_overNow_1 : decode cX12_overNow 1 = .ok (.istore_n 1, 1) := by decide +kernel
theorem dX12_overNow_2 : decode cX12_overNow 2 = .ok (.iconst 0, 1) := by decide +kernel
theorem dX12_overNow_3 : decode cX12_overNow 3 = .ok (.istore_n 2, 1) := by decide +kernel
theorem dX12_overNow_4 : decode cX12_overNow 4 = .ok (.iload_n 2, 1) := by decide +kernel
theorem dX12_overNow_5 : decode cX12_overNow 5 = .ok (.aload_n 0, 1) := by decide +kernel
theorem dX12_overNow_6 : decode cX12_overNow 6 = .ok (.getfield 34, 3) := by decide +kernel
theorem dX12_overNow_9 : decode cX12_overNow 9 = .ok (.iconst 4, 1) := by decide +kernel
theorem dX12_overNow_10 : decode cX12_overNow 10 = .ok (.iaload, 1) := by decide +kernel
theorem dX12_overNow_11 : decode cX12_overNow 11 = .ok (.if_icmp .ge 33, 3) := by decide +kernel
theorem dX12_overNow_14 : decode cX12_overNow 14 = .ok (.iload_n 1, 1) := by decide +kernel
theorem dX12_overNow_15 : decode cX12_overNow 15 = .ok (.aload_n 0, 1) := by decide +kernel
theorem dX12_overNow_16 : decode cX12_overNow 16 = .ok (.iload_n 2, 1) := by decide +kernel
theorem dX12_overNow_17 : decode cX12_overNow 17 = .ok (.invokevirtual 376, 3) := by decide +kernel
theorem dX12_overNow_20 : decode cX12_overNow 20 = .ok (.aload_n 0, 1) := by decide +kernel
theorem dX12_overNow_21 : decode cX12_overNow 21 = .ok (.getfield 34, 3) := by decide +kernel
theorem dX12_overNow_24 : decode cX12_overNow 24 = .ok (.iconst 0, 1) := by decide +kernel
theorem dX12_overNow_25 : decode cX12_overNow 25 = .ok (.iaload, 1) := by decide +kernel
theorem dX12_overNow_26 : decode cX12_overNow 26 = .ok (.iconst 1, 1) := by decide +kernel
theorem dX12_overNow_27 : decode cX12_overNow 27 = .ok (.isub, 1) := by decide +kernel
theorem dX12_overNow_28 : decode cX12_overNow 28 = .ok (.if_icmp .ge 7, 3) := by decide +kernel
theorem dX12_overNow_31 : decode cX12_overNow 31 = .ok (.iconst 1, 1) := by decide +kernel
theorem dX12_overNow_32 : decode cX12_overNow 32 = .ok (.goto 4, 3) := by decide +kernel
theorem dX12_overNow_35 : decode cX12_overNow 35 = .ok (.iconst 0, 1) := by decide +kernel
theorem dX12_overNow_36 : decode cX12_overNow 36 = .ok (.iadd, 1) := by decide +kernel
theorem dX12_overNow_37 : decode cX12_overNow 37 = .ok (.istore_n 1, 1) := by decide +kernel
theorem dX12_overNow_38 : decode cX12_overNow 38 = .ok (.iinc 2 1, 3) := by decide +kernel
theorem dX12_overNow_41 : decode cX12_overNow 41 = .ok (.goto (-37), 3) := by decide +kernel
theorem dX12_overNow_44 : decode cX12_overNow 44 = .ok (.iload_n 1, 1) := by decide +kernel
theorem dX12_overNow_45 : decode cX12_overNow 45 = .ok (.ireturn, 1) := by decide +kernel
theorem dX12_over_0 : decode cX12_over 0 = .ok (.aload_n 0, 1) := by decide +kernel
theorem dX12_over_1 : decode cX12_over 1 = .ok (.iconst 0, 1) := by decide +kernel
theorem dX12_over_2 : decode cX12_over 2 = .ok (.putfield 107, 3) := by decide +kernel
theorem dX12_over_5 : decode cX12_over 5 = .ok (.aload_n 0, 1) := by decide +kernel
theorem dX12_over_6 : decode cX12_over 6 = .ok (.invokevirtual 373, 3) := by decide +kernel
theorem dX12_over_9 : decode cX12_over 9 = .ok (.ifCond .ne 6, 3) := by decide +kernel
theorem dX12_over_12 : decode cX12_over 12 = .ok (.bipush (-2), 2) := by decide +kernel
theorem dX12_over_14 : decode cX12_over 14 = .ok (.ireturn, 1) := by decide +kernel
theorem dX12_over_15 : decode cX12_over 15 = .ok (.aload_n 0, 1) := by decide +kernel
theorem dX12_over_16 : decode cX12_over 16 = .ok (.invokevirtual 346, 3) := by decide +kernel
theorem dX12_over_19 : decode cX12_over 19 = .ok (.aload_n 0, 1) := by decide +kernel
theorem dX12_over_20 : decode cX12_over 20 = .ok (.invokevirtual 379, 3) := by decide +kernel
theorem dX12_over_23 : decode cX12_over 23 = .ok (.ireturn, 1) := by decide +kernel
