theorem dX11_over_0 : decode cX11_over 0 = .ok (.aload_n 0, 1) := by decide +kernel
theorem dX11_over_1 : decode cX11_over 1 = .ok (.getfield 19, 3) := by decide +kernel
theorem dX11_over_4 : decode cX11_over 4 = .ok (.invokevirtual 220, 3) := by decide +kernel
theorem dX11_over_7 : decode cX11_over 7 = .ok (.ifCond .ne 6, 3) := by decide +kernel
theorem dX11_over_10 : decode cX11_over 10 = .ok (.bipush (-2), 2) := by decide +kernel
theorem dX11_over_12 : decode cX11_over 12 = .ok (.ireturn, 1) := by decide +kernel
theorem dX11_over_13 : decode cX11_over 13 = .ok (.aload_n 0, 1) := by decide +kernel
theorem dX11_over_14 : decode cX11_over 14 = .ok (.invokevirtual 159, 3) := by decide +kernel
theorem dX11_over_17 : decode cX11_over 17 = .ok (.astore_n 1, 1) := by decide +kernel
theorem dX11_over_18 : decode cX11_over 18 = .ok (.iconst 0, 1) := by decide +kernel
theorem dX11_over_19 : decode cX11_over 19 = .ok (.istore_n 2, 1) := by decide +kernel
theorem dX11_over_20 : decode cX11_over 20 = .ok (.iconst 0, 1) := by decide +kernel
theorem dX11_over_21 : decode cX11_over 21 = .ok (.istore_n 3, 1) := by decide +kernel
theorem dX11_over_22 : decode cX11_over 22 = .ok (.iload_n 3, 1) := by decide +kernel
theorem dX11_over_23 : decode cX11_over 23 = .ok (.aload_n 0, 1) := by decide +kernel
theorem dX11_over_24 : decode cX11_over 24 = .ok (.getfield 19, 3) := by decide +kernel
theorem dX11_over_27 : decode cX11_over 27 = .ok (.getfield 194, 3) := by decide +kernel
theorem dX11_over_30 : decode cX11_over 30 = .ok (.if_icmp .ge 32, 3) := by decide +kernel
theorem dX11_over_33 : decode cX11_over 33 = .ok (.aload_n 1, 1) := by decide +kernel
theorem dX11_over_34 : decode cX11_over 34 = .ok (.iload_n 3, 1) := by decide +kernel
theorem dX11_over_35 : decode cX11_over 35 = .ok (.invokevirtual 226, 3) := by decide +kernel
theorem dX11_over_38 : decode cX11_over 38 = .ok (.aload_n 0, 1) := by decide +kernel
theorem dX11_over_39 : decode cX11_over 39 = .ok (.getfield 19, 3) := by decide +kernel
theorem dX11_over_42 : decode cX11_over 42 = .ok (.getfield 177, 3) := by decide +kernel
theorem dX11_over_45 : decode cX11_over 45 = .ok (.iconst 1, 1) := by decide +kernel
theorem dX11_over_46 : decode cX11_over 46 = .ok (.isub, 1) := by decide +kernel
theorem dX11_over_47 : decode cX11_over 47 = .ok (.invokestatic 167, 3) := by decide +kernel
theorem dX11_over_50 : decode cX11_over 50 = .ok (.ifCond .ne 6, 3) := by decide +kernel
theorem dX11_over_53 : decode cX11_over 53 = .ok (.iinc 2 1, 3) := by decide +kernel
theorem dX11_over_56 : decode cX11_over 56 = .ok (.iinc 3 1, 3) := by decide +kernel
theorem dX11_over_59 : decode cX11_over 59 = .ok (.goto (-37), 3) := by decide +kernel
theorem dX11_over_62 : decode cX11_over 62 = .ok (.iload_n 2, 1) := by decide +kernel
theorem dX11_over_63 : decode cX11_over 63 = .ok (.ireturn, 1) := by decide +kernel
theorem dX11_poorest_0 : decode cX11_poorest 0 = .ok (.aload_n 0, 1) := by decide +kernel
theorem dX11_poorest_1 : decode cX11_poorest 1 = .ok (.getfield 19, 3) := by decide +kernel
theorem dX11_poorest_4 : decode cX11_poorest 4 = .ok (.invokevirtual 220, 3) := by decide +kernel
theorem dX11_poorest_7 : decode cX11_poorest 7 = .ok (.ifCond .ne 6, 3) := by decide +kernel
theorem dX11_poorest_10 : decode cX11_poorest 10 = .ok (.bipush (-2), 2) := by decide +kernel
theorem dX11_poorest_12 : decode cX11_poorest 12 = .ok (.ireturn, 1) := by decide +kernel
theorem dX11_poorest_13 : decode cX11_poorest 13 = .ok (.aload_n 0, 1) := by decide +kernel
theorem dX11_poorest_14 : decode cX11_poorest 14 = .ok (.invokevirtual 159, 3) := by decide +kernel
theorem dX11_poorest_17 : decode cX11_poorest 17 = .ok (.astore_n 1, 1) := by decide +kernel
theorem dX11_poorest_18 : decode cX11_poorest 18 = .ok (.iconst 0, 1) := by decide +kernel
theorem dX11_poorest_19 : decode cX11_poorest 19 = .ok (.istore_n 2, 1) := by decide +kernel
theorem dX11_poorest_20 : decode cX11_poorest 20 = .ok (.iconst 1, 1) := by decide +kernel
theorem dX11_poorest_21 : decode cX11_poorest 21 = .ok (.istore_n 3, 1) := by decide +kernel
theorem dX11_poorest_22 : decode cX11_poorest 22 = .ok (.iload_n 3, 1) := by decide +kernel
theorem dX11_poorest_23 : decode cX11_poorest 23 = .ok (.aload_n 0, 1) := by decide +kernel
theorem dX11_poorest_24 : decode cX11_poorest 24 = .ok (.getfield 19, 3) := by decide +kernel
theorem dX11_poorest_27 : decode cX11_poorest 27 = .ok (.getfield 177, 3) := by decide +kernel
theorem dX11_poorest_30 : decode cX11_poorest 30 = .ok (.if_icmp .ge 32, 3) := by decide +kernel
theorem dX11_poorest_33 : decode cX11_poorest 33 = .ok (.aload_n 1, 1) := by decide +kernel
theorem dX11_poorest_34 : decode cX11_poorest 34 = .ok (.aload_n 0, 1) := by decide +kernel
theorem dX11_poorest_35 : decode cX11_poorest 35 = .ok (.getfield 19, 3) := by decide +kernel
theorem dX11_poorest_38 : decode cX11_poorest 38 = .ok (.iload_n 3, 1) := by decide +kernel
theorem dX11_poorest_39 : decode cX11_poorest 39 = .ok (.invokevirtual 187, 3) := by decide +kernel
theorem dX11_poorest_42 : decode cX11_poorest 42 = .ok (.aload_n 1, 1) := by decide +kernel
theorem dX11_poorest_43 : decode cX11_poorest 43 = .ok (.aload_n 0, 1) := by decide +kernel
theorem dX11_poorest_44 : decode cX11_poorest 44 = .ok (.getfield 19, 3) := by decide +kernel
theorem dX11_poorest_47 : decode cX11_poorest 47 = .ok (.iload_n 2, 1) := by decide +kernel
theorem dX11_poorest_48 : decode cX11_poorest 48 = .ok (.invokevirtual 187, 3) := by decide +kernel
theorem dX11_poorest_51 : decode cX11_poorest 51 = .ok (.if_icmp .ge 5, 3) := by decide +kernel
theorem dX11_poorest_54 : decode cX11_poorest 54 = .ok (.iload_n 3, 1) := by decide +kernel
theorem dX11_poorest_55 : decode cX11_poorest 55 = .ok (.istore_n 2, 1) := by decide +kernel
theorem dX11_poorest_56 : decode cX11_poorest 56 = .ok (.iinc 3 1, 3) := by decide +kernel
theorem dX11_poorest_59 : decode cX11_poorest 59 = .ok (.goto (-37), 3) := by decide +kernel
theorem dX11_poorest_62 : decode cX11_poorest 62 = .ok (.iload_n 2, 1) := by decide +kernel
theorem dX11_poorest_63 : decode cX11_poorest 63 = .ok (.ireturn, 1) := by decide +kernel
theorem dX11_odds_0 : decode cX11_odds 0 = .ok (.aload_n 0, 1) := by decide +kernel
theorem dX11_odds_1 : decode cX11_odds 1 = .ok (.getfield 19, 3) := by decide +kernel
theorem dX11_odds_4 : decode cX11_odds 4 = .ok (.iload_n 1, 1) := by decide +kernel
theorem dX11_odds_5 : decode cX11_odds 5 = .ok (.invokevirtual 135, 3) := by decide +kernel
theorem dX11_odds_8 : decode cX11_odds 8 = .ok (.ifCond .ne 6, 3) := by decide +kernel
theorem dX11_odds_11 : decode cX11_odds 11 = .ok (.bipush (-100), 2) := by decide +kernel
theorem dX11_odds_13 : decode cX11_odds 13 = .ok (.ireturn, 1) := by decide +kernel
theorem dX11_odds_14 : decode cX11_odds 14 = .ok (.aload_n 0, 1) := by decide +kernel
theorem dX11_odds_15 : decode cX11_odds 15 = .ok (.invokevirtual 159, 3) := by decide +kernel
theorem dX11_odds_18 : decode cX11_odds 18 = .ok (.astore_n 2, 1) := by decide +kernel
theorem dX11_odds_19 : decode cX11_odds 19 = .ok (.aload_n 2, 1) := by decide +kernel
theorem dX11_odds_20 : decode cX11_odds 20 = .ok (.iconst 2, 1) := by decide +kernel
theorem dX11_odds_21 : decode cX11_odds 21 = .ok (.iload_n 1, 1) := by decide +kernel
theorem dX11_odds_22 : decode cX11_odds 22 = .ok (.imul, 1) := by decide +kernel
theorem dX11_odds_23 : decode cX11_odds 23 = .ok (.invokevirtual 197, 3) := by decide +kernel
theorem dX11_odds_26 : decode cX11_odds 26 = .ok (.invokestatic 212, 3) := by decide +kernel
theorem dX11_odds_29 : decode cX11_odds 29 = .ok (.aload_n 2, 1) := by decide +kernel
theorem dX11_odds_30 : decode cX11_odds 30 = .ok (.iconst 2, 1) := by decide +kernel
theorem dX11_odds_31 : decode cX11_odds 31 = .ok (.iload_n 1, 1) := by decide +kernel
theorem dX11_odds_32 : decode cX11_odds 32 = .ok (.imul, 1) := by decide +kernel
theorem dX11_odds_33 : decode cX11_odds 33 = .ok (.iconst 1, 1) := by decide +kernel
theorem dX11_odds_34 : decode cX11_odds 34 = .ok (.iadd, 1) := by decide +kernel
theorem dX11_odds_35 : decode cX11_odds 35 = .ok (.invokevirtual 197, 3) := by decide +kernel
theorem dX11_odds_38 : decode cX11_odds 38 = .ok (.invokestatic 212, 3) := by decide +kernel
theorem dX11_odds_41 : decode cX11_odds 41 = .ok (.isub, 1) := by decide +kernel
theorem dX11_odds_42 : decode cX11_odds 42 = .ok (.ireturn, 1) := by decide +kernel
