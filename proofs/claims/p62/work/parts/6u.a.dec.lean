theorem dX12_dies_0 : decode cX12_dies 0 = .ok (.aload_n 0, 1) := by decide +kernel
theorem dX12_dies_1 : decode cX12_dies 1 = .ok (.getfield 83, 3) := by decide +kernel
theorem dX12_dies_4 : decode cX12_dies 4 = .ok (.bipush 16, 2) := by decide +kernel
theorem dX12_dies_6 : decode cX12_dies 6 = .ok (.iload_n 2, 1) := by decide +kernel
theorem dX12_dies_7 : decode cX12_dies 7 = .ok (.imul, 1) := by decide +kernel
theorem dX12_dies_8 : decode cX12_dies 8 = .ok (.iload_n 1, 1) := by decide +kernel
theorem dX12_dies_9 : decode cX12_dies 9 = .ok (.iadd, 1) := by decide +kernel
theorem dX12_dies_10 : decode cX12_dies 10 = .ok (.iaload, 1) := by decide +kernel
theorem dX12_dies_11 : decode cX12_dies 11 = .ok (.istore 4, 2) := by decide +kernel
theorem dX12_dies_13 : decode cX12_dies 13 = .ok (.aload_n 0, 1) := by decide +kernel
theorem dX12_dies_14 : decode cX12_dies 14 = .ok (.iload_n 1, 1) := by decide +kernel
theorem dX12_dies_15 : decode cX12_dies 15 = .ok (.iconst 0, 1) := by decide +kernel
theorem dX12_dies_16 : decode cX12_dies 16 = .ok (.invokevirtual 409, 3) := by decide +kernel
theorem dX12_dies_19 : decode cX12_dies 19 = .ok (.istore 5, 2) := by decide +kernel
theorem dX12_dies_21 : decode cX12_dies 21 = .ok (.aload_n 0, 1) := by decide +kernel
theorem dX12_dies_22 : decode cX12_dies 22 = .ok (.iload_n 1, 1) := by decide +kernel
theorem dX12_dies_23 : decode cX12_dies 23 = .ok (.iconst 1, 1) := by decide +kernel
theorem dX12_dies_24 : decode cX12_dies 24 = .ok (.invokevirtual 409, 3) := by decide +kernel
theorem dX12_dies_27 : decode cX12_dies 27 = .ok (.istore 6, 2) := by decide +kernel
theorem dX12_dies_29 : decode cX12_dies 29 = .ok (.iload_n 3, 1) := by decide +kernel
theorem dX12_dies_30 : decode cX12_dies 30 = .ok (.ifCond .eq 33, 3) := by decide +kernel
theorem dX12_dies_33 : decode cX12_dies 33 = .ok (.aload_n 0, 1) := by decide +kernel
theorem dX12_dies_34 : decode cX12_dies 34 = .ok (.iload 5, 2) := by decide +kernel
theorem dX12_dies_36 : decode cX12_dies 36 = .ok (.iload 6, 2) := by decide +kernel
theorem dX12_dies_38 : decode cX12_dies 38 = .ok (.invokevirtual 382, 3) := by decide +kernel
theorem dX12_dies_41 : decode cX12_dies 41 = .ok (.aload_n 0, 1) := by decide +kernel
theorem dX12_dies_42 : decode cX12_dies 42 = .ok (.getfield 59, 3) := by decide +kernel
theorem dX12_dies_45 : decode cX12_dies 45 = .ok (.iconst 0, 1) := by decide +kernel
theorem dX12_dies_46 : decode cX12_dies 46 = .ok (.iconst 0, 1) := by decide +kernel
theorem dX12_dies_47 : decode cX12_dies 47 = .ok (.bastore, 1) := by decide +kernel
theorem dX12_dies_48 : decode cX12_dies 48 = .ok (.aload_n 0, 1) := by decide +kernel
theorem dX12_dies_49 : decode cX12_dies 49 = .ok (.getfield 59, 3) := by decide +kernel
theorem dX12_dies_52 : decode cX12_dies 52 = .ok (.iconst 1, 1) := by decide +kernel
theorem dX12_dies_53 : decode cX12_dies 53 = .ok (.iconst 0, 1) := by decide +kernel
theorem dX12_dies_54 : decode cX12_dies 54 = .ok (.bastore, 1) := by decide +kernel
theorem dX12_dies_55 : decode cX12_dies 55 = .ok (.aload_n 0, 1) := by decide +kernel
theorem dX12_dies_56 : decode cX12_dies 56 = .ok (.iload 4, 2) := by decide +kernel
theorem dX12_dies_58 : decode cX12_dies 58 = .ok (.invokevirtual 333, 3) := by decide +kernel
theorem dX12_dies_61 : decode cX12_dies 61 = .ok (.istore 4, 2) := by decide +kernel
theorem dX12_dies_63 : decode cX12_dies 63 = .ok (.aload_n 0, 1) := by decide +kernel
theorem dX12_dies_64 : decode cX12_dies 64 = .ok (.iload 5, 2) := by decide +kernel
theorem dX12_dies_66 : decode cX12_dies 66 = .ok (.iload 6, 2) := by decide +kernel
theorem dX12_dies_68 : decode cX12_dies 68 = .ok (.iload 4, 2) := by decide +kernel
theorem dX12_dies_70 : decode cX12_dies 70 = .ok (.invokevirtual 415, 3) := by decide +kernel
theorem dX12_dies_73 : decode cX12_dies 73 = .ok (.ifCond .ne 7, 3) := by decide +kernel
theorem dX12_dies_76 : decode cX12_dies 76 = .ok (.iconst 1, 1) := by decide +kernel
theorem dX12_dies_77 : decode cX12_dies 77 = .ok (.goto 4, 3) := by decide +kernel
theorem dX12_dies_80 : decode cX12_dies 80 = .ok (.iconst 0, 1) := by decide +kernel
theorem dX12_dies_81 : decode cX12_dies 81 = .ok (.ireturn, 1) := by decide +kernel
theorem dX12_struck_0 : decode cX12_struck 0 = .ok (.iconst 0, 1) := by decide +kernel
theorem dX12_struck_1 : decode cX12_struck 1 = .ok (.istore_n 3, 1) := by decide +kernel
theorem dX12_struck_2 : decode cX12_struck 2 = .ok (.iconst 0, 1) := by decide +kernel
theorem dX12_struck_3 : decode cX12_struck 3 = .ok (.istore 4, 2) := by decide +kernel
theorem dX12_struck_5 : decode cX12_struck 5 = .ok (.iload 4, 2) := by decide +kernel
theorem dX12_struck_7 : decode cX12_struck 7 = .ok (.aload_n 0, 1) := by decide +kernel
theorem dX12_struck_8 : decode cX12_struck 8 = .ok (.getfield 34, 3) := by decide +kernel
theorem dX12_struck_11 : decode cX12_struck 11 = .ok (.iconst 4, 1) := by decide +kernel
theorem dX12_struck_12 : decode cX12_struck 12 = .ok (.iaload, 1) := by decide +kernel
theorem dX12_struck_13 : decode cX12_struck 13 = .ok (.if_icmp .ge 41, 3) := by decide +kernel
theorem dX12_struck_16 : decode cX12_struck 16 = .ok (.iload_n 3, 1) := by decide +kernel
theorem dX12_struck_17 : decode cX12_struck 17 = .ok (.aload_n 0, 1) := by decide +kernel
theorem dX12_struck_18 : decode cX12_struck 18 = .ok (.iload 4, 2) := by decide +kernel
theorem dX12_struck_20 : decode cX12_struck 20 = .ok (.iload_n 1, 1) := by decide +kernel
theorem dX12_struck_21 : decode cX12_struck 21 = .ok (.iconst 0, 1) := by decide +kernel
theorem dX12_struck_22 : decode cX12_struck 22 = .ok (.invokevirtual 424, 3) := by decide +kernel
theorem dX12_struck_25 : decode cX12_struck 25 = .ok (.iload_n 2, 1) := by decide +kernel
theorem dX12_struck_26 : decode cX12_struck 26 = .ok (.if_icmp .eq 19, 3) := by decide +kernel
theorem dX12_struck_29 : decode cX12_struck 29 = .ok (.aload_n 0, 1) := by decide +kernel
theorem dX12_struck_30 : decode cX12_struck 30 = .ok (.iload 4, 2) := by decide +kernel
theorem dX12_struck_32 : decode cX12_struck 32 = .ok (.iload_n 1, 1) := by decide +kernel
theorem dX12_struck_33 : decode cX12_struck 33 = .ok (.iconst 1, 1) := by decide +kernel
theorem dX12_struck_34 : decode cX12_struck 34 = .ok (.invokevirtual 424, 3) := by decide +kernel
theorem dX12_struck_37 : decode cX12_struck 37 = .ok (.iload_n 2, 1) := by decide +kernel
theorem dX12_struck_38 : decode cX12_struck 38 = .ok (.if_icmp .ne 7, 3) := by decide +kernel
theorem dX12_struck_41 : decode cX12_struck 41 = .ok (.iconst 1, 1) := by decide +kernel
theorem dX12_struck_42 : decode cX12_struck 42 = .ok (.goto 4, 3) := by decide +kernel
theorem dX12_struck_45 : decode cX12_struck 45 = .ok (.iconst 0, 1) := by decide +kernel
theorem dX12_struck_46 : decode cX12_struck 46 = .ok (.iadd, 1) := by decide +kernel
theorem dX12_struck_47 : decode cX12_struck 47 = .ok (.istore_n 3, 1) := by decide +kernel
theorem dX12_struck_48 : decode cX12_struck 48 = .ok (.iinc 4 1, 3) := by decide +kernel
theorem dX12_struck_51 : decode cX12_struck 51 = .ok (.goto (-46), 3) := by decide +kernel
theorem dX12_struck_54 : decode cX12_struck 54 = .ok (.iload_n 3, 1) := by decide +kernel
theorem dX12_struck_55 : decode cX12_struck 55 = .ok (.ireturn, 1) := by decide +kernel
theorem dX12_strike_0 : decode cX12_strike 0 = .ok (.aload_n 0, 1) := by decide +kernel
theorem dX12_strike_1 : decode cX12_strike 1 = .ok (.iconst 0, 1) := by decide +kernel
theorem dX12_strike_2 : decode cX12_strike 2 = .ok (.putfield 107, 3) := by decide +kernel
theorem dX12_strike_5 : decode cX12_strike 5 = .ok (.aload_n 0, 1) := by decide +kernel
theorem dX12_strike_6 : decode cX12_strike 6 = .ok (.iload_n 1, 1) := by decide +kernel
theorem dX12_strike_7 : decode cX12_strike 7 = .ok (.i2l, 1) := by decide +kernel
theorem dX12_strike_8 : decode cX12_strike 8 = .ok (.invokevirtual 343, 3) := by decide +kernel
theorem dX12_strike_11 : decode cX12_strike 11 = .ok (.ifCond .ne 6, 3) := by decide +kernel
theorem dX12_strike_14 : decode cX12_strike 14 = .ok (.bipush (-2), 2) := by decide +kernel
theorem dX12_strike_16 : decode cX12_strike 16 = .ok (.ireturn, 1) := by decide +kernel
theorem dX12_strike_17 : decode cX12_strike 17 = .ok (.aload_n 0, 1) := by decide +kernel
theorem dX12_strike_18 : decode cX12_strike 18 = .ok (.invokevirtual 346, 3) := by decide +kernel
theorem dX12_strike_21 : decode cX12_strike 21 = .ok (.aload_n 0, 1) := by decide +kernel
theorem dX12_strike_22 : decode cX12_strike 22 = .ok (.iload_n 1, 1) := by decide +kernel
theorem dX12_strike_23 : decode cX12_strike 23 = .ok (.iconst 1, 1) := by decide +kernel
theorem dX12_strike_24 : decode cX12_strike 24 = .ok (.invokevirtual 428, 3) := by decide +kernel
theorem dX12_strike_27 : decode cX12_strike 27 = .ok (.ireturn, 1) := by decide +kernel
theorem dX12_saves_0 : decode cX12_saves 0 = .ok (.aload_n 0, 1) := by decide +kernel
theorem dX12_saves_1 : decode cX12_saves 1 = .ok (.iconst 0, 1) := by decide +kernel
theorem dX12_saves_2 : decode cX12_saves 2 = .ok (.putfield 107, 3) := by decide +kernel
theorem dX12_saves_5 : decode cX12_saves 5 = .ok (.aload_n 0, 1) := by decide +kernel
theorem dX12_saves_6 : decode cX12_saves 6 = .ok (.iload_n 1, 1) := by decide +kernel
theorem dX12_saves_7 : decode cX12_saves 7 = .ok (.i2l, 1) := by decide +kernel
theorem dX12_saves_8 : decode cX12_saves 8 = .ok (.invokevirtual 343, 3) := by decide +kernel
theorem dX12_saves_11 : decode cX12_saves 11 = .ok (.ifCond .ne 6, 3) := by decide +kernel
theorem dX12_saves_14 : decode cX12_saves 14 = .ok (.bipush (-2), 2) := by decide +kernel
theorem dX12_saves_16 : decode cX12_saves 16 = .ok (.ireturn, 1) := by decide +kernel
theorem dX12_saves_17 : decode cX12_saves 17 = .ok (.aload_n 0, 1) := by decide +kernel
theorem dX12_saves_18 : decode cX12_saves 18 = .ok (.invokevirtual 346, 3) := by decide +kernel
theorem dX12_saves_21 : decode cX12_saves 21 = .ok (.aload_n 0, 1) := by decide +kernel
theorem dX12_saves_22 : decode cX12_saves 22 = .ok (.iload_n 1, 1) := by decide +kernel
theorem dX12_saves_23 : decode cX12_saves 23 = .ok (.iconst 0, 1) := by decide +kernel
theorem dX12_saves_24 : decode cX12_saves 24 = .ok (.invokevirtual 428, 3) := by decide +kernel
theorem dX12_saves_27 : decode cX12_saves 27 = .ok (.ireturn, 1) := by decide +kernel
