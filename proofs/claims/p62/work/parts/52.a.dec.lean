theorem dX11_faithful_0 : decode cX11_faithful 0 = .ok (.iload_n 1, 1) := by decide +kernel
theorem dX11_faithful_1 : decode cX11_faithful 1 = .ok (.bipush 32, 2) := by decide +kernel
theorem dX11_faithful_3 : decode cX11_faithful 3 = .ok (.invokestatic 148, 3) := by decide +kernel
theorem dX11_faithful_6 : decode cX11_faithful 6 = .ok (.ifCond .ne 6, 3) := by decide +kernel
theorem dX11_faithful_9 : decode cX11_faithful 9 = .ok (.bipush (-2), 2) := by decide +kernel
theorem dX11_faithful_11 : decode cX11_faithful 11 = .ok (.ireturn, 1) := by decide +kernel
theorem dX11_faithful_12 : decode cX11_faithful 12 = .ok (.iconst 0, 1) := by decide +kernel
theorem dX11_faithful_13 : decode cX11_faithful 13 = .ok (.istore_n 2, 1) := by decide +kernel
theorem dX11_faithful_14 : decode cX11_faithful 14 = .ok (.iconst 0, 1) := by decide +kernel
theorem dX11_faithful_15 : decode cX11_faithful 15 = .ok (.istore_n 3, 1) := by decide +kernel
theorem dX11_faithful_16 : decode cX11_faithful 16 = .ok (.iload_n 3, 1) := by decide +kernel
theorem dX11_faithful_17 : decode cX11_faithful 17 = .ok (.bipush 32, 2) := by decide +kernel
theorem dX11_faithful_19 : decode cX11_faithful 19 = .ok (.if_icmp .ge 24, 3) := by decide +kernel
theorem dX11_faithful_22 : decode cX11_faithful 22 = .ok (.aload_n 0, 1) := by decide +kernel
theorem dX11_faithful_23 : decode cX11_faithful 23 = .ok (.getfield 44, 3) := by decide +kernel
theorem dX11_faithful_26 : decode cX11_faithful 26 = .ok (.iload_n 1, 1) := by decide +kernel
theorem dX11_faithful_27 : decode cX11_faithful 27 = .ok (.iload_n 3, 1) := by decide +kernel
theorem dX11_faithful_28 : decode cX11_faithful 28 = .ok (.invokevirtual 256, 3) := by decide +kernel
theorem dX11_faithful_31 : decode cX11_faithful 31 = .ok (.ifCond .ne 6, 3) := by decide +kernel
theorem dX11_faithful_34 : decode cX11_faithful 34 = .ok (.iinc 2 1, 3) := by decide +kernel
theorem dX11_faithful_37 : decode cX11_faithful 37 = .ok (.iinc 3 1, 3) := by decide +kernel
theorem dX11_faithful_40 : decode cX11_faithful 40 = .ok (.goto (-24), 3) := by decide +kernel
theorem dX11_faithful_43 : decode cX11_faithful 43 = .ok (.iload_n 2, 1) := by decide +kernel
theorem dX11_faithful_44 : decode cX11_faithful 44 = .ok (.ireturn, 1) := by decide +kernel
theorem dX11_lost_0 : decode cX11_lost 0 = .ok (.aload_n 0, 1) := by decide +kernel
theorem dX11_lost_1 : decode cX11_lost 1 = .ok (.getfield 19, 3) := by decide +kernel
theorem dX11_lost_4 : decode cX11_lost 4 = .ok (.iload_n 1, 1) := by decide +kernel
theorem dX11_lost_5 : decode cX11_lost 5 = .ok (.invokevirtual 135, 3) := by decide +kernel
theorem dX11_lost_8 : decode cX11_lost 8 = .ok (.ifCond .eq 14, 3) := by decide +kernel
theorem dX11_lost_11 : decode cX11_lost 11 = .ok (.iload_n 2, 1) := by decide +kernel
theorem dX11_lost_12 : decode cX11_lost 12 = .ok (.invokestatic 152, 3) := by decide +kernel
theorem dX11_lost_15 : decode cX11_lost 15 = .ok (.ifCond .eq 7, 3) := by decide +kernel
theorem dX11_lost_18 : decode cX11_lost 18 = .ok (.iload_n 3, 1) := by decide +kernel
theorem dX11_lost_19 : decode cX11_lost 19 = .ok (.ifCond .ge 6, 3) := by decide +kernel
theorem dX11_lost_22 : decode cX11_lost 22 = .ok (.bipush (-2), 2) := by decide +kernel
theorem dX11_lost_24 : decode cX11_lost 24 = .ok (.ireturn, 1) := by decide +kernel
theorem dX11_lost_25 : decode cX11_lost 25 = .ok (.aload_n 0, 1) := by decide +kernel
theorem dX11_lost_26 : decode cX11_lost 26 = .ok (.iload_n 1, 1) := by decide +kernel
theorem dX11_lost_27 : decode cX11_lost 27 = .ok (.aload_n 0, 1) := by decide +kernel
theorem dX11_lost_28 : decode cX11_lost 28 = .ok (.getfield 19, 3) := by decide +kernel
theorem dX11_lost_31 : decode cX11_lost 31 = .ok (.getfield 141, 3) := by decide +kernel
theorem dX11_lost_34 : decode cX11_lost 34 = .ok (.iload_n 1, 1) := by decide +kernel
theorem dX11_lost_35 : decode cX11_lost 35 = .ok (.iaload, 1) := by decide +kernel
theorem dX11_lost_36 : decode cX11_lost 36 = .ok (.invokevirtual 242, 3) := by decide +kernel
theorem dX11_lost_39 : decode cX11_lost 39 = .ok (.iload_n 3, 1) := by decide +kernel
theorem dX11_lost_40 : decode cX11_lost 40 = .ok (.aload_n 0, 1) := by decide +kernel
theorem dX11_lost_41 : decode cX11_lost 41 = .ok (.getfield 44, 3) := by decide +kernel
theorem dX11_lost_44 : decode cX11_lost 44 = .ok (.getfield 250, 3) := by decide +kernel
theorem dX11_lost_47 : decode cX11_lost 47 = .ok (.if_icmp .lt 6, 3) := by decide +kernel
theorem dX11_lost_50 : decode cX11_lost 50 = .ok (.bipush (-2), 2) := by decide +kernel
theorem dX11_lost_52 : decode cX11_lost 52 = .ok (.ireturn, 1) := by decide +kernel
theorem dX11_lost_53 : decode cX11_lost 53 = .ok (.aload_n 0, 1) := by decide +kernel
theorem dX11_lost_54 : decode cX11_lost 54 = .ok (.iload_n 1, 1) := by decide +kernel
theorem dX11_lost_55 : decode cX11_lost 55 = .ok (.aload_n 0, 1) := by decide +kernel
theorem dX11_lost_56 : decode cX11_lost 56 = .ok (.getfield 44, 3) := by decide +kernel
theorem dX11_lost_59 : decode cX11_lost 59 = .ok (.iload_n 3, 1) := by decide +kernel
theorem dX11_lost_60 : decode cX11_lost 60 = .ok (.iload_n 2, 1) := by decide +kernel
theorem dX11_lost_61 : decode cX11_lost 61 = .ok (.invokevirtual 259, 3) := by decide +kernel
theorem dX11_lost_64 : decode cX11_lost 64 = .ok (.invokevirtual 242, 3) := by decide +kernel
theorem dX11_lost_67 : decode cX11_lost 67 = .ok (.aload_n 0, 1) := by decide +kernel
theorem dX11_lost_68 : decode cX11_lost 68 = .ok (.getfield 44, 3) := by decide +kernel
theorem dX11_lost_71 : decode cX11_lost 71 = .ok (.invokevirtual 246, 3) := by decide +kernel
theorem dX11_lost_74 : decode cX11_lost 74 = .ok (.ireturn, 1) := by decide +kernel
theorem dX11_back_0 : decode cX11_back 0 = .ok (.aload_n 0, 1) := by decide +kernel
theorem dX11_back_1 : decode cX11_back 1 = .ok (.getfield 19, 3) := by decide +kernel
theorem dX11_back_4 : decode cX11_back 4 = .ok (.iload_n 1, 1) := by decide +kernel
theorem dX11_back_5 : decode cX11_back 5 = .ok (.invokevirtual 135, 3) := by decide +kernel
theorem dX11_back_8 : decode cX11_back 8 = .ok (.ifCond .eq 10, 3) := by decide +kernel
theorem dX11_back_11 : decode cX11_back 11 = .ok (.iload_n 2, 1) := by decide +kernel
theorem dX11_back_12 : decode cX11_back 12 = .ok (.invokestatic 152, 3) := by decide +kernel
theorem dX11_back_15 : decode cX11_back 15 = .ok (.ifCond .ne 6, 3) := by decide +kernel
theorem dX11_back_18 : decode cX11_back 18 = .ok (.bipush (-2), 2) := by decide +kernel
theorem dX11_back_20 : decode cX11_back 20 = .ok (.ireturn, 1) := by decide +kernel
theorem dX11_back_21 : decode cX11_back 21 = .ok (.aload_n 0, 1) := by decide +kernel
theorem dX11_back_22 : decode cX11_back 22 = .ok (.iload_n 1, 1) := by decide +kernel
theorem dX11_back_23 : decode cX11_back 23 = .ok (.aload_n 0, 1) := by decide +kernel
theorem dX11_back_24 : decode cX11_back 24 = .ok (.getfield 19, 3) := by decide +kernel
theorem dX11_back_27 : decode cX11_back 27 = .ok (.getfield 141, 3) := by decide +kernel
theorem dX11_back_30 : decode cX11_back 30 = .ok (.iload_n 1, 1) := by decide +kernel
theorem dX11_back_31 : decode cX11_back 31 = .ok (.iaload, 1) := by decide +kernel
theorem dX11_back_32 : decode cX11_back 32 = .ok (.invokevirtual 242, 3) := by decide +kernel
theorem dX11_back_35 : decode cX11_back 35 = .ok (.aload_n 0, 1) := by decide +kernel
theorem dX11_back_36 : decode cX11_back 36 = .ok (.getfield 44, 3) := by decide +kernel
theorem dX11_back_39 : decode cX11_back 39 = .ok (.getfield 262, 3) := by decide +kernel
theorem dX11_back_42 : decode cX11_back 42 = .ok (.istore_n 3, 1) := by decide +kernel
theorem dX11_back_43 : decode cX11_back 43 = .ok (.aload_n 0, 1) := by decide +kernel
theorem dX11_back_44 : decode cX11_back 44 = .ok (.getfield 44, 3) := by decide +kernel
theorem dX11_back_47 : decode cX11_back 47 = .ok (.getfield 250, 3) := by decide +kernel
theorem dX11_back_50 : decode cX11_back 50 = .ok (.istore 4, 2) := by decide +kernel
theorem dX11_back_52 : decode cX11_back 52 = .ok (.iconst 0, 1) := by decide +kernel
theorem dX11_back_53 : decode cX11_back 53 = .ok (.istore 5, 2) := by decide +kernel
theorem dX11_back_55 : decode cX11_back 55 = .ok (.iconst 0, 1) := by decide +kernel
theorem dX11_back_56 : decode cX11_back 56 = .ok (.istore 6, 2) := by decide +kernel
theorem dX11_back_58 : decode cX11_back 58 = .ok (.iload 6, 2) := by decide +kernel
theorem dX11_back_60 : decode cX11_back 60 = .ok (.iload 4, 2) := by decide +kernel
theorem dX11_back_62 : decode cX11_back 62 = .ok (.if_icmp .ge 50, 3) := by decide +kernel
theorem dX11_back_65 : decode cX11_back 65 = .ok (.aload_n 0, 1) := by decide +kernel
theorem dX11_back_66 : decode cX11_back 66 = .ok (.iload_n 1, 1) := by decide +kernel
theorem dX11_back_67 : decode cX11_back 67 = .ok (.iload_n 3, 1) := by decide +kernel
theorem dX11_back_68 : decode cX11_back 68 = .ok (.invokevirtual 242, 3) := by decide +kernel
theorem dX11_back_71 : decode cX11_back 71 = .ok (.aload_n 0, 1) := by decide +kernel
theorem dX11_back_72 : decode cX11_back 72 = .ok (.iload_n 1, 1) := by decide +kernel
theorem dX11_back_73 : decode cX11_back 73 = .ok (.aload_n 0, 1) := by decide +kernel
theorem dX11_back_74 : decode cX11_back 74 = .ok (.getfield 44, 3) := by decide +kernel
theorem dX11_back_77 : decode cX11_back 77 = .ok (.iload 6, 2) := by decide +kernel
theorem dX11_back_79 : decode cX11_back 79 = .ok (.iload_n 2, 1) := by decide +kernel
theorem dX11_back_80 : decode cX11_back 80 = .ok (.invokevirtual 259, 3) := by decide +kernel
theorem dX11_back_83 : decode cX11_back 83 = .ok (.invokevirtual 242, 3) := by decide +kernel
theorem dX11_back_86 : decode cX11_back 86 = .ok (.aload_n 0, 1) := by decide +kernel
theorem dX11_back_87 : decode cX11_back 87 = .ok (.getfield 44, 3) := by decide +kernel
theorem dX11_back_90 : decode cX11_back 90 = .ok (.iload_n 3, 1) := by decide +kernel
theorem dX11_back_91 : decode cX11_back 91 = .ok (.invokevirtual 265, 3) := by decide +kernel
theorem dX11_back_94 : decode cX11_back 94 = .ok (.ifCond .eq 12, 3) := by decide +kernel
theorem dX11_back_97 : decode cX11_back 97 = .ok (.iload 5, 2) := by decide +kernel
theorem dX11_back_99 : decode cX11_back 99 = .ok (.iconst 1, 1) := by decide +kernel
theorem dX11_back_100 : decode cX11_back 100 = .ok (.iload 6, 2) := by decide +kernel
theorem dX11_back_102 : decode cX11_back 102 = .ok (.ishl, 1) := by decide +kernel
theorem dX11_back_103 : decode cX11_back 103 = .ok (.ior, 1) := by decide +kernel
theorem dX11_back_104 : decode cX11_back 104 = .ok (.istore 5, 2) := by decide +kernel
theorem dX11_back_106 : decode cX11_back 106 = .ok (.iinc 6 1, 3) := by decide +kernel
theorem dX11_back_109 : decode cX11_back 109 = .ok (.goto (-51), 3) := by decide +kernel
theorem dX11_back_112 : decode cX11_back 112 = .ok (.iload 5, 2) := by decide +kernel
theorem dX11_back_114 : decode cX11_back 114 = .ok (.ireturn, 1) := by decide +kernel
theorem dX11_strike_0 : decode cX11_strike 0 = .ok (.aload_n 0, 1) := by decide +kernel
theorem dX11_strike_1 : decode cX11_strike 1 = .ok (.getfield 19, 3) := by decide +kernel
theorem dX11_strike_4 : decode cX11_strike 4 = .ok (.iload_n 1, 1) := by decide +kernel
theorem dX11_strike_5 : decode cX11_strike 5 = .ok (.invokevirtual 184, 3) := by decide +kernel
theorem dX11_strike_8 : decode cX11_strike 8 = .ok (.ifCond .eq 12, 3) := by decide +kernel
theorem dX11_strike_11 : decode cX11_strike 11 = .ok (.aload_n 0, 1) := by decide +kernel
theorem dX11_strike_12 : decode cX11_strike 12 = .ok (.iload_n 1, 1) := by decide +kernel
theorem dX11_strike_13 : decode cX11_strike 13 = .ok (.iconst 0, 1) := by decide +kernel
theorem dX11_strike_14 : decode cX11_strike 14 = .ok (.invokevirtual 268, 3) := by decide +kernel
theorem dX11_strike_17 : decode cX11_strike 17 = .ok (.goto 5, 3) := by decide +kernel
theorem dX11_strike_20 : decode cX11_strike 20 = .ok (.bipush (-2), 2) := by decide +kernel
theorem dX11_strike_22 : decode cX11_strike 22 = .ok (.ireturn, 1) := by decide +kernel
