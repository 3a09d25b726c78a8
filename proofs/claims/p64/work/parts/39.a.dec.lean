theorem dX11_whose_0 : decode cX11_whose 0 = .ok (.aload_n 0, 1) := by decide +kernel
theorem dX11_whose_1 : decode cX11_whose 1 = .ok (.getfield 19, 3) := by decide +kernel
theorem dX11_whose_4 : decode cX11_whose 4 = .ok (.iload_n 1, 1) := by decide +kernel
theorem dX11_whose_5 : decode cX11_whose 5 = .ok (.invokevirtual 115, 3) := by decide +kernel
theorem dX11_whose_8 : decode cX11_whose 8 = .ok (.ifCond .eq 14, 3) := by decide +kernel
theorem dX11_whose_11 : decode cX11_whose 11 = .ok (.aload_n 0, 1) := by decide +kernel
theorem dX11_whose_12 : decode cX11_whose 12 = .ok (.getfield 19, 3) := by decide +kernel
theorem dX11_whose_15 : decode cX11_whose 15 = .ok (.iload_n 2, 1) := by decide +kernel
theorem dX11_whose_16 : decode cX11_whose 16 = .ok (.invokevirtual 184, 3) := by decide +kernel
theorem dX11_whose_19 : decode cX11_whose 19 = .ok (.ifCond .ne 6, 3) := by decide +kernel
theorem dX11_whose_22 : decode cX11_whose 22 = .ok (.bipush (-2), 2) := by decide +kernel
theorem dX11_whose_24 : decode cX11_whose 24 = .ok (.ireturn, 1) := by decide +kernel
theorem dX11_whose_25 : decode cX11_whose 25 = .ok (.aload_n 0, 1) := by decide +kernel
theorem dX11_whose_26 : decode cX11_whose 26 = .ok (.iload_n 1, 1) := by decide +kernel
theorem dX11_whose_27 : decode cX11_whose 27 = .ok (.iload_n 2, 1) := by decide +kernel
theorem dX11_whose_28 : decode cX11_whose 28 = .ok (.invokevirtual 201, 3) := by decide +kernel
theorem dX11_whose_31 : decode cX11_whose 31 = .ok (.ireturn, 1) := by decide +kernel
theorem dX11_hurts_0 : decode cX11_hurts 0 = .ok (.aload_n 0, 1) := by decide +kernel
theorem dX11_hurts_1 : decode cX11_hurts 1 = .ok (.getfield 19, 3) := by decide +kernel
theorem dX11_hurts_4 : decode cX11_hurts 4 = .ok (.iload_n 1, 1) := by decide +kernel
theorem dX11_hurts_5 : decode cX11_hurts 5 = .ok (.invokevirtual 115, 3) := by decide +kernel
theorem dX11_hurts_8 : decode cX11_hurts 8 = .ok (.ifCond .eq 11, 3) := by decide +kernel
theorem dX11_hurts_11 : decode cX11_hurts 11 = .ok (.iload_n 2, 1) := by decide +kernel
theorem dX11_hurts_12 : decode cX11_hurts 12 = .ok (.iconst 2, 1) := by decide +kernel
theorem dX11_hurts_13 : decode cX11_hurts 13 = .ok (.invokestatic 148, 3) := by decide +kernel
theorem dX11_hurts_16 : decode cX11_hurts 16 = .ok (.ifCond .ne 6, 3) := by decide +kernel
theorem dX11_hurts_19 : decode cX11_hurts 19 = .ok (.bipush (-2), 2) := by decide +kernel
theorem dX11_hurts_21 : decode cX11_hurts 21 = .ok (.ireturn, 1) := by decide +kernel
theorem dX11_hurts_22 : decode cX11_hurts 22 = .ok (.aload_n 0, 1) := by decide +kernel
theorem dX11_hurts_23 : decode cX11_hurts 23 = .ok (.invokevirtual 159, 3) := by decide +kernel
theorem dX11_hurts_26 : decode cX11_hurts 26 = .ok (.astore_n 3, 1) := by decide +kernel
theorem dX11_hurts_27 : decode cX11_hurts 27 = .ok (.iconst 0, 1) := by decide +kernel
theorem dX11_hurts_28 : decode cX11_hurts 28 = .ok (.istore 4, 2) := by decide +kernel
theorem dX11_hurts_30 : decode cX11_hurts 30 = .ok (.iconst 0, 1) := by decide +kernel
theorem dX11_hurts_31 : decode cX11_hurts 31 = .ok (.istore 5, 2) := by decide +kernel
theorem dX11_hurts_33 : decode cX11_hurts 33 = .ok (.iload 5, 2) := by decide +kernel
theorem dX11_hurts_35 : decode cX11_hurts 35 = .ok (.iconst 2, 1) := by decide +kernel
theorem dX11_hurts_36 : decode cX11_hurts 36 = .ok (.aload_n 0, 1) := by decide +kernel
theorem dX11_hurts_37 : decode cX11_hurts 37 = .ok (.getfield 19, 3) := by decide +kernel
theorem dX11_hurts_40 : decode cX11_hurts 40 = .ok (.getfield 194, 3) := by decide +kernel
theorem dX11_hurts_43 : decode cX11_hurts 43 = .ok (.imul, 1) := by decide +kernel
theorem dX11_hurts_44 : decode cX11_hurts 44 = .ok (.if_icmp .ge 73, 3) := by decide +kernel
theorem dX11_hurts_47 : decode cX11_hurts 47 = .ok (.aload_n 0, 1) := by decide +kernel
theorem dX11_hurts_48 : decode cX11_hurts 48 = .ok (.getfield 19, 3) := by decide +kernel
theorem dX11_hurts_51 : decode cX11_hurts 51 = .ok (.getfield 138, 3) := by decide +kernel
theorem dX11_hurts_54 : decode cX11_hurts 54 = .ok (.iload 5, 2) := by decide +kernel
theorem dX11_hurts_56 : decode cX11_hurts 56 = .ok (.iaload, 1) := by decide +kernel
theorem dX11_hurts_57 : decode cX11_hurts 57 = .ok (.iload_n 1, 1) := by decide +kernel
theorem dX11_hurts_58 : decode cX11_hurts 58 = .ok (.if_icmp .ne 53, 3) := by decide +kernel
theorem dX11_hurts_61 : decode cX11_hurts 61 = .ok (.aload_n 3, 1) := by decide +kernel
theorem dX11_hurts_62 : decode cX11_hurts 62 = .ok (.iload 5, 2) := by decide +kernel
theorem dX11_hurts_64 : decode cX11_hurts 64 = .ok (.invokevirtual 197, 3) := by decide +kernel
theorem dX11_hurts_67 : decode cX11_hurts 67 = .ok (.lstore 6, 2) := by decide +kernel
theorem dX11_hurts_69 : decode cX11_hurts 69 = .ok (.aload_n 3, 1) := by decide +kernel
theorem dX11_hurts_70 : decode cX11_hurts 70 = .ok (.getfield 174, 3) := by decide +kernel
theorem dX11_hurts_73 : decode cX11_hurts 73 = .ok (.iload 5, 2) := by decide +kernel
theorem dX11_hurts_75 : decode cX11_hurts 75 = .ok (.laload, 1) := by decide +kernel
theorem dX11_hurts_76 : decode cX11_hurts 76 = .ok (.lstore 8, 2) := by decide +kernel
theorem dX11_hurts_78 : decode cX11_hurts 78 = .ok (.iload 4, 2) := by decide +kernel
theorem dX11_hurts_80 : decode cX11_hurts 80 = .ok (.iload_n 2, 1) := by decide +kernel
theorem dX11_hurts_81 : decode cX11_hurts 81 = .ok (.ifCond .ne 15, 3) := by decide +kernel
theorem dX11_hurts_84 : decode cX11_hurts 84 = .ok (.lload 6, 2) := by decide +kernel
theorem dX11_hurts_86 : decode cX11_hurts 86 = .ok (.lload 8, 2) := by decide +kernel
theorem dX11_hurts_88 : decode cX11_hurts 88 = .ok (.ldc2_w 210, 3) := by decide +kernel
theorem dX11_hurts_91 : decode cX11_hurts 91 = .ok (.lxor, 1) := by decide +kernel
theorem dX11_hurts_92 : decode cX11_hurts 92 = .ok (.land, 1) := by decide +kernel
theorem dX11_hurts_93 : decode cX11_hurts 93 = .ok (.goto 12, 3) := by decide +kernel
theorem dX11_hurts_96 : decode cX11_hurts 96 = .ok (.lload 8, 2) := by decide +kernel
theorem dX11_hurts_98 : decode cX11_hurts 98 = .ok (.lload 6, 2) := by decide +kernel
theorem dX11_hurts_100 : decode cX11_hurts 100 = .ok (.ldc2_w 210, 3) := by decide +kernel
theorem dX11_hurts_103 : decode cX11_hurts 103 = .ok (.lxor, 1) := by decide +kernel
theorem dX11_hurts_104 : decode cX11_hurts 104 = .ok (.land, 1) := by decide +kernel
theorem dX11_hurts_105 : decode cX11_hurts 105 = .ok (.invokestatic 212, 3) := by decide +kernel
theorem dX11_hurts_108 : decode cX11_hurts 108 = .ok (.iadd, 1) := by decide +kernel
theorem dX11_hurts_109 : decode cX11_hurts 109 = .ok (.istore 4, 2) := by decide +kernel
theorem dX11_hurts_111 : decode cX11_hurts 111 = .ok (.iinc 5 1, 3) := by decide +kernel
theorem dX11_hurts_114 : decode cX11_hurts 114 = .ok (.goto (-81), 3) := by decide +kernel
theorem dX11_hurts_117 : decode cX11_hurts 117 = .ok (.iload 4, 2) := by decide +kernel
theorem dX11_hurts_119 : decode cX11_hurts 119 = .ok (.ireturn, 1) := by decide +kernel
theorem dX11_cost_0 : decode cX11_cost 0 = .ok (.aload_n 0, 1) := by decide +kernel
theorem dX11_cost_1 : decode cX11_cost 1 = .ok (.getfield 19, 3) := by decide +kernel
theorem dX11_cost_4 : decode cX11_cost 4 = .ok (.iload_n 1, 1) := by decide +kernel
theorem dX11_cost_5 : decode cX11_cost 5 = .ok (.invokevirtual 115, 3) := by decide +kernel
theorem dX11_cost_8 : decode cX11_cost 8 = .ok (.ifCond .ne 6, 3) := by decide +kernel
theorem dX11_cost_11 : decode cX11_cost 11 = .ok (.bipush (-2), 2) := by decide +kernel
theorem dX11_cost_13 : decode cX11_cost 13 = .ok (.ireturn, 1) := by decide +kernel
theorem dX11_cost_14 : decode cX11_cost 14 = .ok (.aload_n 0, 1) := by decide +kernel
theorem dX11_cost_15 : decode cX11_cost 15 = .ok (.invokevirtual 159, 3) := by decide +kernel
theorem dX11_cost_18 : decode cX11_cost 18 = .ok (.aload_n 0, 1) := by decide +kernel
theorem dX11_cost_19 : decode cX11_cost 19 = .ok (.getfield 19, 3) := by decide +kernel
theorem dX11_cost_22 : decode cX11_cost 22 = .ok (.iload_n 1, 1) := by decide +kernel
theorem dX11_cost_23 : decode cX11_cost 23 = .ok (.invokevirtual 217, 3) := by decide +kernel
theorem dX11_cost_26 : decode cX11_cost 26 = .ok (.ireturn, 1) := by decide +kernel
theorem dX11_dearest_0 : decode cX11_dearest 0 = .ok (.aload_n 0, 1) := by decide +kernel
theorem dX11_dearest_1 : decode cX11_dearest 1 = .ok (.getfield 19, 3) := by decide +kernel
theorem dX11_dearest_4 : decode cX11_dearest 4 = .ok (.invokevirtual 220, 3) := by decide +kernel
theorem dX11_dearest_7 : decode cX11_dearest 7 = .ok (.ifCond .ne 6, 3) := by decide +kernel
theorem dX11_dearest_10 : decode cX11_dearest 10 = .ok (.bipush (-2), 2) := by decide +kernel
theorem dX11_dearest_12 : decode cX11_dearest 12 = .ok (.ireturn, 1) := by decide +kernel
theorem dX11_dearest_13 : decode cX11_dearest 13 = .ok (.aload_n 0, 1) := by decide +kernel
theorem dX11_dearest_14 : decode cX11_dearest 14 = .ok (.invokevirtual 159, 3) := by decide +kernel
theorem dX11_dearest_17 : decode cX11_dearest 17 = .ok (.astore_n 1, 1) := by decide +kernel
theorem dX11_dearest_18 : decode cX11_dearest 18 = .ok (.iconst (-1), 1) := by decide +kernel
theorem dX11_dearest_19 : decode cX11_dearest 19 = .ok (.istore_n 2, 1) := by decide +kernel
theorem dX11_dearest_20 : decode cX11_dearest 20 = .ok (.iconst (-1), 1) := by decide +kernel
theorem dX11_dearest_21 : decode cX11_dearest 21 = .ok (.istore_n 3, 1) := by decide +kernel
theorem dX11_dearest_22 : decode cX11_dearest 22 = .ok (.iconst 0, 1) := by decide +kernel
theorem dX11_dearest_23 : decode cX11_dearest 23 = .ok (.istore 4, 2) := by decide +kernel
theorem dX11_dearest_25 : decode cX11_dearest 25 = .ok (.iload 4, 2) := by decide +kernel
theorem dX11_dearest_27 : decode cX11_dearest 27 = .ok (.aload_n 0, 1) := by decide +kernel
theorem dX11_dearest_28 : decode cX11_dearest 28 = .ok (.getfield 19, 3) := by decide +kernel
theorem dX11_dearest_31 : decode cX11_dearest 31 = .ok (.getfield 223, 3) := by decide +kernel
theorem dX11_dearest_34 : decode cX11_dearest 34 = .ok (.if_icmp .ge 33, 3) := by decide +kernel
theorem dX11_dearest_37 : decode cX11_dearest 37 = .ok (.aload_n 1, 1) := by decide +kernel
theorem dX11_dearest_38 : decode cX11_dearest 38 = .ok (.aload_n 0, 1) := by decide +kernel
theorem dX11_dearest_39 : decode cX11_dearest 39 = .ok (.getfield 19, 3) := by decide +kernel
theorem dX11_dearest_42 : decode cX11_dearest 42 = .ok (.iload 4, 2) := by decide +kernel
theorem dX11_dearest_44 : decode cX11_dearest 44 = .ok (.invokevirtual 217, 3) := by decide +kernel
theorem dX11_dearest_47 : decode cX11_dearest 47 = .ok (.istore 5, 2) := by decide +kernel
theorem dX11_dearest_49 : decode cX11_dearest 49 = .ok (.iload 5, 2) := by decide +kernel
theorem dX11_dearest_51 : decode cX11_dearest 51 = .ok (.iload_n 3, 1) := by decide +kernel
theorem dX11_dearest_52 : decode cX11_dearest 52 = .ok (.if_icmp .le 9, 3) := by decide +kernel
theorem dX11_dearest_55 : decode cX11_dearest 55 = .ok (.iload 5, 2) := by decide +kernel
theorem dX11_dearest_57 : decode cX11_dearest 57 = .ok (.istore_n 3, 1) := by decide +kernel
theorem dX11_dearest_58 : decode cX11_dearest 58 = .ok (.iload 4, 2) := by decide +kernel
theorem dX11_dearest_60 : decode cX11_dearest 60 = .ok (.istore_n 2, 1) := by decide +kernel
theorem dX11_dearest_61 : decode cX11_dearest 61 = .ok (.iinc 4 1, 3) := by decide +kernel
theorem dX11_dearest_64 : decode cX11_dearest 64 = .ok (.goto (-39), 3) := by decide +kernel
theorem dX11_dearest_67 : decode cX11_dearest 67 = .ok (.iload_n 2, 1) := by decide +kernel
theorem dX11_dearest_68 : decode cX11_dearest 68 = .ok (.ireturn, 1) := by decide +kernel
theorem dX11_last_0 : decode cX11_last 0 = .ok (.aload_n 0, 1) := by decide +kernel
theorem dX11_last_1 : decode cX11_last 1 = .ok (.getfield 19, 3) := by decide +kernel
theorem dX11_last_4 : decode cX11_last 4 = .ok (.iload_n 1, 1) := by decide +kernel
theorem dX11_last_5 : decode cX11_last 5 = .ok (.invokevirtual 135, 3) := by decide +kernel
theorem dX11_last_8 : decode cX11_last 8 = .ok (.ifCond .ne 6, 3) := by decide +kernel
theorem dX11_last_11 : decode cX11_last 11 = .ok (.bipush (-2), 2) := by decide +kernel
theorem dX11_last_13 : decode cX11_last 13 = .ok (.ireturn, 1) := by decide +kernel
theorem dX11_last_14 : decode cX11_last 14 = .ok (.aload_n 0, 1) := by decide +kernel
theorem dX11_last_15 : decode cX11_last 15 = .ok (.invokevirtual 159, 3) := by decide +kernel
theorem dX11_last_18 : decode cX11_last 18 = .ok (.iload_n 1, 1) := by decide +kernel
theorem dX11_last_19 : decode cX11_last 19 = .ok (.invokevirtual 226, 3) := by decide +kernel
theorem dX11_last_22 : decode cX11_last 22 = .ok (.invokestatic 229, 3) := by decide +kernel
theorem dX11_last_25 : decode cX11_last 25 = .ok (.ireturn, 1) := by decide +kernel
theorem dX11_over_0 : decode cX11_over 0 = .ok (.aload_n 0, 1) := by decide +kernel
theorem dX11_over_1 : decode cX11_over 1 = .ok (.getfield 19, 3) := by decide +kernel
theorem dX11_over_4 : decode cX11_over 4 = .ok (.invokevirtual 220, 3) := by decide +kernel
theorem dX11_over_7 : decode cX11_over 7 = .ok (.ifCond .ne 6, 3) := by decide +kernel
theorem dX11_over_10 : decode cX11_over 10 = .ok (.bipush (-2), 2) := by decide +kernel
theorem dX11_over_12 : decode cX11_over 12 = .ok (.ireturn, 1) := by decide +kernel
theorem dX11_over_13 : decode cX11_over 13 = .ok (.aload_n 0, 1) := by decide +kernel
theorem dX11_over_14 : decode cX11_over 14 = .ok (.invokevirtual 159, 3) := by decide +kernel
theorem dX11_over_17 : decode cX11_over 17 = .ok (.astore_n 1, 1) := by decide +kernel
theorem dX11_over_18 : decode cX11_over 18 = .ok (.iconst 0, 1) := by decide +kernel
theorem dX11_over_19 : decode cX11_over 19 = .ok (.istore_n 2, 1) := by decide +kernel
theorem dX11_over_20 : decode cX11_over 20 = .ok (.iconst 0, 1) := by decide +kernel
theorem dX11_over_21 : decode cX11_over 21 = .ok (.istore_n 3, 1) := by decide +kernel
theorem dX11_over_22 : decode cX11_over 22 = .ok (.iload_n 3, 1) := by decide +kernel
theorem dX11_over_23 : decode cX11_over 23 = .ok (.aload_n 0, 1) := by decide +kernel
theorem dX11_over_24 : decode cX11_over 24 = .ok (.getfield 19, 3) := by decide +kernel
theorem dX11_over_27 : decode cX11_over 27 = .ok (.getfield 194, 3) := by decide +kernel
theorem dX11_over_30 : decode cX11_over 30 = .ok (.if_icmp .ge 32, 3) := by decide +kernel
theorem dX11_over_33 : decode cX11_over 33 = .ok (.aload_n 1, 1) := by decide +kernel
theorem dX11_over_34 : decode cX11_over 34 = .ok (.iload_n 3, 1) := by decide +kernel
theorem dX11_over_35 : decode cX11_over 35 = .ok (.invokevirtual 226, 3) := by decide +kernel
theorem dX11_over_38 : decode cX11_over 38 = .ok (.aload_n 0, 1) := by decide +kernel
theorem dX11_over_39 : decode cX11_over 39 = .ok (.getfield 19, 3) := by decide +kernel
theorem dX11_over_42 : decode cX11_over 42 = .ok (.getfield 177, 3) := by decide +kernel
theorem dX11_over_45 : decode cX11_over 45 = .ok (.iconst 1, 1) := by decide +kernel
theorem dX11_over_46 : decode cX11_over 46 = .ok (.isub, 1) := by decide +kernel
theorem dX11_over_47 : decode cX11_over 47 = .ok (.invokestatic 167, 3) := by decide +kernel
theorem dX11_over_50 : decode cX11_over 50 = .ok (.ifCond .ne 6, 3) := by decide +kernel
theorem dX11_over_53 : decode cX11_over 53 = .ok (.iinc 2 1, 3) := by decide +kernel
theorem dX11_over_56 : decode cX11_over 56 = .ok (.iinc 3 1, 3) := by decide +kernel
theorem dX11_over_59 : decode cX11_over 59 = .ok (.goto (-37), 3) := by decide +kernel
theorem dX11_over_62 : decode cX11_over 62 = .ok (.iload_n 2, 1) := by decide +kernel
theorem dX11_over_63 : decode cX11_over 63 = .ok (.ireturn, 1) := by decide +kernel
