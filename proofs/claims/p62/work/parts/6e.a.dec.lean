theorem dX12_mantel_0 : decode cX12_mantel 0 = .ok (.aload_n 0, 1) := by decide +kernel
theorem dX12_mantel_1 : decode cX12_mantel 1 = .ok (.iconst 0, 1) := by decide +kernel
theorem dX12_mantel_2 : decode cX12_mantel 2 = .ok (.putfield 107, 3) := by decide +kernel
theorem dX12_mantel_5 : decode cX12_mantel 5 = .ok (.aload_n 0, 1) := by decide +kernel
theorem dX12_mantel_6 : decode cX12_mantel 6 = .ok (.iload_n 1, 1) := by decide +kernel
theorem dX12_mantel_7 : decode cX12_mantel 7 = .ok (.invokevirtual 276, 3) := by decide +kernel
theorem dX12_mantel_10 : decode cX12_mantel 10 = .ok (.ifCond .eq 12, 3) := by decide +kernel
theorem dX12_mantel_13 : decode cX12_mantel 13 = .ok (.aload_n 0, 1) := by decide +kernel
theorem dX12_mantel_14 : decode cX12_mantel 14 = .ok (.iload_n 2, 1) := by decide +kernel
theorem dX12_mantel_15 : decode cX12_mantel 15 = .ok (.i2l, 1) := by decide +kernel
theorem dX12_mantel_16 : decode cX12_mantel 16 = .ok (.invokevirtual 343, 3) := by decide +kernel
theorem dX12_mantel_19 : decode cX12_mantel 19 = .ok (.ifCond .ne 6, 3) := by decide +kernel
theorem dX12_mantel_22 : decode cX12_mantel 22 = .ok (.bipush (-2), 2) := by decide +kernel
theorem dX12_mantel_24 : decode cX12_mantel 24 = .ok (.ireturn, 1) := by decide +kernel
theorem dX12_mantel_25 : decode cX12_mantel 25 = .ok (.aload_n 0, 1) := by decide +kernel
theorem dX12_mantel_26 : decode cX12_mantel 26 = .ok (.invokevirtual 346, 3) := by decide +kernel
theorem dX12_mantel_29 : decode cX12_mantel 29 = .ok (.aload_n 0, 1) := by decide +kernel
theorem dX12_mantel_30 : decode cX12_mantel 30 = .ok (.iload_n 1, 1) := by decide +kernel
theorem dX12_mantel_31 : decode cX12_mantel 31 = .ok (.iload_n 2, 1) := by decide +kernel
theorem dX12_mantel_32 : decode cX12_mantel 32 = .ok (.invokevirtual 361, 3) := by decide +kernel
theorem dX12_mantel_35 : decode cX12_mantel 35 = .ok (.invokestatic 364, 3) := by decide +kernel
theorem dX12_mantel_38 : decode cX12_mantel 38 = .ok (.ireturn, 1) := by decide +kernel
theorem dX12_whose_0 : decode cX12_whose 0 = .ok (.aload_n 0, 1) := by decide +kernel
theorem dX12_whose_1 : decode cX12_whose 1 = .ok (.iconst 0, 1) := by decide +kernel
theorem dX12_whose_2 : decode cX12_whose 2 = .ok (.putfield 107, 3) := by decide +kernel
theorem dX12_whose_5 : decode cX12_whose 5 = .ok (.aload_n 0, 1) := by decide +kernel
theorem dX12_whose_6 : decode cX12_whose 6 = .ok (.iload_n 1, 1) := by decide +kernel
theorem dX12_whose_7 : decode cX12_whose 7 = .ok (.invokevirtual 276, 3) := by decide +kernel
theorem dX12_whose_10 : decode cX12_whose 10 = .ok (.ifCond .eq 12, 3) := by decide +kernel
theorem dX12_whose_13 : decode cX12_whose 13 = .ok (.aload_n 0, 1) := by decide +kernel
theorem dX12_whose_14 : decode cX12_whose 14 = .ok (.iload_n 2, 1) := by decide +kernel
theorem dX12_whose_15 : decode cX12_whose 15 = .ok (.i2l, 1) := by decide +kernel
theorem dX12_whose_16 : decode cX12_whose 16 = .ok (.invokevirtual 343, 3) := by decide +kernel
theorem dX12_whose_19 : decode cX12_whose 19 = .ok (.ifCond .ne 6, 3) := by decide +kernel
theorem dX12_whose_22 : decode cX12_whose 22 = .ok (.bipush (-2), 2) := by decide +kernel
theorem dX12_whose_24 : decode cX12_whose 24 = .ok (.ireturn, 1) := by decide +kernel
theorem dX12_whose_25 : decode cX12_whose 25 = .ok (.aload_n 0, 1) := by decide +kernel
theorem dX12_whose_26 : decode cX12_whose 26 = .ok (.invokevirtual 346, 3) := by decide +kernel
theorem dX12_whose_29 : decode cX12_whose 29 = .ok (.aload_n 0, 1) := by decide +kernel
theorem dX12_whose_30 : decode cX12_whose 30 = .ok (.iload_n 1, 1) := by decide +kernel
theorem dX12_whose_31 : decode cX12_whose 31 = .ok (.iload_n 2, 1) := by decide +kernel
theorem dX12_whose_32 : decode cX12_whose 32 = .ok (.invokevirtual 361, 3) := by decide +kernel
theorem dX12_whose_35 : decode cX12_whose 35 = .ok (.ireturn, 1) := by decide +kernel
theorem dX12_hurtsOf_0 : decode cX12_hurtsOf 0 = .ok (.iconst 0, 1) := by decide +kernel
theorem dX12_hurtsOf_1 : decode cX12_hurtsOf 1 = .ok (.istore_n 3, 1) := by decide +kernel
theorem dX12_hurtsOf_2 : decode cX12_hurtsOf 2 = .ok (.iconst 0, 1) := by decide +kernel
theorem dX12_hurtsOf_3 : decode cX12_hurtsOf 3 = .ok (.istore 4, 2) := by decide +kernel
theorem dX12_hurtsOf_5 : decode cX12_hurtsOf 5 = .ok (.iload 4, 2) := by decide +kernel
theorem dX12_hurtsOf_7 : decode cX12_hurtsOf 7 = .ok (.aload_n 0, 1) := by decide +kernel
theorem dX12_hurtsOf_8 : decode cX12_hurtsOf 8 = .ok (.getfield 34, 3) := by decide +kernel
theorem dX12_hurtsOf_11 : decode cX12_hurtsOf 11 = .ok (.iconst 0, 1) := by decide +kernel
theorem dX12_hurtsOf_12 : decode cX12_hurtsOf 12 = .ok (.iaload, 1) := by decide +kernel
theorem dX12_hurtsOf_13 : decode cX12_hurtsOf 13 = .ok (.if_icmp .ge 131, 3) := by decide +kernel
theorem dX12_hurtsOf_16 : decode cX12_hurtsOf 16 = .ok (.iconst 0, 1) := by decide +kernel
theorem dX12_hurtsOf_17 : decode cX12_hurtsOf 17 = .ok (.istore 5, 2) := by decide +kernel
theorem dX12_hurtsOf_19 : decode cX12_hurtsOf 19 = .ok (.iload 5, 2) := by decide +kernel
theorem dX12_hurtsOf_21 : decode cX12_hurtsOf 21 = .ok (.aload_n 0, 1) := by decide +kernel
theorem dX12_hurtsOf_22 : decode cX12_hurtsOf 22 = .ok (.getfield 34, 3) := by decide +kernel
theorem dX12_hurtsOf_25 : decode cX12_hurtsOf 25 = .ok (.iconst 4, 1) := by decide +kernel
theorem dX12_hurtsOf_26 : decode cX12_hurtsOf 26 = .ok (.iaload, 1) := by decide +kernel
theorem dX12_hurtsOf_27 : decode cX12_hurtsOf 27 = .ok (.if_icmp .ge 111, 3) := by decide +kernel
theorem dX12_hurtsOf_30 : decode cX12_hurtsOf 30 = .ok (.iconst 0, 1) := by decide +kernel
theorem dX12_hurtsOf_31 : decode cX12_hurtsOf 31 = .ok (.istore 6, 2) := by decide +kernel
theorem dX12_hurtsOf_33 : decode cX12_hurtsOf 33 = .ok (.iload 6, 2) := by decide +kernel
theorem dX12_hurtsOf_35 : decode cX12_hurtsOf 35 = .ok (.iconst 2, 1) := by decide +kernel
theorem dX12_hurtsOf_36 : decode cX12_hurtsOf 36 = .ok (.if_icmp .ge 96, 3) := by decide +kernel
theorem dX12_hurtsOf_39 : decode cX12_hurtsOf 39 = .ok (.aload_n 0, 1) := by decide +kernel
theorem dX12_hurtsOf_40 : decode cX12_hurtsOf 40 = .ok (.iload 5, 2) := by decide +kernel
theorem dX12_hurtsOf_42 : decode cX12_hurtsOf 42 = .ok (.iload 6, 2) := by decide +kernel
theorem dX12_hurtsOf_44 : decode cX12_hurtsOf 44 = .ok (.invokevirtual 321, 3) := by decide +kernel
theorem dX12_hurtsOf_47 : decode cX12_hurtsOf 47 = .ok (.iload_n 1, 1) := by decide +kernel
theorem dX12_hurtsOf_48 : decode cX12_hurtsOf 48 = .ok (.if_icmp .eq 6, 3) := by decide +kernel
theorem dX12_hurtsOf_51 : decode cX12_hurtsOf 51 = .ok (.goto 75, 3) := by decide +kernel
theorem dX12_hurtsOf_54 : decode cX12_hurtsOf 54 = .ok (.aload_n 0, 1) := by decide +kernel
theorem dX12_hurtsOf_55 : decode cX12_hurtsOf 55 = .ok (.iload 5, 2) := by decide +kernel
theorem dX12_hurtsOf_57 : decode cX12_hurtsOf 57 = .ok (.iload 6, 2) := by decide +kernel
theorem dX12_hurtsOf_59 : decode cX12_hurtsOf 59 = .ok (.iload 4, 2) := by decide +kernel
theorem dX12_hurtsOf_61 : decode cX12_hurtsOf 61 = .ok (.invokevirtual 349, 3) := by decide +kernel
theorem dX12_hurtsOf_64 : decode cX12_hurtsOf 64 = .ok (.ifCond .le 7, 3) := by decide +kernel
theorem dX12_hurtsOf_67 : decode cX12_hurtsOf 67 = .ok (.iconst 1, 1) := by decide +kernel
theorem dX12_hurtsOf_68 : decode cX12_hurtsOf 68 = .ok (.goto 4, 3) := by decide +kernel
theorem dX12_hurtsOf_71 : decode cX12_hurtsOf 71 = .ok (.iconst 0, 1) := by decide +kernel
theorem dX12_hurtsOf_72 : decode cX12_hurtsOf 72 = .ok (.istore 7, 2) := by decide +kernel
theorem dX12_hurtsOf_74 : decode cX12_hurtsOf 74 = .ok (.aload_n 0, 1) := by decide +kernel
theorem dX12_hurtsOf_75 : decode cX12_hurtsOf 75 = .ok (.iload 5, 2) := by decide +kernel
theorem dX12_hurtsOf_77 : decode cX12_hurtsOf 77 = .ok (.iload 6, 2) := by decide +kernel
theorem dX12_hurtsOf_79 : decode cX12_hurtsOf 79 = .ok (.iload 4, 2) := by decide +kernel
theorem dX12_hurtsOf_81 : decode cX12_hurtsOf 81 = .ok (.invokevirtual 352, 3) := by decide +kernel
theorem dX12_hurtsOf_84 : decode cX12_hurtsOf 84 = .ok (.istore 8, 2) := by decide +kernel
theorem dX12_hurtsOf_86 : decode cX12_hurtsOf 86 = .ok (.iload_n 3, 1) := by decide +kernel
theorem dX12_hurtsOf_87 : decode cX12_hurtsOf 87 = .ok (.iload_n 2, 1) := by decide +kernel
theorem dX12_hurtsOf_88 : decode cX12_hurtsOf 88 = .ok (.ifCond .ne 21, 3) := by decide +kernel
theorem dX12_hurtsOf_91 : decode cX12_hurtsOf 91 = .ok (.iload 7, 2) := by decide +kernel
theorem dX12_hurtsOf_93 : decode cX12_hurtsOf 93 = .ok (.ifCond .eq 12, 3) := by decide +kernel
theorem dX12_hurtsOf_96 : decode cX12_hurtsOf 96 = .ok (.iload 8, 2) := by decide +kernel
theorem dX12_hurtsOf_98 : decode cX12_hurtsOf 98 = .ok (.ifCond .ne 7, 3) := by decide +kernel
theorem dX12_hurtsOf_101 : decode cX12_hurtsOf 101 = .ok (.iconst 1, 1) := by decide +kernel
theorem dX12_hurtsOf_102 : decode cX12_hurtsOf 102 = .ok (.goto 22, 3) := by decide +kernel
theorem dX12_hurtsOf_105 : decode cX12_hurtsOf 105 = .ok (.iconst 0, 1) := by decide +kernel
theorem dX12_hurtsOf_106 : decode cX12_hurtsOf 106 = .ok (.goto 18, 3) := by decide +kernel
theorem dX12_hurtsOf_109 : decode cX12_hurtsOf 109 = .ok (.iload 8, 2) := by decide +kernel
theorem dX12_hurtsOf_111 : decode cX12_hurtsOf 111 = .ok (.ifCond .eq 12, 3) := by decide +kernel
theorem dX12_hurtsOf_114 : decode cX12_hurtsOf 114 = .ok (.iload 7, 2) := by decide +kernel
theorem dX12_hurtsOf_116 : decode cX12_hurtsOf 116 = .ok (.ifCond .ne 7, 3) := by decide +kernel
theorem dX12_hurtsOf_119 : decode cX12_hurtsOf 119 = .ok (.iconst 1, 1) := by decide +kernel
theorem dX12_hurtsOf_120 : decode cX12_hurtsOf 120 = .ok (.goto 4, 3) := by decide +kernel
theorem dX12_hurtsOf_123 : decode cX12_hurtsOf 123 = .ok (.iconst 0, 1) := by decide +kernel
theorem dX12_hurtsOf_124 : decode cX12_hurtsOf 124 = .ok (.iadd, 1) := by decide +kernel
theorem dX12_hurtsOf_125 : decode cX12_hurtsOf 125 = .ok (.istore_n 3, 1) := by decide +kernel
theorem dX12_hurtsOf_126 : decode cX12_hurtsOf 126 = .ok (.iinc 6 1, 3) := by decide +kernel
theorem dX12_hurtsOf_129 : decode cX12_hurtsOf 129 = .ok (.goto (-96), 3) := by decide +kernel
theorem dX12_hurtsOf_132 : decode cX12_hurtsOf 132 = .ok (.iinc 5 1, 3) := by decide +kernel
theorem dX12_hurtsOf_135 : decode cX12_hurtsOf 135 = .ok (.goto (-116), 3) := by decide +kernel
theorem dX12_hurtsOf_138 : decode cX12_hurtsOf 138 = .ok (.iinc 4 1, 3) := by decide +kernel
theorem dX12_hurtsOf_141 : decode cX12_hurtsOf 141 = .ok (.goto (-136), 3) := by decide +kernel
theorem dX12_hurtsOf_144 : decode cX12_hurtsOf 144 = .ok (.iload_n 3, 1) := by decide +kernel
theorem dX12_hurtsOf_145 : decode cX12_hurtsOf 145 = .ok (.ireturn, 1) := by decide +kernel
theorem dX12_hurts_0 : decode cX12_hurts 0 = .ok (.aload_n 0, 1) := by decide +kernel
theorem dX12_hurts_1 : decode cX12_hurts 1 = .ok (.iconst 0, 1) := by decide +kernel
theorem dX12_hurts_2 : decode cX12_hurts 2 = .ok (.putfield 107, 3) := by decide +kernel
theorem dX12_hurts_5 : decode cX12_hurts 5 = .ok (.aload_n 0, 1) := by decide +kernel
theorem dX12_hurts_6 : decode cX12_hurts 6 = .ok (.iload_n 1, 1) := by decide +kernel
theorem dX12_hurts_7 : decode cX12_hurts 7 = .ok (.invokevirtual 276, 3) := by decide +kernel
theorem dX12_hurts_10 : decode cX12_hurts 10 = .ok (.ifCond .eq 13, 3) := by decide +kernel
theorem dX12_hurts_13 : decode cX12_hurts 13 = .ok (.iload_n 2, 1) := by decide +kernel
theorem dX12_hurts_14 : decode cX12_hurts 14 = .ok (.i2l, 1) := by decide +kernel
theorem dX12_hurts_15 : decode cX12_hurts 15 = .ok (.lconst 0, 1) := by decide +kernel
theorem dX12_hurts_16 : decode cX12_hurts 16 = .ok (.lconst 1, 1) := by decide +kernel
theorem dX12_hurts_17 : decode cX12_hurts 17 = .ok (.invokestatic 112, 3) := by decide +kernel
theorem dX12_hurts_20 : decode cX12_hurts 20 = .ok (.ifCond .ne 6, 3) := by decide +kernel
theorem dX12_hurts_23 : decode cX12_hurts 23 = .ok (.bipush (-2), 2) := by decide +kernel
theorem dX12_hurts_25 : decode cX12_hurts 25 = .ok (.ireturn, 1) := by decide +kernel
theorem dX12_hurts_26 : decode cX12_hurts 26 = .ok (.aload_n 0, 1) := by decide +kernel
theorem dX12_hurts_27 : decode cX12_hurts 27 = .ok (.invokevirtual 346, 3) := by decide +kernel
theorem dX12_hurts_30 : decode cX12_hurts 30 = .ok (.aload_n 0, 1) := by decide +kernel
theorem dX12_hurts_31 : decode cX12_hurts 31 = .ok (.iload_n 1, 1) := by decide +kernel
theorem dX12_hurts_32 : decode cX12_hurts 32 = .ok (.iload_n 2, 1) := by decide +kernel
theorem dX12_hurts_33 : decode cX12_hurts 33 = .ok (.invokevirtual 367, 3) := by decide +kernel
theorem dX12_hurts_36 : decode cX12_hurts 36 = .ok (.ireturn, 1) := by decide +kernel
theorem dX12_costOf_0 : decode cX12_costOf 0 = .ok (.iconst 0, 1) := by decide +kernel
theorem dX12_costOf_1 : decode cX12_costOf 1 = .ok (.istore_n 2, 1) := by decide +kernel
theorem dX12_costOf_2 : decode cX12_costOf 2 = .ok (.iconst 0, 1) := by decide +kernel
theorem dX12_costOf_3 : decode cX12_costOf 3 = .ok (.istore_n 3, 1) := by decide +kernel
theorem dX12_costOf_4 : decode cX12_costOf 4 = .ok (.iload_n 3, 1) := by decide +kernel
theorem dX12_costOf_5 : decode cX12_costOf 5 = .ok (.aload_n 0, 1) := by decide +kernel
theorem dX12_costOf_6 : decode cX12_costOf 6 = .ok (.getfield 34, 3) := by decide +kernel
theorem dX12_costOf_9 : decode cX12_costOf 9 = .ok (.iconst 0, 1) := by decide +kernel
theorem dX12_costOf_10 : decode cX12_costOf 10 = .ok (.iaload, 1) := by decide +kernel
theorem dX12_costOf_11 : decode cX12_costOf 11 = .ok (.if_icmp .ge 18, 3) := by decide +kernel
theorem dX12_costOf_14 : decode cX12_costOf 14 = .ok (.iload_n 2, 1) := by decide +kernel
theorem dX12_costOf_15 : decode cX12_costOf 15 = .ok (.aload_n 0, 1) := by decide +kernel
theorem dX12_costOf_16 : decode cX12_costOf 16 = .ok (.iload_n 1, 1) := by decide +kernel
theorem dX12_costOf_17 : decode cX12_costOf 17 = .ok (.iload_n 3, 1) := by decide +kernel
theorem dX12_costOf_18 : decode cX12_costOf 18 = .ok (.invokevirtual 358, 3) := by decide +kernel
theorem dX12_costOf_21 : decode cX12_costOf 21 = .ok (.iadd, 1) := by decide +kernel
theorem dX12_costOf_22 : decode cX12_costOf 22 = .ok (.istore_n 2, 1) := by decide +kernel
theorem dX12_costOf_23 : decode cX12_costOf 23 = .ok (.iinc 3 1, 3) := by decide +kernel
theorem dX12_costOf_26 : decode cX12_costOf 26 = .ok (.goto (-22), 3) := by decide +kernel
theorem dX12_costOf_29 : decode cX12_costOf 29 = .ok (.iload_n 2, 1) := by decide +kernel
theorem dX12_costOf_30 : decode cX12_costOf 30 = .ok (.aload_n 0, 1) := by decide +kernel
theorem dX12_costOf_31 : decode cX12_costOf 31 = .ok (.getfield 34, 3) := by decide +kernel
theorem dX12_costOf_34 : decode cX12_costOf 34 = .ok (.iconst 1, 1) := by decide +kernel
theorem dX12_costOf_35 : decode cX12_costOf 35 = .ok (.iaload, 1) := by decide +kernel
theorem dX12_costOf_36 : decode cX12_costOf 36 = .ok (.imul, 1) := by decide +kernel
theorem dX12_costOf_37 : decode cX12_costOf 37 = .ok (.aload_n 0, 1) := by decide +kernel
theorem dX12_costOf_38 : decode cX12_costOf 38 = .ok (.iload_n 1, 1) := by decide +kernel
theorem dX12_costOf_39 : decode cX12_costOf 39 = .ok (.iconst 0, 1) := by decide +kernel
theorem dX12_costOf_40 : decode cX12_costOf 40 = .ok (.invokevirtual 367, 3) := by decide +kernel
theorem dX12_costOf_43 : decode cX12_costOf 43 = .ok (.aload_n 0, 1) := by decide +kernel
theorem dX12_costOf_44 : decode cX12_costOf 44 = .ok (.getfield 34, 3) := by decide +kernel
theorem dX12_costOf_47 : decode cX12_costOf 47 = .ok (.iconst 2, 1) := by decide +kernel
theorem dX12_costOf_48 : decode cX12_costOf 48 = .ok (.iaload, 1) := by decide +kernel
theorem dX12_costOf_49 : decode cX12_costOf 49 = .ok (.imul, 1) := by decide +kernel
theorem dX12_costOf_50 : decode cX12_costOf 50 = .ok (.iadd, 1) := by decide +kernel
theorem dX12_costOf_51 : decode cX12_costOf 51 = .ok (.ireturn, 1) := by decide +kernel
