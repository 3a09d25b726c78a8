theorem dX11_odd_0 : decode cX11_odd 0 = .ok (.aload_n 0, 1) := by decide +kernel
theorem dX11_odd_1 : decode cX11_odd 1 = .ok (.iload_n 1, 1) := by decide +kernel
theorem dX11_odd_2 : decode cX11_odd 2 = .ok (.iload_n 2, 1) := by decide +kernel
theorem dX11_odd_3 : decode cX11_odd 3 = .ok (.invokevirtual 325, 3) := by decide +kernel
theorem dX11_odd_6 : decode cX11_odd 6 = .ok (.istore_n 3, 1) := by decide +kernel
theorem dX11_odd_7 : decode cX11_odd 7 = .ok (.iload_n 3, 1) := by decide +kernel
theorem dX11_odd_8 : decode cX11_odd 8 = .ok (.ifCond .eq 5, 3) := by decide +kernel
theorem dX11_odd_11 : decode cX11_odd 11 = .ok (.iload_n 3, 1) := by decide +kernel
theorem dX11_odd_12 : decode cX11_odd 12 = .ok (.ireturn, 1) := by decide +kernel
theorem dX11_odd_13 : decode cX11_odd 13 = .ok (.aload_n 0, 1) := by decide +kernel
theorem dX11_odd_14 : decode cX11_odd 14 = .ok (.invokevirtual 159, 3) := by decide +kernel
theorem dX11_odd_17 : decode cX11_odd 17 = .ok (.astore 4, 2) := by decide +kernel
theorem dX11_odd_19 : decode cX11_odd 19 = .ok (.iconst 0, 1) := by decide +kernel
theorem dX11_odd_20 : decode cX11_odd 20 = .ok (.istore 5, 2) := by decide +kernel
theorem dX11_odd_22 : decode cX11_odd 22 = .ok (.iload 5, 2) := by decide +kernel
theorem dX11_odd_24 : decode cX11_odd 24 = .ok (.aload_n 0, 1) := by decide +kernel
theorem dX11_odd_25 : decode cX11_odd 25 = .ok (.getfield 65, 3) := by decide +kernel
theorem dX11_odd_28 : decode cX11_odd 28 = .ok (.getfield 339, 3) := by decide +kernel
theorem dX11_odd_31 : decode cX11_odd 31 = .ok (.iload_n 1, 1) := by decide +kernel
theorem dX11_odd_32 : decode cX11_odd 32 = .ok (.iaload, 1) := by decide +kernel
theorem dX11_odd_33 : decode cX11_odd 33 = .ok (.if_icmp .ge 131, 3) := by decide +kernel
theorem dX11_odd_36 : decode cX11_odd 36 = .ok (.aload_n 0, 1) := by decide +kernel
theorem dX11_odd_37 : decode cX11_odd 37 = .ok (.getfield 65, 3) := by decide +kernel
theorem dX11_odd_40 : decode cX11_odd 40 = .ok (.iload_n 1, 1) := by decide +kernel
theorem dX11_odd_41 : decode cX11_odd 41 = .ok (.iload 5, 2) := by decide +kernel
theorem dX11_odd_43 : decode cX11_odd 43 = .ok (.invokevirtual 342, 3) := by decide +kernel
theorem dX11_odd_46 : decode cX11_odd 46 = .ok (.l2i, 1) := by decide +kernel
theorem dX11_odd_47 : decode cX11_odd 47 = .ok (.istore 6, 2) := by decide +kernel
theorem dX11_odd_49 : decode cX11_odd 49 = .ok (.aload 4, 2) := by decide +kernel
theorem dX11_odd_51 : decode cX11_odd 51 = .ok (.getfield 174, 3) := by decide +kernel
theorem dX11_odd_54 : decode cX11_odd 54 = .ok (.iconst 2, 1) := by decide +kernel
theorem dX11_odd_55 : decode cX11_odd 55 = .ok (.iload_n 2, 1) := by decide +kernel
theorem dX11_odd_56 : decode cX11_odd 56 = .ok (.imul, 1) := by decide +kernel
theorem dX11_odd_57 : decode cX11_odd 57 = .ok (.laload, 1) := by decide +kernel
theorem dX11_odd_58 : decode cX11_odd 58 = .ok (.iload 6, 2) := by decide +kernel
theorem dX11_odd_60 : decode cX11_odd 60 = .ok (.invokestatic 167, 3) := by decide +kernel
theorem dX11_odd_63 : decode cX11_odd 63 = .ok (.aload_n 0, 1) := by decide +kernel
theorem dX11_odd_64 : decode cX11_odd 64 = .ok (.getfield 65, 3) := by decide +kernel
theorem dX11_odd_67 : decode cX11_odd 67 = .ok (.iload_n 1, 1) := by decide +kernel
theorem dX11_odd_68 : decode cX11_odd 68 = .ok (.iload 5, 2) := by decide +kernel
theorem dX11_odd_70 : decode cX11_odd 70 = .ok (.iconst 1, 1) := by decide +kernel
theorem dX11_odd_71 : decode cX11_odd 71 = .ok (.iadd, 1) := by decide +kernel
theorem dX11_odd_72 : decode cX11_odd 72 = .ok (.invokevirtual 342, 3) := by decide +kernel
theorem dX11_odd_75 : decode cX11_odd 75 = .ok (.lconst 1, 1) := by decide +kernel
theorem dX11_odd_76 : decode cX11_odd 76 = .ok (.lcmp, 1) := by decide +kernel
theorem dX11_odd_77 : decode cX11_odd 77 = .ok (.ifCond .ne 7, 3) := by decide +kernel
theorem dX11_odd_80 : decode cX11_odd 80 = .ok (.iconst 1, 1) := by decide +kernel
theorem dX11_odd_81 : decode cX11_odd 81 = .ok (.goto 4, 3) := by decide +kernel
theorem dX11_odd_84 : decode cX11_odd 84 = .ok (.iconst 0, 1) := by decide +kernel
theorem dX11_odd_85 : decode cX11_odd 85 = .ok (.if_icmp .ne 7, 3) := by decide +kernel
theorem dX11_odd_88 : decode cX11_odd 88 = .ok (.iconst 1, 1) := by decide +kernel
theorem dX11_odd_89 : decode cX11_odd 89 = .ok (.goto 4, 3) := by decide +kernel
theorem dX11_odd_92 : decode cX11_odd 92 = .ok (.iconst 0, 1) := by decide +kernel
theorem dX11_odd_93 : decode cX11_odd 93 = .ok (.istore 7, 2) := by decide +kernel
theorem dX11_odd_95 : decode cX11_odd 95 = .ok (.aload 4, 2) := by decide +kernel
theorem dX11_odd_97 : decode cX11_odd 97 = .ok (.getfield 174, 3) := by decide +kernel
theorem dX11_odd_100 : decode cX11_odd 100 = .ok (.iconst 2, 1) := by decide +kernel
theorem dX11_odd_101 : decode cX11_odd 101 = .ok (.iload_n 2, 1) := by decide +kernel
theorem dX11_odd_102 : decode cX11_odd 102 = .ok (.imul, 1) := by decide +kernel
theorem dX11_odd_103 : decode cX11_odd 103 = .ok (.iconst 1, 1) := by decide +kernel
theorem dX11_odd_104 : decode cX11_odd 104 = .ok (.iadd, 1) := by decide +kernel
theorem dX11_odd_105 : decode cX11_odd 105 = .ok (.laload, 1) := by decide +kernel
theorem dX11_odd_106 : decode cX11_odd 106 = .ok (.iload 6, 2) := by decide +kernel
theorem dX11_odd_108 : decode cX11_odd 108 = .ok (.invokestatic 167, 3) := by decide +kernel
theorem dX11_odd_111 : decode cX11_odd 111 = .ok (.aload_n 0, 1) := by decide +kernel
theorem dX11_odd_112 : decode cX11_odd 112 = .ok (.getfield 65, 3) := by decide +kernel
theorem dX11_odd_115 : decode cX11_odd 115 = .ok (.iload_n 1, 1) := by decide +kernel
theorem dX11_odd_116 : decode cX11_odd 116 = .ok (.iload 5, 2) := by decide +kernel
theorem dX11_odd_118 : decode cX11_odd 118 = .ok (.iconst 2, 1) := by decide +kernel
theorem dX11_odd_119 : decode cX11_odd 119 = .ok (.iadd, 1) := by decide +kernel
theorem dX11_odd_120 : decode cX11_odd 120 = .ok (.invokevirtual 342, 3) := by decide +kernel
theorem dX11_odd_123 : decode cX11_odd 123 = .ok (.lconst 1, 1) := by decide +kernel
theorem dX11_odd_124 : decode cX11_odd 124 = .ok (.lcmp, 1) := by decide +kernel
theorem dX11_odd_125 : decode cX11_odd 125 = .ok (.ifCond .ne 7, 3) := by decide +kernel
theorem dX11_odd_128 : decode cX11_odd 128 = .ok (.iconst 1, 1) := by decide +kernel
theorem dX11_odd_129 : decode cX11_odd 129 = .ok (.goto 4, 3) := by decide +kernel
theorem dX11_odd_132 : decode cX11_odd 132 = .ok (.iconst 0, 1) := by decide +kernel
theorem dX11_odd_133 : decode cX11_odd 133 = .ok (.if_icmp .ne 7, 3) := by decide +kernel
theorem dX11_odd_136 : decode cX11_odd 136 = .ok (.iconst 1, 1) := by decide +kernel
theorem dX11_odd_137 : decode cX11_odd 137 = .ok (.goto 4, 3) := by decide +kernel
theorem dX11_odd_140 : decode cX11_odd 140 = .ok (.iconst 0, 1) := by decide +kernel
theorem dX11_odd_141 : decode cX11_odd 141 = .ok (.istore 8, 2) := by decide +kernel
theorem dX11_odd_143 : decode cX11_odd 143 = .ok (.iload 7, 2) := by decide +kernel
theorem dX11_odd_145 : decode cX11_odd 145 = .ok (.ifCond .eq 8, 3) := by decide +kernel
theorem dX11_odd_148 : decode cX11_odd 148 = .ok (.iload 8, 2) := by decide +kernel
theorem dX11_odd_150 : decode cX11_odd 150 = .ok (.ifCond .ne 8, 3) := by decide +kernel
theorem dX11_odd_153 : decode cX11_odd 153 = .ok (.iload 5, 2) := by decide +kernel
theorem dX11_odd_155 : decode cX11_odd 155 = .ok (.iconst 3, 1) := by decide +kernel
theorem dX11_odd_156 : decode cX11_odd 156 = .ok (.idiv, 1) := by decide +kernel
theorem dX11_odd_157 : decode cX11_odd 157 = .ok (.ireturn, 1) := by decide +kernel
theorem dX11_odd_158 : decode cX11_odd 158 = .ok (.iinc 5 3, 3) := by decide +kernel
theorem dX11_odd_161 : decode cX11_odd 161 = .ok (.goto (-139), 3) := by decide +kernel
theorem dX11_odd_164 : decode cX11_odd 164 = .ok (.iconst (-1), 1) := by decide +kernel
theorem dX11_odd_165 : decode cX11_odd 165 = .ok (.ireturn, 1) := by decide +kernel
theorem dX11_life_0 : decode cX11_life 0 = .ok (.aload_n 0, 1) := by decide +kernel
theorem dX11_life_1 : decode cX11_life 1 = .ok (.getfield 19, 3) := by decide +kernel
theorem dX11_life_4 : decode cX11_life 4 = .ok (.invokevirtual 220, 3) := by decide +kernel
theorem dX11_life_7 : decode cX11_life 7 = .ok (.ifCond .eq 18, 3) := by decide +kernel
theorem dX11_life_10 : decode cX11_life 10 = .ok (.iload_n 1, 1) := by decide +kernel
theorem dX11_life_11 : decode cX11_life 11 = .ok (.invokestatic 346, 3) := by decide +kernel
theorem dX11_life_14 : decode cX11_life 14 = .ok (.ifCond .eq 11, 3) := by decide +kernel
theorem dX11_life_17 : decode cX11_life 17 = .ok (.iload_n 2, 1) := by decide +kernel
theorem dX11_life_18 : decode cX11_life 18 = .ok (.iconst 3, 1) := by decide +kernel
theorem dX11_life_19 : decode cX11_life 19 = .ok (.invokestatic 148, 3) := by decide +kernel
theorem dX11_life_22 : decode cX11_life 22 = .ok (.ifCond .ne 6, 3) := by decide +kernel
theorem dX11_life_25 : decode cX11_life 25 = .ok (.bipush (-2), 2) := by decide +kernel
theorem dX11_life_27 : decode cX11_life 27 = .ok (.ireturn, 1) := by decide +kernel
theorem dX11_life_28 : decode cX11_life 28 = .ok (.aload_n 0, 1) := by decide +kernel
theorem dX11_life_29 : decode cX11_life 29 = .ok (.getfield 79, 3) := by decide +kernel
theorem dX11_life_32 : decode cX11_life 32 = .ok (.aload_n 0, 1) := by decide +kernel
theorem dX11_life_33 : decode cX11_life 33 = .ok (.getfield 19, 3) := by decide +kernel
theorem dX11_life_36 : decode cX11_life 36 = .ok (.iload_n 1, 1) := by decide +kernel
theorem dX11_life_37 : decode cX11_life 37 = .ok (.invokevirtual 349, 3) := by decide +kernel
theorem dX11_life_40 : decode cX11_life 40 = .ok (.iload_n 2, 1) := by decide +kernel
theorem dX11_life_41 : decode cX11_life 41 = .ok (.ifCond .ne 11, 3) := by decide +kernel
theorem dX11_life_44 : decode cX11_life 44 = .ok (.aload_n 0, 1) := by decide +kernel
theorem dX11_life_45 : decode cX11_life 45 = .ok (.getfield 79, 3) := by decide +kernel
theorem dX11_life_48 : decode cX11_life 48 = .ok (.getfield 352, 3) := by decide +kernel
theorem dX11_life_51 : decode cX11_life 51 = .ok (.ireturn, 1) := by decide +kernel
theorem dX11_life_52 : decode cX11_life 52 = .ok (.iload_n 2, 1) := by decide +kernel
theorem dX11_life_53 : decode cX11_life 53 = .ok (.iconst 1, 1) := by decide +kernel
theorem dX11_life_54 : decode cX11_life 54 = .ok (.if_icmp .ne 17, 3) := by decide +kernel
theorem dX11_life_57 : decode cX11_life 57 = .ok (.aload_n 0, 1) := by decide +kernel
theorem dX11_life_58 : decode cX11_life 58 = .ok (.getfield 79, 3) := by decide +kernel
theorem dX11_life_61 : decode cX11_life 61 = .ok (.aload_n 0, 1) := by decide +kernel
theorem dX11_life_62 : decode cX11_life 62 = .ok (.getfield 19, 3) := by decide +kernel
theorem dX11_life_65 : decode cX11_life 65 = .ok (.invokevirtual 355, 3) := by decide +kernel
theorem dX11_life_68 : decode cX11_life 68 = .ok (.goto 10, 3) := by decide +kernel
theorem dX11_life_71 : decode cX11_life 71 = .ok (.aload_n 0, 1) := by decide +kernel
theorem dX11_life_72 : decode cX11_life 72 = .ok (.getfield 79, 3) := by decide +kernel
theorem dX11_life_75 : decode cX11_life 75 = .ok (.getfield 359, 3) := by decide +kernel
theorem dX11_life_78 : decode cX11_life 78 = .ok (.ireturn, 1) := by decide +kernel
