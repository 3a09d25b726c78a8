theorem dX12_common_0 : decode cX12_common 0 = .ok (.lload_n 2, 1) := by decide +kernel
theorem dX12_common_1 : decode cX12_common 1 = .ok (.lconst 0, 1) := by decide +kernel
theorem dX12_common_2 : decode cX12_common 2 = .ok (.lcmp, 1) := by decide +kernel
theorem dX12_common_3 : decode cX12_common 3 = .ok (.ifCond .ne 7, 3) := by decide +kernel
theorem dX12_common_6 : decode cX12_common 6 = .ok (.lload_n 0, 1) := by decide +kernel
theorem dX12_common_7 : decode cX12_common 7 = .ok (.goto 10, 3) := by decide +kernel
theorem dX12_common_10 : decode cX12_common 10 = .ok (.lload_n 2, 1) := by decide +kernel
theorem dX12_common_11 : decode cX12_common 11 = .ok (.lload_n 0, 1) := by decide +kernel
theorem dX12_common_12 : decode cX12_common 12 = .ok (.lload_n 2, 1) := by decide +kernel
theorem dX12_common_13 : decode cX12_common 13 = .ok (.lrem, 1) := by decide +kernel
theorem dX12_common_14 : decode cX12_common 14 = .ok (.invokestatic 453, 3) := by decide +kernel
theorem dX12_common_17 : decode cX12_common 17 = .ok (.lreturn, 1) := by decide +kernel
theorem dX12_told_0 : decode cX12_told 0 = .ok (.iload 4, 2) := by decide +kernel
theorem dX12_told_2 : decode cX12_told 2 = .ok (.ifCond .ne 7, 3) := by decide +kernel
theorem dX12_told_5 : decode cX12_told 5 = .ok (.lload_n 0, 1) := by decide +kernel
theorem dX12_told_6 : decode cX12_told 6 = .ok (.goto 4, 3) := by decide +kernel
theorem dX12_told_9 : decode cX12_told 9 = .ok (.lload_n 2, 1) := by decide +kernel
theorem dX12_told_10 : decode cX12_told 10 = .ok (.lload_n 0, 1) := by decide +kernel
theorem dX12_told_11 : decode cX12_told 11 = .ok (.lload_n 2, 1) := by decide +kernel
theorem dX12_told_12 : decode cX12_told 12 = .ok (.invokestatic 453, 3) := by decide +kernel
theorem dX12_told_15 : decode cX12_told 15 = .ok (.ldiv, 1) := by decide +kernel
theorem dX12_told_16 : decode cX12_told 16 = .ok (.lreturn, 1) := by decide +kernel
theorem dX12_alive_0 : decode cX12_alive 0 = .ok (.aload_n 0, 1) := by decide +kernel
theorem dX12_alive_1 : decode cX12_alive 1 = .ok (.iconst 0, 1) := by decide +kernel
theorem dX12_alive_2 : decode cX12_alive 2 = .ok (.putfield 107, 3) := by decide +kernel
theorem dX12_alive_5 : decode cX12_alive 5 = .ok (.aload_n 0, 1) := by decide +kernel
theorem dX12_alive_6 : decode cX12_alive 6 = .ok (.iload_n 1, 1) := by decide +kernel
theorem dX12_alive_7 : decode cX12_alive 7 = .ok (.iload_n 2, 1) := by decide +kernel
theorem dX12_alive_8 : decode cX12_alive 8 = .ok (.iload_n 3, 1) := by decide +kernel
theorem dX12_alive_9 : decode cX12_alive 9 = .ok (.invokevirtual 457, 3) := by decide +kernel
theorem dX12_alive_12 : decode cX12_alive 12 = .ok (.ifCond .ne 7, 3) := by decide +kernel
theorem dX12_alive_15 : decode cX12_alive 15 = .ok (.ldc2_w 460, 3) := by decide +kernel
theorem dX12_alive_18 : decode cX12_alive 18 = .ok (.lreturn, 1) := by decide +kernel
theorem dX12_alive_19 : decode cX12_alive 19 = .ok (.aload_n 0, 1) := by decide +kernel
theorem dX12_alive_20 : decode cX12_alive 20 = .ok (.iload_n 1, 1) := by decide +kernel
theorem dX12_alive_21 : decode cX12_alive 21 = .ok (.iload_n 2, 1) := by decide +kernel
theorem dX12_alive_22 : decode cX12_alive 22 = .ok (.invokevirtual 462, 3) := by decide +kernel
theorem dX12_alive_25 : decode cX12_alive 25 = .ok (.lstore 4, 2) := by decide +kernel
theorem dX12_alive_27 : decode cX12_alive 27 = .ok (.aload_n 0, 1) := by decide +kernel
theorem dX12_alive_28 : decode cX12_alive 28 = .ok (.getfield 439, 3) := by decide +kernel
theorem dX12_alive_31 : decode cX12_alive 31 = .ok (.lload 4, 2) := by decide +kernel
theorem dX12_alive_33 : decode cX12_alive 33 = .ok (.iload_n 3, 1) := by decide +kernel
theorem dX12_alive_34 : decode cX12_alive 34 = .ok (.invokestatic 466, 3) := by decide +kernel
theorem dX12_alive_37 : decode cX12_alive 37 = .ok (.lreturn, 1) := by decide +kernel
theorem dX12_both_0 : decode cX12_both 0 = .ok (.aload_n 0, 1) := by decide +kernel
theorem dX12_both_1 : decode cX12_both 1 = .ok (.iconst 0, 1) := by decide +kernel
theorem dX12_both_2 : decode cX12_both 2 = .ok (.putfield 107, 3) := by decide +kernel
theorem dX12_both_5 : decode cX12_both 5 = .ok (.aload_n 0, 1) := by decide +kernel
theorem dX12_both_6 : decode cX12_both 6 = .ok (.iload_n 1, 1) := by decide +kernel
theorem dX12_both_7 : decode cX12_both 7 = .ok (.iload_n 2, 1) := by decide +kernel
theorem dX12_both_8 : decode cX12_both 8 = .ok (.iload_n 3, 1) := by decide +kernel
theorem dX12_both_9 : decode cX12_both 9 = .ok (.invokevirtual 457, 3) := by decide +kernel
theorem dX12_both_12 : decode cX12_both 12 = .ok (.ifCond .ne 7, 3) := by decide +kernel
theorem dX12_both_15 : decode cX12_both 15 = .ok (.ldc2_w 460, 3) := by decide +kernel
theorem dX12_both_18 : decode cX12_both 18 = .ok (.lreturn, 1) := by decide +kernel
theorem dX12_both_19 : decode cX12_both 19 = .ok (.aload_n 0, 1) := by decide +kernel
theorem dX12_both_20 : decode cX12_both 20 = .ok (.iload_n 1, 1) := by decide +kernel
theorem dX12_both_21 : decode cX12_both 21 = .ok (.iload_n 2, 1) := by decide +kernel
theorem dX12_both_22 : decode cX12_both 22 = .ok (.invokevirtual 462, 3) := by decide +kernel
theorem dX12_both_25 : decode cX12_both 25 = .ok (.lstore 4, 2) := by decide +kernel
theorem dX12_both_27 : decode cX12_both 27 = .ok (.aload_n 0, 1) := by decide +kernel
theorem dX12_both_28 : decode cX12_both 28 = .ok (.getfield 442, 3) := by decide +kernel
theorem dX12_both_31 : decode cX12_both 31 = .ok (.lload 4, 2) := by decide +kernel
theorem dX12_both_33 : decode cX12_both 33 = .ok (.iload_n 3, 1) := by decide +kernel
theorem dX12_both_34 : decode cX12_both 34 = .ok (.invokestatic 466, 3) := by decide +kernel
theorem dX12_both_37 : decode cX12_both 37 = .ok (.lreturn, 1) := by decide +kernel
theorem dX12_wills_0 : decode cX12_wills 0 = .ok (.iload_n 2, 1) := by decide +kernel
theorem dX12_wills_1 : decode cX12_wills 1 = .ok (.ifCond .ne 7, 3) := by decide +kernel
theorem dX12_wills_4 : decode cX12_wills 4 = .ok (.iconst 0, 1) := by decide +kernel
theorem dX12_wills_5 : decode cX12_wills 5 = .ok (.goto 9, 3) := by decide +kernel
theorem dX12_wills_8 : decode cX12_wills 8 = .ok (.aload_n 0, 1) := by decide +kernel
theorem dX12_wills_9 : decode cX12_wills 9 = .ok (.iload_n 1, 1) := by decide +kernel
theorem dX12_wills_10 : decode cX12_wills 10 = .ok (.iconst 0, 1) := by decide +kernel
theorem dX12_wills_11 : decode cX12_wills 11 = .ok (.invokevirtual 409, 3) := by decide +kernel
theorem dX12_wills_14 : decode cX12_wills 14 = .ok (.istore 5, 2) := by decide +kernel
theorem dX12_wills_16 : decode cX12_wills 16 = .ok (.iload_n 2, 1) := by decide +kernel
theorem dX12_wills_17 : decode cX12_wills 17 = .ok (.iconst 1, 1) := by decide +kernel
theorem dX12_wills_18 : decode cX12_wills 18 = .ok (.if_icmp .ne 7, 3) := by decide +kernel
theorem dX12_wills_21 : decode cX12_wills 21 = .ok (.iconst 0, 1) := by decide +kernel
theorem dX12_wills_22 : decode cX12_wills 22 = .ok (.goto 9, 3) := by decide +kernel
theorem dX12_wills_25 : decode cX12_wills 25 = .ok (.aload_n 0, 1) := by decide +kernel
theorem dX12_wills_26 : decode cX12_wills 26 = .ok (.iload_n 1, 1) := by decide +kernel
theorem dX12_wills_27 : decode cX12_wills 27 = .ok (.iconst 1, 1) := by decide +kernel
theorem dX12_wills_28 : decode cX12_wills 28 = .ok (.invokevirtual 409, 3) := by decide +kernel
theorem dX12_wills_31 : decode cX12_wills 31 = .ok (.istore 6, 2) := by decide +kernel
theorem dX12_wills_33 : decode cX12_wills 33 = .ok (.iconst 0, 1) := by decide +kernel
theorem dX12_wills_34 : decode cX12_wills 34 = .ok (.istore 7, 2) := by decide +kernel
theorem dX12_wills_36 : decode cX12_wills 36 = .ok (.iload 7, 2) := by decide +kernel
theorem dX12_wills_38 : decode cX12_wills 38 = .ok (.bipush 16, 2) := by decide +kernel
theorem dX12_wills_40 : decode cX12_wills 40 = .ok (.if_icmp .ge 40, 3) := by decide +kernel
theorem dX12_wills_43 : decode cX12_wills 43 = .ok (.aload_n 0, 1) := by decide +kernel
theorem dX12_wills_44 : decode cX12_wills 44 = .ok (.getfield 98, 3) := by decide +kernel
theorem dX12_wills_47 : decode cX12_wills 47 = .ok (.iload 7, 2) := by decide +kernel
theorem dX12_wills_49 : decode cX12_wills 49 = .ok (.iload 4, 2) := by decide +kernel
theorem dX12_wills_51 : decode cX12_wills 51 = .ok (.ifCond .ne 16, 3) := by decide +kernel
theorem dX12_wills_54 : decode cX12_wills 54 = .ok (.aload_n 0, 1) := by decide +kernel
theorem dX12_wills_55 : decode cX12_wills 55 = .ok (.iload 5, 2) := by decide +kernel
theorem dX12_wills_57 : decode cX12_wills 57 = .ok (.iload 6, 2) := by decide +kernel
theorem dX12_wills_59 : decode cX12_wills 59 = .ok (.iload 7, 2) := by decide +kernel
theorem dX12_wills_61 : decode cX12_wills 61 = .ok (.invokevirtual 415, 3) := by decide +kernel
theorem dX12_wills_64 : decode cX12_wills 64 = .ok (.ifCond .ne 7, 3) := by decide +kernel
theorem dX12_wills_67 : decode cX12_wills 67 = .ok (.iconst 0, 1) := by decide +kernel
theorem dX12_wills_68 : decode cX12_wills 68 = .ok (.goto 5, 3) := by decide +kernel
theorem dX12_wills_71 : decode cX12_wills 71 = .ok (.ldc 158, 2) := by decide +kernel
theorem dX12_wills_73 : decode cX12_wills 73 = .ok (.iastore, 1) := by decide +kernel
theorem dX12_wills_74 : decode cX12_wills 74 = .ok (.iinc 7 1, 3) := by decide +kernel
theorem dX12_wills_77 : decode cX12_wills 77 = .ok (.goto (-41), 3) := by decide +kernel
theorem dX12_wills_80 : decode cX12_wills 80 = .ok (.aload_n 0, 1) := by decide +kernel
theorem dX12_wills_81 : decode cX12_wills 81 = .ok (.iload 5, 2) := by decide +kernel
theorem dX12_wills_83 : decode cX12_wills 83 = .ok (.iload 6, 2) := by decide +kernel
theorem dX12_wills_85 : decode cX12_wills 85 = .ok (.invokevirtual 382, 3) := by decide +kernel
theorem dX12_wills_88 : decode cX12_wills 88 = .ok (.aload_n 0, 1) := by decide +kernel
theorem dX12_wills_89 : decode cX12_wills 89 = .ok (.iload_n 2, 1) := by decide +kernel
theorem dX12_wills_90 : decode cX12_wills 90 = .ok (.putfield 68, 3) := by decide +kernel
theorem dX12_wills_93 : decode cX12_wills 93 = .ok (.iconst 1, 1) := by decide +kernel
theorem dX12_wills_94 : decode cX12_wills 94 = .ok (.istore 7, 2) := by decide +kernel
theorem dX12_wills_96 : decode cX12_wills 96 = .ok (.iload 7, 2) := by decide +kernel
theorem dX12_wills_98 : decode cX12_wills 98 = .ok (.iload_n 3, 1) := by decide +kernel
theorem dX12_wills_99 : decode cX12_wills 99 = .ok (.if_icmp .gt 80, 3) := by decide +kernel
theorem dX12_wills_102 : decode cX12_wills 102 = .ok (.iconst 0, 1) := by decide +kernel
theorem dX12_wills_103 : decode cX12_wills 103 = .ok (.istore 8, 2) := by decide +kernel
theorem dX12_wills_105 : decode cX12_wills 105 = .ok (.iload 8, 2) := by decide +kernel
theorem dX12_wills_107 : decode cX12_wills 107 = .ok (.bipush 16, 2) := by decide +kernel
theorem dX12_wills_109 : decode cX12_wills 109 = .ok (.if_icmp .ge 64, 3) := by decide +kernel
theorem dX12_wills_112 : decode cX12_wills 112 = .ok (.aload_n 0, 1) := by decide +kernel
theorem dX12_wills_113 : decode cX12_wills 113 = .ok (.iload_n 2, 1) := by decide +kernel
theorem dX12_wills_114 : decode cX12_wills 114 = .ok (.iload 7, 2) := by decide +kernel
theorem dX12_wills_116 : decode cX12_wills 116 = .ok (.iload 8, 2) := by decide +kernel
theorem dX12_wills_118 : decode cX12_wills 118 = .ok (.iconst 0, 1) := by decide +kernel
theorem dX12_wills_119 : decode cX12_wills 119 = .ok (.iload 4, 2) := by decide +kernel
theorem dX12_wills_121 : decode cX12_wills 121 = .ok (.invokevirtual 470, 3) := by decide +kernel
theorem dX12_wills_124 : decode cX12_wills 124 = .ok (.istore 9, 2) := by decide +kernel
theorem dX12_wills_126 : decode cX12_wills 126 = .ok (.aload_n 0, 1) := by decide +kernel
theorem dX12_wills_127 : decode cX12_wills 127 = .ok (.iload_n 2, 1) := by decide +kernel
theorem dX12_wills_128 : decode cX12_wills 128 = .ok (.iload 7, 2) := by decide +kernel
theorem dX12_wills_130 : decode cX12_wills 130 = .ok (.iload 8, 2) := by decide +kernel
theorem dX12_wills_132 : decode cX12_wills 132 = .ok (.iconst 1, 1) := by decide +kernel
theorem dX12_wills_133 : decode cX12_wills 133 = .ok (.iload 4, 2) := by decide +kernel
theorem dX12_wills_135 : decode cX12_wills 135 = .ok (.invokevirtual 470, 3) := by decide +kernel
theorem dX12_wills_138 : decode cX12_wills 138 = .ok (.istore 10, 2) := by decide +kernel
theorem dX12_wills_140 : decode cX12_wills 140 = .ok (.aload_n 0, 1) := by decide +kernel
theorem dX12_wills_141 : decode cX12_wills 141 = .ok (.getfield 98, 3) := by decide +kernel
theorem dX12_wills_144 : decode cX12_wills 144 = .ok (.bipush 16, 2) := by decide +kernel
theorem dX12_wills_146 : decode cX12_wills 146 = .ok (.iload 7, 2) := by decide +kernel
theorem dX12_wills_148 : decode cX12_wills 148 = .ok (.imul, 1) := by decide +kernel
theorem dX12_wills_149 : decode cX12_wills 149 = .ok (.iload 8, 2) := by decide +kernel
theorem dX12_wills_151 : decode cX12_wills 151 = .ok (.iadd, 1) := by decide +kernel
theorem dX12_wills_152 : decode cX12_wills 152 = .ok (.iload 10, 2) := by decide +kernel
theorem dX12_wills_154 : decode cX12_wills 154 = .ok (.iload 9, 2) := by decide +kernel
theorem dX12_wills_156 : decode cX12_wills 156 = .ok (.if_icmp .ge 8, 3) := by decide +kernel
theorem dX12_wills_159 : decode cX12_wills 159 = .ok (.iload 10, 2) := by decide +kernel
theorem dX12_wills_161 : decode cX12_wills 161 = .ok (.goto 5, 3) := by decide +kernel
theorem dX12_wills_164 : decode cX12_wills 164 = .ok (.iload 9, 2) := by decide +kernel
theorem dX12_wills_166 : decode cX12_wills 166 = .ok (.iastore, 1) := by decide +kernel
theorem dX12_wills_167 : decode cX12_wills 167 = .ok (.iinc 8 1, 3) := by decide +kernel
theorem dX12_wills_170 : decode cX12_wills 170 = .ok (.goto (-65), 3) := by decide +kernel
theorem dX12_wills_173 : decode cX12_wills 173 = .ok (.iinc 7 1, 3) := by decide +kernel
theorem dX12_wills_176 : decode cX12_wills 176 = .ok (.goto (-80), 3) := by decide +kernel
theorem dX12_wills_179 : decode cX12_wills 179 = .ok (.aload_n 0, 1) := by decide +kernel
theorem dX12_wills_180 : decode cX12_wills 180 = .ok (.iconst (-1), 1) := by decide +kernel
theorem dX12_wills_181 : decode cX12_wills 181 = .ok (.putfield 68, 3) := by decide +kernel
theorem dX12_wills_184 : decode cX12_wills 184 = .ok (.return_, 1) := by decide +kernel
theorem dX12_leastOf_0 : decode cX12_leastOf 0 = .ok (.aload_n 0, 1) := by decide +kernel
theorem dX12_leastOf_1 : decode cX12_leastOf 1 = .ok (.iload_n 1, 1) := by decide +kernel
theorem dX12_leastOf_2 : decode cX12_leastOf 2 = .ok (.iload_n 2, 1) := by decide +kernel
theorem dX12_leastOf_3 : decode cX12_leastOf 3 = .ok (.iload_n 3, 1) := by decide +kernel
theorem dX12_leastOf_4 : decode cX12_leastOf 4 = .ok (.iload 4, 2) := by decide +kernel
theorem dX12_leastOf_6 : decode cX12_leastOf 6 = .ok (.invokevirtual 477, 3) := by decide +kernel
theorem dX12_leastOf_9 : decode cX12_leastOf 9 = .ok (.aload_n 0, 1) := by decide +kernel
theorem dX12_leastOf_10 : decode cX12_leastOf 10 = .ok (.getfield 98, 3) := by decide +kernel
theorem dX12_leastOf_13 : decode cX12_leastOf 13 = .ok (.bipush 16, 2) := by decide +kernel
theorem dX12_leastOf_15 : decode cX12_leastOf 15 = .ok (.iload_n 3, 1) := by decide +kernel
theorem dX12_leastOf_16 : decode cX12_leastOf 16 = .ok (.imul, 1) := by decide +kernel
theorem dX12_leastOf_17 : decode cX12_leastOf 17 = .ok (.aload_n 0, 1) := by decide +kernel
theorem dX12_leastOf_18 : decode cX12_leastOf 18 = .ok (.getfield 40, 3) := by decide +kernel
theorem dX12_leastOf_21 : decode cX12_leastOf 21 = .ok (.iconst 3, 1) := by decide +kernel
theorem dX12_leastOf_22 : decode cX12_leastOf 22 = .ok (.iload_n 1, 1) := by decide +kernel
theorem dX12_leastOf_23 : decode cX12_leastOf 23 = .ok (.imul, 1) := by decide +kernel
theorem dX12_leastOf_24 : decode cX12_leastOf 24 = .ok (.iconst 2, 1) := by decide +kernel
theorem dX12_leastOf_25 : decode cX12_leastOf 25 = .ok (.iadd, 1) := by decide +kernel
theorem dX12_leastOf_26 : decode cX12_leastOf 26 = .ok (.iaload, 1) := by decide +kernel
theorem dX12_leastOf_27 : decode cX12_leastOf 27 = .ok (.iadd, 1) := by decide +kernel
theorem dX12_leastOf_28 : decode cX12_leastOf 28 = .ok (.iaload, 1) := by decide +kernel
theorem dX12_leastOf_29 : decode cX12_leastOf 29 = .ok (.istore 5, 2) := by decide +kernel
theorem dX12_leastOf_31 : decode cX12_leastOf 31 = .ok (.iload 5, 2) := by decide +kernel
theorem dX12_leastOf_33 : decode cX12_leastOf 33 = .ok (.ldc 158, 2) := by decide +kernel
theorem dX12_leastOf_35 : decode cX12_leastOf 35 = .ok (.if_icmp .lt 7, 3) := by decide +kernel
theorem dX12_leastOf_38 : decode cX12_leastOf 38 = .ok (.iconst (-1), 1) := by decide +kernel
theorem dX12_leastOf_39 : decode cX12_leastOf 39 = .ok (.goto 5, 3) := by decide +kernel
theorem dX12_leastOf_42 : decode cX12_leastOf 42 = .ok (.iload 5, 2) := by decide +kernel
theorem dX12_leastOf_44 : decode cX12_leastOf 44 = .ok (.ireturn, 1) := by decide +kernel
theorem dX12_stepOf_0 : decode cX12_stepOf 0 = .ok (.aload_n 0, 1) := by decide +kernel
theorem dX12_stepOf_1 : decode cX12_stepOf 1 = .ok (.iload_n 1, 1) := by decide +kernel
theorem dX12_stepOf_2 : decode cX12_stepOf 2 = .ok (.iload_n 2, 1) := by decide +kernel
theorem dX12_stepOf_3 : decode cX12_stepOf 3 = .ok (.iload_n 3, 1) := by decide +kernel
theorem dX12_stepOf_4 : decode cX12_stepOf 4 = .ok (.iload 5, 2) := by decide +kernel
theorem dX12_stepOf_6 : decode cX12_stepOf 6 = .ok (.invokevirtual 481, 3) := by decide +kernel
theorem dX12_stepOf_9 : decode cX12_stepOf 9 = .ok (.iconst (-1), 1) := by decide +kernel
theorem dX12_stepOf_10 : decode cX12_stepOf 10 = .ok (.if_icmp .eq 17, 3) := by decide +kernel
theorem dX12_stepOf_13 : decode cX12_stepOf 13 = .ok (.iload 4, 2) := by decide +kernel
theorem dX12_stepOf_15 : decode cX12_stepOf 15 = .ok (.i2l, 1) := by decide +kernel
theorem dX12_stepOf_16 : decode cX12_stepOf 16 = .ok (.lconst 0, 1) := by decide +kernel
theorem dX12_stepOf_17 : decode cX12_stepOf 17 = .ok (.iload_n 3, 1) := by decide +kernel
theorem dX12_stepOf_18 : decode cX12_stepOf 18 = .ok (.iconst 1, 1) := by decide +kernel
theorem dX12_stepOf_19 : decode cX12_stepOf 19 = .ok (.isub, 1) := by decide +kernel
theorem dX12_stepOf_20 : decode cX12_stepOf 20 = .ok (.i2l, 1) := by decide +kernel
theorem dX12_stepOf_21 : decode cX12_stepOf 21 = .ok (.invokestatic 112, 3) := by decide +kernel
theorem dX12_stepOf_24 : decode cX12_stepOf 24 = .ok (.ifCond .ne 5, 3) := by decide +kernel
theorem dX12_stepOf_27 : decode cX12_stepOf 27 = .ok (.iconst (-1), 1) := by decide +kernel
theorem dX12_stepOf_28 : decode cX12_stepOf 28 = .ok (.ireturn, 1) := by decide +kernel
theorem dX12_stepOf_29 : decode cX12_stepOf 29 = .ok (.aload_n 0, 1) := by decide +kernel
theorem dX12_stepOf_30 : decode cX12_stepOf 30 = .ok (.iload_n 2, 1) := by decide +kernel
theorem dX12_stepOf_31 : decode cX12_stepOf 31 = .ok (.putfield 68, 3) := by decide +kernel
theorem dX12_stepOf_34 : decode cX12_stepOf 34 = .ok (.aload_n 0, 1) := by decide +kernel
theorem dX12_stepOf_35 : decode cX12_stepOf 35 = .ok (.getfield 40, 3) := by decide +kernel
theorem dX12_stepOf_38 : decode cX12_stepOf 38 = .ok (.iconst 3, 1) := by decide +kernel
theorem dX12_stepOf_39 : decode cX12_stepOf 39 = .ok (.iload_n 1, 1) := by decide +kernel
theorem dX12_stepOf_40 : decode cX12_stepOf 40 = .ok (.imul, 1) := by decide +kernel
theorem dX12_stepOf_41 : decode cX12_stepOf 41 = .ok (.iconst 2, 1) := by decide +kernel
theorem dX12_stepOf_42 : decode cX12_stepOf 42 = .ok (.iadd, 1) := by decide +kernel
theorem dX12_stepOf_43 : decode cX12_stepOf 43 = .ok (.iaload, 1) := by decide +kernel
theorem dX12_stepOf_44 : decode cX12_stepOf 44 = .ok (.istore 6, 2) := by decide +kernel
theorem dX12_stepOf_46 : decode cX12_stepOf 46 = .ok (.iconst 0, 1) := by decide +kernel
theorem dX12_stepOf_47 : decode cX12_stepOf 47 = .ok (.istore 7, 2) := by decide +kernel
theorem dX12_stepOf_49 : decode cX12_stepOf 49 = .ok (.iload_n 3, 1) := by decide +kernel
theorem dX12_stepOf_50 : decode cX12_stepOf 50 = .ok (.istore 8, 2) := by decide +kernel
theorem dX12_stepOf_52 : decode cX12_stepOf 52 = .ok (.iload 8, 2) := by decide +kernel
theorem dX12_stepOf_54 : decode cX12_stepOf 54 = .ok (.iload_n 3, 1) := by decide +kernel
theorem dX12_stepOf_55 : decode cX12_stepOf 55 = .ok (.iload 4, 2) := by decide +kernel
theorem dX12_stepOf_57 : decode cX12_stepOf 57 = .ok (.isub, 1) := by decide +kernel
theorem dX12_stepOf_58 : decode cX12_stepOf 58 = .ok (.if_icmp .lt 58, 3) := by decide +kernel
theorem dX12_stepOf_61 : decode cX12_stepOf 61 = .ok (.aload_n 0, 1) := by decide +kernel
theorem dX12_stepOf_62 : decode cX12_stepOf 62 = .ok (.iload_n 2, 1) := by decide +kernel
theorem dX12_stepOf_63 : decode cX12_stepOf 63 = .ok (.iload 8, 2) := by decide +kernel
theorem dX12_stepOf_65 : decode cX12_stepOf 65 = .ok (.iload 6, 2) := by decide +kernel
theorem dX12_stepOf_67 : decode cX12_stepOf 67 = .ok (.iconst 0, 1) := by decide +kernel
theorem dX12_stepOf_68 : decode cX12_stepOf 68 = .ok (.iload 5, 2) := by decide +kernel
theorem dX12_stepOf_70 : decode cX12_stepOf 70 = .ok (.invokevirtual 470, 3) := by decide +kernel
theorem dX12_stepOf_73 : decode cX12_stepOf 73 = .ok (.aload_n 0, 1) := by decide +kernel
theorem dX12_stepOf_74 : decode cX12_stepOf 74 = .ok (.getfield 98, 3) := by decide +kernel
theorem dX12_stepOf_77 : decode cX12_stepOf 77 = .ok (.bipush 16, 2) := by decide +kernel
theorem dX12_stepOf_79 : decode cX12_stepOf 79 = .ok (.iload 8, 2) := by decide +kernel
theorem dX12_stepOf_81 : decode cX12_stepOf 81 = .ok (.imul, 1) := by decide +kernel
theorem dX12_stepOf_82 : decode cX12_stepOf 82 = .ok (.iload 6, 2) := by decide +kernel
theorem dX12_stepOf_84 : decode cX12_stepOf 84 = .ok (.iadd, 1) := by decide +kernel
theorem dX12_stepOf_85 : decode cX12_stepOf 85 = .ok (.iaload, 1) := by decide +kernel
theorem dX12_stepOf_86 : decode cX12_stepOf 86 = .ok (.if_icmp .eq 7, 3) := by decide +kernel
theorem dX12_stepOf_89 : decode cX12_stepOf 89 = .ok (.iconst 1, 1) := by decide +kernel
theorem dX12_stepOf_90 : decode cX12_stepOf 90 = .ok (.goto 4, 3) := by decide +kernel
theorem dX12_stepOf_93 : decode cX12_stepOf 93 = .ok (.iconst 0, 1) := by decide +kernel
theorem dX12_stepOf_94 : decode cX12_stepOf 94 = .ok (.istore 7, 2) := by decide +kernel
theorem dX12_stepOf_96 : decode cX12_stepOf 96 = .ok (.aload_n 0, 1) := by decide +kernel
theorem dX12_stepOf_97 : decode cX12_stepOf 97 = .ok (.iload 7, 2) := by decide +kernel
theorem dX12_stepOf_99 : decode cX12_stepOf 99 = .ok (.putfield 312, 3) := by decide +kernel
theorem dX12_stepOf_102 : decode cX12_stepOf 102 = .ok (.aload_n 0, 1) := by decide +kernel
theorem dX12_stepOf_103 : decode cX12_stepOf 103 = .ok (.iload 6, 2) := by decide +kernel
theorem dX12_stepOf_105 : decode cX12_stepOf 105 = .ok (.invokevirtual 333, 3) := by decide +kernel
theorem dX12_stepOf_108 : decode cX12_stepOf 108 = .ok (.istore 6, 2) := by decide +kernel
theorem dX12_stepOf_110 : decode cX12_stepOf 110 = .ok (.iinc 8 (-1), 3) := by decide +kernel
theorem dX12_stepOf_113 : decode cX12_stepOf 113 = .ok (.goto (-61), 3) := by decide +kernel
theorem dX12_stepOf_116 : decode cX12_stepOf 116 = .ok (.aload_n 0, 1) := by decide +kernel
theorem dX12_stepOf_117 : decode cX12_stepOf 117 = .ok (.iconst (-1), 1) := by decide +kernel
theorem dX12_stepOf_118 : decode cX12_stepOf 118 = .ok (.putfield 68, 3) := by decide +kernel
theorem dX12_stepOf_121 : decode cX12_stepOf 121 = .ok (.iload 7, 2) := by decide +kernel
theorem dX12_stepOf_123 : decode cX12_stepOf 123 = .ok (.ifCond .eq 7, 3) := by decide +kernel
theorem dX12_stepOf_126 : decode cX12_stepOf 126 = .ok (.iconst 1, 1) := by decide +kernel
theorem dX12_stepOf_127 : decode cX12_stepOf 127 = .ok (.goto 4, 3) := by decide +kernel
theorem dX12_stepOf_130 : decode cX12_stepOf 130 = .ok (.iconst 0, 1) := by decide +kernel
theorem dX12_stepOf_131 : decode cX12_stepOf 131 = .ok (.ireturn, 1) := by decide +kernel
theorem dX12_ending_0 : decode cX12_ending 0 = .ok (.aload_n 0, 1) := by decide +kernel
theorem dX12_ending_1 : decode cX12_ending 1 = .ok (.iconst 0, 1) := by decide +kernel
theorem dX12_ending_2 : decode cX12_ending 2 = .ok (.putfield 107, 3) := by decide +kernel
theorem dX12_ending_5 : decode cX12_ending 5 = .ok (.aload_n 0, 1) := by decide +kernel
theorem dX12_ending_6 : decode cX12_ending 6 = .ok (.iload_n 1, 1) := by decide +kernel
theorem dX12_ending_7 : decode cX12_ending 7 = .ok (.iload_n 2, 1) := by decide +kernel
theorem dX12_ending_8 : decode cX12_ending 8 = .ok (.iload_n 3, 1) := by decide +kernel
theorem dX12_ending_9 : decode cX12_ending 9 = .ok (.invokevirtual 487, 3) := by decide +kernel
theorem dX12_ending_12 : decode cX12_ending 12 = .ok (.ifCond .eq 14, 3) := by decide +kernel
theorem dX12_ending_15 : decode cX12_ending 15 = .ok (.aload_n 0, 1) := by decide +kernel
theorem dX12_ending_16 : decode cX12_ending 16 = .ok (.iload_n 1, 1) := by decide +kernel
theorem dX12_ending_17 : decode cX12_ending 17 = .ok (.iload_n 2, 1) := by decide +kernel
theorem dX12_ending_18 : decode cX12_ending 18 = .ok (.iload_n 3, 1) := by decide +kernel
theorem dX12_ending_19 : decode cX12_ending 19 = .ok (.iconst 0, 1) := by decide +kernel
theorem dX12_ending_20 : decode cX12_ending 20 = .ok (.invokevirtual 481, 3) := by decide +kernel
theorem dX12_ending_23 : decode cX12_ending 23 = .ok (.goto 5, 3) := by decide +kernel
theorem dX12_ending_26 : decode cX12_ending 26 = .ok (.bipush (-2), 2) := by decide +kernel
theorem dX12_ending_28 : decode cX12_ending 28 = .ok (.ireturn, 1) := by decide +kernel
theorem dX12_step_0 : decode cX12_step 0 = .ok (.aload_n 0, 1) := by decide +kernel
theorem dX12_step_1 : decode cX12_step 1 = .ok (.iconst 0, 1) := by decide +kernel
theorem dX12_step_2 : decode cX12_step 2 = .ok (.putfield 107, 3) := by decide +kernel
theorem dX12_step_5 : decode cX12_step 5 = .ok (.aload_n 0, 1) := by decide +kernel
theorem dX12_step_6 : decode cX12_step 6 = .ok (.iload_n 1, 1) := by decide +kernel
theorem dX12_step_7 : decode cX12_step 7 = .ok (.iload_n 2, 1) := by decide +kernel
theorem dX12_step_8 : decode cX12_step 8 = .ok (.iload_n 3, 1) := by decide +kernel
theorem dX12_step_9 : decode cX12_step 9 = .ok (.invokevirtual 487, 3) := by decide +kernel
theorem dX12_step_12 : decode cX12_step 12 = .ok (.ifCond .eq 16, 3) := by decide +kernel
theorem dX12_step_15 : decode cX12_step 15 = .ok (.aload_n 0, 1) := by decide +kernel
theorem dX12_step_16 : decode cX12_step 16 = .ok (.iload_n 1, 1) := by decide +kernel
theorem dX12_step_17 : decode cX12_step 17 = .ok (.iload_n 2, 1) := by decide +kernel
theorem dX12_step_18 : decode cX12_step 18 = .ok (.iload_n 3, 1) := by decide +kernel
theorem dX12_step_19 : decode cX12_step 19 = .ok (.iload 4, 2) := by decide +kernel
theorem dX12_step_21 : decode cX12_step 21 = .ok (.iconst 0, 1) := by decide +kernel
theorem dX12_step_22 : decode cX12_step 22 = .ok (.invokevirtual 490, 3) := by decide +kernel
theorem dX12_step_25 : decode cX12_step 25 = .ok (.goto 5, 3) := by decide +kernel
theorem dX12_step_28 : decode cX12_step 28 = .ok (.bipush (-2), 2) := by decide +kernel
theorem dX12_step_30 : decode cX12_step 30 = .ok (.ireturn, 1) := by decide +kernel
theorem dX12_keeping_0 : decode cX12_keeping 0 = .ok (.aload_n 0, 1) := by decide +kernel
theorem dX12_keeping_1 : decode cX12_keeping 1 = .ok (.iconst 0, 1) := by decide +kernel
theorem dX12_keeping_2 : decode cX12_keeping 2 = .ok (.putfield 107, 3) := by decide +kernel
theorem dX12_keeping_5 : decode cX12_keeping 5 = .ok (.aload_n 0, 1) := by decide +kernel
theorem dX12_keeping_6 : decode cX12_keeping 6 = .ok (.iload_n 1, 1) := by decide +kernel
theorem dX12_keeping_7 : decode cX12_keeping 7 = .ok (.iload_n 2, 1) := by decide +kernel
theorem dX12_keeping_8 : decode cX12_keeping 8 = .ok (.iload_n 3, 1) := by decide +kernel
theorem dX12_keeping_9 : decode cX12_keeping 9 = .ok (.invokevirtual 487, 3) := by decide +kernel
theorem dX12_keeping_12 : decode cX12_keeping 12 = .ok (.ifCond .eq 14, 3) := by decide +kernel
theorem dX12_keeping_15 : decode cX12_keeping 15 = .ok (.aload_n 0, 1) := by decide +kernel
theorem dX12_keeping_16 : decode cX12_keeping 16 = .ok (.iload_n 1, 1) := by decide +kernel
theorem dX12_keeping_17 : decode cX12_keeping 17 = .ok (.iload_n 2, 1) := by decide +kernel
theorem dX12_keeping_18 : decode cX12_keeping 18 = .ok (.iload_n 3, 1) := by decide +kernel
theorem dX12_keeping_19 : decode cX12_keeping 19 = .ok (.iconst 1, 1) := by decide +kernel
theorem dX12_keeping_20 : decode cX12_keeping 20 = .ok (.invokevirtual 481, 3) := by decide +kernel
theorem dX12_keeping_23 : decode cX12_keeping 23 = .ok (.goto 5, 3) := by decide +kernel
theorem dX12_keeping_26 : decode cX12_keeping 26 = .ok (.bipush (-2), 2) := by decide +kernel
theorem dX12_keeping_28 : decode cX12_keeping 28 = .ok (.ireturn, 1) := by decide +kernel
theorem dX12_pen_0 : decode cX12_pen 0 = .ok (.aload_n 0, 1) := by decide +kernel
theorem dX12_pen_1 : decode cX12_pen 1 = .ok (.iconst 0, 1) := by decide +kernel
theorem dX12_pen_2 : decode cX12_pen 2 = .ok (.putfield 107, 3) := by decide +kernel
theorem dX12_pen_5 : decode cX12_pen 5 = .ok (.aload_n 0, 1) := by decide +kernel
theorem dX12_pen_6 : decode cX12_pen 6 = .ok (.iload_n 1, 1) := by decide +kernel
theorem dX12_pen_7 : decode cX12_pen 7 = .ok (.iload_n 2, 1) := by decide +kernel
theorem dX12_pen_8 : decode cX12_pen 8 = .ok (.iload_n 3, 1) := by decide +kernel
theorem dX12_pen_9 : decode cX12_pen 9 = .ok (.invokevirtual 487, 3) := by decide +kernel
theorem dX12_pen_12 : decode cX12_pen 12 = .ok (.ifCond .eq 16, 3) := by decide +kernel
theorem dX12_pen_15 : decode cX12_pen 15 = .ok (.aload_n 0, 1) := by decide +kernel
theorem dX12_pen_16 : decode cX12_pen 16 = .ok (.iload_n 1, 1) := by decide +kernel
theorem dX12_pen_17 : decode cX12_pen 17 = .ok (.iload_n 2, 1) := by decide +kernel
theorem dX12_pen_18 : decode cX12_pen 18 = .ok (.iload_n 3, 1) := by decide +kernel
theorem dX12_pen_19 : decode cX12_pen 19 = .ok (.iload 4, 2) := by decide +kernel
theorem dX12_pen_21 : decode cX12_pen 21 = .ok (.iconst 1, 1) := by decide +kernel
theorem dX12_pen_22 : decode cX12_pen 22 = .ok (.invokevirtual 490, 3) := by decide +kernel
theorem dX12_pen_25 : decode cX12_pen 25 = .ok (.goto 5, 3) := by decide +kernel
theorem dX12_pen_28 : decode cX12_pen 28 = .ok (.bipush (-2), 2) := by decide +kernel
theorem dX12_pen_30 : decode cX12_pen 30 = .ok (.ireturn, 1) := by decide +kernel
