theorem dX12_mildest_0 : decode cX12_mildest 0 = .ok (.aload_n 0, 1) := by decide +kernel
theorem dX12_mildest_1 : decode cX12_mildest 1 = .ok (.iconst 0, 1) := by decide +kernel
theorem dX12_mildest_2 : decode cX12_mildest 2 = .ok (.putfield 107, 3) := by decide +kernel
theorem dX12_mildest_5 : decode cX12_mildest 5 = .ok (.aload_n 0, 1) := by decide +kernel
theorem dX12_mildest_6 : decode cX12_mildest 6 = .ok (.invokevirtual 373, 3) := by decide +kernel
theorem dX12_mildest_9 : decode cX12_mildest 9 = .ok (.ifCond .ne 6, 3) := by decide +kernel
theorem dX12_mildest_12 : decode cX12_mildest 12 = .ok (.bipush (-2), 2) := by decide +kernel
theorem dX12_mildest_14 : decode cX12_mildest 14 = .ok (.ireturn, 1) := by decide +kernel
theorem dX12_mildest_15 : decode cX12_mildest 15 = .ok (.aload_n 0, 1) := by decide +kernel
theorem dX12_mildest_16 : decode cX12_mildest 16 = .ok (.invokevirtual 346, 3) := by decide +kernel
theorem dX12_mildest_19 : decode cX12_mildest 19 = .ok (.iconst 0, 1) := by decide +kernel
theorem dX12_mildest_20 : decode cX12_mildest 20 = .ok (.istore_n 1, 1) := by decide +kernel
theorem dX12_mildest_21 : decode cX12_mildest 21 = .ok (.iconst 1, 1) := by decide +kernel
theorem dX12_mildest_22 : decode cX12_mildest 22 = .ok (.istore_n 2, 1) := by decide +kernel
theorem dX12_mildest_23 : decode cX12_mildest 23 = .ok (.iload_n 2, 1) := by decide +kernel
theorem dX12_mildest_24 : decode cX12_mildest 24 = .ok (.aload_n 0, 1) := by decide +kernel
theorem dX12_mildest_25 : decode cX12_mildest 25 = .ok (.getfield 34, 3) := by decide +kernel
theorem dX12_mildest_28 : decode cX12_mildest 28 = .ok (.iconst 0, 1) := by decide +kernel
theorem dX12_mildest_29 : decode cX12_mildest 29 = .ok (.iaload, 1) := by decide +kernel
theorem dX12_mildest_30 : decode cX12_mildest 30 = .ok (.if_icmp .ge 26, 3) := by decide +kernel
theorem dX12_mildest_33 : decode cX12_mildest 33 = .ok (.aload_n 0, 1) := by decide +kernel
theorem dX12_mildest_34 : decode cX12_mildest 34 = .ok (.iload_n 2, 1) := by decide +kernel
theorem dX12_mildest_35 : decode cX12_mildest 35 = .ok (.iconst 1, 1) := by decide +kernel
theorem dX12_mildest_36 : decode cX12_mildest 36 = .ok (.invokevirtual 428, 3) := by decide +kernel
theorem dX12_mildest_39 : decode cX12_mildest 39 = .ok (.aload_n 0, 1) := by decide +kernel
theorem dX12_mildest_40 : decode cX12_mildest 40 = .ok (.iload_n 1, 1) := by decide +kernel
theorem dX12_mildest_41 : decode cX12_mildest 41 = .ok (.iconst 1, 1) := by decide +kernel
theorem dX12_mildest_42 : decode cX12_mildest 42 = .ok (.invokevirtual 428, 3) := by decide +kernel
theorem dX12_mildest_45 : decode cX12_mildest 45 = .ok (.if_icmp .ge 5, 3) := by decide +kernel
theorem dX12_mildest_48 : decode cX12_mildest 48 = .ok (.iload_n 2, 1) := by decide +kernel
theorem dX12_mildest_49 : decode cX12_mildest 49 = .ok (.istore_n 1, 1) := by decide +kernel
theorem dX12_mildest_50 : decode cX12_mildest 50 = .ok (.iinc 2 1, 3) := by decide +kernel
theorem dX12_mildest_53 : decode cX12_mildest 53 = .ok (.goto (-30), 3) := by decide +kernel
theorem dX12_mildest_56 : decode cX12_mildest 56 = .ok (.iload_n 1, 1) := by decide +kernel
theorem dX12_mildest_57 : decode cX12_mildest 57 = .ok (.ireturn, 1) := by decide +kernel
theorem dX12_wills_0 : decode cX12_wills 0 = .ok (.iload_n 2, 1) := by decide +kernel
theorem dX12_wills_1 : decode cX12_wills 1 = .ok (.ifCond .ne 7, 3) := by decide +kernel
theorem dX12_wills_4 : decode cX12_wills 4 = .ok (.iconst 0, 1) := by decide +kernel
theorem dX12_wills_5 : decode cX12_wills 5 = .ok (.goto 9, 3) := by decide +kernel
theorem dX12_wills_8 : decode cX12_wills 8 = .ok (.aload_n 0, 1) := by decide +kernel
theorem dX12_wills_9 : decode cX12_wills 9 = .ok (.iload_n 1, 1) := by decide +kernel
theorem dX12_wills_10 : decode cX12_wills 10 = .ok (.iconst 0, 1) := by decide +kernel
theorem dX12_wills_11 : decode cX12_wills 11 = .ok (.invokevirtual 409, 3) := by decide +kernel
theorem dX12_wills_14 : decode cX12_wills 14 = .ok (.istore 5, 2) := by decide +kernel
theorem dX12_wills_16 : decode cX12_wills 16 = .ok (.iload_n 2, 1) := by decide +kernel
theorem dX12_wills_17 : decode cX12_wills 17 = .ok (.iconst 1, 1) := by decide +kernel
theorem dX12_wills_18 : decode cX12_wills 18 = .ok (.if_icmp .ne 7, 3) := by decide +kernel
theorem dX12_wills_21 : decode cX12_wills 21 = .ok (.iconst 0, 1) := by decide +kernel
theorem dX12_wills_22 : decode cX12_wills 22 = .ok (.goto 9, 3) := by decide +kernel
theorem dX12_wills_25 : decode cX12_wills 25 = .ok (.aload_n 0, 1) := by decide +kernel
theorem dX12_wills_26 : decode cX12_wills 26 = .ok (.iload_n 1, 1) := by decide +kernel
theorem dX12_wills_27 : decode cX12_wills 27 = .ok (.iconst 1, 1) := by decide +kernel
theorem dX12_wills_28 : decode cX12_wills 28 = .ok (.invokevirtual 409, 3) := by decide +kernel
theorem dX12_wills_31 : decode cX12_wills 31 = .ok (.istore 6, 2) := by decide +kernel
theorem dX12_wills_33 : decode cX12_wills 33 = .ok (.iconst 0, 1) := by decide +kernel
theorem dX12_wills_34 : decode cX12_wills 34 = .ok (.istore 7, 2) := by decide +kernel
theorem dX12_wills_36 : decode cX12_wills 36 = .ok (.iload 7, 2) := by decide +kernel
theorem dX12_wills_38 : decode cX12_wills 38 = .ok (.bipush 16, 2) := by decide +kernel
theorem dX12_wills_40 : decode cX12_wills 40 = .ok (.if_icmp .ge 40, 3) := by decide +kernel
theorem dX12_wills_43 : decode cX12_wills 43 = .ok (.aload_n 0, 1) := by decide +kernel
theorem dX12_wills_44 : decode cX12_wills 44 = .ok (.getfield 98, 3) := by decide +kernel
theorem dX12_wills_47 : decode cX12_wills 47 = .ok (.iload 7, 2) := by decide +kernel
theorem dX12_wills_49 : decode cX12_wills 49 = .ok (.iload 4, 2) := by decide +kernel
theorem dX12_wills_51 : decode cX12_wills 51 = .ok (.ifCond .ne 16, 3) := by decide +kernel
theorem dX12_wills_54 : decode cX12_wills 54 = .ok (.aload_n 0, 1) := by decide +kernel
theorem dX12_wills_55 : decode cX12_wills 55 = .ok (.iload 5, 2) := by decide +kernel
theorem dX12_wills_57 : decode cX12_wills 57 = .ok (.iload 6, 2) := by decide +kernel
theorem dX12_wills_59 : decode cX12_wills 59 = .ok (.iload 7, 2) := by decide +kernel
theorem dX12_wills_61 : decode cX12_wills 61 = .ok (.invokevirtual 415, 3) := by decide +kernel
theorem dX12_wills_64 : decode cX12_wills 64 = .ok (.ifCond .ne 7, 3) := by decide +kernel
theorem dX12_wills_67 : decode cX12_wills 67 = .ok (.iconst 0, 1) := by decide +kernel
theorem dX12_wills_68 : decode cX12_wills 68 = .ok (.goto 5, 3) := by decide +kernel
theorem dX12_wills_71 : decode cX12_wills 71 = .ok (.ldc 158, 2) := by decide +kernel
theorem dX12_wills_73 : decode cX12_wills 73 = .ok (.iastore, 1) := by decide +kernel
theorem dX12_wills_74 : decode cX12_wills 74 = .ok (.iinc 7 1, 3) := by decide +kernel
theorem dX12_wills_77 : decode cX12_wills 77 = .ok (.goto (-41), 3) := by decide +kernel
theorem dX12_wills_80 : decode cX12_wills 80 = .ok (.aload_n 0, 1) := by decide +kernel
theorem dX12_wills_81 : decode cX12_wills 81 = .ok (.iload 5, 2) := by decide +kernel
theorem dX12_wills_83 : decode cX12_wills 83 = .ok (.iload 6, 2) := by decide +kernel
theorem dX12_wills_85 : decode cX12_wills 85 = .ok (.invokevirtual 382, 3) := by decide +kernel
theorem dX12_wills_88 : decode cX12_wills 88 = .ok (.aload_n 0, 1) := by decide +kernel
theorem dX12_wills_89 : decode cX12_wills 89 = .ok (.iload_n 2, 1) := by decide +kernel
theorem dX12_wills_90 : decode cX12_wills 90 = .ok (.putfield 68, 3) := by decide +kernel
theorem dX12_wills_93 : decode cX12_wills 93 = .ok (.iconst 1, 1) := by decide +kernel
theorem dX12_wills_94 : decode cX12_wills 94 = .ok (.istore 7, 2) := by decide +kernel
theorem dX12_wills_96 : decode cX12_wills 96 = .ok (.iload 7, 2) := by decide +kernel
theorem dX12_wills_98 : decode cX12_wills 98 = .ok (.iload_n 3, 1) := by decide +kernel
theorem dX12_wills_99 : decode cX12_wills 99 = .ok (.if_icmp .gt 80, 3) := by decide +kernel
theorem dX12_wills_102 : decode cX12_wills 102 = .ok (.iconst 0, 1) := by decide +kernel
theorem dX12_wills_103 : decode cX12_wills 103 = .ok (.istore 8, 2) := by decide +kernel
theorem dX12_wills_105 : decode cX12_wills 105 = .ok (.iload 8, 2) := by decide +kernel
theorem dX12_wills_107 : decode cX12_wills 107 = .ok (.bipush 16, 2) := by decide +kernel
theorem dX12_wills_109 : decode cX12_wills 109 = .ok (.if_icmp .ge 64, 3) := by decide +kernel
theorem dX12_wills_112 : decode cX12_wills 112 = .ok (.aload_n 0, 1) := by decide +kernel
theorem dX12_wills_113 : decode cX12_wills 113 = .ok (.iload_n 2, 1) := by decide +kernel
theorem dX12_wills_114 : decode cX12_wills 114 = .ok (.iload 7, 2) := by decide +kernel
theorem dX12_wills_116 : decode cX12_wills 116 = .ok (.iload 8, 2) := by decide +kernel
theorem dX12_wills_118 : decode cX12_wills 118 = .ok (.iconst 0, 1) := by decide +kernel
theorem dX12_wills_119 : decode cX12_wills 119 = .ok (.iload 4, 2) := by decide +kernel
theorem dX12_wills_121 : decode cX12_wills 121 = .ok (.invokevirtual 470, 3) := by decide +kernel
theorem dX12_wills_124 : decode cX12_wills 124 = .ok (.istore 9, 2) := by decide +kernel
theorem dX12_wills_126 : decode cX12_wills 126 = .ok (.aload_n 0, 1) := by decide +kernel
theorem dX12_wills_127 : decode cX12_wills 127 = .ok (.iload_n 2, 1) := by decide +kernel
theorem dX12_wills_128 : decode cX12_wills 128 = .ok (.iload 7, 2) := by decide +kernel
theorem dX12_wills_130 : decode cX12_wills 130 = .ok (.iload 8, 2) := by decide +kernel
theorem dX12_wills_132 : decode cX12_wills 132 = .ok (.iconst 1, 1) := by decide +kernel
theorem dX12_wills_133 : decode cX12_wills 133 = .ok (.iload 4, 2) := by decide +kernel
theorem dX12_wills_135 : decode cX12_wills 135 = .ok (.invokevirtual 470, 3) := by decide +kernel
theorem dX12_wills_138 : decode cX12_wills 138 = .ok (.istore 10, 2) := by decide +kernel
theorem dX12_wills_140 : decode cX12_wills 140 = .ok (.aload_n 0, 1) := by decide +kernel
theorem dX12_wills_141 : decode cX12_wills 141 = .ok (.getfield 98, 3) := by decide +kernel
theorem dX12_wills_144 : decode cX12_wills 144 = .ok (.bipush 16, 2) := by decide +kernel
theorem dX12_wills_146 : decode cX12_wills 146 = .ok (.iload 7, 2) := by decide +kernel
theorem dX12_wills_148 : decode cX12_wills 148 = .ok (.imul, 1) := by decide +kernel
theorem dX12_wills_149 : decode cX12_wills 149 = .ok (.iload 8, 2) := by decide +kernel
theorem dX12_wills_151 : decode cX12_wills 151 = .ok (.iadd, 1) := by decide +kernel
theorem dX12_wills_152 : decode cX12_wills 152 = .ok (.iload 10, 2) := by decide +kernel
theorem dX12_wills_154 : decode cX12_wills 154 = .ok (.iload 9, 2) := by decide +kernel
theorem dX12_wills_156 : decode cX12_wills 156 = .ok (.if_icmp .ge 8, 3) := by decide +kernel
theorem dX12_wills_159 : decode cX12_wills 159 = .ok (.iload 10, 2) := by decide +kernel
theorem dX12_wills_161 : decode cX12_wills 161 = .ok (.goto 5, 3) := by decide +kernel
theorem dX12_wills_164 : decode cX12_wills 164 = .ok (.iload 9, 2) := by decide +kernel
theorem dX12_wills_166 : decode cX12_wills 166 = .ok (.iastore, 1) := by decide +kernel
theorem dX12_wills_167 : decode cX12_wills 167 = .ok (.iinc 8 1, 3) := by decide +kernel
theorem dX12_wills_170 : decode cX12_wills 170 = .ok (.goto (-65), 3) := by decide +kernel
theorem dX12_wills_173 : decode cX12_wills 173 = .ok (.iinc 7 1, 3) := by decide +kernel
theorem dX12_wills_176 : decode cX12_wills 176 = .ok (.goto (-80), 3) := by decide +kernel
theorem dX12_wills_179 : decode cX12_wills 179 = .ok (.aload_n 0, 1) := by decide +kernel
theorem dX12_wills_180 : decode cX12_wills 180 = .ok (.iconst (-1), 1) := by decide +kernel
theorem dX12_wills_181 : decode cX12_wills 181 = .ok (.putfield 68, 3) := by decide +kernel
theorem dX12_wills_184 : decode cX12_wills 184 = .ok (.return_, 1) := by decide +kernel
theorem dX12_by_0 : decode cX12_by 0 = .ok (.aload_n 0, 1) := by decide +kernel
theorem dX12_by_1 : decode cX12_by 1 = .ok (.iload 4, 2) := by decide +kernel
theorem dX12_by_3 : decode cX12_by 3 = .ok (.putfield 312, 3) := by decide +kernel
theorem dX12_by_6 : decode cX12_by 6 = .ok (.aload_n 0, 1) := by decide +kernel
theorem dX12_by_7 : decode cX12_by 7 = .ok (.iload_n 3, 1) := by decide +kernel
theorem dX12_by_8 : decode cX12_by 8 = .ok (.invokevirtual 333, 3) := by decide +kernel
theorem dX12_by_11 : decode cX12_by 11 = .ok (.istore 6, 2) := by decide +kernel
theorem dX12_by_13 : decode cX12_by 13 = .ok (.iload 5, 2) := by decide +kernel
theorem dX12_by_15 : decode cX12_by 15 = .ok (.ifCond .eq 19, 3) := by decide +kernel
theorem dX12_by_18 : decode cX12_by 18 = .ok (.iload_n 2, 1) := by decide +kernel
theorem dX12_by_19 : decode cX12_by 19 = .ok (.iconst 1, 1) := by decide +kernel
theorem dX12_by_20 : decode cX12_by 20 = .ok (.if_icmp .ne 14, 3) := by decide +kernel
theorem dX12_by_23 : decode cX12_by 23 = .ok (.aload_n 0, 1) := by decide +kernel
theorem dX12_by_24 : decode cX12_by 24 = .ok (.invokevirtual 394, 3) := by decide +kernel
theorem dX12_by_27 : decode cX12_by 27 = .ok (.iconst 2, 1) := by decide +kernel
theorem dX12_by_28 : decode cX12_by 28 = .ok (.if_icmp .ge 6, 3) := by decide +kernel
theorem dX12_by_31 : decode cX12_by 31 = .ok (.ldc 158, 2) := by decide +kernel
theorem dX12_by_33 : decode cX12_by 33 = .ok (.ireturn, 1) := by decide +kernel
theorem dX12_by_34 : decode cX12_by 34 = .ok (.aload_n 0, 1) := by decide +kernel
theorem dX12_by_35 : decode cX12_by 35 = .ok (.getfield 98, 3) := by decide +kernel
theorem dX12_by_38 : decode cX12_by 38 = .ok (.bipush 16, 2) := by decide +kernel
theorem dX12_by_40 : decode cX12_by 40 = .ok (.iload_n 2, 1) := by decide +kernel
theorem dX12_by_41 : decode cX12_by 41 = .ok (.iconst 1, 1) := by decide +kernel
theorem dX12_by_42 : decode cX12_by 42 = .ok (.isub, 1) := by decide +kernel
theorem dX12_by_43 : decode cX12_by 43 = .ok (.imul, 1) := by decide +kernel
theorem dX12_by_44 : decode cX12_by 44 = .ok (.iload 6, 2) := by decide +kernel
theorem dX12_by_46 : decode cX12_by 46 = .ok (.iadd, 1) := by decide +kernel
theorem dX12_by_47 : decode cX12_by 47 = .ok (.iaload, 1) := by decide +kernel
theorem dX12_by_48 : decode cX12_by 48 = .ok (.istore 7, 2) := by decide +kernel
theorem dX12_by_50 : decode cX12_by 50 = .ok (.iload 7, 2) := by decide +kernel
theorem dX12_by_52 : decode cX12_by 52 = .ok (.ldc 158, 2) := by decide +kernel
theorem dX12_by_54 : decode cX12_by 54 = .ok (.if_icmp .lt 8, 3) := by decide +kernel
theorem dX12_by_57 : decode cX12_by 57 = .ok (.ldc 158, 2) := by decide +kernel
theorem dX12_by_59 : decode cX12_by 59 = .ok (.goto 13, 3) := by decide +kernel
theorem dX12_by_62 : decode cX12_by 62 = .ok (.iload 7, 2) := by decide +kernel
theorem dX12_by_64 : decode cX12_by 64 = .ok (.aload_n 0, 1) := by decide +kernel
theorem dX12_by_65 : decode cX12_by 65 = .ok (.iload_n 1, 1) := by decide +kernel
theorem dX12_by_66 : decode cX12_by 66 = .ok (.iload 5, 2) := by decide +kernel
theorem dX12_by_68 : decode cX12_by 68 = .ok (.invokevirtual 474, 3) := by decide +kernel
theorem dX12_by_71 : decode cX12_by 71 = .ok (.iadd, 1) := by decide +kernel
theorem dX12_by_72 : decode cX12_by 72 = .ok (.ireturn, 1) := by decide +kernel
