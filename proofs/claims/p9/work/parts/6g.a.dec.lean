theorem dX12_fateNow_0 : decode cX12_fateNow 0 = .ok (.iload_n 1, 1) := by decide +kernel
theorem dX12_fateNow_1 : decode cX12_fateNow 1 = .ok (.ifCond .ne 10, 3) := by decide +kernel
theorem dX12_fateNow_4 : decode cX12_fateNow 4 = .ok (.aload_n 0, 1) := by decide +kernel
theorem dX12_fateNow_5 : decode cX12_fateNow 5 = .ok (.getfield 385, 3) := by decide +kernel
theorem dX12_fateNow_8 : decode cX12_fateNow 8 = .ok (.goto 31, 3) := by decide +kernel
theorem dX12_fateNow_11 : decode cX12_fateNow 11 = .ok (.iload_n 1, 1) := by decide +kernel
theorem dX12_fateNow_12 : decode cX12_fateNow 12 = .ok (.iconst 1, 1) := by decide +kernel
theorem dX12_fateNow_13 : decode cX12_fateNow 13 = .ok (.if_icmp .ne 10, 3) := by decide +kernel
theorem dX12_fateNow_16 : decode cX12_fateNow 16 = .ok (.aload_n 0, 1) := by decide +kernel
theorem dX12_fateNow_17 : decode cX12_fateNow 17 = .ok (.getfield 388, 3) := by decide +kernel
theorem dX12_fateNow_20 : decode cX12_fateNow 20 = .ok (.goto 19, 3) := by decide +kernel
theorem dX12_fateNow_23 : decode cX12_fateNow 23 = .ok (.iload_n 1, 1) := by decide +kernel
theorem dX12_fateNow_24 : decode cX12_fateNow 24 = .ok (.iconst 2, 1) := by decide +kernel
theorem dX12_fateNow_25 : decode cX12_fateNow 25 = .ok (.if_icmp .ne 10, 3) := by decide +kernel
theorem dX12_fateNow_28 : decode cX12_fateNow 28 = .ok (.aload_n 0, 1) := by decide +kernel
theorem dX12_fateNow_29 : decode cX12_fateNow 29 = .ok (.getfield 391, 3) := by decide +kernel
theorem dX12_fateNow_32 : decode cX12_fateNow 32 = .ok (.goto 7, 3) := by decide +kernel
theorem dX12_fateNow_35 : decode cX12_fateNow 35 = .ok (.aload_n 0, 1) := by decide +kernel
theorem dX12_fateNow_36 : decode cX12_fateNow 36 = .ok (.getfield 397, 3) := by decide +kernel
theorem dX12_fateNow_39 : decode cX12_fateNow 39 = .ok (.ireturn, 1) := by decide +kernel
theorem dX12_sideRule_0 : decode cX12_sideRule 0 = .ok (.aload_n 0, 1) := by decide +kernel
theorem dX12_sideRule_1 : decode cX12_sideRule 1 = .ok (.aload_n 0, 1) := by decide +kernel
theorem dX12_sideRule_2 : decode cX12_sideRule 2 = .ok (.iload_n 1, 1) := by decide +kernel
theorem dX12_sideRule_3 : decode cX12_sideRule 3 = .ok (.iload_n 2, 1) := by decide +kernel
theorem dX12_sideRule_4 : decode cX12_sideRule 4 = .ok (.invokevirtual 321, 3) := by decide +kernel
theorem dX12_sideRule_7 : decode cX12_sideRule 7 = .ok (.invokevirtual 324, 3) := by decide +kernel
theorem dX12_sideRule_10 : decode cX12_sideRule 10 = .ok (.ireturn, 1) := by decide +kernel
theorem dX12_forgets_0 : decode cX12_forgets 0 = .ok (.aload_n 0, 1) := by decide +kernel
theorem dX12_forgets_1 : decode cX12_forgets 1 = .ok (.aload_n 0, 1) := by decide +kernel
theorem dX12_forgets_2 : decode cX12_forgets 2 = .ok (.iload_n 1, 1) := by decide +kernel
theorem dX12_forgets_3 : decode cX12_forgets 3 = .ok (.iload_n 2, 1) := by decide +kernel
theorem dX12_forgets_4 : decode cX12_forgets 4 = .ok (.invokevirtual 321, 3) := by decide +kernel
theorem dX12_forgets_7 : decode cX12_forgets 7 = .ok (.iconst 2, 1) := by decide +kernel
theorem dX12_forgets_8 : decode cX12_forgets 8 = .ok (.invokevirtual 273, 3) := by decide +kernel
theorem dX12_forgets_11 : decode cX12_forgets 11 = .ok (.ireturn, 1) := by decide +kernel
theorem dX12_isChance_0 : decode cX12_isChance 0 = .ok (.aload_n 0, 1) := by decide +kernel
theorem dX12_isChance_1 : decode cX12_isChance 1 = .ok (.iload_n 1, 1) := by decide +kernel
theorem dX12_isChance_2 : decode cX12_isChance 2 = .ok (.invokevirtual 281, 3) := by decide +kernel
theorem dX12_isChance_5 : decode cX12_isChance 5 = .ok (.ifCond .eq 29, 3) := by decide +kernel
theorem dX12_isChance_8 : decode cX12_isChance 8 = .ok (.iload_n 2, 1) := by decide +kernel
theorem dX12_isChance_9 : decode cX12_isChance 9 = .ok (.i2l, 1) := by decide +kernel
theorem dX12_isChance_10 : decode cX12_isChance 10 = .ok (.lconst 1, 1) := by decide +kernel
theorem dX12_isChance_11 : decode cX12_isChance 11 = .ok (.ldc2_w 110, 3) := by decide +kernel
theorem dX12_isChance_14 : decode cX12_isChance 14 = .ok (.invokestatic 112, 3) := by decide +kernel
theorem dX12_isChance_17 : decode cX12_isChance 17 = .ok (.ifCond .eq 17, 3) := by decide +kernel
theorem dX12_isChance_20 : decode cX12_isChance 20 = .ok (.iload_n 3, 1) := by decide +kernel
theorem dX12_isChance_21 : decode cX12_isChance 21 = .ok (.i2l, 1) := by decide +kernel
theorem dX12_isChance_22 : decode cX12_isChance 22 = .ok (.lconst 0, 1) := by decide +kernel
theorem dX12_isChance_23 : decode cX12_isChance 23 = .ok (.lconst 1, 1) := by decide +kernel
theorem dX12_isChance_24 : decode cX12_isChance 24 = .ok (.invokestatic 112, 3) := by decide +kernel
theorem dX12_isChance_27 : decode cX12_isChance 27 = .ok (.ifCond .eq 7, 3) := by decide +kernel
theorem dX12_isChance_30 : decode cX12_isChance 30 = .ok (.iconst 1, 1) := by decide +kernel
theorem dX12_isChance_31 : decode cX12_isChance 31 = .ok (.goto 4, 3) := by decide +kernel
theorem dX12_isChance_34 : decode cX12_isChance 34 = .ok (.iconst 0, 1) := by decide +kernel
theorem dX12_isChance_35 : decode cX12_isChance 35 = .ok (.ireturn, 1) := by decide +kernel
theorem dX12_isWill_0 : decode cX12_isWill 0 = .ok (.aload_n 0, 1) := by decide +kernel
theorem dX12_isWill_1 : decode cX12_isWill 1 = .ok (.iload_n 1, 1) := by decide +kernel
theorem dX12_isWill_2 : decode cX12_isWill 2 = .ok (.invokevirtual 281, 3) := by decide +kernel
theorem dX12_isWill_5 : decode cX12_isWill 5 = .ok (.ifCond .eq 26, 3) := by decide +kernel
theorem dX12_isWill_8 : decode cX12_isWill 8 = .ok (.iload_n 2, 1) := by decide +kernel
theorem dX12_isWill_9 : decode cX12_isWill 9 = .ok (.invokestatic 340, 3) := by decide +kernel
theorem dX12_isWill_12 : decode cX12_isWill 12 = .ok (.ifCond .eq 19, 3) := by decide +kernel
theorem dX12_isWill_15 : decode cX12_isWill 15 = .ok (.iload_n 3, 1) := by decide +kernel
theorem dX12_isWill_16 : decode cX12_isWill 16 = .ok (.i2l, 1) := by decide +kernel
theorem dX12_isWill_17 : decode cX12_isWill 17 = .ok (.lconst 1, 1) := by decide +kernel
theorem dX12_isWill_18 : decode cX12_isWill 18 = .ok (.ldc2_w 485, 3) := by decide +kernel
theorem dX12_isWill_21 : decode cX12_isWill 21 = .ok (.invokestatic 112, 3) := by decide +kernel
theorem dX12_isWill_24 : decode cX12_isWill 24 = .ok (.ifCond .eq 7, 3) := by decide +kernel
theorem dX12_isWill_27 : decode cX12_isWill 27 = .ok (.iconst 1, 1) := by decide +kernel
theorem dX12_isWill_28 : decode cX12_isWill 28 = .ok (.goto 4, 3) := by decide +kernel
theorem dX12_isWill_31 : decode cX12_isWill 31 = .ok (.iconst 0, 1) := by decide +kernel
theorem dX12_isWill_32 : decode cX12_isWill 32 = .ok (.ireturn, 1) := by decide +kernel
theorem dX12_calls_0 : decode cX12_calls 0 = .ok (.aload_n 0, 1) := by decide +kernel
theorem dX12_calls_1 : decode cX12_calls 1 = .ok (.iconst 0, 1) := by decide +kernel
theorem dX12_calls_2 : decode cX12_calls 2 = .ok (.putfield 107, 3) := by decide +kernel
theorem dX12_calls_5 : decode cX12_calls 5 = .ok (.aload_n 0, 1) := by decide +kernel
theorem dX12_calls_6 : decode cX12_calls 6 = .ok (.iload_n 1, 1) := by decide +kernel
theorem dX12_calls_7 : decode cX12_calls 7 = .ok (.i2l, 1) := by decide +kernel
theorem dX12_calls_8 : decode cX12_calls 8 = .ok (.invokevirtual 343, 3) := by decide +kernel
theorem dX12_calls_11 : decode cX12_calls 11 = .ok (.ifCond .eq 13, 3) := by decide +kernel
theorem dX12_calls_14 : decode cX12_calls 14 = .ok (.iload_n 2, 1) := by decide +kernel
theorem dX12_calls_15 : decode cX12_calls 15 = .ok (.i2l, 1) := by decide +kernel
theorem dX12_calls_16 : decode cX12_calls 16 = .ok (.lconst 0, 1) := by decide +kernel
theorem dX12_calls_17 : decode cX12_calls 17 = .ok (.lconst 1, 1) := by decide +kernel
theorem dX12_calls_18 : decode cX12_calls 18 = .ok (.invokestatic 112, 3) := by decide +kernel
theorem dX12_calls_21 : decode cX12_calls 21 = .ok (.ifCond .ne 6, 3) := by decide +kernel
theorem dX12_calls_24 : decode cX12_calls 24 = .ok (.bipush (-2), 2) := by decide +kernel
theorem dX12_calls_26 : decode cX12_calls 26 = .ok (.ireturn, 1) := by decide +kernel
theorem dX12_calls_27 : decode cX12_calls 27 = .ok (.aload_n 0, 1) := by decide +kernel
theorem dX12_calls_28 : decode cX12_calls 28 = .ok (.getfield 46, 3) := by decide +kernel
theorem dX12_calls_31 : decode cX12_calls 31 = .ok (.iconst 0, 1) := by decide +kernel
theorem dX12_calls_32 : decode cX12_calls 32 = .ok (.laload, 1) := by decide +kernel
theorem dX12_calls_33 : decode cX12_calls 33 = .ok (.iload_n 1, 1) := by decide +kernel
theorem dX12_calls_34 : decode cX12_calls 34 = .ok (.lshr, 1) := by decide +kernel
theorem dX12_calls_35 : decode cX12_calls 35 = .ok (.lconst 1, 1) := by decide +kernel
theorem dX12_calls_36 : decode cX12_calls 36 = .ok (.land, 1) := by decide +kernel
theorem dX12_calls_37 : decode cX12_calls 37 = .ok (.l2i, 1) := by decide +kernel
theorem dX12_calls_38 : decode cX12_calls 38 = .ok (.istore_n 3, 1) := by decide +kernel
theorem dX12_calls_39 : decode cX12_calls 39 = .ok (.aload_n 0, 1) := by decide +kernel
theorem dX12_calls_40 : decode cX12_calls 40 = .ok (.getfield 46, 3) := by decide +kernel
theorem dX12_calls_43 : decode cX12_calls 43 = .ok (.iconst 0, 1) := by decide +kernel
theorem dX12_calls_44 : decode cX12_calls 44 = .ok (.aload_n 0, 1) := by decide +kernel
theorem dX12_calls_45 : decode cX12_calls 45 = .ok (.getfield 46, 3) := by decide +kernel
theorem dX12_calls_48 : decode cX12_calls 48 = .ok (.iconst 0, 1) := by decide +kernel
theorem dX12_calls_49 : decode cX12_calls 49 = .ok (.laload, 1) := by decide +kernel
theorem dX12_calls_50 : decode cX12_calls 50 = .ok (.iload_n 1, 1) := by decide +kernel
theorem dX12_calls_51 : decode cX12_calls 51 = .ok (.iload_n 2, 1) := by decide +kernel
theorem dX12_calls_52 : decode cX12_calls 52 = .ok (.invokestatic 540, 3) := by decide +kernel
theorem dX12_calls_55 : decode cX12_calls 55 = .ok (.lastore, 1) := by decide +kernel
theorem dX12_calls_56 : decode cX12_calls 56 = .ok (.iload_n 3, 1) := by decide +kernel
theorem dX12_calls_57 : decode cX12_calls 57 = .ok (.ireturn, 1) := by decide +kernel
theorem dX12_count_0 : decode cX12_count 0 = .ok (.aload_n 0, 1) := by decide +kernel
theorem dX12_count_1 : decode cX12_count 1 = .ok (.iconst 0, 1) := by decide +kernel
theorem dX12_count_2 : decode cX12_count 2 = .ok (.putfield 107, 3) := by decide +kernel
theorem dX12_count_5 : decode cX12_count 5 = .ok (.iconst 0, 1) := by decide +kernel
theorem dX12_count_6 : decode cX12_count 6 = .ok (.istore_n 2, 1) := by decide +kernel
theorem dX12_count_7 : decode cX12_count 7 = .ok (.iload_n 1, 1) := by decide +kernel
theorem dX12_count_8 : decode cX12_count 8 = .ok (.tableswitch 180 0 9 #[56, 63, 70, 77, 84, 91, 101, 135, 142, 147], 56) := by decide +kernel
theorem dX12_count_64 : decode cX12_count 64 = .ok (.aload_n 0, 1) := by decide +kernel
theorem dX12_count_65 : decode cX12_count 65 = .ok (.getfield 34, 3) := by decide +kernel
theorem dX12_count_68 : decode cX12_count 68 = .ok (.iconst 3, 1) := by decide +kernel
theorem dX12_count_69 : decode cX12_count 69 = .ok (.iaload, 1) := by decide +kernel
theorem dX12_count_70 : decode cX12_count 70 = .ok (.ireturn, 1) := by decide +kernel
theorem dX12_count_71 : decode cX12_count 71 = .ok (.aload_n 0, 1) := by decide +kernel
theorem dX12_count_72 : decode cX12_count 72 = .ok (.getfield 34, 3) := by decide +kernel
theorem dX12_count_75 : decode cX12_count 75 = .ok (.iconst 4, 1) := by decide +kernel
theorem dX12_count_76 : decode cX12_count 76 = .ok (.iaload, 1) := by decide +kernel
theorem dX12_count_77 : decode cX12_count 77 = .ok (.ireturn, 1) := by decide +kernel
theorem dX12_count_78 : decode cX12_count 78 = .ok (.aload_n 0, 1) := by decide +kernel
theorem dX12_count_79 : decode cX12_count 79 = .ok (.getfield 34, 3) := by decide +kernel
theorem dX12_count_82 : decode cX12_count 82 = .ok (.iconst 0, 1) := by decide +kernel
theorem dX12_count_83 : decode cX12_count 83 = .ok (.iaload, 1) := by decide +kernel
theorem dX12_count_84 : decode cX12_count 84 = .ok (.ireturn, 1) := by decide +kernel
theorem dX12_count_85 : decode cX12_count 85 = .ok (.aload_n 0, 1) := by decide +kernel
theorem dX12_count_86 : decode cX12_count 86 = .ok (.getfield 34, 3) := by decide +kernel
theorem dX12_count_89 : decode cX12_count 89 = .ok (.iconst 1, 1) := by decide +kernel
theorem dX12_count_90 : decode cX12_count 90 = .ok (.iaload, 1) := by decide +kernel
theorem dX12_count_91 : decode cX12_count 91 = .ok (.ireturn, 1) := by decide +kernel
theorem dX12_count_92 : decode cX12_count 92 = .ok (.aload_n 0, 1) := by decide +kernel
theorem dX12_count_93 : decode cX12_count 93 = .ok (.getfield 34, 3) := by decide +kernel
theorem dX12_count_96 : decode cX12_count 96 = .ok (.iconst 2, 1) := by decide +kernel
theorem dX12_count_97 : decode cX12_count 97 = .ok (.iaload, 1) := by decide +kernel
theorem dX12_count_98 : decode cX12_count 98 = .ok (.ireturn, 1) := by decide +kernel
theorem dX12_count_99 : decode cX12_count 99 = .ok (.aload_n 0, 1) := by decide +kernel
theorem dX12_count_100 : decode cX12_count 100 = .ok (.getfield 46, 3) := by decide +kernel
theorem dX12_count_103 : decode cX12_count 103 = .ok (.iconst 0, 1) := by decide +kernel
theorem dX12_count_104 : decode cX12_count 104 = .ok (.laload, 1) := by decide +kernel
theorem dX12_count_105 : decode cX12_count 105 = .ok (.invokestatic 544, 3) := by decide +kernel
theorem dX12_count_108 : decode cX12_count 108 = .ok (.ireturn, 1) := by decide +kernel
theorem dX12_count_109 : decode cX12_count 109 = .ok (.iconst 0, 1) := by decide +kernel
theorem dX12_count_110 : decode cX12_count 110 = .ok (.istore_n 3, 1) := by decide +kernel
theorem dX12_count_111 : decode cX12_count 111 = .ok (.iload_n 3, 1) := by decide +kernel
theorem dX12_count_112 : decode cX12_count 112 = .ok (.iconst 2, 1) := by decide +kernel
theorem dX12_count_113 : decode cX12_count 113 = .ok (.aload_n 0, 1) := by decide +kernel
theorem dX12_count_114 : decode cX12_count 114 = .ok (.getfield 34, 3) := by decide +kernel
theorem dX12_count_117 : decode cX12_count 117 = .ok (.iconst 4, 1) := by decide +kernel
theorem dX12_count_118 : decode cX12_count 118 = .ok (.iaload, 1) := by decide +kernel
theorem dX12_count_119 : decode cX12_count 119 = .ok (.imul, 1) := by decide +kernel
theorem dX12_count_120 : decode cX12_count 120 = .ok (.if_icmp .ge 21, 3) := by decide +kernel
theorem dX12_count_123 : decode cX12_count 123 = .ok (.iload_n 2, 1) := by decide +kernel
theorem dX12_count_124 : decode cX12_count 124 = .ok (.aload_n 0, 1) := by decide +kernel
theorem dX12_count_125 : decode cX12_count 125 = .ok (.getfield 43, 3) := by decide +kernel
theorem dX12_count_128 : decode cX12_count 128 = .ok (.iload_n 3, 1) := by decide +kernel
theorem dX12_count_129 : decode cX12_count 129 = .ok (.laload, 1) := by decide +kernel
theorem dX12_count_130 : decode cX12_count 130 = .ok (.invokestatic 544, 3) := by decide +kernel
theorem dX12_count_133 : decode cX12_count 133 = .ok (.iadd, 1) := by decide +kernel
theorem dX12_count_134 : decode cX12_count 134 = .ok (.istore_n 2, 1) := by decide +kernel
theorem dX12_count_135 : decode cX12_count 135 = .ok (.iinc 3 1, 3) := by decide +kernel
theorem dX12_count_138 : decode cX12_count 138 = .ok (.goto (-27), 3) := by decide +kernel
theorem dX12_count_141 : decode cX12_count 141 = .ok (.iload_n 2, 1) := by decide +kernel
theorem dX12_count_142 : decode cX12_count 142 = .ok (.ireturn, 1) := by decide +kernel
theorem dX12_count_143 : decode cX12_count 143 = .ok (.aload_n 0, 1) := by decide +kernel
theorem dX12_count_144 : decode cX12_count 144 = .ok (.getfield 31, 3) := by decide +kernel
theorem dX12_count_147 : decode cX12_count 147 = .ok (.iconst 0, 1) := by decide +kernel
theorem dX12_count_148 : decode cX12_count 148 = .ok (.iaload, 1) := by decide +kernel
theorem dX12_count_149 : decode cX12_count 149 = .ok (.ireturn, 1) := by decide +kernel
theorem dX12_count_150 : decode cX12_count 150 = .ok (.aload_n 0, 1) := by decide +kernel
theorem dX12_count_151 : decode cX12_count 151 = .ok (.getfield 124, 3) := by decide +kernel
theorem dX12_count_154 : decode cX12_count 154 = .ok (.ireturn, 1) := by decide +kernel
theorem dX12_count_155 : decode cX12_count 155 = .ok (.iconst 0, 1) := by decide +kernel
theorem dX12_count_156 : decode cX12_count 156 = .ok (.istore_n 3, 1) := by decide +kernel
theorem dX12_count_157 : decode cX12_count 157 = .ok (.iload_n 3, 1) := by decide +kernel
theorem dX12_count_158 : decode cX12_count 158 = .ok (.iconst 4, 1) := by decide +kernel
theorem dX12_count_159 : decode cX12_count 159 = .ok (.if_icmp .ge 27, 3) := by decide +kernel
theorem dX12_count_162 : decode cX12_count 162 = .ok (.iload_n 2, 1) := by decide +kernel
theorem dX12_count_163 : decode cX12_count 163 = .ok (.aload_n 0, 1) := by decide +kernel
theorem dX12_count_164 : decode cX12_count 164 = .ok (.getfield 7, 3) := by decide +kernel
theorem dX12_count_167 : decode cX12_count 167 = .ok (.iload_n 3, 1) := by decide +kernel
theorem dX12_count_168 : decode cX12_count 168 = .ok (.iaload, 1) := by decide +kernel
theorem dX12_count_169 : decode cX12_count 169 = .ok (.iconst (-1), 1) := by decide +kernel
theorem dX12_count_170 : decode cX12_count 170 = .ok (.if_icmp .ne 7, 3) := by decide +kernel
theorem dX12_count_173 : decode cX12_count 173 = .ok (.iconst 0, 1) := by decide +kernel
theorem dX12_count_174 : decode cX12_count 174 = .ok (.goto 4, 3) := by decide +kernel
theorem dX12_count_177 : decode cX12_count 177 = .ok (.iconst 1, 1) := by decide +kernel
theorem dX12_count_178 : decode cX12_count 178 = .ok (.iadd, 1) := by decide +kernel
theorem dX12_count_179 : decode cX12_count 179 = .ok (.istore_n 2, 1) := by decide +kernel
theorem dX12_count_180 : decode cX12_count 180 = .ok (.iinc 3 1, 3) := by decide +kernel
theorem dX12_count_183 : decode cX12_count 183 = .ok (.goto (-26), 3) := by decide +kernel
theorem dX12_count_186 : decode cX12_count 186 = .ok (.iload_n 2, 1) := by decide +kernel
theorem dX12_count_187 : decode cX12_count 187 = .ok (.ireturn, 1) := by decide +kernel
theorem dX12_count_188 : decode cX12_count 188 = .ok (.iconst (-1), 1) := by decide +kernel
theorem dX12_count_189 : decode cX12_count 189 = .ok (.ireturn, 1) := by decide +kernel
theorem dX12_keep_0 : decode cX12_keep 0 = .ok (.aload_n 0, 1) := by decide +kernel
theorem dX12_keep_1 : decode cX12_keep 1 = .ok (.iconst 0, 1) := by decide +kernel
theorem dX12_keep_2 : decode cX12_keep 2 = .ok (.putfield 107, 3) := by decide +kernel
theorem dX12_keep_5 : decode cX12_keep 5 = .ok (.iload_n 1, 1) := by decide +kernel
theorem dX12_keep_6 : decode cX12_keep 6 = .ok (.i2l, 1) := by decide +kernel
theorem dX12_keep_7 : decode cX12_keep 7 = .ok (.lconst 0, 1) := by decide +kernel
theorem dX12_keep_8 : decode cX12_keep 8 = .ok (.ldc2_w 284, 3) := by decide +kernel
theorem dX12_keep_11 : decode cX12_keep 11 = .ok (.invokestatic 112, 3) := by decide +kernel
theorem dX12_keep_14 : decode cX12_keep 14 = .ok (.ifCond .ne 6, 3) := by decide +kernel
theorem dX12_keep_17 : decode cX12_keep 17 = .ok (.bipush (-2), 2) := by decide +kernel
theorem dX12_keep_19 : decode cX12_keep 19 = .ok (.ireturn, 1) := by decide +kernel
theorem dX12_keep_20 : decode cX12_keep 20 = .ok (.aload_n 0, 1) := by decide +kernel
theorem dX12_keep_21 : decode cX12_keep 21 = .ok (.iconst 0, 1) := by decide +kernel
theorem dX12_keep_22 : decode cX12_keep 22 = .ok (.iconst 1, 1) := by decide +kernel
theorem dX12_keep_23 : decode cX12_keep 23 = .ok (.iload_n 1, 1) := by decide +kernel
theorem dX12_keep_24 : decode cX12_keep 24 = .ok (.iadd, 1) := by decide +kernel
theorem dX12_keep_25 : decode cX12_keep 25 = .ok (.invokevirtual 263, 3) := by decide +kernel
theorem dX12_keep_28 : decode cX12_keep 28 = .ok (.aload_n 0, 1) := by decide +kernel
theorem dX12_keep_29 : decode cX12_keep 29 = .ok (.getfield 49, 3) := by decide +kernel
theorem dX12_keep_32 : decode cX12_keep 32 = .ok (.iload_n 1, 1) := by decide +kernel
theorem dX12_keep_33 : decode cX12_keep 33 = .ok (.iconst 1, 1) := by decide +kernel
theorem dX12_keep_34 : decode cX12_keep 34 = .ok (.bastore, 1) := by decide +kernel
theorem dX12_keep_35 : decode cX12_keep 35 = .ok (.iconst 0, 1) := by decide +kernel
theorem dX12_keep_36 : decode cX12_keep 36 = .ok (.ireturn, 1) := by decide +kernel
theorem dX12_on_0 : decode cX12_on 0 = .ok (.aload_n 0, 1) := by decide +kernel
theorem dX12_on_1 : decode cX12_on 1 = .ok (.iconst 0, 1) := by decide +kernel
theorem dX12_on_2 : decode cX12_on 2 = .ok (.putfield 107, 3) := by decide +kernel
theorem dX12_on_5 : decode cX12_on 5 = .ok (.iload_n 1, 1) := by decide +kernel
theorem dX12_on_6 : decode cX12_on 6 = .ok (.i2l, 1) := by decide +kernel
theorem dX12_on_7 : decode cX12_on 7 = .ok (.lconst 0, 1) := by decide +kernel
theorem dX12_on_8 : decode cX12_on 8 = .ok (.ldc2_w 284, 3) := by decide +kernel
theorem dX12_on_11 : decode cX12_on 11 = .ok (.invokestatic 112, 3) := by decide +kernel
theorem dX12_on_14 : decode cX12_on 14 = .ok (.ifCond .ne 6, 3) := by decide +kernel
theorem dX12_on_17 : decode cX12_on 17 = .ok (.bipush (-2), 2) := by decide +kernel
theorem dX12_on_19 : decode cX12_on 19 = .ok (.ireturn, 1) := by decide +kernel
theorem dX12_on_20 : decode cX12_on 20 = .ok (.aload_n 0, 1) := by decide +kernel
theorem dX12_on_21 : decode cX12_on 21 = .ok (.getfield 49, 3) := by decide +kernel
theorem dX12_on_24 : decode cX12_on 24 = .ok (.iload_n 1, 1) := by decide +kernel
theorem dX12_on_25 : decode cX12_on 25 = .ok (.baload, 1) := by decide +kernel
theorem dX12_on_26 : decode cX12_on 26 = .ok (.ifCond .ne 6, 3) := by decide +kernel
theorem dX12_on_29 : decode cX12_on 29 = .ok (.bipush (-6), 2) := by decide +kernel
theorem dX12_on_31 : decode cX12_on 31 = .ok (.ireturn, 1) := by decide +kernel
theorem dX12_on_32 : decode cX12_on 32 = .ok (.aload_n 0, 1) := by decide +kernel
theorem dX12_on_33 : decode cX12_on 33 = .ok (.iconst 1, 1) := by decide +kernel
theorem dX12_on_34 : decode cX12_on 34 = .ok (.iload_n 1, 1) := by decide +kernel
theorem dX12_on_35 : decode cX12_on 35 = .ok (.iadd, 1) := by decide +kernel
theorem dX12_on_36 : decode cX12_on 36 = .ok (.iconst 0, 1) := by decide +kernel
theorem dX12_on_37 : decode cX12_on 37 = .ok (.invokevirtual 263, 3) := by decide +kernel
theorem dX12_on_40 : decode cX12_on 40 = .ok (.iconst 0, 1) := by decide +kernel
theorem dX12_on_41 : decode cX12_on 41 = .ok (.ireturn, 1) := by decide +kernel
