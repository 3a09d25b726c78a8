theorem dX12_chances_0 : decode cX12_chances 0 = .ok (.aload_n 0, 1) := by decide +kernel
theorem dX12_chances_1 : decode cX12_chances 1 = .ok (.iconst 0, 1) := by decide +kernel
theorem dX12_chances_2 : decode cX12_chances 2 = .ok (.iload_n 2, 1) := by decide +kernel
theorem dX12_chances_3 : decode cX12_chances 3 = .ok (.invokevirtual 315, 3) := by decide +kernel
theorem dX12_chances_6 : decode cX12_chances 6 = .ok (.istore 5, 2) := by decide +kernel
theorem dX12_chances_8 : decode cX12_chances 8 = .ok (.aload_n 0, 1) := by decide +kernel
theorem dX12_chances_9 : decode cX12_chances 9 = .ok (.iconst 1, 1) := by decide +kernel
theorem dX12_chances_10 : decode cX12_chances 10 = .ok (.iload_n 2, 1) := by decide +kernel
theorem dX12_chances_11 : decode cX12_chances 11 = .ok (.invokevirtual 315, 3) := by decide +kernel
theorem dX12_chances_14 : decode cX12_chances 14 = .ok (.istore 6, 2) := by decide +kernel
theorem dX12_chances_16 : decode cX12_chances 16 = .ok (.iconst 0, 1) := by decide +kernel
theorem dX12_chances_17 : decode cX12_chances 17 = .ok (.istore 7, 2) := by decide +kernel
theorem dX12_chances_19 : decode cX12_chances 19 = .ok (.iload 7, 2) := by decide +kernel
theorem dX12_chances_21 : decode cX12_chances 21 = .ok (.iconst 4, 1) := by decide +kernel
theorem dX12_chances_22 : decode cX12_chances 22 = .ok (.if_icmp .ge 239, 3) := by decide +kernel
theorem dX12_chances_25 : decode cX12_chances 25 = .ok (.iload 7, 2) := by decide +kernel
theorem dX12_chances_27 : decode cX12_chances 27 = .ok (.iconst 0, 1) := by decide +kernel
theorem dX12_chances_28 : decode cX12_chances 28 = .ok (.invokestatic 288, 3) := by decide +kernel
theorem dX12_chances_31 : decode cX12_chances 31 = .ok (.ifCond .eq 8, 3) := by decide +kernel
theorem dX12_chances_34 : decode cX12_chances 34 = .ok (.iload 5, 2) := by decide +kernel
theorem dX12_chances_36 : decode cX12_chances 36 = .ok (.ifCond .eq 219, 3) := by decide +kernel
theorem dX12_chances_39 : decode cX12_chances 39 = .ok (.iload 7, 2) := by decide +kernel
theorem dX12_chances_41 : decode cX12_chances 41 = .ok (.iconst 1, 1) := by decide +kernel
theorem dX12_chances_42 : decode cX12_chances 42 = .ok (.invokestatic 288, 3) := by decide +kernel
theorem dX12_chances_45 : decode cX12_chances 45 = .ok (.ifCond .eq 11, 3) := by decide +kernel
theorem dX12_chances_48 : decode cX12_chances 48 = .ok (.iload 6, 2) := by decide +kernel
theorem dX12_chances_50 : decode cX12_chances 50 = .ok (.ifCond .ne 6, 3) := by decide +kernel
theorem dX12_chances_53 : decode cX12_chances 53 = .ok (.goto 202, 3) := by decide +kernel
theorem dX12_chances_56 : decode cX12_chances 56 = .ok (.iload 5, 2) := by decide +kernel
theorem dX12_chances_58 : decode cX12_chances 58 = .ok (.ifCond .eq 36, 3) := by decide +kernel
theorem dX12_chances_61 : decode cX12_chances 61 = .ok (.iload 7, 2) := by decide +kernel
theorem dX12_chances_63 : decode cX12_chances 63 = .ok (.iconst 0, 1) := by decide +kernel
theorem dX12_chances_64 : decode cX12_chances 64 = .ok (.invokestatic 288, 3) := by decide +kernel
theorem dX12_chances_67 : decode cX12_chances 67 = .ok (.ifCond .eq 17, 3) := by decide +kernel
theorem dX12_chances_70 : decode cX12_chances 70 = .ok (.ldc2_w 307, 3) := by decide +kernel
theorem dX12_chances_73 : decode cX12_chances 73 = .ok (.aload_n 0, 1) := by decide +kernel
theorem dX12_chances_74 : decode cX12_chances 74 = .ok (.iload_n 1, 1) := by decide +kernel
theorem dX12_chances_75 : decode cX12_chances 75 = .ok (.iconst 0, 1) := by decide +kernel
theorem dX12_chances_76 : decode cX12_chances 76 = .ok (.invokevirtual 432, 3) := by decide +kernel
theorem dX12_chances_79 : decode cX12_chances 79 = .ok (.i2l, 1) := by decide +kernel
theorem dX12_chances_80 : decode cX12_chances 80 = .ok (.lsub, 1) := by decide +kernel
theorem dX12_chances_81 : decode cX12_chances 81 = .ok (.goto 16, 3) := by decide +kernel
theorem dX12_chances_84 : decode cX12_chances 84 = .ok (.aload_n 0, 1) := by decide +kernel
theorem dX12_chances_85 : decode cX12_chances 85 = .ok (.iload_n 1, 1) := by decide +kernel
theorem dX12_chances_86 : decode cX12_chances 86 = .ok (.iconst 0, 1) := by decide +kernel
theorem dX12_chances_87 : decode cX12_chances 87 = .ok (.invokevirtual 432, 3) := by decide +kernel
theorem dX12_chances_90 : decode cX12_chances 90 = .ok (.i2l, 1) := by decide +kernel
theorem dX12_chances_91 : decode cX12_chances 91 = .ok (.goto 6, 3) := by decide +kernel
theorem dX12_chances_94 : decode cX12_chances 94 = .ok (.ldc2_w 307, 3) := by decide +kernel
theorem dX12_chances_97 : decode cX12_chances 97 = .ok (.iload 6, 2) := by decide +kernel
theorem dX12_chances_99 : decode cX12_chances 99 = .ok (.ifCond .eq 36, 3) := by decide +kernel
theorem dX12_chances_102 : decode cX12_chances 102 = .ok (.iload 7, 2) := by decide +kernel
theorem dX12_chances_104 : decode cX12_chances 104 = .ok (.iconst 1, 1) := by decide +kernel
theorem dX12_chances_105 : decode cX12_chances 105 = .ok (.invokestatic 288, 3) := by decide +kernel
theorem dX12_chances_108 : decode cX12_chances 108 = .ok (.ifCond .eq 17, 3) := by decide +kernel
theorem dX12_chances_111 : decode cX12_chances 111 = .ok (.ldc2_w 307, 3) := by decide +kernel
theorem dX12_chances_114 : decode cX12_chances 114 = .ok (.aload_n 0, 1) := by decide +kernel
theorem dX12_chances_115 : decode cX12_chances 115 = .ok (.iload_n 1, 1) := by decide +kernel
theorem dX12_chances_116 : decode cX12_chances 116 = .ok (.iconst 1, 1) := by decide +kernel
theorem dX12_chances_117 : decode cX12_chances 117 = .ok (.invokevirtual 432, 3) := by decide +kernel
theorem dX12_chances_120 : decode cX12_chances 120 = .ok (.i2l, 1) := by decide +kernel
theorem dX12_chances_121 : decode cX12_chances 121 = .ok (.lsub, 1) := by decide +kernel
theorem dX12_chances_122 : decode cX12_chances 122 = .ok (.goto 16, 3) := by decide +kernel
theorem dX12_chances_125 : decode cX12_chances 125 = .ok (.aload_n 0, 1) := by decide +kernel
theorem dX12_chances_126 : decode cX12_chances 126 = .ok (.iload_n 1, 1) := by decide +kernel
theorem dX12_chances_127 : decode cX12_chances 127 = .ok (.iconst 1, 1) := by decide +kernel
theorem dX12_chances_128 : decode cX12_chances 128 = .ok (.invokevirtual 432, 3) := by decide +kernel
theorem dX12_chances_131 : decode cX12_chances 131 = .ok (.i2l, 1) := by decide +kernel
theorem dX12_chances_132 : decode cX12_chances 132 = .ok (.goto 6, 3) := by decide +kernel
theorem dX12_chances_135 : decode cX12_chances 135 = .ok (.ldc2_w 307, 3) := by decide +kernel
theorem dX12_chances_138 : decode cX12_chances 138 = .ok (.lmul, 1) := by decide +kernel
theorem dX12_chances_139 : decode cX12_chances 139 = .ok (.lstore 8, 2) := by decide +kernel
theorem dX12_chances_141 : decode cX12_chances 141 = .ok (.iload 7, 2) := by decide +kernel
theorem dX12_chances_143 : decode cX12_chances 143 = .ok (.iconst 1, 1) := by decide +kernel
theorem dX12_chances_144 : decode cX12_chances 144 = .ok (.if_icmp .ne 7, 3) := by decide +kernel
theorem dX12_chances_147 : decode cX12_chances 147 = .ok (.iconst 1, 1) := by decide +kernel
theorem dX12_chances_148 : decode cX12_chances 148 = .ok (.goto 14, 3) := by decide +kernel
theorem dX12_chances_151 : decode cX12_chances 151 = .ok (.iload 7, 2) := by decide +kernel
theorem dX12_chances_153 : decode cX12_chances 153 = .ok (.iconst 2, 1) := by decide +kernel
theorem dX12_chances_154 : decode cX12_chances 154 = .ok (.if_icmp .ne 7, 3) := by decide +kernel
theorem dX12_chances_157 : decode cX12_chances 157 = .ok (.iconst 0, 1) := by decide +kernel
theorem dX12_chances_158 : decode cX12_chances 158 = .ok (.goto 4, 3) := by decide +kernel
theorem dX12_chances_161 : decode cX12_chances 161 = .ok (.iconst (-1), 1) := by decide +kernel
theorem dX12_chances_162 : decode cX12_chances 162 = .ok (.istore 10, 2) := by decide +kernel
theorem dX12_chances_164 : decode cX12_chances 164 = .ok (.iload 10, 2) := by decide +kernel
theorem dX12_chances_166 : decode cX12_chances 166 = .ok (.iconst (-1), 1) := by decide +kernel
theorem dX12_chances_167 : decode cX12_chances 167 = .ok (.if_icmp .eq 19, 3) := by decide +kernel
theorem dX12_chances_170 : decode cX12_chances 170 = .ok (.aload_n 0, 1) := by decide +kernel
theorem dX12_chances_171 : decode cX12_chances 171 = .ok (.getfield 53, 3) := by decide +kernel
theorem dX12_chances_174 : decode cX12_chances 174 = .ok (.iload 10, 2) := by decide +kernel
theorem dX12_chances_176 : decode cX12_chances 176 = .ok (.iaload, 1) := by decide +kernel
theorem dX12_chances_177 : decode cX12_chances 177 = .ok (.bipush 16, 2) := by decide +kernel
theorem dX12_chances_179 : decode cX12_chances 179 = .ok (.if_icmp .lt 7, 3) := by decide +kernel
theorem dX12_chances_182 : decode cX12_chances 182 = .ok (.iconst 1, 1) := by decide +kernel
theorem dX12_chances_183 : decode cX12_chances 183 = .ok (.goto 4, 3) := by decide +kernel
theorem dX12_chances_186 : decode cX12_chances 186 = .ok (.iconst 0, 1) := by decide +kernel
theorem dX12_chances_187 : decode cX12_chances 187 = .ok (.istore 11, 2) := by decide +kernel
theorem dX12_chances_189 : decode cX12_chances 189 = .ok (.iload 11, 2) := by decide +kernel
theorem dX12_chances_191 : decode cX12_chances 191 = .ok (.ifCond .ne 21, 3) := by decide +kernel
theorem dX12_chances_194 : decode cX12_chances 194 = .ok (.aload_n 0, 1) := by decide +kernel
theorem dX12_chances_195 : decode cX12_chances 195 = .ok (.iload_n 2, 1) := by decide +kernel
theorem dX12_chances_196 : decode cX12_chances 196 = .ok (.iload 7, 2) := by decide +kernel
theorem dX12_chances_198 : decode cX12_chances 198 = .ok (.lload_n 3, 1) := by decide +kernel
theorem dX12_chances_199 : decode cX12_chances 199 = .ok (.lload 8, 2) := by decide +kernel
theorem dX12_chances_201 : decode cX12_chances 201 = .ok (.lmul, 1) := by decide +kernel
theorem dX12_chances_202 : decode cX12_chances 202 = .ok (.ldc2_w 307, 3) := by decide +kernel
theorem dX12_chances_205 : decode cX12_chances 205 = .ok (.lmul, 1) := by decide +kernel
theorem dX12_chances_206 : decode cX12_chances 206 = .ok (.invokevirtual 435, 3) := by decide +kernel
theorem dX12_chances_209 : decode cX12_chances 209 = .ok (.goto 46, 3) := by decide +kernel
theorem dX12_chances_212 : decode cX12_chances 212 = .ok (.aload_n 0, 1) := by decide +kernel
theorem dX12_chances_213 : decode cX12_chances 213 = .ok (.iload_n 2, 1) := by decide +kernel
theorem dX12_chances_214 : decode cX12_chances 214 = .ok (.iload 7, 2) := by decide +kernel
theorem dX12_chances_216 : decode cX12_chances 216 = .ok (.lload_n 3, 1) := by decide +kernel
theorem dX12_chances_217 : decode cX12_chances 217 = .ok (.lload 8, 2) := by decide +kernel
theorem dX12_chances_219 : decode cX12_chances 219 = .ok (.lmul, 1) := by decide +kernel
theorem dX12_chances_220 : decode cX12_chances 220 = .ok (.aload_n 0, 1) := by decide +kernel
theorem dX12_chances_221 : decode cX12_chances 221 = .ok (.iload_n 1, 1) := by decide +kernel
theorem dX12_chances_222 : decode cX12_chances 222 = .ok (.iload 10, 2) := by decide +kernel
theorem dX12_chances_224 : decode cX12_chances 224 = .ok (.invokevirtual 432, 3) := by decide +kernel
theorem dX12_chances_227 : decode cX12_chances 227 = .ok (.i2l, 1) := by decide +kernel
theorem dX12_chances_228 : decode cX12_chances 228 = .ok (.lmul, 1) := by decide +kernel
theorem dX12_chances_229 : decode cX12_chances 229 = .ok (.invokevirtual 435, 3) := by decide +kernel
theorem dX12_chances_232 : decode cX12_chances 232 = .ok (.aload_n 0, 1) := by decide +kernel
theorem dX12_chances_233 : decode cX12_chances 233 = .ok (.iload_n 2, 1) := by decide +kernel
theorem dX12_chances_234 : decode cX12_chances 234 = .ok (.iconst 3, 1) := by decide +kernel
theorem dX12_chances_235 : decode cX12_chances 235 = .ok (.lload_n 3, 1) := by decide +kernel
theorem dX12_chances_236 : decode cX12_chances 236 = .ok (.lload 8, 2) := by decide +kernel
theorem dX12_chances_238 : decode cX12_chances 238 = .ok (.lmul, 1) := by decide +kernel
theorem dX12_chances_239 : decode cX12_chances 239 = .ok (.ldc2_w 307, 3) := by decide +kernel
theorem dX12_chances_242 : decode cX12_chances 242 = .ok (.aload_n 0, 1) := by decide +kernel
theorem dX12_chances_243 : decode cX12_chances 243 = .ok (.iload_n 1, 1) := by decide +kernel
theorem dX12_chances_244 : decode cX12_chances 244 = .ok (.iload 10, 2) := by decide +kernel
theorem dX12_chances_246 : decode cX12_chances 246 = .ok (.invokevirtual 432, 3) := by decide +kernel
theorem dX12_chances_249 : decode cX12_chances 249 = .ok (.i2l, 1) := by decide +kernel
theorem dX12_chances_250 : decode cX12_chances 250 = .ok (.lsub, 1) := by decide +kernel
theorem dX12_chances_251 : decode cX12_chances 251 = .ok (.lmul, 1) := by decide +kernel
theorem dX12_chances_252 : decode cX12_chances 252 = .ok (.invokevirtual 435, 3) := by decide +kernel
theorem dX12_chances_255 : decode cX12_chances 255 = .ok (.iinc 7 1, 3) := by decide +kernel
theorem dX12_chances_258 : decode cX12_chances 258 = .ok (.goto (-239), 3) := by decide +kernel
theorem dX12_chances_261 : decode cX12_chances 261 = .ok (.return_, 1) := by decide +kernel
theorem dX12_laysChances_0 : decode cX12_laysChances 0 = .ok (.aload_n 0, 1) := by decide +kernel
theorem dX12_laysChances_1 : decode cX12_laysChances 1 = .ok (.aload_n 0, 1) := by decide +kernel
theorem dX12_laysChances_2 : decode cX12_laysChances 2 = .ok (.iload_n 1, 1) := by decide +kernel
theorem dX12_laysChances_3 : decode cX12_laysChances 3 = .ok (.iconst 0, 1) := by decide +kernel
theorem dX12_laysChances_4 : decode cX12_laysChances 4 = .ok (.invokevirtual 409, 3) := by decide +kernel
theorem dX12_laysChances_7 : decode cX12_laysChances 7 = .ok (.aload_n 0, 1) := by decide +kernel
theorem dX12_laysChances_8 : decode cX12_laysChances 8 = .ok (.iload_n 1, 1) := by decide +kernel
theorem dX12_laysChances_9 : decode cX12_laysChances 9 = .ok (.iconst 1, 1) := by decide +kernel
theorem dX12_laysChances_10 : decode cX12_laysChances 10 = .ok (.invokevirtual 409, 3) := by decide +kernel
theorem dX12_laysChances_13 : decode cX12_laysChances 13 = .ok (.invokevirtual 382, 3) := by decide +kernel
theorem dX12_laysChances_16 : decode cX12_laysChances 16 = .ok (.iconst 0, 1) := by decide +kernel
theorem dX12_laysChances_17 : decode cX12_laysChances 17 = .ok (.istore_n 3, 1) := by decide +kernel
theorem dX12_laysChances_18 : decode cX12_laysChances 18 = .ok (.iload_n 3, 1) := by decide +kernel
theorem dX12_laysChances_19 : decode cX12_laysChances 19 = .ok (.bipush 16, 2) := by decide +kernel
theorem dX12_laysChances_21 : decode cX12_laysChances 21 = .ok (.if_icmp .ge 34, 3) := by decide +kernel
theorem dX12_laysChances_24 : decode cX12_laysChances 24 = .ok (.aload_n 0, 1) := by decide +kernel
theorem dX12_laysChances_25 : decode cX12_laysChances 25 = .ok (.getfield 92, 3) := by decide +kernel
theorem dX12_laysChances_28 : decode cX12_laysChances 28 = .ok (.iload_n 3, 1) := by decide +kernel
theorem dX12_laysChances_29 : decode cX12_laysChances 29 = .ok (.iload_n 3, 1) := by decide +kernel
theorem dX12_laysChances_30 : decode cX12_laysChances 30 = .ok (.aload_n 0, 1) := by decide +kernel
theorem dX12_laysChances_31 : decode cX12_laysChances 31 = .ok (.getfield 40, 3) := by decide +kernel
theorem dX12_laysChances_34 : decode cX12_laysChances 34 = .ok (.iconst 3, 1) := by decide +kernel
theorem dX12_laysChances_35 : decode cX12_laysChances 35 = .ok (.iload_n 1, 1) := by decide +kernel
theorem dX12_laysChances_36 : decode cX12_laysChances 36 = .ok (.imul, 1) := by decide +kernel
theorem dX12_laysChances_37 : decode cX12_laysChances 37 = .ok (.iconst 2, 1) := by decide +kernel
theorem dX12_laysChances_38 : decode cX12_laysChances 38 = .ok (.iadd, 1) := by decide +kernel
theorem dX12_laysChances_39 : decode cX12_laysChances 39 = .ok (.iaload, 1) := by decide +kernel
theorem dX12_laysChances_40 : decode cX12_laysChances 40 = .ok (.if_icmp .ne 7, 3) := by decide +kernel
theorem dX12_laysChances_43 : decode cX12_laysChances 43 = .ok (.lconst 1, 1) := by decide +kernel
theorem dX12_laysChances_44 : decode cX12_laysChances 44 = .ok (.goto 4, 3) := by decide +kernel
theorem dX12_laysChances_47 : decode cX12_laysChances 47 = .ok (.lconst 0, 1) := by decide +kernel
theorem dX12_laysChances_48 : decode cX12_laysChances 48 = .ok (.lastore, 1) := by decide +kernel
theorem dX12_laysChances_49 : decode cX12_laysChances 49 = .ok (.iinc 3 1, 3) := by decide +kernel
theorem dX12_laysChances_52 : decode cX12_laysChances 52 = .ok (.goto (-34), 3) := by decide +kernel
theorem dX12_laysChances_55 : decode cX12_laysChances 55 = .ok (.lconst 1, 1) := by decide +kernel
theorem dX12_laysChances_56 : decode cX12_laysChances 56 = .ok (.lstore_n 3, 1) := by decide +kernel
theorem dX12_laysChances_57 : decode cX12_laysChances 57 = .ok (.lconst 0, 1) := by decide +kernel
theorem dX12_laysChances_58 : decode cX12_laysChances 58 = .ok (.lstore 5, 2) := by decide +kernel
theorem dX12_laysChances_60 : decode cX12_laysChances 60 = .ok (.iconst 0, 1) := by decide +kernel
theorem dX12_laysChances_61 : decode cX12_laysChances 61 = .ok (.istore 7, 2) := by decide +kernel
theorem dX12_laysChances_63 : decode cX12_laysChances 63 = .ok (.iload 7, 2) := by decide +kernel
theorem dX12_laysChances_65 : decode cX12_laysChances 65 = .ok (.iload_n 2, 1) := by decide +kernel
theorem dX12_laysChances_66 : decode cX12_laysChances 66 = .ok (.if_icmp .ge 139, 3) := by decide +kernel
theorem dX12_laysChances_69 : decode cX12_laysChances 69 = .ok (.iconst 0, 1) := by decide +kernel
theorem dX12_laysChances_70 : decode cX12_laysChances 70 = .ok (.istore 8, 2) := by decide +kernel
theorem dX12_laysChances_72 : decode cX12_laysChances 72 = .ok (.iload 8, 2) := by decide +kernel
theorem dX12_laysChances_74 : decode cX12_laysChances 74 = .ok (.bipush 16, 2) := by decide +kernel
theorem dX12_laysChances_76 : decode cX12_laysChances 76 = .ok (.if_icmp .ge 17, 3) := by decide +kernel
theorem dX12_laysChances_79 : decode cX12_laysChances 79 = .ok (.aload_n 0, 1) := by decide +kernel
theorem dX12_laysChances_80 : decode cX12_laysChances 80 = .ok (.getfield 95, 3) := by decide +kernel
theorem dX12_laysChances_83 : decode cX12_laysChances 83 = .ok (.iload 8, 2) := by decide +kernel
theorem dX12_laysChances_85 : decode cX12_laysChances 85 = .ok (.lconst 0, 1) := by decide +kernel
theorem dX12_laysChances_86 : decode cX12_laysChances 86 = .ok (.lastore, 1) := by decide +kernel
theorem dX12_laysChances_87 : decode cX12_laysChances 87 = .ok (.iinc 8 1, 3) := by decide +kernel
theorem dX12_laysChances_90 : decode cX12_laysChances 90 = .ok (.goto (-18), 3) := by decide +kernel
theorem dX12_laysChances_93 : decode cX12_laysChances 93 = .ok (.aload_n 0, 1) := by decide +kernel
theorem dX12_laysChances_94 : decode cX12_laysChances 94 = .ok (.lconst 0, 1) := by decide +kernel
theorem dX12_laysChances_95 : decode cX12_laysChances 95 = .ok (.putfield 439, 3) := by decide +kernel
theorem dX12_laysChances_98 : decode cX12_laysChances 98 = .ok (.aload_n 0, 1) := by decide +kernel
theorem dX12_laysChances_99 : decode cX12_laysChances 99 = .ok (.lconst 0, 1) := by decide +kernel
theorem dX12_laysChances_100 : decode cX12_laysChances 100 = .ok (.putfield 442, 3) := by decide +kernel
theorem dX12_laysChances_103 : decode cX12_laysChances 103 = .ok (.aload_n 0, 1) := by decide +kernel
theorem dX12_laysChances_104 : decode cX12_laysChances 104 = .ok (.lconst 0, 1) := by decide +kernel
theorem dX12_laysChances_105 : decode cX12_laysChances 105 = .ok (.putfield 445, 3) := by decide +kernel
theorem dX12_laysChances_108 : decode cX12_laysChances 108 = .ok (.iconst 0, 1) := by decide +kernel
theorem dX12_laysChances_109 : decode cX12_laysChances 109 = .ok (.istore 8, 2) := by decide +kernel
theorem dX12_laysChances_111 : decode cX12_laysChances 111 = .ok (.iload 8, 2) := by decide +kernel
theorem dX12_laysChances_113 : decode cX12_laysChances 113 = .ok (.bipush 16, 2) := by decide +kernel
theorem dX12_laysChances_115 : decode cX12_laysChances 115 = .ok (.if_icmp .ge 35, 3) := by decide +kernel
theorem dX12_laysChances_118 : decode cX12_laysChances 118 = .ok (.aload_n 0, 1) := by decide +kernel
theorem dX12_laysChances_119 : decode cX12_laysChances 119 = .ok (.getfield 92, 3) := by decide +kernel
theorem dX12_laysChances_122 : decode cX12_laysChances 122 = .ok (.iload 8, 2) := by decide +kernel
theorem dX12_laysChances_124 : decode cX12_laysChances 124 = .ok (.laload, 1) := by decide +kernel
theorem dX12_laysChances_125 : decode cX12_laysChances 125 = .ok (.lconst 0, 1) := by decide +kernel
theorem dX12_laysChances_126 : decode cX12_laysChances 126 = .ok (.lcmp, 1) := by decide +kernel
theorem dX12_laysChances_127 : decode cX12_laysChances 127 = .ok (.ifCond .le 17, 3) := by decide +kernel
theorem dX12_laysChances_130 : decode cX12_laysChances 130 = .ok (.aload_n 0, 1) := by decide +kernel
theorem dX12_laysChances_131 : decode cX12_laysChances 131 = .ok (.iload_n 1, 1) := by decide +kernel
theorem dX12_laysChances_132 : decode cX12_laysChances 132 = .ok (.iload 8, 2) := by decide +kernel
theorem dX12_laysChances_134 : decode cX12_laysChances 134 = .ok (.aload_n 0, 1) := by decide +kernel
theorem dX12_laysChances_135 : decode cX12_laysChances 135 = .ok (.getfield 92, 3) := by decide +kernel
theorem dX12_laysChances_138 : decode cX12_laysChances 138 = .ok (.iload 8, 2) := by decide +kernel
theorem dX12_laysChances_140 : decode cX12_laysChances 140 = .ok (.laload, 1) := by decide +kernel
theorem dX12_laysChances_141 : decode cX12_laysChances 141 = .ok (.invokevirtual 448, 3) := by decide +kernel
theorem dX12_laysChances_144 : decode cX12_laysChances 144 = .ok (.iinc 8 1, 3) := by decide +kernel
theorem dX12_laysChances_147 : decode cX12_laysChances 147 = .ok (.goto (-36), 3) := by decide +kernel
theorem dX12_laysChances_150 : decode cX12_laysChances 150 = .ok (.iconst 0, 1) := by decide +kernel
theorem dX12_laysChances_151 : decode cX12_laysChances 151 = .ok (.istore 8, 2) := by decide +kernel
theorem dX12_laysChances_153 : decode cX12_laysChances 153 = .ok (.iload 8, 2) := by decide +kernel
theorem dX12_laysChances_155 : decode cX12_laysChances 155 = .ok (.bipush 16, 2) := by decide +kernel
theorem dX12_laysChances_157 : decode cX12_laysChances 157 = .ok (.if_icmp .ge 23, 3) := by decide +kernel
theorem dX12_laysChances_160 : decode cX12_laysChances 160 = .ok (.aload_n 0, 1) := by decide +kernel
theorem dX12_laysChances_161 : decode cX12_laysChances 161 = .ok (.getfield 92, 3) := by decide +kernel
theorem dX12_laysChances_164 : decode cX12_laysChances 164 = .ok (.iload 8, 2) := by decide +kernel
theorem dX12_laysChances_166 : decode cX12_laysChances 166 = .ok (.aload_n 0, 1) := by decide +kernel
theorem dX12_laysChances_167 : decode cX12_laysChances 167 = .ok (.getfield 95, 3) := by decide +kernel
theorem dX12_laysChances_170 : decode cX12_laysChances 170 = .ok (.iload 8, 2) := by decide +kernel
theorem dX12_laysChances_172 : decode cX12_laysChances 172 = .ok (.laload, 1) := by decide +kernel
theorem dX12_laysChances_173 : decode cX12_laysChances 173 = .ok (.lastore, 1) := by decide +kernel
theorem dX12_laysChances_174 : decode cX12_laysChances 174 = .ok (.iinc 8 1, 3) := by decide +kernel
theorem dX12_laysChances_177 : decode cX12_laysChances 177 = .ok (.goto (-24), 3) := by decide +kernel
theorem dX12_laysChances_180 : decode cX12_laysChances 180 = .ok (.lload_n 3, 1) := by decide +kernel
theorem dX12_laysChances_181 : decode cX12_laysChances 181 = .ok (.ldc2_w 451, 3) := by decide +kernel
theorem dX12_laysChances_184 : decode cX12_laysChances 184 = .ok (.lmul, 1) := by decide +kernel
theorem dX12_laysChances_185 : decode cX12_laysChances 185 = .ok (.lstore_n 3, 1) := by decide +kernel
theorem dX12_laysChances_186 : decode cX12_laysChances 186 = .ok (.lload 5, 2) := by decide +kernel
theorem dX12_laysChances_188 : decode cX12_laysChances 188 = .ok (.ldc2_w 451, 3) := by decide +kernel
theorem dX12_laysChances_191 : decode cX12_laysChances 191 = .ok (.lmul, 1) := by decide +kernel
theorem dX12_laysChances_192 : decode cX12_laysChances 192 = .ok (.aload_n 0, 1) := by decide +kernel
theorem dX12_laysChances_193 : decode cX12_laysChances 193 = .ok (.getfield 445, 3) := by decide +kernel
theorem dX12_laysChances_196 : decode cX12_laysChances 196 = .ok (.ladd, 1) := by decide +kernel
theorem dX12_laysChances_197 : decode cX12_laysChances 197 = .ok (.lstore 5, 2) := by decide +kernel
theorem dX12_laysChances_199 : decode cX12_laysChances 199 = .ok (.iinc 7 1, 3) := by decide +kernel
theorem dX12_laysChances_202 : decode cX12_laysChances 202 = .ok (.goto (-139), 3) := by decide +kernel
theorem dX12_laysChances_205 : decode cX12_laysChances 205 = .ok (.aload_n 0, 1) := by decide +kernel
theorem dX12_laysChances_206 : decode cX12_laysChances 206 = .ok (.lload 5, 2) := by decide +kernel
theorem dX12_laysChances_208 : decode cX12_laysChances 208 = .ok (.putfield 445, 3) := by decide +kernel
theorem dX12_laysChances_211 : decode cX12_laysChances 211 = .ok (.lload_n 3, 1) := by decide +kernel
theorem dX12_laysChances_212 : decode cX12_laysChances 212 = .ok (.lreturn, 1) := by decide +kernel
theorem dX12_costNow_0 : decode cX12_costNow 0 = .ok (.iload_n 2, 1) := by decide +kernel
theorem dX12_costNow_1 : decode cX12_costNow 1 = .ok (.ifCond .eq 18, 3) := by decide +kernel
theorem dX12_costNow_4 : decode cX12_costNow 4 = .ok (.aload_n 0, 1) := by decide +kernel
theorem dX12_costNow_5 : decode cX12_costNow 5 = .ok (.getfield 62, 3) := by decide +kernel
theorem dX12_costNow_8 : decode cX12_costNow 8 = .ok (.iload_n 1, 1) := by decide +kernel
theorem dX12_costNow_9 : decode cX12_costNow 9 = .ok (.iaload, 1) := by decide +kernel
theorem dX12_costNow_10 : decode cX12_costNow 10 = .ok (.ifCond .le 7, 3) := by decide +kernel
theorem dX12_costNow_13 : decode cX12_costNow 13 = .ok (.iconst 1, 1) := by decide +kernel
theorem dX12_costNow_14 : decode cX12_costNow 14 = .ok (.goto 4, 3) := by decide +kernel
theorem dX12_costNow_17 : decode cX12_costNow 17 = .ok (.iconst 0, 1) := by decide +kernel
theorem dX12_costNow_18 : decode cX12_costNow 18 = .ok (.ireturn, 1) := by decide +kernel
theorem dX12_costNow_19 : decode cX12_costNow 19 = .ok (.iconst 0, 1) := by decide +kernel
theorem dX12_costNow_20 : decode cX12_costNow 20 = .ok (.istore_n 3, 1) := by decide +kernel
theorem dX12_costNow_21 : decode cX12_costNow 21 = .ok (.iconst 0, 1) := by decide +kernel
theorem dX12_costNow_22 : decode cX12_costNow 22 = .ok (.istore 4, 2) := by decide +kernel
theorem dX12_costNow_24 : decode cX12_costNow 24 = .ok (.iload 4, 2) := by decide +kernel
theorem dX12_costNow_26 : decode cX12_costNow 26 = .ok (.iconst 2, 1) := by decide +kernel
theorem dX12_costNow_27 : decode cX12_costNow 27 = .ok (.if_icmp .ge 63, 3) := by decide +kernel
theorem dX12_costNow_30 : decode cX12_costNow 30 = .ok (.iload_n 3, 1) := by decide +kernel
theorem dX12_costNow_31 : decode cX12_costNow 31 = .ok (.aload_n 0, 1) := by decide +kernel
theorem dX12_costNow_32 : decode cX12_costNow 32 = .ok (.getfield 62, 3) := by decide +kernel
theorem dX12_costNow_35 : decode cX12_costNow 35 = .ok (.iload 4, 2) := by decide +kernel
theorem dX12_costNow_37 : decode cX12_costNow 37 = .ok (.iaload, 1) := by decide +kernel
theorem dX12_costNow_38 : decode cX12_costNow 38 = .ok (.ifCond .le 12, 3) := by decide +kernel
theorem dX12_costNow_41 : decode cX12_costNow 41 = .ok (.aload_n 0, 1) := by decide +kernel
theorem dX12_costNow_42 : decode cX12_costNow 42 = .ok (.getfield 34, 3) := by decide +kernel
theorem dX12_costNow_45 : decode cX12_costNow 45 = .ok (.iconst 1, 1) := by decide +kernel
theorem dX12_costNow_46 : decode cX12_costNow 46 = .ok (.iaload, 1) := by decide +kernel
theorem dX12_costNow_47 : decode cX12_costNow 47 = .ok (.goto 4, 3) := by decide +kernel
theorem dX12_costNow_50 : decode cX12_costNow 50 = .ok (.iconst 0, 1) := by decide +kernel
theorem dX12_costNow_51 : decode cX12_costNow 51 = .ok (.aload_n 0, 1) := by decide +kernel
theorem dX12_costNow_52 : decode cX12_costNow 52 = .ok (.getfield 62, 3) := by decide +kernel
theorem dX12_costNow_55 : decode cX12_costNow 55 = .ok (.iload 4, 2) := by decide +kernel
theorem dX12_costNow_57 : decode cX12_costNow 57 = .ok (.iaload, 1) := by decide +kernel
theorem dX12_costNow_58 : decode cX12_costNow 58 = .ok (.ifCond .le 22, 3) := by decide +kernel
theorem dX12_costNow_61 : decode cX12_costNow 61 = .ok (.aload_n 0, 1) := by decide +kernel
theorem dX12_costNow_62 : decode cX12_costNow 62 = .ok (.getfield 65, 3) := by decide +kernel
theorem dX12_costNow_65 : decode cX12_costNow 65 = .ok (.iload 4, 2) := by decide +kernel
theorem dX12_costNow_67 : decode cX12_costNow 67 = .ok (.baload, 1) := by decide +kernel
theorem dX12_costNow_68 : decode cX12_costNow 68 = .ok (.ifCond .ne 12, 3) := by decide +kernel
theorem dX12_costNow_71 : decode cX12_costNow 71 = .ok (.aload_n 0, 1) := by decide +kernel
theorem dX12_costNow_72 : decode cX12_costNow 72 = .ok (.getfield 34, 3) := by decide +kernel
theorem dX12_costNow_75 : decode cX12_costNow 75 = .ok (.iconst 2, 1) := by decide +kernel
theorem dX12_costNow_76 : decode cX12_costNow 76 = .ok (.iaload, 1) := by decide +kernel
theorem dX12_costNow_77 : decode cX12_costNow 77 = .ok (.goto 4, 3) := by decide +kernel
theorem dX12_costNow_80 : decode cX12_costNow 80 = .ok (.iconst 0, 1) := by decide +kernel
theorem dX12_costNow_81 : decode cX12_costNow 81 = .ok (.iadd, 1) := by decide +kernel
theorem dX12_costNow_82 : decode cX12_costNow 82 = .ok (.iadd, 1) := by decide +kernel
theorem dX12_costNow_83 : decode cX12_costNow 83 = .ok (.istore_n 3, 1) := by decide +kernel
theorem dX12_costNow_84 : decode cX12_costNow 84 = .ok (.iinc 4 1, 3) := by decide +kernel
theorem dX12_costNow_87 : decode cX12_costNow 87 = .ok (.goto (-63), 3) := by decide +kernel
theorem dX12_costNow_90 : decode cX12_costNow 90 = .ok (.iload_n 3, 1) := by decide +kernel
theorem dX12_costNow_91 : decode cX12_costNow 91 = .ok (.ireturn, 1) := by decide +kernel
theorem dX12_quitOf_0 : decode cX12_quitOf 0 = .ok (.aload_n 0, 1) := by decide +kernel
theorem dX12_quitOf_1 : decode cX12_quitOf 1 = .ok (.getfield 40, 3) := by decide +kernel
theorem dX12_quitOf_4 : decode cX12_quitOf 4 = .ok (.iconst 3, 1) := by decide +kernel
theorem dX12_quitOf_5 : decode cX12_quitOf 5 = .ok (.iload_n 1, 1) := by decide +kernel
theorem dX12_quitOf_6 : decode cX12_quitOf 6 = .ok (.imul, 1) := by decide +kernel
theorem dX12_quitOf_7 : decode cX12_quitOf 7 = .ok (.iconst 2, 1) := by decide +kernel
theorem dX12_quitOf_8 : decode cX12_quitOf 8 = .ok (.iadd, 1) := by decide +kernel
theorem dX12_quitOf_9 : decode cX12_quitOf 9 = .ok (.iaload, 1) := by decide +kernel
theorem dX12_quitOf_10 : decode cX12_quitOf 10 = .ok (.istore 4, 2) := by decide +kernel
theorem dX12_quitOf_12 : decode cX12_quitOf 12 = .ok (.iconst 0, 1) := by decide +kernel
theorem dX12_quitOf_13 : decode cX12_quitOf 13 = .ok (.istore 5, 2) := by decide +kernel
theorem dX12_quitOf_15 : decode cX12_quitOf 15 = .ok (.iconst 0, 1) := by decide +kernel
theorem dX12_quitOf_16 : decode cX12_quitOf 16 = .ok (.istore 6, 2) := by decide +kernel
theorem dX12_quitOf_18 : decode cX12_quitOf 18 = .ok (.iload 6, 2) := by decide +kernel
theorem dX12_quitOf_20 : decode cX12_quitOf 20 = .ok (.aload_n 0, 1) := by decide +kernel
theorem dX12_quitOf_21 : decode cX12_quitOf 21 = .ok (.getfield 34, 3) := by decide +kernel
theorem dX12_quitOf_24 : decode cX12_quitOf 24 = .ok (.iconst 0, 1) := by decide +kernel
theorem dX12_quitOf_25 : decode cX12_quitOf 25 = .ok (.iaload, 1) := by decide +kernel
theorem dX12_quitOf_26 : decode cX12_quitOf 26 = .ok (.if_icmp .ge 69, 3) := by decide +kernel
theorem dX12_quitOf_29 : decode cX12_quitOf 29 = .ok (.aload_n 0, 1) := by decide +kernel
theorem dX12_quitOf_30 : decode cX12_quitOf 30 = .ok (.iload_n 1, 1) := by decide +kernel
theorem dX12_quitOf_31 : decode cX12_quitOf 31 = .ok (.iload 6, 2) := by decide +kernel
theorem dX12_quitOf_33 : decode cX12_quitOf 33 = .ok (.invokevirtual 330, 3) := by decide +kernel
theorem dX12_quitOf_36 : decode cX12_quitOf 36 = .ok (.iload 6, 2) := by decide +kernel
theorem dX12_quitOf_38 : decode cX12_quitOf 38 = .ok (.iload_n 3, 1) := by decide +kernel
theorem dX12_quitOf_39 : decode cX12_quitOf 39 = .ok (.if_icmp .lt 10, 3) := by decide +kernel
theorem dX12_quitOf_42 : decode cX12_quitOf 42 = .ok (.aload_n 0, 1) := by decide +kernel
theorem dX12_quitOf_43 : decode cX12_quitOf 43 = .ok (.getfield 56, 3) := by decide +kernel
theorem dX12_quitOf_46 : decode cX12_quitOf 46 = .ok (.iload_n 2, 1) := by decide +kernel
theorem dX12_quitOf_47 : decode cX12_quitOf 47 = .ok (.iconst 0, 1) := by decide +kernel
theorem dX12_quitOf_48 : decode cX12_quitOf 48 = .ok (.bastore, 1) := by decide +kernel
theorem dX12_quitOf_49 : decode cX12_quitOf 49 = .ok (.aload_n 0, 1) := by decide +kernel
theorem dX12_quitOf_50 : decode cX12_quitOf 50 = .ok (.iload 4, 2) := by decide +kernel
theorem dX12_quitOf_52 : decode cX12_quitOf 52 = .ok (.invokevirtual 333, 3) := by decide +kernel
theorem dX12_quitOf_55 : decode cX12_quitOf 55 = .ok (.istore 4, 2) := by decide +kernel
theorem dX12_quitOf_57 : decode cX12_quitOf 57 = .ok (.iload 5, 2) := by decide +kernel
theorem dX12_quitOf_59 : decode cX12_quitOf 59 = .ok (.aload_n 0, 1) := by decide +kernel
theorem dX12_quitOf_60 : decode cX12_quitOf 60 = .ok (.getfield 62, 3) := by decide +kernel
theorem dX12_quitOf_63 : decode cX12_quitOf 63 = .ok (.iconst 1, 1) := by decide +kernel
theorem dX12_quitOf_64 : decode cX12_quitOf 64 = .ok (.iload_n 2, 1) := by decide +kernel
theorem dX12_quitOf_65 : decode cX12_quitOf 65 = .ok (.isub, 1) := by decide +kernel
theorem dX12_quitOf_66 : decode cX12_quitOf 66 = .ok (.iaload, 1) := by decide +kernel
theorem dX12_quitOf_67 : decode cX12_quitOf 67 = .ok (.ifCond .le 18, 3) := by decide +kernel
theorem dX12_quitOf_70 : decode cX12_quitOf 70 = .ok (.aload_n 0, 1) := by decide +kernel
theorem dX12_quitOf_71 : decode cX12_quitOf 71 = .ok (.getfield 65, 3) := by decide +kernel
theorem dX12_quitOf_74 : decode cX12_quitOf 74 = .ok (.iconst 1, 1) := by decide +kernel
theorem dX12_quitOf_75 : decode cX12_quitOf 75 = .ok (.iload_n 2, 1) := by decide +kernel
theorem dX12_quitOf_76 : decode cX12_quitOf 76 = .ok (.isub, 1) := by decide +kernel
theorem dX12_quitOf_77 : decode cX12_quitOf 77 = .ok (.baload, 1) := by decide +kernel
theorem dX12_quitOf_78 : decode cX12_quitOf 78 = .ok (.ifCond .ne 7, 3) := by decide +kernel
theorem dX12_quitOf_81 : decode cX12_quitOf 81 = .ok (.iconst 1, 1) := by decide +kernel
theorem dX12_quitOf_82 : decode cX12_quitOf 82 = .ok (.goto 4, 3) := by decide +kernel
theorem dX12_quitOf_85 : decode cX12_quitOf 85 = .ok (.iconst 0, 1) := by decide +kernel
theorem dX12_quitOf_86 : decode cX12_quitOf 86 = .ok (.iadd, 1) := by decide +kernel
theorem dX12_quitOf_87 : decode cX12_quitOf 87 = .ok (.istore 5, 2) := by decide +kernel
theorem dX12_quitOf_89 : decode cX12_quitOf 89 = .ok (.iinc 6 1, 3) := by decide +kernel
theorem dX12_quitOf_92 : decode cX12_quitOf 92 = .ok (.goto (-74), 3) := by decide +kernel
theorem dX12_quitOf_95 : decode cX12_quitOf 95 = .ok (.iload 5, 2) := by decide +kernel
theorem dX12_quitOf_97 : decode cX12_quitOf 97 = .ok (.ireturn, 1) := by decide +kernel
theorem dX12_quit_0 : decode cX12_quit 0 = .ok (.aload_n 0, 1) := by decide +kernel
theorem dX12_quit_1 : decode cX12_quit 1 = .ok (.iconst 0, 1) := by decide +kernel
theorem dX12_quit_2 : decode cX12_quit 2 = .ok (.putfield 107, 3) := by decide +kernel
theorem dX12_quit_5 : decode cX12_quit 5 = .ok (.aload_n 0, 1) := by decide +kernel
theorem dX12_quit_6 : decode cX12_quit 6 = .ok (.iload_n 1, 1) := by decide +kernel
theorem dX12_quit_7 : decode cX12_quit 7 = .ok (.invokevirtual 281, 3) := by decide +kernel
theorem dX12_quit_10 : decode cX12_quit 10 = .ok (.ifCond .eq 29, 3) := by decide +kernel
theorem dX12_quit_13 : decode cX12_quit 13 = .ok (.iload_n 2, 1) := by decide +kernel
theorem dX12_quit_14 : decode cX12_quit 14 = .ok (.invokestatic 340, 3) := by decide +kernel
theorem dX12_quit_17 : decode cX12_quit 17 = .ok (.ifCond .eq 22, 3) := by decide +kernel
theorem dX12_quit_20 : decode cX12_quit 20 = .ok (.aload_n 0, 1) := by decide +kernel
theorem dX12_quit_21 : decode cX12_quit 21 = .ok (.iload_n 3, 1) := by decide +kernel
theorem dX12_quit_22 : decode cX12_quit 22 = .ok (.i2l, 1) := by decide +kernel
theorem dX12_quit_23 : decode cX12_quit 23 = .ok (.invokevirtual 343, 3) := by decide +kernel
theorem dX12_quit_26 : decode cX12_quit 26 = .ok (.ifCond .eq 13, 3) := by decide +kernel
theorem dX12_quit_29 : decode cX12_quit 29 = .ok (.aload_n 0, 1) := by decide +kernel
theorem dX12_quit_30 : decode cX12_quit 30 = .ok (.iload_n 1, 1) := by decide +kernel
theorem dX12_quit_31 : decode cX12_quit 31 = .ok (.iload_n 2, 1) := by decide +kernel
theorem dX12_quit_32 : decode cX12_quit 32 = .ok (.iload_n 3, 1) := by decide +kernel
theorem dX12_quit_33 : decode cX12_quit 33 = .ok (.invokevirtual 494, 3) := by decide +kernel
theorem dX12_quit_36 : decode cX12_quit 36 = .ok (.goto 5, 3) := by decide +kernel
theorem dX12_quit_39 : decode cX12_quit 39 = .ok (.bipush (-2), 2) := by decide +kernel
theorem dX12_quit_41 : decode cX12_quit 41 = .ok (.ireturn, 1) := by decide +kernel
theorem dX12_when_0 : decode cX12_when 0 = .ok (.aload_n 0, 1) := by decide +kernel
theorem dX12_when_1 : decode cX12_when 1 = .ok (.iconst 0, 1) := by decide +kernel
theorem dX12_when_2 : decode cX12_when 2 = .ok (.putfield 107, 3) := by decide +kernel
theorem dX12_when_5 : decode cX12_when 5 = .ok (.aload_n 0, 1) := by decide +kernel
theorem dX12_when_6 : decode cX12_when 6 = .ok (.iload_n 1, 1) := by decide +kernel
theorem dX12_when_7 : decode cX12_when 7 = .ok (.invokevirtual 281, 3) := by decide +kernel
theorem dX12_when_10 : decode cX12_when 10 = .ok (.ifCond .eq 10, 3) := by decide +kernel
theorem dX12_when_13 : decode cX12_when 13 = .ok (.iload_n 2, 1) := by decide +kernel
theorem dX12_when_14 : decode cX12_when 14 = .ok (.invokestatic 340, 3) := by decide +kernel
theorem dX12_when_17 : decode cX12_when 17 = .ok (.ifCond .ne 6, 3) := by decide +kernel
theorem dX12_when_20 : decode cX12_when 20 = .ok (.bipush (-2), 2) := by decide +kernel
theorem dX12_when_22 : decode cX12_when 22 = .ok (.ireturn, 1) := by decide +kernel
theorem dX12_when_23 : decode cX12_when 23 = .ok (.iconst 0, 1) := by decide +kernel
theorem dX12_when_24 : decode cX12_when 24 = .ok (.istore_n 3, 1) := by decide +kernel
theorem dX12_when_25 : decode cX12_when 25 = .ok (.iconst 1, 1) := by decide +kernel
theorem dX12_when_26 : decode cX12_when 26 = .ok (.istore 4, 2) := by decide +kernel
theorem dX12_when_28 : decode cX12_when 28 = .ok (.iload 4, 2) := by decide +kernel
theorem dX12_when_30 : decode cX12_when 30 = .ok (.aload_n 0, 1) := by decide +kernel
theorem dX12_when_31 : decode cX12_when 31 = .ok (.getfield 34, 3) := by decide +kernel
theorem dX12_when_34 : decode cX12_when 34 = .ok (.iconst 0, 1) := by decide +kernel
theorem dX12_when_35 : decode cX12_when 35 = .ok (.iaload, 1) := by decide +kernel
theorem dX12_when_36 : decode cX12_when 36 = .ok (.if_icmp .ge 30, 3) := by decide +kernel
theorem dX12_when_39 : decode cX12_when 39 = .ok (.aload_n 0, 1) := by decide +kernel
theorem dX12_when_40 : decode cX12_when 40 = .ok (.iload_n 1, 1) := by decide +kernel
theorem dX12_when_41 : decode cX12_when 41 = .ok (.iload_n 2, 1) := by decide +kernel
theorem dX12_when_42 : decode cX12_when 42 = .ok (.iload 4, 2) := by decide +kernel
theorem dX12_when_44 : decode cX12_when 44 = .ok (.invokevirtual 494, 3) := by decide +kernel
theorem dX12_when_47 : decode cX12_when 47 = .ok (.aload_n 0, 1) := by decide +kernel
theorem dX12_when_48 : decode cX12_when 48 = .ok (.iload_n 1, 1) := by decide +kernel
theorem dX12_when_49 : decode cX12_when 49 = .ok (.iload_n 2, 1) := by decide +kernel
theorem dX12_when_50 : decode cX12_when 50 = .ok (.iload_n 3, 1) := by decide +kernel
theorem dX12_when_51 : decode cX12_when 51 = .ok (.invokevirtual 494, 3) := by decide +kernel
theorem dX12_when_54 : decode cX12_when 54 = .ok (.if_icmp .ge 6, 3) := by decide +kernel
theorem dX12_when_57 : decode cX12_when 57 = .ok (.iload 4, 2) := by decide +kernel
theorem dX12_when_59 : decode cX12_when 59 = .ok (.istore_n 3, 1) := by decide +kernel
theorem dX12_when_60 : decode cX12_when 60 = .ok (.iinc 4 1, 3) := by decide +kernel
theorem dX12_when_63 : decode cX12_when 63 = .ok (.goto (-35), 3) := by decide +kernel
theorem dX12_when_66 : decode cX12_when 66 = .ok (.iload_n 3, 1) := by decide +kernel
theorem dX12_when_67 : decode cX12_when 67 = .ok (.ireturn, 1) := by decide +kernel
